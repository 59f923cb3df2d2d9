/-! the hours of the class alone -/
/-- n holds s now -/
def cur (W : rb_I) (cn : Nat → Nat) (n s : Nat) : Prop := s < cn 1 ∧ ¬ W (9, s, 0) 4 = -1 ∧ (W (9, s, 0) 4).toNatClampNeg = n
theorem put_c {C : rb_I} {cn : Nat → Nat} (c0 : xCI C cn) {j : Nat} (hj : j < cn 1) (n : Nat) (x : Int32) : x2_put C n (C (9, j, 0) 0) x = up2 C (7, n, 0) j x := by
  have e9 : C (9, j, 0) 0 = nI j := c0.2.2.2.2.2.2.1 _ hj
  have h10 : j < 10 := Nat.lt_of_lt_of_le hj c0.2.2.2.2.2.2.2.2.2.1
  unfold x2_put
  rw [e9, if_neg (isLine_ne (vp_in_nI h10 (by decide))), nI_clamp (by omega)]
theorem mc_at {W : rb_I} {cn : Nat → Nat} (c0 : xCI W cn) {j : Nat} (hj : j < cn 1) (hA : ¬ W (9, j, 0) 4 = -1) (wh : Int32) :
    (∀ n q, q ≠ j → x7_makeContact W j wh (7, n, 0) q = W (7, n, 0) q) ∧ (x7_makeContact W j wh (7, (W (9, j, 0) 4).toNatClampNeg, 0) j = wh) ∧ (∀ n, n ≠ (W (9, j, 0) 4).toNatClampNeg → x7_makeContact W j wh (7, n, 0) j = W (7, n, 0) j ∨ x7_makeContact W j wh (7, n, 0) j = -1) ∧
    (∀ n, x7_makeContact W j wh (5, n, 0) 6 = if n = (W (9, j, 0) 4).toNatClampNeg ∧ ¬ W (5, n, 0) 6 ≤ 0 then W (5, n, 0) 6 - 1 else W (5, n, 0) 6) ∧ (∀ s, s ≠ j → x7_makeContact W j wh (9, s, 0) 5 = W (9, s, 0) 5) ∧ (W (5, (W (9, j, 0) 4).toNatClampNeg, 0) 6 ≤ 0 → x7_makeContact W j wh (9, j, 0) 5 = W (9, j, 0) 4) ∧
    (W (5, (W (9, j, 0) 4).toNatClampNeg, 0) 6 ≤ 0 → W (9, j, 0) 5 = W (9, j, 0) 4 → x7_makeContact W j wh = up2 W (7, (W (9, j, 0) 4).toNatClampNeg, 0) j wh) := by
  have hA6 := (c0.2.2.2.1 j).resolve_left hA
  unfold x7_makeContact
  rw [put_c c0 hj]
  by_cases e1 : W (5, (W (9, j, 0) 4).toNatClampNeg, 0) 6 ≤ 0
  · rw [if_pos e1]
    have two : ∀ b, b = W (9, j, 0) 4 → (∀ n q, q ≠ j → up2 (up2 W (7, (W (9, j, 0) 4).toNatClampNeg, 0) j wh) (9, j, 0) 5 b (7, n, 0) q = W (7, n, 0) q) ∧ (up2 (up2 W (7, (W (9, j, 0) 4).toNatClampNeg, 0) j wh) (9, j, 0) 5 b (7, (W (9, j, 0) 4).toNatClampNeg, 0) j = wh) ∧ (∀ n, n ≠ (W (9, j, 0) 4).toNatClampNeg → up2 (up2 W (7, (W (9, j, 0) 4).toNatClampNeg, 0) j wh) (9, j, 0) 5 b (7, n, 0) j = W (7, n, 0) j ∨ up2 (up2 W (7, (W (9, j, 0) 4).toNatClampNeg, 0) j wh) (9, j, 0) 5 b (7, n, 0) j = -1) ∧
        (∀ n, up2 (up2 W (7, (W (9, j, 0) 4).toNatClampNeg, 0) j wh) (9, j, 0) 5 b (5, n, 0) 6 = if n = (W (9, j, 0) 4).toNatClampNeg ∧ ¬ W (5, n, 0) 6 ≤ 0 then W (5, n, 0) 6 - 1 else W (5, n, 0) 6) ∧ (∀ s, s ≠ j → up2 (up2 W (7, (W (9, j, 0) 4).toNatClampNeg, 0) j wh) (9, j, 0) 5 b (9, s, 0) 5 = W (9, s, 0) 5) ∧ (up2 (up2 W (7, (W (9, j, 0) 4).toNatClampNeg, 0) j wh) (9, j, 0) 5 b (9, j, 0) 5 = W (9, j, 0) 4) ∧ (W (9, j, 0) 5 = W (9, j, 0) 4 → up2 (up2 W (7, (W (9, j, 0) 4).toNatClampNeg, 0) j wh) (9, j, 0) 5 b = up2 W (7, (W (9, j, 0) 4).toNatClampNeg, 0) j wh) := by
      intro b hb
      subst hb
      refine ⟨fun n q hq => by simp [up2, hq], by simp [up2], fun n hn => Or.inl (by simp [up2, hn]), fun n => ?_, fun s hs => by simp [up2, hs], up2_s _ _ _ _, fun q => ?_⟩
      · rw [up2_n _ _ _ _ (by simp), up2_n _ _ _ _ (by simp), if_neg (fun z => z.2 (by rw [z.1]; exact e1))]
      · have e5 : W (9, j, 0) 4 = up2 W (7, (W (9, j, 0) 4).toNatClampNeg, 0) j wh (9, j, 0) 5 := by rw [up2_n _ _ _ _ (by simp)]; exact q.symm
        have idn : ∀ (Z : rb_I) (v : Int32), v = Z (9, j, 0) 5 → up2 Z (9, j, 0) 5 v = Z := fun Z v hz => by rw [hz]; exact up2_id
        exact idn _ _ e5
    by_cases e2 : W (9, j, 0) 5 = -1
    · rw [if_pos e2]
      obtain ⟨t1, t2, t3, t4, t5, t6, t7⟩ := two _ rfl
      exact ⟨t1, t2, t3, t4, t5, fun _ => t6, fun _ q => t7 q⟩
    rw [if_neg e2]
    by_cases e3 : W (9, j, 0) 5 = W (9, j, 0) 4
    · rw [if_pos e3]
      obtain ⟨t1, t2, t3, t4, t5, t6, t7⟩ := two _ rfl
      exact ⟨t1, t2, t3, t4, t5, fun _ => t6, fun _ q => t7 q⟩
    rw [if_neg e3]
    have hN6 := (c0.2.2.2.2.1 j).resolve_left e2
    have hne : ¬ (W (9, j, 0) 4).toNatClampNeg = (W (9, j, 0) 5).toNatClampNeg := fun q => e3 ((nI_tn hN6 hA6).mpr q.symm)
    have eP : x2_takeOut (up2 W (7, (W (9, j, 0) 4).toNatClampNeg, 0) j wh) (W (9, j, 0) 5).toNatClampNeg (W (9, j, 0) 0) = up2 (up2 W (7, (W (9, j, 0) 4).toNatClampNeg, 0) j wh) (7, (W (9, j, 0) 5).toNatClampNeg, 0) j (-1) := by
      have c1 : xCI (up2 W (7, (W (9, j, 0) 4).toNatClampNeg, 0) j wh) cn := xCI_c c0 (fun b => by simp [up2]) (fun b q _ => by simp [up2]) (fun b q _ => by simp [up2])
      have := put_c c1 hj (W (9, j, 0) 5).toNatClampNeg (-1)
      rw [up2_n _ _ _ _ (by simp)] at this
      exact this
    rw [eP]
    refine ⟨fun n q hq => by simp [up2, hq], by simp [up2, hne], fun n hn => ?_, fun n => ?_, fun s hs => by simp [up2, hs], fun _ => up2_s _ _ _ _, fun _ q => absurd q e3⟩
    · by_cases e4 : n = (W (9, j, 0) 5).toNatClampNeg
      · exact Or.inr (by simp [up2, e4])
      · exact Or.inl (by simp [up2, hn, e4])
    · rw [up2_n _ _ _ _ (by simp), up2_n _ _ _ _ (by simp), up2_n _ _ _ _ (by simp), if_neg (fun z => z.2 (by rw [z.1]; exact e1))]
  · rw [if_neg e1]
    refine ⟨fun n q hq => by simp [up2, hq], by simp [up2], fun n hn => Or.inl (by simp [up2, hn]), fun n => ?_, fun s hs => by simp [up2], fun q => absurd q e1, fun q => absurd q e1⟩
    by_cases e4 : n = (W (9, j, 0) 4).toNatClampNeg
    · subst e4; rw [up2_s, if_pos ⟨rfl, e1⟩]
    · rw [if_neg (fun z => e4 z.1)]; simp [up2, e4]
theorem cur_c {W W' : rb_I} {cn : Nat → Nat} (h : ∀ s, W' (9, s, 0) 4 = W (9, s, 0) 4) (n s : Nat) : cur W' cn n s = cur W cn n s := by
  unfold cur
  rw [h]
/-- what the subscribers' loop does -/
theorem bb_at {W : rb_I} {cn : Nat → Nat} (c0 : xCI W cn) (wh : Int32) (m : Nat) (hm : m ≤ cn 1) : xCI (fo (x7_bh_b wh) m W) cn ∧ (∀ s q, q ≠ 5 → fo (x7_bh_b wh) m W (9, s, 0) q = W (9, s, 0) q) ∧ (∀ n q, m ≤ q → fo (x7_bh_b wh) m W (7, n, 0) q = W (7, n, 0) q) ∧ (∀ n s, s < m → cur W cn n s → fo (x7_bh_b wh) m W (7, n, 0) s = wh) ∧
    (∀ n s, ¬ cur W cn n s → fo (x7_bh_b wh) m W (7, n, 0) s = W (7, n, 0) s ∨ fo (x7_bh_b wh) m W (7, n, 0) s = -1) ∧ (∀ n, vp_in (W (5, n, 0) 6) 10 → vp_in (fo (x7_bh_b wh) m W (5, n, 0) 6) 10 ∧ (fo (x7_bh_b wh) m W (5, n, 0) 6).toNatClampNeg ≤ (W (5, n, 0) 6).toNatClampNeg ∧ ∀ s, s < m → cur W cn n s → (fo (x7_bh_b wh) m W (5, n, 0) 6).toNatClampNeg ≤ (W (5, n, 0) 6).toNatClampNeg - 1) ∧
    (∀ n s, s < m → cur W cn n s → vp_in (W (5, n, 0) 6) 10 → (W (5, n, 0) 6).toNatClampNeg = 0 → fo (x7_bh_b wh) m W (9, s, 0) 5 = W (9, s, 0) 4) := by
  induction m with
  | zero =>
    rw [fo_0]
    exact ⟨c0, fun _ _ _ => rfl, fun _ _ _ => rfl, fun n s h => absurd h (Nat.not_lt_zero _), fun _ _ _ => Or.inl rfl, fun n hv => ⟨hv, Nat.le_refl _, fun s h => absurd h (Nat.not_lt_zero _)⟩, fun n s h => absurd h (Nat.not_lt_zero _)⟩
  | succ m ih =>
    obtain ⟨i0, i9, i7, i7b, i7c, i5, in5⟩ := ih (by omega)
    rw [fo_s]
    generalize fo (x7_bh_b wh) m W = S at *
    have e4 : S (9, m, 0) 4 = W (9, m, 0) 4 := i9 _ _ (by decide)
    unfold x7_bh_b
    rw [e4]
    by_cases e : W (9, m, 0) 4 = -1
    · rw [if_pos e]
      have nc : ∀ n s, s < m + 1 → cur W cn n s → s < m := fun n s h1 h2 => by
        by_cases es : s = m
        · subst es; exact absurd e h2.2.1
        · omega
      exact ⟨i0, i9, fun n q hq => i7 n q (by omega), fun n s h1 h2 => i7b n s (nc n s h1 h2) h2, i7c, fun n hv => ⟨(i5 n hv).1, (i5 n hv).2.1, fun s h1 h2 => (i5 n hv).2.2 s (nc n s h1 h2) h2⟩, fun n s h1 h2 => in5 n s (nc n s h1 h2) h2⟩
    rw [if_neg e]
    have hm1 : m < cn 1 := hm
    obtain ⟨t1, t2, t3, t4, t5, t6, t7⟩ := mc_at i0 hm1 (by rw [e4]; exact e) wh
    rw [e4] at t2 t3 t4 t6 t7
    have cm : ∀ n, cur W cn n m ↔ n = (W (9, m, 0) 4).toNatClampNeg := fun n => ⟨fun z => z.2.2.symm, fun z => ⟨hm1, e, z.symm⟩⟩
    refine ⟨ci_mc i0, fun s q hq => (x7_mc_9 hq).trans (i9 s q hq), fun n q hq => (t1 n q (by omega)).trans (i7 n q (by omega)), fun n s h1 h2 => ?_, fun n s h2 => ?_, fun n hv => ?_, fun n s h1 h2 hv hz => ?_⟩
    · by_cases es : s = m
      · subst es
        rw [(cm n).mp h2]; exact t2
      · rw [t1 n s es]; exact i7b n s (by omega) h2
    · by_cases es : s = m
      · subst es
        rcases t3 n (fun z => h2 ((cm n).mpr z)) with q | q
        · rw [q]; exact i7c n s h2
        · exact Or.inr q
      · rw [t1 n s es]; exact i7c n s h2
    · obtain ⟨v1, v2, v3⟩ := i5 n hv
      rw [t4]
      by_cases c : n = (W (9, m, 0) 4).toNatClampNeg ∧ ¬ S (5, n, 0) 6 ≤ 0
      · rw [if_pos c]
        have d := los_dec v1 c.2
        have v1e := vp_in_e v1
        have hd : (S (5, n, 0) 6 - 1).toNatClampNeg = (S (5, n, 0) 6).toNatClampNeg - 1 ∧ 0 < (S (5, n, 0) 6).toNatClampNeg := by
          have l := vp_in_lt v1
          have c2 := c.2
          cases hx : (S (5, n, 0) 6).toNatClampNeg with
          | zero => rw [hx] at v1e; exact absurd (by rw [v1e]; decide) c2
          | succ k => rw [hx] at v1e l; rw [v1e, nI_pred, nI_clamp (by omega)]; exact ⟨rfl, Nat.succ_pos _⟩
        exact ⟨d, by omega, fun s _ _ => by omega⟩
      · rw [if_neg c]
        refine ⟨v1, v2, fun s h1 h2 => ?_⟩
        by_cases es : s = m
        · subst es
          have hz : S (5, n, 0) 6 ≤ 0 := Classical.not_not.mp (fun z => c ⟨(cm n).mp h2, z⟩)
          have v1e := vp_in_e v1
          have l := vp_in_lt v1
          rw [v1e] at hz
          have : (S (5, n, 0) 6).toNatClampNeg = 0 := by
            rcases Nat.eq_zero_or_pos (S (5, n, 0) 6).toNatClampNeg with z | z
            · exact z
            · exact absurd hz (nI_nle z (by omega))
          omega
        · exact v3 s (by omega) h2
    · by_cases es : s = m
      · subst es
        obtain ⟨v1, v2, -⟩ := i5 n hv
        rw [(cm n).mp h2] at v1 v2 hz
        refine t6 ?_
        have v1e := vp_in_e v1
        rw [show (S (5, (W (9, s, 0) 4).toNatClampNeg, 0) 6).toNatClampNeg = 0 by omega] at v1e
        rw [v1e]; decide
      · rw [t5 s es]; exact in5 n s (by omega) h2 hv hz
theorem hr_at {W : rb_I} {cn : Nat → Nat} (c0 : xCI W cn) (wh : Int32) : (∀ s, x7_beginHour W cn wh (9, s, 0) 4 = W (9, s, 0) 4) ∧ (∀ n s, n < 6 → s < 10 → ¬ cur W cn n s → x7_beginHour W cn wh (7, n, 0) s = -1 ∨ (x7_beginHour W cn wh (7, n, 0) s = W (7, n, 0) s ∧ wh - 180 < W (7, n, 0) s)) ∧
    (∀ n, vp_in (W (5, n, 0) 6) 10 → vp_in (x7_beginHour W cn wh (5, n, 0) 6) 10 ∧ (x7_beginHour W cn wh (5, n, 0) 6).toNatClampNeg ≤ (W (5, n, 0) 6).toNatClampNeg ∧ ∀ s, cur W cn n s → (x7_beginHour W cn wh (5, n, 0) 6).toNatClampNeg ≤ (W (5, n, 0) 6).toNatClampNeg - 1) ∧ (∀ n s, cur W cn n s → vp_in (W (5, n, 0) 6) 10 → (W (5, n, 0) 6).toNatClampNeg = 0 → x7_beginHour W cn wh (9, s, 0) 5 = W (9, s, 0) 4) := by
  obtain ⟨i0, i9, i7, i7b, i7c, i5, in5⟩ := bb_at c0 wh (cn 1) (Nat.le_refl _)
  unfold x7_beginHour
  generalize fo (x7_bh_b wh) (cn 1) W = S at *
  obtain ⟨c1, c2, c3, c4⟩ := tk6_at S wh 6
  refine ⟨fun s => (c3 _ _ (by simp)).trans (i9 s 4 (by decide)), fun n s hn hs hc => ?_, fun n hv => ?_, fun n s hc hv hz => (c3 _ _ (by simp)).trans (in5 n s hc.1 hc hv hz)⟩
  · rw [c1 n s hn hs]
    by_cases z : wh - 180 < S (7, n, 0) s
    · rw [if_pos z]
      rcases i7c n s hc with q | q
      · rw [q] at z ⊢; exact Or.inr ⟨rfl, z⟩
      · exact Or.inl q
    · rw [if_neg z]; exact Or.inl rfl
  · rw [c3 _ _ (by simp)]
    obtain ⟨v1, v2, v3⟩ := i5 n hv
    exact ⟨v1, v2, fun s hc => v3 s hc.1 hc⟩
/-- nothing more changes but the current contacts -/
def setl (W : rb_I) (cn : Nat → Nat) : Prop := (∀ n s, cur W cn n s → W (5, n, 0) 6 ≤ 0 ∧ W (9, s, 0) 5 = W (9, s, 0) 4) ∧ ∀ n s, n < 6 → s < 10 → ¬ cur W cn n s → W (7, n, 0) s = -1
noncomputable def stmp (W : rb_I) (cn : Nat → Nat) (m : Nat) (wh : Int32) : rb_I := fun r q => @ite _ (r.1 = 7 ∧ r.2.2 = 0 ∧ q < m ∧ cur W cn r.2.1 q) (Classical.propDecidable _) wh (W r q)
theorem stmp_y {W : rb_I} {cn : Nat → Nat} {m : Nat} {wh : Int32} {n q : Nat} (h : q < m) (hc : cur W cn n q) : stmp W cn m wh (7, n, 0) q = wh := if_pos ⟨rfl, rfl, h, hc⟩
theorem stmp_n {W : rb_I} {cn : Nat → Nat} {m : Nat} {wh : Int32} {r : rb_R} {q : Nat} (h : ¬ (r.1 = 7 ∧ r.2.2 = 0 ∧ q < m ∧ cur W cn r.2.1 q)) : stmp W cn m wh r q = W r q := if_neg h
theorem stmp_b {W : rb_I} {cn : Nat → Nat} (c0 : xCI W cn) (hs : setl W cn) (wh : Int32) (m : Nat) (hm : m ≤ cn 1) : fo (x7_bh_b wh) m W = stmp W cn m wh := by
  induction m with
  | zero => rw [fo_0]; funext r q; rw [stmp_n (fun z => absurd z.2.2.1 (Nat.not_lt_zero _))]
  | succ m ih =>
    have b := bb_at c0 wh m (by omega)
    rw [fo_s]
    rw [ih (by omega)] at b ⊢
    have hm1 : m < cn 1 := hm
    have e4 : stmp W cn m wh (9, m, 0) 4 = W (9, m, 0) 4 := stmp_n (by simp)
    unfold x7_bh_b
    rw [e4]
    by_cases e : W (9, m, 0) 4 = -1
    · rw [if_pos e]
      funext r q
      by_cases z : r.1 = 7 ∧ r.2.2 = 0 ∧ q < m + 1 ∧ cur W cn r.2.1 q
      · have hq : q < m := by
          by_cases eq : q = m
          · subst eq; exact absurd e z.2.2.2.2.1
          · have := z.2.2.1; omega
        have e1 : r = (7, r.2.1, 0) := by rw [← z.1, ← z.2.1]
        rw [e1, stmp_y hq z.2.2.2, stmp_y z.2.2.1 z.2.2.2]
      · rw [stmp_n z, stmp_n (fun y => z ⟨y.1, y.2.1, by have := y.2.2.1; omega, y.2.2.2⟩)]
    rw [if_neg e]
    have hc : cur W cn (W (9, m, 0) 4).toNatClampNeg m := ⟨hm1, e, rfl⟩
    obtain ⟨t1, t2, t3, t4, t5, t6, t7⟩ := mc_at b.1 hm1 (by rw [e4]; exact e) wh
    rw [e4] at t7
    rw [t7 (by rw [stmp_n (by simp)]; exact (hs.1 _ _ hc).1) (by rw [stmp_n (by simp)]; exact (hs.1 _ _ hc).2)]
    funext r q
    by_cases z : r.1 = 7 ∧ r.2.2 = 0 ∧ q < m + 1 ∧ cur W cn r.2.1 q
    · have e1 : r = (7, r.2.1, 0) := by rw [← z.1, ← z.2.1]
      rw [e1, stmp_y z.2.2.1 z.2.2.2]
      by_cases eq : q = m
      · subst eq
        rw [show r.2.1 = (W (9, q, 0) 4).toNatClampNeg from z.2.2.2.2.2.symm, up2_s]
      · rw [up2_n _ _ _ _ (fun y => eq y.2), stmp_y (by have := z.2.2.1; omega) z.2.2.2]
    · rw [stmp_n z, up2_n _ _ _ _ (fun y => z (by rw [y.1, y.2]; exact ⟨rfl, rfl, Nat.lt_succ_self _, hc⟩)), stmp_n (fun y => z ⟨y.1, y.2.1, by have := y.2.2.1; omega, y.2.2.2⟩)]
theorem stmp_h {W : rb_I} {cn : Nat → Nat} (c0 : xCI W cn) (hs : setl W cn) {T : Nat} (hT : T < 1000000) : x7_beginHour W cn (nI T) = stmp W cn (cn 1) (nI T) := by
  have h10 := c0.2.2.2.2.2.2.2.2.2.1
  unfold x7_beginHour
  rw [stmp_b c0 hs _ _ (Nat.le_refl _)]
  obtain ⟨c1, c2, c3, c4⟩ := tk6_at (stmp W cn (cn 1) (nI T)) (nI T) 6
  funext r q
  by_cases z : r.1 = 7 ∧ r.2.2 = 0
  · have e1 : r = (7, r.2.1, 0) := by rw [← z.1, ← z.2]
    rw [e1]
    by_cases hn : r.2.1 < 6
    · by_cases hq : q < 10
      · rw [c1 _ _ hn hq]
        by_cases hc : cur W cn r.2.1 q
        · rw [stmp_y hc.1 hc, if_pos]
          rw [Int32.lt_iff_toInt_lt, show (180 : Int32) = nI 180 from rfl, pk_sub_toInt (by omega) (by decide), nI_toInt (by omega)]
          omega
        · rw [stmp_n (r := (7, r.2.1, 0)) (fun y => hc y.2.2.2), hs.2 _ _ hn hq hc, ite_self]
      · exact c4 _ _ (by omega)
    · exact c2 _ _ (by omega)
  · exact c3 r q z
theorem stmp_4 {W : rb_I} {cn : Nat → Nat} {m : Nat} {wh : Int32} (s : Nat) : stmp W cn m wh (9, s, 0) 4 = W (9, s, 0) 4 := stmp_n (by simp)
theorem stmp_s {W : rb_I} {cn : Nat → Nat} {wh : Int32} (hs : setl W cn) : setl (stmp W cn (cn 1) wh) cn := by
  refine ⟨fun n s hc => ?_, fun n s hn hs9 hc => ?_⟩
  · rw [cur_c (fun s => stmp_4 s)] at hc
    rw [stmp_n (by simp), stmp_n (by simp), stmp_n (by simp)]
    exact hs.1 n s hc
  · rw [cur_c (fun s => stmp_4 s)] at hc
    rw [stmp_n (fun y => hc y.2.2.2)]
    exact hs.2 n s hn hs9 hc
theorem stmp_2 {W : rb_I} {cn : Nat → Nat} {wh wh' : Int32} : stmp (stmp W cn (cn 1) wh) cn (cn 1) wh' = stmp W cn (cn 1) wh' := by
  funext r q
  by_cases z : r.1 = 7 ∧ r.2.2 = 0 ∧ q < cn 1 ∧ cur W cn r.2.1 q
  · have e1 : r = (7, r.2.1, 0) := by rw [← z.1, ← z.2.1]
    rw [e1, stmp_y z.2.2.1 (by rw [cur_c (fun s => stmp_4 s)]; exact z.2.2.2), stmp_y z.2.2.1 z.2.2.2]
  · rw [stmp_n z, stmp_n (fun y => z (by rw [cur_c (fun s => stmp_4 s)] at y; exact y)), stmp_n z]
/-- after ten hours all is settled -/
theorem hr_setl {C : rb_I} {cn : Nat → Nat} (c0 : xCI C cn) {t a : Nat} (ht : t < 1000000) (ha : a = t / 60 + 1) (hl : ∀ n, n < 6 → vp_in (C (5, n, 0) 6) 10) (hb : ∀ n s, n < 6 → s < 10 → C (7, n, 0) s = -1 ∨ ∃ e : Nat, e ≤ t ∧ C (7, n, 0) s = nI e) (i : Nat) (hi : 10 ≤ i) : xCI (fo (x7_hr_b cn a) i C) cn ∧ setl (fo (x7_hr_b cn a) i C) cn := by
  have h10 := c0.2.2.2.2.2.2.2.2.2.1
  have n6 : ∀ n s, cur C cn n s → n < 6 := fun n s h => by
    have := vp_in_lt ((c0.2.2.2.1 s).resolve_left h.2.1)
    rw [h.2.2] at this
    exact this
  have key : ∀ i, xCI (fo (x7_hr_b cn a) i C) cn ∧ (∀ s, fo (x7_hr_b cn a) i C (9, s, 0) 4 = C (9, s, 0) 4) ∧ (∀ n s, cur C cn n s → vp_in (fo (x7_hr_b cn a) i C (5, n, 0) 6) 10 ∧ (fo (x7_hr_b cn a) i C (5, n, 0) 6).toNatClampNeg ≤ 9 - i) ∧ (10 ≤ i → ∀ n s, cur C cn n s → fo (x7_hr_b cn a) i C (9, s, 0) 5 = C (9, s, 0) 4) ∧
      (∀ n s, n < 6 → s < 10 → ¬ cur C cn n s → fo (x7_hr_b cn a) i C (7, n, 0) s = -1 ∨ ∃ e : Nat, e ≤ t ∧ fo (x7_hr_b cn a) i C (7, n, 0) s = nI e ∧ (0 < i → i < 6 → (a + i - 1) * 60 < e + 180) ∧ i < 5) := by
    intro i
    induction i with
    | zero =>
      rw [fo_0]
      refine ⟨c0, fun _ => rfl, fun n s h => ⟨hl n (n6 n s h), ?_⟩, fun q => absurd q (by decide), fun n s hn hs _ => (hb n s hn hs).imp id (fun ⟨e, h1, h2⟩ => ⟨e, h1, h2, fun q => absurd q (Nat.lt_irrefl _), by decide⟩)⟩
      have := vp_in_lt (hl n (n6 n s h))
      omega
    | succ i ih =>
      obtain ⟨j0, j4, j5, j9, j7⟩ := ih
      rw [fo_s]
      generalize fo (x7_hr_b cn a) i C = W at *
      unfold x7_hr_b
      obtain ⟨g4, g7, g5, g9⟩ := hr_at j0 (nI ((a + i) * 60))
      have cc : ∀ n s, cur W cn n s = cur C cn n s := cur_c j4
      refine ⟨ci_bh j0, fun s => (g4 s).trans (j4 s), fun n s h => ?_, fun q n s h => ?_, fun n s hn hs h => ?_⟩
      · obtain ⟨v1, v2⟩ := j5 n s h
        obtain ⟨w1, w2, w3⟩ := g5 n v1
        have := w3 s (by rw [cc]; exact h)
        exact ⟨w1, by omega⟩
      · obtain ⟨v1, v2⟩ := j5 n s h
        rw [g9 n s (by rw [cc]; exact h) v1 (by omega)]
        exact j4 s
      · rcases g7 n s hn hs (by rw [cc]; exact h) with q | ⟨q1, q2⟩
        · exact Or.inl q
        · rcases j7 n s hn hs h with y | ⟨e, y1, y2, y3, y4⟩
          · rw [q1]; exact Or.inl y
          · rw [y2] at q2
            have hb9 : (a + i) * 60 < e + 180 := by
              rw [Int32.lt_iff_toInt_lt, show (180 : Int32) = nI 180 from rfl, pk_sub_toInt (by omega) (by decide), nI_toInt (by omega)] at q2
              omega
            exact Or.inr ⟨e, y1, q1.trans y2, fun _ _ => by rw [show a + (i + 1) - 1 = a + i by omega]; exact hb9, by omega⟩
  obtain ⟨k0, k4, k5, k9, k7⟩ := key i
  have cc := cur_c (cn := cn) k4
  refine ⟨k0, fun n s h => ?_, fun n s hn hs h => ?_⟩
  · rw [cc] at h
    obtain ⟨v1, v2⟩ := k5 n s h
    refine ⟨?_, (k9 hi n s h).trans (k4 s).symm⟩
    have v1e := vp_in_e v1
    rw [show (fo (x7_hr_b cn a) i C (5, n, 0) 6).toNatClampNeg = 0 by omega] at v1e
    rw [v1e]; decide
  · rw [cc] at h
    rcases k7 n s hn hs h with q | ⟨e, -, -, -, q⟩
    · exact q
    · omega
theorem hours_eq {C : rb_I} {cn : Nat → Nat} (c0 : xCI C cn) {t a b : Nat} (ht : t < 1000000) (ha : a = t / 60 + 1) (hb60 : b * 60 < 1000000) (hl : ∀ n, n < 6 → vp_in (C (5, n, 0) 6) 10) (hb : ∀ n s, n < 6 → s < 10 → C (7, n, 0) s = -1 ∨ ∃ e : Nat, e ≤ t ∧ C (7, n, 0) s = nI e) : x7_beginHours C cn a b = fo (x7_hr_b cn a) (b + 1 - a) C := by
  unfold x7_beginHours x7_hm
  by_cases e : b < a + 11
  · rw [if_pos e, if_neg (Nat.lt_irrefl _)]
  rw [if_neg e]
  by_cases e2 : a + 11 < b
  · rw [if_pos e2]
    have e12 : a + 11 + 1 - a = 12 := by omega
    rw [e12]
    obtain ⟨k0, ks⟩ := hr_setl c0 ht ha hl hb 12 (by decide)
    generalize hS : fo (x7_hr_b cn a) 12 C = S at *
    have key : ∀ d, (a + 12 + d) * 60 < 1000000 → fo (x7_hr_b cn a) (12 + (d + 1)) C = stmp S cn (cn 1) (nI ((a + 12 + d) * 60)) ∧ xCI (fo (x7_hr_b cn a) (12 + (d + 1)) C) cn := by
      intro d
      induction d with
      | zero =>
        intro h
        rw [show 12 + (0 + 1) = 12 + 1 by omega, fo_s, hS]
        unfold x7_hr_b
        exact ⟨stmp_h k0 ks h, ci_bh k0⟩
      | succ d ih =>
        intro h
        obtain ⟨i1, i2⟩ := ih (by omega)
        rw [show 12 + (d + 1 + 1) = 12 + (d + 1) + 1 by omega, fo_s]
        rw [i1] at i2 ⊢
        unfold x7_hr_b
        rw [show a + (12 + (d + 1)) = a + 12 + (d + 1) by omega, stmp_h i2 (stmp_s ks) h, stmp_2]
        refine ⟨rfl, ?_⟩
        have := ci_bh (wh := nI ((a + 12 + (d + 1)) * 60)) i2
        rw [stmp_h i2 (stmp_s ks) h, stmp_2] at this
        exact this
    obtain ⟨d, hd⟩ : ∃ d, b = a + 12 + d := ⟨b - (a + 12), by omega⟩
    subst hd
    rw [stmp_h k0 ks hb60, show a + 12 + d + 1 - a = 12 + (d + 1) by omega, (key d hb60).1]
  · rw [if_neg e2]
    have : b = a + 11 := by omega
    rw [this]
