/-- what is not a subscriber's money -/
def nmy (r : rb_R) : Prop := r ≠ (14, 24, 0) ∧ r ≠ (14, 25, 0) ∧ r ≠ (14, 26, 0)
theorem m_records_o {W : rb_I} {s i : Int32} {r : rb_R} {k : Nat} (h : ¬ nmy r) : m_records W s i r k = W r k := by
  have e : r = (14, 24, 0) ∨ r = (14, 25, 0) ∨ r = (14, 26, 0) := by
    by_cases a : r = (14, 24, 0)
    · exact Or.inl a
    · by_cases b : r = (14, 25, 0)
      · exact Or.inr (Or.inl b)
      · by_cases c : r = (14, 26, 0)
        · exact Or.inr (Or.inr c)
        · exact absurd ⟨a, b, c⟩ h
  unfold m_records
  split
  · rfl
  · rcases e with e | e | e <;> subst e <;> simp [up2]
theorem m_records_c {W W' : rb_I} {s i : Int32} (h : ∀ r k, nmy r → W' r k = W r k) {r : rb_R} {k : Nat} (hr : nmy r) : m_records W' s i r k = m_records W s i r k := by
  have hh : ∀ a q, a ≠ 24 → a ≠ 25 → a ≠ 26 → W' (14, a, 0) q = W (14, a, 0) q := fun a q h1 h2 h3 => h _ _ ⟨fun z => h1 (by simpa using z), fun z => h2 (by simpa using z), fun z => h3 (by simpa using z)⟩
  have h16 : ∀ q, W' (16, 0, 0) q = W (16, 0, 0) q := fun q => h _ _ ⟨by simp, by simp, by simp⟩
  have ea : m_isAbroad W' s = m_isAbroad W s := by
    unfold m_isAbroad
    rw [hh 19 _ (by decide) (by decide) (by decide), hh 16 _ (by decide) (by decide) (by decide)]
  unfold m_records
  rw [ea]
  by_cases e : m_isAbroad W s = 0
  · rw [if_pos e, if_pos e]; exact h r k hr
  rw [if_neg e, if_neg e, hh 16 _ (by decide) (by decide) (by decide), hh 19 _ (by decide) (by decide) (by decide), h16 29, h16 1]
  rw [m_agr_c (W := up2 (up2 (up2 (up2 W (14, 30, 0) (W (16, 0, 0) 29).toNatClampNeg (W (14, 16, 0) s.toNatClampNeg)) (14, 31, 0) (W (16, 0, 0) 29).toNatClampNeg (W (14, 19, 0) s.toNatClampNeg)) (14, 32, 0) (W (16, 0, 0) 29).toNatClampNeg i) (14, 33, 0) (W (16, 0, 0) 29).toNatClampNeg (W (16, 0, 0) 1)) (fun q => by simp [up2]; exact hh 8 q (by decide) (by decide) (by decide)) (fun q => by simp [up2]; exact hh 9 q (by decide) (by decide) (by decide)) (fun q => by simp [up2]; exact hh 10 q (by decide) (by decide) (by decide)) (fun q => by simp [up2]; exact hh 11 q (by decide) (by decide) (by decide)) (by simp [up2]; exact h16 1) (by simp [up2]; exact h16 7)]
  simp only [up2, h r k hr]
theorem m_pays_c {W W' : rb_I} {s m : Int32} (h24 : ∀ q, W' (14, 24, 0) q = W (14, 24, 0) q) (h25 : ∀ q, W' (14, 25, 0) q = W (14, 25, 0) q) (h26 : ∀ q, W' (14, 26, 0) q = W (14, 26, 0) q) (h19 : ∀ q, W' (14, 19, 0) q = W (14, 19, 0) q) (h16 : ∀ q, W' (14, 16, 0) q = W (14, 16, 0) q) (h1 : W' (16, 0, 0) 1 = W (16, 0, 0) 1) {r : rb_R} {k : Nat} (hr : W' r k = W r k) : m_pays W' s m r k = m_pays W s m r k := by
  have ea : ∀ v, m_isAbroad (up2 W' (14, 24, 0) s.toNatClampNeg v) s = m_isAbroad (up2 W (14, 24, 0) s.toNatClampNeg v) s := fun v => by unfold m_isAbroad; simp [up2, h19, h16]
  have eb : ∀ v, m_abroadOf (up2 W' (14, 24, 0) s.toNatClampNeg v) s = m_abroadOf (up2 W (14, 24, 0) s.toNatClampNeg v) s := fun v => by unfold m_abroadOf; simp [up2, h25, h26, h1]
  unfold m_pays
  rw [h24, ea, eb, h1]
  split
  · simp only [up2, hr]
  · simp only [up2, hr]
theorem rp_comm (W : rb_I) (s i o p : Int32) : m_pays (m_records W s i) o p = m_records (m_pays W o p) s i := by
  have hn : ∀ r k, nmy r → m_pays W o p r k = W r k := fun r k h => m_pays_o h.1 h.2.1 h.2.2
  funext r k
  by_cases h : nmy r
  · rw [m_pays_o h.1 h.2.1 h.2.2, m_records_c hn h]
  · rw [m_records_o h]
    have o19 : ∀ q, m_records W s i (14, 19, 0) q = W (14, 19, 0) q := fun q => by unfold m_records; split <;> simp [up2]
    have o16 : ∀ q, m_records W s i (14, 16, 0) q = W (14, 16, 0) q := fun q => by unfold m_records; split <;> simp [up2]
    have o1 : m_records W s i (16, 0, 0) 1 = W (16, 0, 0) 1 := by unfold m_records; split <;> simp [up2]
    exact m_pays_c (fun q => m_records_o (fun z => z.1 rfl)) (fun q => m_records_o (fun z => z.2.1 rfl)) (fun q => m_records_o (fun z => z.2.2 rfl)) o19 o16 o1 (m_records_o h)
/-- the model's call once somebody is found -/
def m_cF (M : rb_I) (s o its one two : Int32) : rb_I := up2 (m_records (m_records (m_pays (m_pays M s one) o two) s its) o its) (16, 0, 0) 28 ((m_records (m_records (m_pays (m_pays M s one) o two) s its) o its (16, 0, 0) 28) + 1)
def m_cT (M : rb_I) (s o its one two : Int32) : Int32 × rb_I := if m_isAbove M s one = 0 then (if m_isAbove M o two = 0 then (0, m_cF M s o its one two) else (6, M)) else (5, M)
def m_cP (M : rb_I) (s : Int32) : Int32 := if m_isAbroad M s = 0 then M (14, 5, 0) (3 * (M (14, 16, 0) s.toNatClampNeg).toNatClampNeg + 0) else M (14, 5, 0) (3 * (M (14, 16, 0) s.toNatClampNeg).toNatClampNeg + 1)
def m_cQ (M : rb_I) (o : Int32) : Int32 := if m_isAbroad M o = 0 then 0 else M (14, 5, 0) (3 * (M (14, 16, 0) o.toNatClampNeg).toNatClampNeg + 2)
theorem m_call_e (M : rb_I) (s o sec : Int32) : m_call M s o sec = if m_isSubscriber M s = 0 then (0, up2 M (16, 0, 0) 0 1) else if m_isSubscriber M o = 0 then (0, up2 M (16, 0, 0) 0 1) else if s = o then (0, up2 M (16, 0, 0) 0 2) else if m_in sec (1 : Int32) (36000 : Int32) = 0 then (0, up2 M (16, 0, 0) 0 2) else if M (16, 0, 0) 28 = 200 then (0, up2 M (16, 0, 0) 0 3) else if m_nobody (up2 M (16, 0, 0) 0 0) s o ≤ 0 then m_cT (up2 M (16, 0, 0) 0 0) s o ((sec + 59) / 60) (((sec + 59) / 60) * m_cP (up2 M (16, 0, 0) 0 0) s) (((sec + 59) / 60) * m_cQ (up2 M (16, 0, 0) 0 0) o) else (m_nobody (up2 M (16, 0, 0) 0 0) s o, up2 M (16, 0, 0) 0 0) := by
  unfold m_call
  by_cases e1 : m_isSubscriber M s = 0
  · rw [if_pos e1, if_pos e1]
  rw [if_neg e1, if_neg e1]
  by_cases e2 : m_isSubscriber M o = 0
  · rw [if_pos e2, if_pos e2]
  rw [if_neg e2, if_neg e2]
  by_cases e3 : s = o
  · rw [if_pos e3, if_pos e3]
  rw [if_neg e3, if_neg e3]
  by_cases e4 : m_in sec (1 : Int32) (36000 : Int32) = 0
  · rw [if_pos e4, if_pos e4]
  rw [if_neg e4, if_neg e4]
  by_cases e5 : M (16, 0, 0) 28 = 200
  · rw [if_pos e5, if_pos e5]
  rw [if_neg e5, if_neg e5]
  by_cases e6 : m_nobody (up2 M (16, 0, 0) 0 0) s o ≤ 0
  · rw [if_pos e6, if_pos e6]
    unfold m_cP m_cQ
    by_cases f1 : m_isAbroad (up2 M (16, 0, 0) 0 0) s = 0
    · rw [if_pos f1, if_pos f1]
      by_cases f2 : m_isAbroad (up2 M (16, 0, 0) 0 0) o = 0
      · rw [if_pos f2, if_pos f2, Int32.mul_zero]; rfl
      · rw [if_neg f2, if_neg f2]; rfl
    · rw [if_neg f1, if_neg f1]
      by_cases f2 : m_isAbroad (up2 M (16, 0, 0) 0 0) o = 0
      · rw [if_pos f2, if_pos f2, Int32.mul_zero]; rfl
      · rw [if_neg f2, if_neg f2]; rfl
  · rw [if_neg e6, if_neg e6]
theorem nob_eq {C M : rb_I} {cn : Nat → Nat} {ag : Nat → Nat → Int32} {tc t R : Nat} {bd : Nat → Nat} (h : sx_1 C M cn ag tc t R bd) {s o : Int32} (hs : vp_in s (cn 1)) (ho : vp_in o (cn 1)) : x7_whyNotFound C s.toNatClampNeg o.toNatClampNeg = m_nobody M s o := by
  have h9 := h
  obtain ⟨c0, m0, hT, hC, hR, hN, hA, hS, hZ, hM, hB, hK⟩ := h
  have a4 := (hS _ (vp_in_lt hs)).2.2.2.1
  obtain ⟨b1, b2, b3, b4, b5, -⟩ := hS _ (vp_in_lt ho)
  have h10 : o.toNatClampNeg < 10 := Nat.lt_of_lt_of_le (vp_in_lt ho) c0.2.2.2.2.2.2.2.2.2.1
  unfold x7_whyNotFound m_nobody x2_has
  rw [latest_eq h9 ho, a4, b4, b5]
  by_cases e1 : M (14, 19, 0) s.toNatClampNeg = -1
  · rw [if_pos e1, if_pos e1]
  rw [if_neg e1, if_neg e1]
  by_cases e2 : M (14, 21, 0) o.toNatClampNeg = -1
  · rw [if_pos e2, if_pos e2]
  rw [if_neg e2, if_neg e2]
  have hn6 := (m0.2.2.2.1 o.toNatClampNeg).resolve_left e2
  rw [(hB _ _ (vp_in_lt hn6) h10).1]
  by_cases e3 : M (14, 27, 0) (10 * (M (14, 21, 0) o.toNatClampNeg).toNatClampNeg + o.toNatClampNeg) = -1
  · rw [if_pos e3, if_pos e3, if_pos rfl]
  · rw [if_neg e3, if_neg e3, if_neg (by decide)]
theorem nob_le {M : rb_I} {s o : Int32} (h : m_nobody M s o ≤ 0) : m_nobody M s o = 0 ∧ ¬ M (14, 19, 0) s.toNatClampNeg = -1 ∧ ¬ M (14, 19, 0) o.toNatClampNeg = -1 := by
  unfold m_nobody at *
  by_cases e1 : M (14, 19, 0) s.toNatClampNeg = -1
  · rw [if_pos e1] at h; exact absurd h (by decide)
  rw [if_neg e1] at h ⊢
  by_cases e2 : M (14, 21, 0) o.toNatClampNeg = -1
  · rw [if_pos e2] at h; exact absurd h (by decide)
  rw [if_neg e2] at h ⊢
  by_cases e3 : M (14, 27, 0) (10 * (M (14, 21, 0) o.toNatClampNeg).toNatClampNeg + o.toNatClampNeg) = -1
  · rw [if_pos e3] at h; exact absurd h (by decide)
  rw [if_neg e3] at h ⊢
  by_cases e4 : M (14, 19, 0) o.toNatClampNeg = M (14, 21, 0) o.toNatClampNeg
  · rw [if_pos e4]; exact ⟨rfl, e1, by rw [e4]; exact e2⟩
  · rw [if_neg e4] at h; exact absurd h (by decide)
theorem abv_eq {C M : rb_I} {cn : Nat → Nat} {ag : Nat → Nat → Int32} {t R : Nat} {bd : Nat → Nat} (h : sx_1 C M cn ag t t R bd) {s : Int32} (hs : vp_in s (cn 1)) (hat : ¬ M (14, 19, 0) s.toNatClampNeg = -1) (p : Int32) : x6_wouldComeAboveCap C s.toNatClampNeg p = m_isAbove M s p := by
  obtain ⟨a, b1, b2, b3⟩ := abr_eq h hs
  have e := abd_eq h hs hat
  obtain ⟨c0, m0, hT, hC, hR, hN, hA, hS, hZ, hM, hB, hK⟩ := h
  obtain ⟨a1, a2, a3, a4, a5, a6, a7, a8, a9, a10⟩ := hS _ (vp_in_lt hs)
  unfold x6_wouldComeAboveCap m_isAbove
  rw [e, a8, b1, b3, a7]
theorem prc_eq {C M : rb_I} {cn : Nat → Nat} {ag : Nat → Nat → Int32} {tc t R : Nat} {bd : Nat → Nat} (h : sx_1 C M cn ag tc t R bd) {s : Int32} (hs : vp_in s (cn 1)) (hat : ¬ M (14, 19, 0) s.toNatClampNeg = -1) : x7_priceOfCalling C s.toNatClampNeg = m_cP M s ∧ x7_priceOfBeingCalled C s.toNatClampNeg = m_cQ M s ∧ vp_in (m_cP M s) 100 ∧ vp_in (m_cQ M s) 100 := by
  have e := abd_eq h hs hat
  obtain ⟨c0, m0, hT, hC, hR, hN, hA, hS, hZ, hM, hB, hK⟩ := h
  have a1 := (hS _ (vp_in_lt hs)).1
  have hh : vp_in (M (14, 16, 0) s.toNatClampNeg) 6 := m0.1 s.toNatClampNeg
  obtain ⟨n1, n2, n3, n4, n5, n6, n7, n8, n9, n10⟩ := hN _ (vp_in_lt hh)
  unfold x7_priceOfCalling x7_priceOfBeingCalled m_cP m_cQ
  rw [e, a1, ← n3, ← n4, ← n5]
  by_cases z : m_isAbroad M s = 0
  · simp only [if_pos z]; exact ⟨trivial, trivial, n7, vp_in_nI (n := 0) (by decide) (by decide)⟩
  · simp only [if_neg z]; exact ⟨trivial, trivial, n8, n9⟩
theorem u_cW {C M : rb_I} {cn : Nat → Nat} {ag : Nat → Nat → Int32} {tc t R : Nat} {bd : Nat → Nat} (h : sx_1 C M cn ag tc t R bd) {s one o two : Int32} (h2 : cn 2 < 200) : sx_1 (x7_cW C cn s one o two) M (bump cn 2) ag tc t R bd := by
  obtain ⟨c0, m0, hT, hC, hR, hN, hA, hS, hZ, hM, hB, hK⟩ := h
  have hx9 := ci_cW (s := s) (one := one) (o := o) (two := two) h2 c0
  unfold x7_cW at *
  exact ⟨hx9, (MI_c m0 (fun q => by simp [up2, x3_init, zW]) (fun q => by simp [up2, x3_init, zW]) (fun q => by simp [up2, x3_init, zW]) (fun q => by simp [up2, x3_init, zW]) (fun q => by simp [up2, x3_init, zW]) (fun q => by simp [up2, x3_init, zW]) (by simp [up2, x3_init, zW]) (by simp [up2, x3_init, zW]) (by simp [up2, x3_init, zW]) (by simp [up2, x3_init, zW]) (fun q => by simp [up2, x3_init, zW])), (sx_T_c hT (by simp [up2, x3_init, zW]) (by simp [up2, x3_init, zW])), (sx_C_c hC (by simp [up2, x3_init, zW]) (by simp [up2, x3_init, zW]) (by simp [up2, x3_init, zW]) (bump_n (by decide)) (bump_n (by decide))), (sx_R_c hR (fun q => by simp [up2, x3_init, zW]) (fun q => by simp [up2, x3_init, zW])), (sx_N_c hN (fun b c q => by simp [up2, x3_init, zW]) (fun q => by simp [up2, x3_init, zW]) (fun q => by simp [up2, x3_init, zW]) (fun q => by simp [up2, x3_init, zW]) (fun q => by simp [up2, x3_init, zW])), (sx_A_c hA (bump_n (by decide)) (fun b c q => by simp [up2, x3_init, zW]) (fun q => by simp [up2, x3_init, zW]) (fun q => by simp [up2, x3_init, zW]) (fun q => by simp [up2, x3_init, zW]) (fun q => by simp [up2, x3_init, zW]) (fun q => by simp [up2, x3_init, zW]) (fun q => by simp [up2, x3_init, zW]) (fun q => by simp [up2, x3_init, zW])), (sx_S_c hS (bump_n (by decide)) (fun b c q hq => by simp [up2, hq, x3_init, zW]) (fun q => by simp [up2, x3_init, zW]) (fun q => by simp [up2, x3_init, zW]) (fun q => by simp [up2, x3_init, zW]) (fun q => by simp [up2, x3_init, zW]) (fun q => by simp [up2, x3_init, zW]) (fun q => by simp [up2, x3_init, zW]) (fun q => by simp [up2, x3_init, zW]) (fun q => by simp [up2, x3_init, zW]) (fun q => by simp [up2, x3_init, zW])), (sx_Z_c hZ (bump_n (by decide)) (fun q => by simp [up2, x3_init, zW]) (fun q => by simp [up2, x3_init, zW]) (fun q => by simp [up2, x3_init, zW]) (fun q => by simp [up2, x3_init, zW]) (fun q => by simp [up2, x3_init, zW])), (sx_M_c hM (bump_n (by decide)) (fun _ => Nat.le_refl _) (fun b c => by simp [up2, x3_init, zW]) (fun q => by simp [up2, x3_init, zW]) (fun q => by simp [up2, x3_init, zW])), (sx_B_c hB (fun b c q => by simp [up2, x3_init, zW]) (fun q => by simp [up2, x3_init, zW])), (sx_K_c hK bump_ge (fun k => bump_n (by omega)) (fun b c q => by simp [up2, x3_init, zW]) (fun b c q => by simp [up2, x3_init, zW]) (fun q => by simp [up2, x3_init, zW]) (fun q => by simp [up2, x3_init, zW]) (fun q => by simp [up2, x3_init, zW]) (fun q => by simp [up2, x3_init, zW]) (fun q => by simp [up2, x3_init, zW]) (fun q => by simp [up2, x3_init, zW]) (fun q => by simp [up2, x3_init, zW]) (fun q => by simp [up2, x3_init, zW]) (fun q => by simp [up2, x3_init, zW]))⟩
theorem its_e {sec : Int32} (h : ¬ m_in sec (1 : Int32) (36000 : Int32) = 0) : ∃ mi : Nat, (sec + 59) / 60 = nI mi ∧ 0 < mi ∧ mi ≤ 600 := by
  have h5 : ¬ m_in sec 0 36000 = 0 ∧ ¬ sec < 1 := by
    unfold m_in at h
    split at h
    · exact absurd rfl h
    · split at h
      · exact absurd rfl h
      · rename_i h1 h2
        refine ⟨?_, h1⟩
        unfold m_in
        have h3 : ¬ sec < 0 := fun q => h1 (Int32.lt_trans q (by decide))
        rw [if_neg h3, if_neg h2]
        decide
  have hv : vp_in sec 36001 := in_of (by decide) rfl h5.1
  have e := vp_in_e hv
  have l := vp_in_lt hv
  have h1 := h5.2
  rw [e] at h1 ⊢
  generalize sec.toNatClampNeg = q at *
  have hq : 0 < q := by
    rcases Nat.eq_zero_or_pos q with z | z
    · rw [z] at h1; exact absurd (show nI 0 < 1 by decide) h1
    · exact z
  refine ⟨(q + 59) / 60, ?_, by omega, by omega⟩
  rw [show (59 : Int32) = nI 59 from rfl, nI_add]
  exact dv9 60 rfl (by decide) (by decide) (by omega)
theorem m_rec28 (W : rb_I) (s i : Int32) : m_records W s i (16, 0, 0) 28 = W (16, 0, 0) 28 ∧ m_records W s i (16, 0, 0) 0 = W (16, 0, 0) 0 := by
  unfold m_records
  split
  · exact ⟨rfl, rfl⟩
  · exact ⟨by simp [up2], by simp [up2]⟩
theorem u_28 {C M : rb_I} {cn : Nat → Nat} {ag : Nat → Nat → Int32} {tc t R : Nat} {bd : Nat → Nat} (h : sx_1 C M cn ag tc t R bd) (v : Int32) (hv : vp_in v 201) : sx_1 C (up2 M (16, 0, 0) 28 v) cn ag tc t R bd := by
  obtain ⟨c0, m0, hT, hC, hR, hN, hA, hS, hZ, hM, hB, hK⟩ := h
  exact ⟨(xCI_c c0 (fun b => by simp [up2]) (fun b q hq => by rcases hq with rfl | rfl <;> simp [up2]) (fun b q hq => by rcases hq with rfl | rfl | rfl | rfl | rfl <;> simp [up2])), ⟨(fun s => by simp only [up2]; simp; exact m0.1 s), (fun s => by simp only [up2]; simp; exact m0.2.1 s), (fun s => by simp only [up2]; simp; exact m0.2.2.1 s), (fun s => by simp only [up2]; simp; exact m0.2.2.2.1 s), (fun s => by simp only [up2]; simp; exact m0.2.2.2.2.1 s), (fun s => by simp only [up2]; simp; exact m0.2.2.2.2.2.1 s), (by simp only [up2]; simp; exact m0.2.2.2.2.2.2.1), (by simp only [up2]; simp; exact m0.2.2.2.2.2.2.2.1), (by simp only [up2]; simp; exact hv), (by simp only [up2]; simp; exact m0.2.2.2.2.2.2.2.2.2.1), (fun s => by simp only [up2]; simp; exact m0.2.2.2.2.2.2.2.2.2.2 s)⟩, (sx_T_c hT (by simp [up2]) (by simp [up2])), (sx_C_c hC (by simp [up2]) (by simp [up2]) (by simp [up2]) rfl rfl), (sx_R_c hR (fun q => by simp [up2]) (fun q => by simp [up2])), (sx_N_c hN (fun b c q => by simp [up2]) (fun q => by simp [up2]) (fun q => by simp [up2]) (fun q => by simp [up2]) (fun q => by simp [up2])), (sx_A_c hA rfl (fun b c q => by simp [up2]) (fun q => by simp [up2]) (fun q => by simp [up2]) (fun q => by simp [up2]) (fun q => by simp [up2]) (fun q => by simp [up2]) (fun q => by simp [up2]) (fun q => by simp [up2])), (sx_S_c hS rfl (fun b c q hq => by simp [up2, hq]) (fun q => by simp [up2]) (fun q => by simp [up2]) (fun q => by simp [up2]) (fun q => by simp [up2]) (fun q => by simp [up2]) (fun q => by simp [up2]) (fun q => by simp [up2]) (fun q => by simp [up2]) (fun q => by simp [up2])), (sx_Z_c hZ rfl (fun q => by simp [up2]) (fun q => by simp [up2]) (fun q => by simp [up2]) (fun q => by simp [up2]) (fun q => by simp [up2])), (sx_M_c hM rfl (fun _ => Nat.le_refl _) (fun b c => by simp [up2]) (fun q => by simp [up2]) (fun q => by simp [up2])), (sx_B_c hB (fun b c q => by simp [up2]) (fun q => by simp [up2])), (sx_K_c hK (Nat.le_refl _) (fun _ => rfl) (fun b c q => by simp [up2]) (fun b c q => by simp [up2]) (fun q => by simp [up2]) (fun q => by simp [up2]) (fun q => by simp [up2]) (fun q => by simp [up2]) (fun q => by simp [up2]) (fun q => by simp [up2]) (fun q => by simp [up2]) (fun q => by simp [up2]) (fun q => by simp [up2]))⟩
theorem sW_11 {W : rb_I} {cn : Nat → Nat} {j c q : Nat} {p mi : Int32} : x7_settle W cn j p mi (11, c, 0) q = W (11, c, 0) q := by
  unfold x7_settle
  split
  · unfold x7_sW0; simp [up2]
  · unfold x7_sW2 x4_init x7_sW1 x7_sW0 x7_sR zW; simp [up2]
theorem mp_24 (W : rb_I) (s p : Int32) (q : Nat) : m_pays W s p (14, 24, 0) q = if q = s.toNatClampNeg then W (14, 24, 0) s.toNatClampNeg + p else W (14, 24, 0) q := by
  unfold m_pays
  split <;> simp [up2]
theorem scn_1 {W : rb_I} {cn : Nat → Nat} {j i : Nat} {p : Int32} (hi : i < 3) : x7_scn W cn j p i = cn i := by
  unfold x7_scn
  split
  · rfl
  · exact bump_n (by omega)
set_option maxHeartbeats 4000000 in
theorem s_call {C M : rb_I} {cn : Nat → Nat} {ag : Nat → Nat → Int32} {t R : Nat} (h : sx C M cn ag t R) (s o sec : Int32) : (m_call M s o sec).2 (16, 0, 0) 0 = sq_3 (x7_call C cn s o sec).1 ∧ ((x7_call C cn s o sec).1 = 0 → (x7_call C cn s o sec).2.1 = (m_call M s o sec).1) ∧ ((x7_call C cn s o sec).1 ≠ 0 → (x7_call C cn s o sec).2.2 = C) ∧
    ((x7_call C cn s o sec).1 ≠ 0 ∨ (x7_call C cn s o sec).2.1 ≠ 0 → ∃ R', sx C (m_call M s o sec).2 cn ag t R') ∧ ((x7_call C cn s o sec).1 = 0 → (x7_call C cn s o sec).2.1 = 0 → ∀ W1 W2 W3, xq W1 (x7_call C cn s o sec).2.2 → xq W2 (x7_settle W1 (bump cn 2) s.toNatClampNeg (((sec + 59) / 60) * (x7_priceOfCalling C s.toNatClampNeg)) ((sec + 59) / 60)) →
      xq W3 (x7_settle W2 (x7_scn W1 (bump cn 2) s.toNatClampNeg (((sec + 59) / 60) * (x7_priceOfCalling C s.toNatClampNeg))) o.toNatClampNeg (((sec + 59) / 60) * (x7_priceOfBeingCalled C o.toNatClampNeg)) ((sec + 59) / 60)) →
      ∃ R', sx W3 (m_call M s o sec).2 (x7_scn W2 (x7_scn W1 (bump cn 2) s.toNatClampNeg (((sec + 59) / 60) * (x7_priceOfCalling C s.toNatClampNeg))) o.toNatClampNeg (((sec + 59) / 60) * (x7_priceOfBeingCalled C o.toNatClampNeg)))
        (x7_sag W2 (x7_scn W1 (bump cn 2) s.toNatClampNeg (((sec + 59) / 60) * (x7_priceOfCalling C s.toNatClampNeg))) (x7_sag W1 (bump cn 2) ag s.toNatClampNeg (((sec + 59) / 60) * (x7_priceOfCalling C s.toNatClampNeg))) o.toNatClampNeg (((sec + 59) / 60) * (x7_priceOfBeingCalled C o.toNatClampNeg))) t R') := by
  have h9 := h
  obtain ⟨⟨c0, m0, hT, hC, hR, hN, hA, hS, hZ, hM, hB, hK⟩, k28, hR2, hP⟩ := h
  have thr : ∀ (n : Nat) (v : Int32), sq_3 n = v → n ≠ 0 → ((up2 M (16, 0, 0) 0 v) (16, 0, 0) 0 = sq_3 n ∧ (n = 0 → (0 : Int32) = 0) ∧ (n ≠ 0 → C = C) ∧ (n ≠ 0 ∨ (0 : Int32) ≠ 0 → ∃ R', sx C (up2 M (16, 0, 0) 0 v) cn ag t R')) :=
    fun n v hn _ => ⟨(up2_s _ _ _ _).trans hn.symm, fun _ => rfl, fun _ => rfl, fun _ => ⟨R, sx_thr h9 v⟩⟩
  have cv : ∀ x : Int32, x ≠ 0 → ((up2 M (16, 0, 0) 0 0) (16, 0, 0) 0 = sq_3 0 ∧ (0 = 0 → x = x) ∧ (0 ≠ 0 → C = C) ∧ (0 ≠ 0 ∨ x ≠ 0 → ∃ R', sx C (up2 M (16, 0, 0) 0 0) cn ag t R')) :=
    fun x _ => ⟨(up2_s _ _ _ _).trans sq_30.symm, fun _ => rfl, fun _ => rfl, fun _ => ⟨R, sx_thr h9 0⟩⟩
  rw [m_call_e]
  unfold x7_call m_isSubscriber
  rw [hC.2.1, k28]
  by_cases e1 : m_in s 0 (nI (cn 1) - 1) = 0
  · rw [if_pos e1, if_pos e1]
    obtain ⟨t1, t2, t3, t4⟩ := thr 1 1 sq_31 (by decide)
    exact ⟨t1, t2, t3, t4, fun q => absurd q (show ¬ (1 : Nat) = 0 by decide)⟩
  rw [if_neg e1, if_neg e1]
  by_cases e2 : m_in o 0 (nI (cn 1) - 1) = 0
  · rw [if_pos e2, if_pos e2]
    obtain ⟨t1, t2, t3, t4⟩ := thr 1 1 sq_31 (by decide)
    exact ⟨t1, t2, t3, t4, fun q => absurd q (show ¬ (1 : Nat) = 0 by decide)⟩
  rw [if_neg e2, if_neg e2]
  by_cases e3 : s = o
  · rw [if_pos e3, if_pos e3]
    obtain ⟨t1, t2, t3, t4⟩ := thr 2 2 sq_32 (by decide)
    exact ⟨t1, t2, t3, t4, fun q => absurd q (show ¬ (2 : Nat) = 0 by decide)⟩
  rw [if_neg e3, if_neg e3]
  by_cases e4 : m_in sec (1 : Int32) (36000 : Int32) = 0
  · rw [if_pos e4, if_pos e4]
    obtain ⟨t1, t2, t3, t4⟩ := thr 2 2 sq_32 (by decide)
    exact ⟨t1, t2, t3, t4, fun q => absurd q (show ¬ (2 : Nat) = 0 by decide)⟩
  rw [if_neg e4, if_neg e4]
  have hc2 := c0.2.2.2.2.2.2.2.2.2.2.1
  by_cases e5 : cn 2 = 200
  · rw [if_neg (show ¬ nI (cn 2) < 200 by rw [e5]; decide), if_pos (show nI (cn 2) = 200 by rw [e5]; rfl)]
    obtain ⟨t1, t2, t3, t4⟩ := thr 3 3 sq_33 (by decide)
    exact ⟨t1, t2, t3, t4, fun q => absurd q (show ¬ (3 : Nat) = 0 by decide)⟩
  rw [if_pos (show nI (cn 2) < 200 from nI_lt (a := cn 2) (b := 200) (by omega) (by decide)), if_neg (show ¬ nI (cn 2) = 200 from fun q => e5 ((nI_eq (a := cn 2) (b := 200) (by omega) (by decide)).mp q))]
  have hs := sub_of c0 e1
  have ho := sub_of c0 e2
  have h0 := sx_1_thr h9.1 0
  rw [nob_eq h0 hs ho]
  by_cases e6 : ¬ m_nobody (up2 M (16, 0, 0) 0 0) s o ≤ 0
  · have z6 : ¬ m_nobody (up2 M (16, 0, 0) 0 0) s o = 0 := fun q => e6 (by rw [q]; decide)
    rw [if_neg z6, if_neg e6]
    obtain ⟨t1, t2, t3, t4⟩ := cv _ z6
    exact ⟨t1, t2, t3, t4, fun _ q => absurd q z6⟩
  replace e6 := Classical.not_not.mp e6
  obtain ⟨z6, as6, ao6⟩ := nob_le e6
  rw [if_pos z6, if_pos e6]
  obtain ⟨p1, -, p3, -⟩ := prc_eq h0 hs as6
  obtain ⟨-, q2, -, q4⟩ := prc_eq h0 ho ao6
  rw [p1, q2, abv_eq h0 hs as6, abv_eq h0 ho ao6]
  obtain ⟨mi, m1, m2, m3⟩ := its_e e4
  obtain ⟨pa, hpl, hpe⟩ : ∃ pa, pa < 100 ∧ m_cP (up2 M (16, 0, 0) 0 0) s = nI pa := ⟨_, vp_in_lt p3, vp_in_e p3⟩
  obtain ⟨pb, hql, hqe⟩ : ∃ pb, pb < 100 ∧ m_cQ (up2 M (16, 0, 0) 0 0) o = nI pb := ⟨_, vp_in_lt q4, vp_in_e q4⟩
  unfold m_cT
  rw [m1]
  by_cases e7 : ¬ m_isAbove (up2 M (16, 0, 0) 0 0) s (nI mi * m_cP (up2 M (16, 0, 0) 0 0) s) = 0
  · rw [if_neg e7, if_neg e7]
    obtain ⟨t1, t2, t3, t4⟩ := cv 5 (by decide)
    exact ⟨t1, t2, t3, t4, fun _ q => absurd q (show ¬ (5 : Int32) = 0 by decide)⟩
  replace e7 := Classical.not_not.mp e7
  rw [if_pos e7, if_pos e7]
  by_cases e8 : ¬ m_isAbove (up2 M (16, 0, 0) 0 0) o (nI mi * m_cQ (up2 M (16, 0, 0) 0 0) o) = 0
  · rw [if_neg e8, if_neg e8]
    obtain ⟨t1, t2, t3, t4⟩ := cv 6 (by decide)
    exact ⟨t1, t2, t3, t4, fun _ q => absurd q (show ¬ (6 : Int32) = 0 by decide)⟩
  replace e8 := Classical.not_not.mp e8
  rw [if_pos e8, if_pos e8]
  clear thr cv
  rw [hpe, hqe, pk_mul, pk_mul]
  have ha5 : mi * pa ≤ 59400 := by
    have := Nat.mul_le_mul m3 (show pa ≤ 99 by omega)
    omega
  have hb5 : mi * pb ≤ 59400 := by
    have := Nat.mul_le_mul m3 (show pb ≤ 99 by omega)
    omega
  unfold m_cF
  have r28 : m_records (m_records (m_pays (m_pays (up2 M (16, 0, 0) 0 0) s (nI (mi * pa))) o (nI (mi * pb))) s (nI mi)) o (nI mi) (16, 0, 0) 28 = nI (cn 2) := by
    rw [(m_rec28 _ _ _).1, (m_rec28 _ _ _).1, m_pays_o (by simp) (by simp) (by simp), m_pays_o (by simp) (by simp) (by simp)]
    simp [up2]
    exact k28
  rw [r28, nI_1]
  have f0 : up2 (m_records (m_records (m_pays (m_pays (up2 M (16, 0, 0) 0 0) s (nI (mi * pa))) o (nI (mi * pb))) s (nI mi)) o (nI mi)) (16, 0, 0) 28 (nI (cn 2 + 1)) (16, 0, 0) 0 = 0 := by
    rw [up2_n _ _ _ _ (by simp), (m_rec28 _ _ _).2, (m_rec28 _ _ _).2, m_pays_o (by simp) (by simp) (by simp), m_pays_o (by simp) (by simp) (by simp), up2_s]
  have f28 : up2 (m_records (m_records (m_pays (m_pays (up2 M (16, 0, 0) 0 0) s (nI (mi * pa))) o (nI (mi * pb))) s (nI mi)) o (nI mi)) (16, 0, 0) 28 (nI (cn 2 + 1)) (16, 0, 0) 28 = nI (cn 2 + 1) := up2_s _ _ _ _
  have hso : s.toNatClampNeg ≠ o.toNatClampNeg := fun q => e3 (by rw [vp_in_e hs, vp_in_e ho, q])
  have e24 : ∀ j, up2 (m_records (m_records (m_pays (m_pays (up2 M (16, 0, 0) 0 0) s (nI (mi * pa))) o (nI (mi * pb))) s (nI mi)) o (nI mi)) (16, 0, 0) 28 (nI (cn 2 + 1)) (14, 24, 0) j = (if j = o.toNatClampNeg then M (14, 24, 0) j + nI (mi * pb) else if j = s.toNatClampNeg then M (14, 24, 0) j + nI (mi * pa) else M (14, 24, 0) j) := fun j => by
    rw [up2_n _ _ _ _ (by simp), m_records_o (fun z => z.1 rfl), m_records_o (fun z => z.1 rfl), mp_24, mp_24, mp_24]
    by_cases w1 : j = o.toNatClampNeg
    · rw [if_pos w1, if_pos w1, if_neg (fun q => hso q.symm), w1]
      simp [up2]
    · rw [if_neg w1, if_neg w1]
      by_cases w2 : j = s.toNatClampNeg
      · rw [if_pos w2, if_pos w2, w2]; simp [up2]
      · rw [if_neg w2, if_neg w2]; simp [up2]
  generalize hMW : up2 (m_records (m_records (m_pays (m_pays (up2 M (16, 0, 0) 0 0) s (nI (mi * pa))) o (nI (mi * pb))) s (nI mi)) o (nI mi)) (16, 0, 0) 28 (nI (cn 2 + 1)) = MW at *
  refine ⟨f0.trans sq_30.symm, fun _ => rfl, fun q => absurd rfl q, fun q => absurd q (fun z => z.elim (fun z => z rfl) (fun z => z rfl)), fun _ _ W1 W2 W3 x1 x2 x3 => ?_⟩
  have ax : ∀ {A B : rb_I}, xq A B → ae B A := fun q r k h1 h2 => q r k (by omega) h2
  have am0 : ∀ A : rb_I, am A A := fun _ _ _ _ => rfl
  have v1 := sx_1_c (u_cW h0 (s := s) (one := nI (mi * pa)) (o := o) (two := nI (mi * pb)) (by omega)) (ax x1) (am0 _)
  have hs1 : vp_in s (bump cn 2 1) := by rw [bump_n (by decide)]; exact hs
  have v2 := sx_1_c (u_set v1 hs1 as6 (by omega) ha5 m2 m3) (ax x2) (am0 _)
  have ho2 : vp_in o (x7_scn W1 (bump cn 2) s.toNatClampNeg (nI (mi * pa)) 1) := by rw [scn_1 (by decide), bump_n (by decide)]; exact ho
  have o19 : ∀ q, m_records (m_pays (up2 M (16, 0, 0) 0 0) s (nI (mi * pa))) s (nI mi) (14, 19, 0) q = up2 M (16, 0, 0) 0 0 (14, 19, 0) q := fun q => by
    rw [show m_records (m_pays (up2 M (16, 0, 0) 0 0) s (nI (mi * pa))) s (nI mi) (14, 19, 0) q = m_pays (up2 M (16, 0, 0) 0 0) s (nI (mi * pa)) (14, 19, 0) q by unfold m_records; split <;> simp [up2]]
    exact m_pays_o (by simp) (by simp) (by simp)
  have hR1 : (if m_isAbroad (up2 M (16, 0, 0) 0 0) s = 0 then R else R + 1) ≤ R + 1 := by split <;> omega
  have v3 := u_set v2 ho2 (by rw [o19]; exact ao6) (by omega) hb5 m2 m3
  rw [rp_comm] at v3
  have v4 := sx_1_c v3 (ax x3) (am0 _)
  have v5 := u_28 v4 (nI (cn 2 + 1)) (vp_in_nI (by omega) (by decide))
  rw [hMW] at v5
  generalize hR2e : (if m_isAbroad (m_records (m_pays (up2 M (16, 0, 0) 0 0) s (nI (mi * pa))) s (nI mi)) o = 0 then (if m_isAbroad (up2 M (16, 0, 0) 0 0) s = 0 then R else R + 1) else (if m_isAbroad (up2 M (16, 0, 0) 0 0) s = 0 then R else R + 1) + 1) = R2 at v5
  have hR2' : R2 ≤ R + 2 := by rw [← hR2e]; split <;> omega
  have c22 : x7_scn W2 (x7_scn W1 (bump cn 2) s.toNatClampNeg (nI (mi * pa))) o.toNatClampNeg (nI (mi * pb)) 2 = cn 2 + 1 := by rw [scn_1 (by decide), scn_1 (by decide), bump_s]
  refine ⟨R2, ?_, ?_, ?_, ?_⟩
  · obtain ⟨d1, d2, d3, d4, d5, d6, d7, d8, d9, d10, d11, d12⟩ := v5
    refine ⟨d1, d2, d3, d4, d5, d6, d7, d8, d9, ?_, d11, d12⟩
    refine sx_M_c d10 rfl (fun j => ?_) (fun _ _ => rfl) (fun _ => rfl) (fun _ => rfl)
    rw [c22]
    by_cases w1 : j = o.toNatClampNeg
    · rw [if_pos w1, if_neg (fun q => hso (q.symm.trans w1))]; omega
    · rw [if_neg w1]
      split <;> omega
  · rw [c22]; exact f28
  · rw [c22]; omega
  · intro j hj
    rw [c22]
    show MW (14, 24, 0) j = _
    rw [e24, fo_s]
    have e11 : ∀ c q, W3 (11, c, 0) q = x7_cW C cn s (nI (mi * pa)) o (nI (mi * pb)) (11, c, 0) q := fun c q => by
      rw [x3 _ _ (by simp) (by simp), sW_11, x2 _ _ (by simp) (by simp), sW_11, x1 _ _ (by simp) (by simp)]
    have old : ∀ c, c < cn 2 → ∀ m, x3_paidBy W3 c m = x3_paidBy C c m := fun c hc m => by
      have w : c ≠ cn 2 := by omega
      unfold x3_paidBy
      rw [e11, e11, e11, e11]
      unfold x7_cW x3_init zW
      simp [up2, w]
    have new : x3_paidBy W3 (cn 2) (nI j) = (if j = o.toNatClampNeg then nI (mi * pb) else if j = s.toNatClampNeg then nI (mi * pa) else 0) := by
      unfold x3_paidBy
      rw [e11, e11, e11, e11]
      have g0 : x7_cW C cn s (nI (mi * pa)) o (nI (mi * pb)) (11, cn 2, 0) 0 = s := by unfold x7_cW x3_init zW; simp [up2]
      have g1 : x7_cW C cn s (nI (mi * pa)) o (nI (mi * pb)) (11, cn 2, 0) 1 = nI (mi * pa) := by unfold x7_cW x3_init zW; simp [up2]
      have g2 : x7_cW C cn s (nI (mi * pa)) o (nI (mi * pb)) (11, cn 2, 0) 2 = o := by unfold x7_cW x3_init zW; simp [up2]
      have g3 : x7_cW C cn s (nI (mi * pa)) o (nI (mi * pb)) (11, cn 2, 0) 3 = nI (mi * pb) := by unfold x7_cW x3_init zW; simp [up2]
      have js : ∀ {x : Int32}, vp_in x (cn 1) → (nI j = x ↔ j = x.toNatClampNeg) := fun {x} hx => by
        have l := vp_in_lt hx
        have h10 := c0.2.2.2.2.2.2.2.2.2.1
        rw [show (nI j = x) = (nI j = nI x.toNatClampNeg) by rw [← vp_in_e hx]]
        exact nI_eq (by omega) (by omega)
      rw [g0, g1, g2, g3]
      by_cases w2 : j = s.toNatClampNeg
      · rw [if_pos ((js hs).mpr w2), if_neg (fun q => hso (w2.symm.trans q)), if_pos w2]
      · rw [if_neg (fun q => w2 ((js hs).mp q))]
        by_cases w1 : j = o.toNatClampNeg
        · rw [if_pos ((js ho).mpr w1), if_pos w1]
        · rw [if_neg (fun q => w1 ((js ho).mp q)), if_neg w1, if_neg w2]
    have sum : fo (fun c a => a + x3_paidBy W3 c (nI j)) (cn 2) (0 : Int32) = M (14, 24, 0) j := by
      rw [hP j hj]
      exact su_ext fun c hc => old c hc _
    rw [sum, new]
    by_cases w1 : j = o.toNatClampNeg
    · rw [if_pos w1, if_pos w1]
    · rw [if_neg w1, if_neg w1]
      by_cases w2 : j = s.toNatClampNeg
      · rw [if_pos w2, if_pos w2]
      · rw [if_neg w2, if_neg w2, Int32.add_zero]
