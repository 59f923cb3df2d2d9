def m_in (v : Int32) (low : Int32) (high : Int32) : Int32 := (if v < low then (0 : Int32) else (if high < v then (0 : Int32) else (1 : Int32)))
theorem z_m_in (v : Int32) (low : Int32) (high : Int32) : m_in v low high = 0 ∨ m_in v low high = 1 := by
  unfold m_in
  repeat' split
  all_goals first | exact Or.inl rfl | exact Or.inr rfl
def m_isNetwork (n : Int32) : Int32 := (m_in n (0 : Int32) (5 : Int32))
theorem z_m_isNetwork (n : Int32) : m_isNetwork n = 0 ∨ m_isNetwork n = 1 := by
  unfold m_isNetwork
  repeat' split
  all_goals first | exact Or.inl rfl | exact Or.inr rfl | exact z_m_in n (0 : Int32) (5 : Int32)
def m_isPlace (p : Int32) : Int32 := (m_in p (0 : Int32) (7 : Int32))
theorem z_m_isPlace (p : Int32) : m_isPlace p = 0 ∨ m_isPlace p = 1 := by
  unfold m_isPlace
  repeat' split
  all_goals first | exact Or.inl rfl | exact Or.inr rfl | exact z_m_in p (0 : Int32) (7 : Int32)
def m_isIn (a : Int32) (k : Int32) : Int32 := (if ((a >>> (k &&& 31)) &&& 1) = 1 then (1 : Int32) else (0 : Int32))
theorem z_m_isIn (a : Int32) (k : Int32) : m_isIn a k = 0 ∨ m_isIn a k = 1 := by
  unfold m_isIn
  repeat' split
  all_goals first | exact Or.inl rfl | exact Or.inr rfl
def m_isSubscriber (W : rb_I) (s : Int32) : Int32 := (m_in s (0 : Int32) ((W (16, 0, 0) 15) - 1))
theorem z_m_isSubscriber (W : rb_I) (s : Int32) : m_isSubscriber W s = 0 ∨ m_isSubscriber W s = 1 := by
  unfold m_isSubscriber
  repeat' split
  all_goals first | exact Or.inl rfl | exact Or.inr rfl | exact z_m_in s (0 : Int32) ((W (16, 0, 0) 15) - 1)
def m_thrown (W : rb_I)  : Int32 := (W (16, 0, 0) 0)
theorem in_of {v low high : Int32} {n : Nat} (hh : high.toInt < n) (hl : low = 0) (h : ¬ m_in v low high = 0) : vp_in v n := by
  subst hl
  unfold m_in at h
  split at h
  · exact absurd rfl h
  · split at h
    · exact absurd rfl h
    · rename_i h1 h2
      obtain ⟨j, hj, e⟩ := nI_of h1
      subst e
      have h3 : ¬ high.toInt < (nI j).toInt := fun q => h2 (Int32.lt_iff_toInt_lt.mpr q)
      rw [nI_toInt hj] at h3
      intro q
      rcases q with q | q
      · exact h1 q
      · rw [nI_clamp hj] at q
        omega
theorem isNetwork_in {x : Int32} (h : ¬ m_isNetwork x = 0) : vp_in x 6 := in_of (by decide) rfl h
theorem isPlace_in {x : Int32} (h : ¬ m_isPlace x = 0) : vp_in x 8 := in_of (by decide) rfl h
def at6 (x : Int32) : Prop := x = -1 ∨ vp_in x 6
def MI (W : rb_I) : Prop := (∀ s, vp_in (W (14, 16, 0) s) 6) ∧ (∀ s, vp_in (W (14, 17, 0) s) 8) ∧ (∀ s, at6 (W (14, 19, 0) s)) ∧ (∀ s, at6 (W (14, 21, 0) s)) ∧ (∀ n, at6 (W (14, 4, 0) n)) ∧ (∀ r, W (14, 34, 0) r = -1 ∨ vp_in (W (14, 34, 0) r) 30) ∧ vp_in (W (16, 0, 0) 7) 31 ∧ vp_in (W (16, 0, 0) 15) 11 ∧ vp_in (W (16, 0, 0) 28) 201 ∧ vp_in (W (16, 0, 0) 29) 401 ∧ ∀ k, W (15, 3, 0) k = 0 ∨ W (15, 3, 0) k = 1
theorem isSub_in {W : rb_I} (hM : MI W) {s : Int32} (h : ¬ m_isSubscriber W s = 0) : vp_in s 10 := by
  have hv := hM.2.2.2.2.2.2.2.1
  refine in_of (high := W (16, 0, 0) 15 - 1) ?_ rfl h
  have h1 := vp_in_lt hv
  rw [vp_in_e hv]
  rw [show (1 : Int32) = nI 1 from rfl, pk_sub_toInt (by omega) (by decide)]
  omega
theorem cnt_le {x : Int32} {n : Nat} (h : vp_in x n) : x ≤ nI x.toNatClampNeg := by
  rw [← vp_in_e h]
  exact Int32.le_refl _
theorem cnt_nle {x : Int32} {n i : Nat} (h : vp_in x n) (hn : n < 2 ^ 31) (hi : i < x.toNatClampNeg) : ¬ x ≤ nI i := by
  have h1 := vp_in_lt h
  rw [vp_in_e h]
  exact nI_ge hi (by omega)
theorem mi_thr {W : rb_I} (v : Int32) (hM : MI W) : MI (up2 W (16, 0, 0) 0 v) := by
  unfold MI at *
  simpa [up2] using hM
def m_isAbroad (W : rb_I) (s : Int32) : Int32 := (if (W (14, 19, 0) s.toNatClampNeg) = (W (14, 16, 0) s.toNatClampNeg) then (0 : Int32) else (1 : Int32))
theorem z_m_isAbroad (W : rb_I) (s : Int32) : m_isAbroad W s = 0 ∨ m_isAbroad W s = 1 := by
  unfold m_isAbroad
  repeat' split
  all_goals first | exact Or.inl rfl | exact Or.inr rfl
def m_abroadOf (W : rb_I) (s : Int32) : Int32 := (if (W (14, 25, 0) s.toNatClampNeg) = ((W (16, 0, 0) 1) / (43200)) then (W (14, 26, 0) s.toNatClampNeg) else (0 : Int32))
def m_isAbove (W : rb_I) (s : Int32) (money : Int32) : Int32 := (if (m_isAbroad W s) = 0 then (0 : Int32) else (if (W (15, 23, 0) s.toNatClampNeg) = 0 then (if ((m_abroadOf W s) + money) ≤ (W (14, 22, 0) s.toNatClampNeg) then (0 : Int32) else (1 : Int32)) else (0 : Int32)))
theorem z_m_isAbove (W : rb_I) (s : Int32) (money : Int32) : m_isAbove W s money = 0 ∨ m_isAbove W s money = 1 := by
  unfold m_isAbove
  repeat' split
  all_goals first | exact Or.inl rfl | exact Or.inr rfl | exact z_m_isAbroad W s
def m_isOf (W : rb_I) (r : Int32) (visited : Int32) (its : Int32) : Int32 := (if (W (14, 31, 0) r.toNatClampNeg) = visited then (if (W (14, 30, 0) r.toNatClampNeg) = its then (1 : Int32) else (0 : Int32)) else (0 : Int32))
theorem z_m_isOf (W : rb_I) (r : Int32) (visited : Int32) (its : Int32) : m_isOf W r visited its = 0 ∨ m_isOf W r visited its = 1 := by
  unfold m_isOf
  repeat' split
  all_goals first | exact Or.inl rfl | exact Or.inr rfl
def m_nobody (W : rb_I) (s : Int32) (other : Int32) : Int32 := (if (W (14, 19, 0) s.toNatClampNeg) = (-1) then (1 : Int32) else (if (W (14, 21, 0) other.toNatClampNeg) = (-1) then (2 : Int32) else (if (W (14, 27, 0) (10 * (W (14, 21, 0) other.toNatClampNeg).toNatClampNeg + other.toNatClampNeg)) = (-1) then (3 : Int32) else (if (W (14, 19, 0) other.toNatClampNeg) = (W (14, 21, 0) other.toNatClampNeg) then (0 : Int32) else (4 : Int32)))))
def m_priceOf (W : rb_I) (a : Int32) (all : Int32) : Int32 := (if a = (-1) then (0 : Int32) else (if (W (14, 13, 0) a.toNatClampNeg) ≤ 0 then (W (14, 12, 0) a.toNatClampNeg) else (if all < (W (14, 13, 0) a.toNatClampNeg) then (W (14, 12, 0) a.toNatClampNeg) else (W (14, 14, 0) a.toNatClampNeg))))
def m_pays (W : rb_I) (s : Int32) (money : Int32) : rb_I := (if (m_isAbroad (up2 W (14, 24, 0) s.toNatClampNeg ((W (14, 24, 0) s.toNatClampNeg) + money)) s) = 0 then (up2 W (14, 24, 0) s.toNatClampNeg ((W (14, 24, 0) s.toNatClampNeg) + money)) else (up2 (up2 (up2 W (14, 24, 0) s.toNatClampNeg ((W (14, 24, 0) s.toNatClampNeg) + money)) (14, 26, 0) s.toNatClampNeg ((m_abroadOf (up2 W (14, 24, 0) s.toNatClampNeg ((W (14, 24, 0) s.toNatClampNeg) + money)) s) + money)) (14, 25, 0) s.toNatClampNeg ((W (16, 0, 0) 1) / (43200))))
def m_makesContact (W : rb_I) (s : Int32) : rb_I := (if (W (14, 6, 0) (W (14, 19, 0) s.toNatClampNeg).toNatClampNeg) ≤ 0 then (if (W (14, 21, 0) s.toNatClampNeg) = (-1) then (up2 (up2 W (14, 27, 0) (10 * (W (14, 19, 0) s.toNatClampNeg).toNatClampNeg + s.toNatClampNeg) (W (16, 0, 0) 1)) (14, 21, 0) s.toNatClampNeg (W (14, 19, 0) s.toNatClampNeg)) else (if (W (14, 21, 0) s.toNatClampNeg) = (W (14, 19, 0) s.toNatClampNeg) then (up2 (up2 W (14, 27, 0) (10 * (W (14, 19, 0) s.toNatClampNeg).toNatClampNeg + s.toNatClampNeg) (W (16, 0, 0) 1)) (14, 21, 0) s.toNatClampNeg (W (14, 19, 0) s.toNatClampNeg)) else (up2 (up2 (up2 W (14, 27, 0) (10 * (W (14, 19, 0) s.toNatClampNeg).toNatClampNeg + s.toNatClampNeg) (W (16, 0, 0) 1)) (14, 27, 0) (10 * (W (14, 21, 0) s.toNatClampNeg).toNatClampNeg + s.toNatClampNeg) (-1)) (14, 21, 0) s.toNatClampNeg (W (14, 19, 0) s.toNatClampNeg)))) else (up2 (up2 W (14, 27, 0) (10 * (W (14, 19, 0) s.toNatClampNeg).toNatClampNeg + s.toNatClampNeg) (W (16, 0, 0) 1)) (14, 6, 0) (W (14, 19, 0) s.toNatClampNeg).toNatClampNeg ((W (14, 6, 0) (W (14, 19, 0) s.toNatClampNeg).toNatClampNeg) - 1)))