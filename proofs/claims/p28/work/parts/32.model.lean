theorem rb_W.unset {Φ : rb_F} {cells slots pc : Nat} {Lv : List (Option rb_V)} {st : List rb_V} {G : rb_G} (k : Nat) (kk : rb_W Φ cells slots pc (Lv.set k none) st G) : rb_W Φ cells slots pc Lv st G := by
  refine rb_W.weak kk (Nat.le_refl _) (Nat.le_refl _) (List.length_set ..) (fun i v h => ?_)
  by_cases e : k = i
  · subst e
    rw [List.getElem?_set] at h
    simp at h
  · rwa [List.getElem?_set_ne e] at h
theorem cnt_lt {x : Int32} {n : Nat} (c : Int32) (h : vp_in x (n + 1)) (hc : c = nI n) (hne : ¬ x = c) (hn : n + 1 < 2 ^ 31) : vp_in x n := by
  have h1 := vp_in_lt h
  rw [vp_in_e h] at hne ⊢
  rw [hc] at hne
  refine vp_in_nI (Nat.lt_of_le_of_ne (by omega) fun q => hne (by rw [q])) (by omega)
theorem in_ne {x : Int32} {n : Nat} (h : vp_in x n) : ¬ x = -1 := fun q => vp_in_0 h (by rw [q]; decide)
theorem tw_out {x : Int32} (h0 : ¬ x = 0) (h1 : ¬ x = 1) (h2 : ¬ x = 2) (h3 : ¬ x = 3) (h4 : ¬ x = 4) (h5 : ¬ x = 5) : x.toInt < 0 ∨ 5 < x.toInt := by
  rcases Classical.em (x < 0) with h | h
  · exact Or.inl (by simpa using Int32.lt_iff_toInt_lt.mp h)
  · obtain ⟨j, hj, e⟩ := nI_of h
    subst e
    rw [nI_toInt hj]
    refine Or.inr ?_
    rcases (by omega : j = 0 ∨ j = 1 ∨ j = 2 ∨ j = 3 ∨ j = 4 ∨ j = 5 ∨ 5 < j) with rfl | rfl | rfl | rfl | rfl | rfl | h
    · exact absurd rfl h0
    · exact absurd rfl h1
    · exact absurd rfl h2
    · exact absurd rfl h3
    · exact absurd rfl h4
    · exact absurd rfl h5
    · omega
def m_agreement_b (W : rb_I) (its : Int32) (visited : Int32) (i : Nat) (s : Int32) : Int32 := (if (W (14, 8, 0) i) = its then (if (W (14, 9, 0) i) = visited then (if (W (16, 0, 0) 1) < (W (14, 10, 0) i) then s else (if (W (14, 11, 0) i) ≤ (W (16, 0, 0) 1) then s else (nI i))) else s) else s)
def m_agreement (W : rb_I) (its : Int32) (visited : Int32) : Int32 := (fo (m_agreement_b W its visited) (W (16, 0, 0) 7).toNatClampNeg ((-1) : Int32))
def m_empties_b (n : Int32) (i : Nat) (s : rb_I) : rb_I := (up2 s (14, 27, 0) (10 * n.toNatClampNeg + i) (-1))
def m_empties (W : rb_I) (n : Int32) : rb_I := (fo (m_empties_b n) 10 W)
def m_minutesOf_b (W : rb_I) (visited : Int32) (its : Int32) (what : Int32) (i : Nat) (s : Int32) : Int32 := (if (m_isOf W (nI i) visited its) = 0 then (s + 0) else (if (W (14, 35, 0) i) = what then (s + (W (14, 32, 0) i)) else (s + 0)))
def m_minutesOf (W : rb_I) (visited : Int32) (its : Int32) (what : Int32) : Int32 := (fo (m_minutesOf_b W visited its what) (W (16, 0, 0) 29).toNatClampNeg (0 : Int32))
def m_reason (W : rb_I) (s : Int32) (n : Int32) : Int32 := (if (m_isIn (W (14, 2, 0) (W (14, 17, 0) s.toNatClampNeg).toNatClampNeg) n) = 0 then (1 : Int32) else (if (W (15, 3, 0) n.toNatClampNeg) = 0 then (if (m_isIn (W (14, 18, 0) s.toNatClampNeg) n) = 0 then (if n = (W (14, 16, 0) s.toNatClampNeg) then (0 : Int32) else (if (m_agreement W (W (14, 16, 0) s.toNatClampNeg) n) = (-1) then (4 : Int32) else (0 : Int32))) else (3 : Int32)) else (2 : Int32)))
def m_isSteered (W : rb_I) (s : Int32) (n : Int32) : Int32 := (if (W (14, 4, 0) (W (14, 16, 0) s.toNatClampNeg).toNatClampNeg) = (-1) then (0 : Int32) else (if (W (14, 4, 0) (W (14, 16, 0) s.toNatClampNeg).toNatClampNeg) = n then (0 : Int32) else (if (m_reason W s (W (14, 4, 0) (W (14, 16, 0) s.toNatClampNeg).toNatClampNeg)) = 0 then (if (2 : Int32) ≤ (W (14, 20, 0) s.toNatClampNeg) then (0 : Int32) else (1 : Int32)) else (0 : Int32))))
theorem z_m_isSteered (W : rb_I) (s : Int32) (n : Int32) : m_isSteered W s n = 0 ∨ m_isSteered W s n = 1 := by
  unfold m_isSteered
  repeat' split
  all_goals first | exact Or.inl rfl | exact Or.inr rfl