/-! the class's shape -/
/-- a list: role (4, id, 0), its row (13, id, g), n elements -/
def xLS (G : rb_G) (id n : Nat) (el : Nat → rb_R) : Prop := (n = 0 ∧ gP G (4, id, 0) 1 = some (19, 0, 0) ∧ ∀ g, ¬ gD G (13, id, g)) ∨
  ∃ g L, gP G (4, id, 0) 1 = some (13, id, g) ∧ gN G (13, id, g) = L ∧ n ≤ L ∧ 0 < n ∧ 10 ≤ L ∧ (L ≤ 10 ∨ L ≤ 2 * n) ∧ gD G (13, id, g) ∧ (∀ g', g < g' → ¬ gD G (13, id, g')) ∧ (∀ k, k < n → gP G (13, id, g) k = some (el k)) ∧ ∀ k, n ≤ k → gP G (13, id, g) k = none
def xrl (k : Nat) : rb_R := [(1, 0, 0), (2, 0, 0), (3, 0, 0), (4, 0, 0), (4, 1, 0), (4, 2, 0)].getD k (0, 0, 0)
def agr (x : Int32) : Option rb_R := if x = -1 then none else some (10, x.toNatClampNeg, 0)
/-- what does not change but by new elements; cn: the lists' sizes, ag: the records' agreements -/
def xCS (G : rb_G) (cn : Nat → Nat) (ag : Nat → Nat → Int32) : Prop :=
  (∀ k, k < 6 → gP G (0, 0, 0) k = some (xrl k)) ∧ (∀ k, k < 6 → gP G (2, 0, 0) k = some (5, k, 0)) ∧ (∀ k, k < 36 → gP G (3, 0, 0) k = some (8, k, 0)) ∧
  (gN G (1, 0, 0) = 8 ∧ gN G (2, 0, 0) = 6 ∧ gN G (3, 0, 0) = 36) ∧ (∀ k, k < 6 → gP G (5, k, 0) 0 = some (6, k, 0) ∧ gP G (6, k, 0) 0 = some (7, k, 0) ∧ gN G (7, k, 0) = 10) ∧
  (∀ k, k < 36 → gP G (8, k, 0) 0 = some (4, 10 + k, 0)) ∧ xLS G 0 (cn 0) (fun j => (10, j, 0)) ∧ xLS G 1 (cn 1) (fun j => (9, j, 0)) ∧ xLS G 2 (cn 2) (fun j => (11, j, 0)) ∧
  (∀ k, k < 36 → xLS G (10 + k) (cn (10 + k)) (fun j => (12, k, j))) ∧ (∀ k j, k < 36 → j < cn (10 + k) → gP G (12, k, j) 2 = agr (ag k j) ∧ (ag k j = -1 ∨ vp_in (ag k j) (cn 0))) ∧
  (gD G (19, 0, 0) ∧ gD G (21, 0, 0)) ∧ (∀ j, cn 0 ≤ j → ¬ gD G (10, j, 0)) ∧ (∀ j, cn 1 ≤ j → ¬ gD G (9, j, 0)) ∧ (∀ j, cn 2 ≤ j → ¬ gD G (11, j, 0)) ∧ ∀ k j, k < 36 → cn (10 + k) ≤ j → ¬ gD G (12, k, j)
/-- the ranges of the class's ints -/
def xCI (W : rb_I) (cn : Nat → Nat) : Prop :=
  (∀ id, (id < 3 ∨ 10 ≤ id ∧ id < 46) → W (4, id, 0) 2 = nI (cn id)) ∧ (∀ s, vp_in (W (9, s, 0) 1) 6) ∧ (∀ s, vp_in (W (9, s, 0) 3) 8) ∧ (∀ s, at6 (W (9, s, 0) 4)) ∧ (∀ s, at6 (W (9, s, 0) 5)) ∧ (∀ n, at6 (W (5, n, 0) 2)) ∧
  (∀ s, s < cn 1 → W (9, s, 0) 0 = nI s) ∧ (∀ n, W (5, n, 0) 1 = 0 ∨ W (5, n, 0) 1 = 1) ∧ cn 0 ≤ 30 ∧ cn 1 ≤ 10 ∧ cn 2 ≤ 200 ∧ ∀ k, k < 36 → cn (10 + k) ≤ 400
theorem k_get0 (l : Launch) (X : rb_X) (G : rb_G) (W : rb_I) (id n j : Nat) (el : Nat → rb_R) (h : xLS G id n el) (hw : W (4, id, 0) 2 = nI n) (hj : j < n) (hn : n < 2 ^ 31) : rb_N l X yJx4a65c_get_915e3 (.code yJx4a65c_get_915e3 cJx4a65c_get_915e3 2 (some (.object "java/lang/Object"))) 3 55 0 0 [rbR (4, id, 0), rbI (nI j)] (wI G W) (fun v G' => v = some (rbR (el j)) ∧ G' = wI G W) := by
  rcases h with h | ⟨g, L, h1, h2, h3, -, -, -, -, -, h9, -⟩
  · omega
  · refine c_get l X (4, id, 0) (13, id, g) (nI j) (some (el j)) (wI G W) rfl (nI_pos (by omega)) (show nI j < W (4, id, 0) 2 by rw [hw]; exact nI_lt hj hn) h1 rfl (show vp_in (nI j) (gN G (13, id, g)) by rw [h2]; exact fun q => q.elim (fun q => nI_pos (show j < 2 ^ 31 by omega) q) (fun q => by rw [nI_clamp (show j < 2 ^ 31 by omega)] at q; omega)) ?_
    rw [nI_clamp (show j < 2 ^ 31 by omega)]
    exact h9 j hj
theorem k_get (l : Launch) (X : rb_X) (G : rb_G) (W : rb_I) (id n j : Nat) (i : Int32) (el : Nat → rb_R) (h : xLS G id n el) (hw : W (4, id, 0) 2 = nI n) (hi : i = nI j) (hj : j < n) (hn : n < 2 ^ 31) : rb_N l X yJx4a65c_get_915e3 (.code yJx4a65c_get_915e3 cJx4a65c_get_915e3 2 (some (.object "java/lang/Object"))) 3 55 0 0 [rbR (4, id, 0), rbI i] (wI G W) (fun v G' => v = some (rbR (el j)) ∧ G' = wI G W) := by
  subst hi
  exact k_get0 l X G W id n j el h hw hj hn
theorem k_size (l : Launch) (X : rb_X) (G : rb_G) (W : rb_I) (r : rb_R) (x : Int32) (hk : rb_k r.1 = 0) (hw : W r 2 = x) : rb_N l X yJx4a65c_size_8abf5 (.code yJx4a65c_size_8abf5 cJx4a65c_size_8abf5 1 (some .int)) 1 12 0 0 [rbR r] (wI G W) (fun v G' => v = some (rbI x) ∧ G' = wI G W) := by
  subst hw
  exact c_size l X r (wI G W) hk
/-- the exceptions' numbers -/
def xc (E : String) : Nat := if E = "java/lang/IndexOutOfBoundsException" then 1 else if E = "java/lang/IllegalArgumentException" then 2 else if E = "java/lang/IllegalStateException" then 3 else 9
theorem xc_1 : xc "java/lang/IndexOutOfBoundsException" = 1 := by decide +kernel
theorem xc_2 : xc "java/lang/IllegalArgumentException" = 2 := by decide +kernel
theorem xc_3 : xc "java/lang/IllegalStateException" = 3 := by decide +kernel
abbrev rb_U : Type := Nat × Int32 × rb_I
theorem pt_ {f : rb_U} {x : Int32} {w : rb_I} {G : rb_G} (h : f = (0, x, w)) : f.1 = 0 ∧ some (rbI x) = some (rbI f.2.1) ∧ wI G w = wI G f.2.2 := by rw [h]; exact ⟨rfl, rfl, rfl⟩
theorem pu_ {f : rb_U} {x : Int32} {w : rb_I} {G : rb_G} (h : f = (0, x, w)) : f.1 = 0 ∧ (none : Option rb_V) = none ∧ wI G w = wI G f.2.2 := by rw [h]; exact ⟨rfl, rfl, rfl⟩
theorem px_1 {f : rb_U} {x : Int32} {w : rb_I} {G : rb_G} (h : f = (1, x, w)) : f.1 = xc "java/lang/IndexOutOfBoundsException" ∧ wI G w = wI G f.2.2 := by rw [h, xc_1]; exact ⟨rfl, rfl⟩
theorem px_2 {f : rb_U} {x : Int32} {w : rb_I} {G : rb_G} (h : f = (2, x, w)) : f.1 = xc "java/lang/IllegalArgumentException" ∧ wI G w = wI G f.2.2 := by rw [h, xc_2]; exact ⟨rfl, rfl⟩
theorem px_3 {f : rb_U} {x : Int32} {w : rb_I} {G : rb_G} (h : f = (3, x, w)) : f.1 = xc "java/lang/IllegalStateException" ∧ wI G w = wI G f.2.2 := by rw [h, xc_3]; exact ⟨rfl, rfl⟩
theorem in_no {v low high : Int32} (h : v < low ∨ high < v) : m_in v low high = 0 := by
  unfold m_in
  rcases h with h | h
  · rw [if_pos h]
  · rw [if_pos h]
    split <;> rfl
theorem in_yes {v low high : Int32} (h1 : ¬ v < low) (h2 : ¬ high < v) : ¬ m_in v low high = 0 := by
  unfold m_in
  rw [if_neg h1, if_neg h2]
  decide
theorem lt_nle {x y : Int32} {a b : Int} (hb : y.toInt = b) (h : ¬ x < y) (ha : a < b) {z : Int32} (hz : z.toInt = a) : z < x := by
  rw [Int32.lt_iff_toInt_lt] at h ⊢
  omega
theorem lt_le {x y : Int32} {a b : Int} (hb : y.toInt = b) (h : x < y) (ha : b ≤ a + 1) {z : Int32} (hz : z.toInt = a) : ¬ z < x := by
  rw [Int32.lt_iff_toInt_lt] at h ⊢
  omega
theorem isNetwork_ne {x : Int32} (h : vp_in x 6) : ¬ m_isNetwork x = 0 := by
  have h1 := vp_in_lt h
  refine in_yes (vp_in_0 h) ?_
  rw [vp_in_e h, Int32.lt_iff_toInt_lt, nI_toInt (by omega), show (5 : Int32).toInt = 5 from rfl]
  omega
theorem isPlace_ne {x : Int32} (h : vp_in x 8) : ¬ m_isPlace x = 0 := by
  have h1 := vp_in_lt h
  refine in_yes (vp_in_0 h) ?_
  rw [vp_in_e h, Int32.lt_iff_toInt_lt, nI_toInt (by omega), show (7 : Int32).toInt = 7 from rfl]
  omega
theorem vp_in_c {x c : Int32} {n : Nat} (h : vp_in x n) (hn : n < 2 ^ 31) (hc : c = nI n) : x < c := by
  have h1 := vp_in_lt h
  rw [vp_in_e h, hc]
  exact nI_lt h1 hn
