/-! worlds by their ints alone -/
abbrev rb_I : Type := rb_R → Nat → Int32
def wI (G : rb_G) (W : rb_I) : rb_G := (gD G, gN G, W, gP G, gJ G)
theorem pv_ {f x : Int32} {G : rb_G} (h : f = x) : some (rbI x) = some (rbI f) ∧ G = G := by rw [h]; exact ⟨rfl, rfl⟩
theorem pw_ {f w : rb_I} {G : rb_G} (h : f = w) : (none : Option rb_V) = none ∧ wI G w = wI G f := by rw [h]; exact ⟨rfl, rfl⟩
theorem pp_ {f : Int32 × rb_I} {x : Int32} {w : rb_I} {G : rb_G} (h : f = (x, w)) : some (rbI x) = some (rbI f.1) ∧ wI G w = wI G f.2 := by rw [h]; exact ⟨rfl, rfl⟩
theorem pq_ {f : Int32 × rb_I} {x : Int32} {w : rb_I} (h : f = (x, w)) : f.1 = x ∧ f.2 = w := by rw [h]; exact ⟨rfl, rfl⟩
/-- n rounds of f, the first with 0 -/
def fo {α : Type} (f : Nat → α → α) (n : Nat) (a : α) : α := match n with
  | 0 => a
  | n + 1 => f n (fo f n a)
termination_by n
theorem fo_0 {α : Type} (f : Nat → α → α) (a : α) : fo f 0 a = a := by rw [fo]
theorem fo_s {α : Type} (f : Nat → α → α) (n : Nat) (a : α) : fo f (n + 1) a = f n (fo f n a) := by rw [fo]
theorem fo_inv {α : Type} {f : Nat → α → α} {P : α → Prop} {a : α} (h0 : P a) (hs : ∀ i a, P a → P (f i a)) (n : Nat) : P (fo f n a) := by
  induction n with
  | zero => rw [fo_0]; exact h0
  | succ n ih => rw [fo_s]; exact hs n _ ih
theorem fo_inv' {α : Type} {f : Nat → α → α} {P : Nat → α → Prop} {a : α} {N : Nat} (h0 : P 0 a) (hs : ∀ i, i < N → ∀ a, P i a → P (i + 1) (f i a)) (n : Nat) (h : n ≤ N) : P n (fo f n a) := by
  induction n with
  | zero => rw [fo_0]; exact h0
  | succ n ih => rw [fo_s]; exact hs n h _ (ih (Nat.le_of_succ_le h))
theorem vp_in_lt {x : Int32} {n : Nat} (h : vp_in x n) : x.toNatClampNeg < n := Nat.not_le.mp fun q => h (Or.inr q)
theorem vp_in_0 {x : Int32} {n : Nat} (h : vp_in x n) : ¬ x < 0 := fun q => h (Or.inl q)
theorem vp_in_e {x : Int32} {n : Nat} (h : vp_in x n) : x = nI x.toNatClampNeg := by
  obtain ⟨j, hj, e⟩ := nI_of (vp_in_0 h)
  rw [e, nI_clamp hj]
theorem vp_in_up {x : Int32} {n m : Nat} (h : vp_in x n) (hm : n ≤ m) : vp_in x m := fun q => h (q.elim Or.inl fun q => Or.inr (Nat.le_trans hm q))
theorem ix_lin {x y : Int32} {n m N : Nat} (k : Nat) (c : Int32) (hc : c = nI k) (hx : vp_in x n) (hy : vp_in y m) (hb : k * n + m ≤ N + k) (hN : N < 2 ^ 31) (hn : 0 < n) : vp_in (c * x + y) N ∧ (c * x + y).toNatClampNeg = k * x.toNatClampNeg + y.toNatClampNeg := by
  have h1 := vp_in_lt hx
  have h2 := vp_in_lt hy
  have h3 : k * x.toNatClampNeg + k ≤ k * n := by
    have := Nat.mul_le_mul_left k (show x.toNatClampNeg + 1 ≤ n from h1)
    rwa [Nat.mul_add, Nat.mul_one] at this
  have e : c * x + y = nI (k * x.toNatClampNeg + y.toNatClampNeg) := by
    conv => lhs; rw [hc, vp_in_e hx, vp_in_e hy]
    rw [pk_mul, nI_add]
  rw [e]
  exact ⟨vp_in_nI (by omega) hN, nI_clamp (by omega)⟩
section
variable {Φ : rb_F} {own : String} {cc : ByteArray} {nL fr lo mc ms cells slots pc : Nat} {Lv Lv' : List (Option rb_V)} {st : List rb_V} {G : rb_G} {W : rb_I}
theorem rw_getI (C : rb_C Φ own cc nL fr lo mc ms) {r : rb_R} {idx ci k : Nat} {x : Int32} (F : rb_FldR own idx ci k false) (hd : decode cc pc = .ok (.getfield idx, 3)) (hk : rb_k r.1 = ci) (hx : W r k = x) (kk : rb_W Φ cells slots (pc + 3) Lv (rbI x :: st) (wI G W)) : rb_W Φ cells slots pc Lv (rbR r :: st) (wI G W) := by
  subst hx
  exact rb_getI C F hd hk kk
theorem rw_getP (C : rb_C Φ own cc nL fr lo mc ms) {r : rb_R} {idx ci k : Nat} (F : rb_FldR own idx ci k true) (hd : decode cc pc = .ok (.getfield idx, 3)) (hk : rb_k r.1 = ci) {o : Option rb_R} (hv0 : gP G r k = o) (kk : rb_W Φ cells slots (pc + 3) Lv (rbO o :: st) (wI G W)) : rb_W Φ cells slots pc Lv (rbR r :: st) (wI G W) := rb_getP C F hd hk hv0 kk
theorem rw_putI (C : rb_C Φ own cc nL fr lo mc ms) {r : rb_R} {v : Int32} {idx ci k : Nat} {ty : FieldType} (F : rb_Fld own idx ci k false false ty) (hd : decode cc pc = .ok (.putfield idx, 3)) (hk : rb_k r.1 = ci) (hnf : narrow ty (.int v) = .int v ∧ fits ty (.int v) = true) (kk : rb_W Φ cells slots (pc + 3) Lv st (wI G (up2 W r k v))) : rb_W Φ cells slots pc Lv (rbI v :: rbR r :: st) (wI G W) := rb_putI C F hd hk hnf kk
theorem rw_iald (C : rb_C Φ own cc nL fr lo mc ms) {r : rb_R} {i x : Int32} (N j : Nat) (hd : decode cc pc = .ok (.iaload, 1)) (hk : rb_k r.1 = 10) (hN : gN G r = N) (hi : vp_in i N) (hj : i.toNatClampNeg = j) (hx : W r j = x) (kk : rb_W Φ cells slots (pc + 1) Lv (rbI x :: st) (wI G W)) : rb_W Φ cells slots pc Lv (rbI i :: rbR r :: st) (wI G W) := by
  subst hx
  subst hj
  subst hN
  exact rb_iald C hd hk hi kk
theorem rw_iast (C : rb_C Φ own cc nL fr lo mc ms) {r : rb_R} {i x : Int32} (N j : Nat) (hd : decode cc pc = .ok (.iastore, 1)) (hk : rb_k r.1 = 10) (hN : gN G r = N) (hi : vp_in i N) (hj : i.toNatClampNeg = j) (kk : rb_W Φ cells slots (pc + 1) Lv st (wI G (up2 W r j x))) : rb_W Φ cells slots pc Lv (rbI x :: rbI i :: rbR r :: st) (wI G W) := by
  subst hj
  subst hN
  exact rb_iast C hd hk hi kk
theorem rw_alen (C : rb_C Φ own cc nL fr lo mc ms) {r : rb_R} {k : Nat} {x : Int32} (N : Nat) (hd : decode cc pc = .ok (.arraylength, 1)) (hk : rb_k r.1 = k) (h1 : k = 10 ∨ 12 < k) (h2 : k < 16) (hN : gN G r = N) (hx : nI N = x) (kk : rb_W Φ cells slots (pc + 1) Lv (rbI x :: st) (wI G W)) : rb_W Φ cells slots pc Lv (rbR r :: st) (wI G W) := by
  subst hx
  subst hN
  exact rb_alen C hd hk h1 h2 kk
theorem rw_aald (C : rb_C Φ own cc nL fr lo mc ms) {r : rb_R} {i : Int32} {k : Nat} (N j : Nat) (hd : decode cc pc = .ok (.aaload, 1)) (hk : rb_k r.1 = k) (h1 : 12 < k) (h2 : k < 16) (hN : gN G r = N) (hi : vp_in i N) (hj : i.toNatClampNeg = j) {o : Option rb_R} (hv0 : gP G r j = o) (kk : rb_W Φ cells slots (pc + 1) Lv (rbO o :: st) (wI G W)) : rb_W Φ cells slots pc Lv (rbI i :: rbR r :: st) (wI G W) := by
  subst hj
  subst hN
  exact rb_aald C hd hk h1 h2 hi hv0 kk
end
theorem nz_ {x : Int32} (h : x = 0 ∨ x = 1) : narrow .boolean (.int x) = .int x := by
  rcases h with rfl | rfl <;> rfl
/-- the law's rows: g x b a r m t p w f -/
def llen (f : Nat) : Nat := [44, 48, 36, 60, 60, 60, 60, 60, 60, 48].getD f 0
def MS (G : rb_G) : Prop := ∀ f, f < 10 → gN G (14, f, 0) = llen f
