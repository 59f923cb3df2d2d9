/-! a list grows -/
def xRel (G G1 : rb_G) (W W1 : rb_I) (id n : Nat) : Prop :=
  (∀ r, r.1 ≠ 13 → (gD G1 r ↔ gD G r) ∧ gN G1 r = gN G r) ∧ (∀ r, r.1 = 13 → r.2.1 ≠ id → (gD G1 r ↔ gD G r) ∧ gN G1 r = gN G r ∧ ∀ q, gP G1 r q = gP G r q) ∧
  (∀ r q, r.1 ≠ 13 → ¬ (r = (4, id, 0) ∧ q = 1) → gP G1 r q = gP G r q) ∧ ∀ r q, r.1 ≠ 13 → ¬ (r = (4, id, 0) ∧ q = 0) → W1 r q = up2 W (4, id, 0) 2 (nI (n + 1)) r q
theorem xne {r : rb_R} {a b : Nat} (h : r.1 ≠ 13) : ¬ r = (13, a, b) := fun e => h (by rw [e])
theorem xne2 {r : rb_R} {id b : Nat} (h : r.2.1 ≠ id) : ¬ r = (13, id, b) := fun e => h (by rw [e])
theorem xne4 {r : rb_R} {id : Nat} (h : r.1 = 13) : ¬ r = (4, id, 0) := fun e => by rw [e] at h; exact absurd h (show ¬ ((4 : Nat) = 13) by decide)
/-- room left -/
theorem xadd_a {G : rb_G} {W : rb_I} {id n g : Nat} {v : rb_R} {el : Nat → rb_R} {x : Int32} {G1 : rb_G} (e : G1 = sI (sP (sI (wI G W) (4, id, 0) 0 x) (13, id, g) n (some v)) (4, id, 0) 2 (nI (n + 1))) (hp : gP G (4, id, 0) 1 = some (13, id, g)) {L : Nat} (hgN : gN G (13, id, g) = L) (hnL : n < L) (hL10 : 10 ≤ L) (hL2 : L ≤ 10 ∨ L ≤ 2 * n) (hgD : gD G (13, id, g)) (hgf : ∀ g', g < g' → ¬ gD G (13, id, g'))
    (hk : ∀ k, k < n → gP G (13, id, g) k = some (el k)) (hnone : ∀ k, n ≤ k → gP G (13, id, g) k = none) : xRel G G1 W (gI G1) id n ∧ xLS G1 id (n + 1) (fun k => if k = n then v else el k) := by
  have eP : ∀ r q, gP G1 r q = up2 (gP G) (13, id, g) n (some v) r q := fun r q => by rw [e]; rfl
  have eD : gD G1 = gD G := by rw [e]; rfl
  have eN : gN G1 = gN G := by rw [e]; rfl
  have eI : ∀ r q, gI G1 r q = up2 (up2 W (4, id, 0) 0 x) (4, id, 0) 2 (nI (n + 1)) r q := fun r q => by rw [e]; rfl
  refine ⟨⟨fun r hr => ⟨by rw [eD], by rw [eN]⟩, fun r h1 h2 => ⟨by rw [eD], by rw [eN], fun q => ?_⟩, fun r q h1 h2 => ?_, fun r q h1 h2 => ?_⟩, Or.inr ⟨g, L, ?_, ?_, by omega, by omega, hL10, by omega, ?_, ?_, fun k hk9 => ?_, fun k hk9 => ?_⟩⟩
  · rw [eP, up2_n _ _ _ _ (fun q9 => xne2 h2 q9.1)]
  · rw [eP, up2_n _ _ _ _ (fun q9 => xne h1 q9.1)]
  · rw [eI]
    by_cases h3 : r = (4, id, 0) ∧ q = 2
    · obtain ⟨rfl, rfl⟩ := h3
      rw [up2_s, up2_s]
    · rw [up2_n _ _ _ _ h3, up2_n _ _ _ _ h3, up2_n _ _ _ _ h2]
  · rw [eP, up2_n _ _ _ _ (fun q9 => absurd (congrArg Prod.fst q9.1) (show ¬ ((4 : Nat) = 13) by decide))]
    exact hp
  · rw [eN]; exact hgN
  · rw [eD]; exact hgD
  · rw [eD]; exact hgf
  · rw [eP]
    by_cases h3 : k = n
    · subst h3
      rw [up2_s]
      simp
    · rw [up2_n _ _ _ _ (fun q9 => h3 q9.2), hk k (by omega)]
      simp [h3]
  · rw [eP, up2_n _ _ _ _ (fun q9 => by omega)]
    exact hnone k (by omega)
/-- a new row -/
theorem xadd_b {G : rb_G} {W : rb_I} {id n g1 N : Nat} {v : rb_R} {el : Nat → rb_R} {x : Int32} {f : Nat → Option rb_R} {G1 : rb_G} (eP : ∀ r q, gP G1 r q = up2 (up2 (fun y k => if y = (13, id, g1) then f k else gP G y k) (4, id, 0) 1 (some (13, id, g1))) (13, id, g1) n (some v) r q) (eD : ∀ r, gD G1 r = (r = (13, id, g1) ∨ gD G r)) (eN : ∀ r, gN G1 r = if r = (13, id, g1) then N else gN G r)
    (eI : ∀ r q, gI G1 r q = up2 (fun y k => if y = (13, id, g1) then 0 else up2 W (4, id, 0) 0 x y k) (4, id, 0) 2 (nI (n + 1)) r q) (hnN : n < N) (hN10 : 10 ≤ N) (hN2 : N ≤ 10 ∨ N ≤ 2 * (n + 1)) (hgf : ∀ g', g1 < g' → ¬ gD G (13, id, g')) (hk : ∀ k, k < n → f k = some (el k)) (hnone : ∀ k, n ≤ k → f k = none) : xRel G G1 W (gI G1) id n ∧ xLS G1 id (n + 1) (fun k => if k = n then v else el k) := by
  have e413 : ¬ ((4, id, 0) : rb_R) = (13, id, g1) := fun q9 => absurd (congrArg Prod.fst q9) (show ¬ ((4 : Nat) = 13) by decide)
  have e134 : ∀ a, ¬ ((13, id, a) : rb_R) = (4, id, 0) := fun a q9 => absurd (congrArg Prod.fst q9) (show ¬ ((13 : Nat) = 4) by decide)
  refine ⟨⟨fun r hr => ⟨?_, ?_⟩, fun r h1 h2 => ⟨?_, ?_, fun q => ?_⟩, fun r q h1 h2 => ?_, fun r q h1 h2 => ?_⟩, Or.inr ⟨g1, N, ?_, ?_, by omega, by omega, hN10, hN2, ?_, fun g' hg => ?_, fun k hk9 => ?_, fun k hk9 => ?_⟩⟩
  · rw [eD]; exact ⟨fun q => q.resolve_left (xne hr), Or.inr⟩
  · rw [eN, if_neg (xne hr)]
  · rw [eD]; exact ⟨fun q => q.resolve_left (xne2 h2), Or.inr⟩
  · rw [eN, if_neg (xne2 h2)]
  · rw [eP, up2_n _ _ _ _ (fun q9 => xne2 h2 q9.1), up2_n _ _ _ _ (fun q9 => xne4 h1 q9.1), if_neg (xne2 h2)]
  · rw [eP, up2_n _ _ _ _ (fun q9 => xne h1 q9.1), up2_n _ _ _ _ h2, if_neg (xne h1)]
  · rw [eI]
    by_cases h3 : r = (4, id, 0) ∧ q = 2
    · obtain ⟨rfl, rfl⟩ := h3
      rw [up2_s, up2_s]
    · rw [up2_n _ _ _ _ h3, up2_n _ _ _ _ h3, if_neg (xne h1), up2_n _ _ _ _ h2]
  · rw [eP, up2_n _ _ _ _ (fun q9 => e413 q9.1), up2_s]
  · rw [eN, if_pos rfl]
  · rw [eD]; exact Or.inl rfl
  · rw [eD]
    intro q
    rcases q with q | q
    · have := congrArg (fun r : rb_R => r.2.2) q
      have h9 : g' = g1 := this
      omega
    · exact hgf g' hg q
  · rw [eP]
    by_cases h3 : k = n
    · subst h3
      rw [up2_s]
      simp
    · rw [up2_n _ _ _ _ (fun q9 => h3 q9.2), up2_n _ _ _ _ (fun q9 => e134 _ q9.1), if_pos rfl, hk k (by omega)]
      simp [h3]
  · rw [eP, up2_n _ _ _ _ (fun q9 => by omega), up2_n _ _ _ _ (fun q9 => e134 _ q9.1), if_pos rfl]
    exact hnone k (by omega)

section
variable {Φ : rb_F} {own : String} {cc : ByteArray} {nL fr lo mc ms cells slots pc : Nat} {Lv : List (Option rb_V)} {rest : List rb_V} {G : rb_G}
theorem rb_add (C : rb_C Φ own cc nL fr lo mc ms) {idx : Nat} {W : rb_I} {id n ci : Nat} {el : Nat → rb_R} {v : rb_R} (F : rb_Vc own idx RJx4a65c yJx4a65c_add_9ea2d cJx4a65c_add_9ea2d 2 (some .boolean) 1) (hd : decode cc pc = .ok (.invokevirtual idx, 3)) (h : xLS G id n el) (hw : W (4, id, 0) 2 = nI n) (hn : n < 450) (hkv : rb_k v.1 = ci) (hfit : rb_fit2 13 ci)
    (hel : ∀ k, k < n → rb_k (el k).1 = 2 ∨ rb_k (el k).1 = 7 ∨ rb_k (el k).1 = 4 ∨ rb_k (el k).1 = 5) (hE : gD G (19, 0, 0)) (hM : gD G (21, 0, 0)) (hlen : Lv.length = nL) (hcat : (rest.map rb_cat).sum ≤ 8) (hfr : 7 ≤ fr) (hlo : 155 ≤ lo) (hc : cells + 1 ≤ mc) (hs : slots + 700 ≤ ms)
    (kk : ∀ G1 W1, xRel G G1 W W1 id n → xLS G1 id (n + 1) (fun k => if k = n then v else el k) → rb_W Φ (cells + 1) (slots + 700) (pc + 3) Lv (rbI 1 :: rest) (wI G1 W1)) : rb_W Φ cells slots pc Lv (rbR v :: rbR (4, id, 0) :: rest) (wI G W) := by
  have fin : ∀ (G1 : rb_G) (c s : Nat), c ≤ 1 → s ≤ 700 → xRel G G1 W (gI G1) id n ∧ xLS G1 id (n + 1) (fun k => if k = n then v else el k) → rb_W Φ (cells + c) (slots + s) (pc + 3) Lv (rbI 1 :: rest) G1 := fun G1 c s h1 h2 h3 => rb_W.room (kk G1 (gI G1) h3.1 h3.2) (by omega) (by omega)
  rcases h with ⟨h0, hp, hfr0⟩ | ⟨g, L, hp, hgN, hnL, h0, hL10, hL2, hgD, hgf, hk, hnone⟩
  · subst h0
    refine rb_callV C F (fun l X => (c_add1A l X (4, id, 0) v (13, id, 0) ci (wI G W) _ rfl rfl rfl (hfr0 0) hkv hfit hp hw hE).m) rfl (Nat.le_of_ble_eq_true rfl) rfl hd rfl rfl hlen hcat ⟨by omega, by omega⟩ (by omega) (by omega) (fun v9 G' hp9 => ?_) (fun _ _ hp => hp.elim)
    obtain ⟨rfl, e9⟩ := hp9
    refine fin G' 1 10 (by omega) (by omega) (xadd_b (f := fun _ => none) (g1 := 0) (N := 10) (x := W (4, id, 0) 0 + 1) (fun r q => by rw [e9]; rfl) (fun r => by rw [e9]; rfl) (fun r => by rw [e9]; rfl) (fun r q => by rw [e9]; rfl) (by omega) (by omega) (Or.inl (by omega)) (fun g' _ => hfr0 g') (fun k hk => by omega) (fun _ _ => rfl))
  · by_cases hlt : n < L
    · refine rb_callV C F (fun l X => (c_add1a l X (4, id, 0) v (13, id, g) ci n L (wI G W) hp hw _ rfl rfl rfl hkv hfit hgN hlt (by omega)).m) rfl (Nat.le_of_ble_eq_true rfl) rfl hd rfl rfl hlen hcat ⟨by omega, by omega⟩ (by omega) (by omega) (fun v9 G' hp9 => ?_) (fun _ _ hp => hp.elim)
      obtain ⟨rfl, e9⟩ := hp9
      exact fin G' 0 0 (by omega) (by omega) (xadd_a e9 hp hgN hlt hL10 hL2 hgD hgf hk hnone)
    · have hnL' : n = L := by omega
      subst hnL'
      have hN9 : n + (if 1 < n / 2 then n / 2 else 1) ≤ 700 ∧ n < n + (if 1 < n / 2 then n / 2 else 1) ∧ n + (if 1 < n / 2 then n / 2 else 1) ≤ 2 * (n + 1) := by split <;> omega
      refine rb_callV C F (fun l X => (c_add1B l X (4, id, 0) v (13, id, g) (13, id, g + 1) ci n _ 700 (wI G W) _ rfl rfl rfl rfl (hgf (g + 1) (by omega)) hgD hgN h0 hkv hfit hw rfl (by omega) hN9.1 (fun i hi y hy => by rw [show gP (wI G W) (13, id, g) i = gP G (13, id, g) i from rfl, hk i hi] at hy; cases hy; exact hel i hi) hM hp).m) rfl (Nat.le_of_ble_eq_true rfl) rfl hd rfl rfl hlen hcat ⟨by omega, by omega⟩ (by omega) (by omega) (fun v9 G' hp9 => ?_) (fun _ _ hp => hp.elim)
      obtain ⟨rfl, e9⟩ := hp9
      refine fin G' 1 700 (by omega) (by omega) (xadd_b (f := fun j => if j < n then gP G (13, id, g) j else none) (g1 := g + 1) (N := n + (if 1 < n / 2 then n / 2 else 1)) (x := W (4, id, 0) 0 + 1) (fun r q => ?_) (fun r => by rw [e9]; rfl) (fun r => by rw [e9]; rfl) (fun r q => by rw [e9]; rfl) hN9.2.1 (by omega) (Or.inr hN9.2.2) (fun g' hg => hgf g' (by omega)) (fun k hk9 => by rw [if_pos hk9]; exact hk k hk9) (fun k hk9 => if_neg (by omega)))
      rw [e9]
      show up2 (up2 (fun y k => if y = (13, id, g + 1) then (if k < n then gP G (13, id, g) k else none) else if y = (13, id, g + 1) then none else gP G y k) (4, id, 0) 1 (some (13, id, g + 1))) (13, id, g + 1) n (some v) r q = _
      congr 2
      funext y k
      by_cases h9 : y = (13, id, g + 1) <;> simp [h9]
end
