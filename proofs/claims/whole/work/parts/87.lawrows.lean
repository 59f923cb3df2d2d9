/-! the law's own loop, a case a theorem -/
def rb_Scr (Φ : rb_F) (b L : Nat) (xs : Nat → Int32) : Prop := match Φ with
  | (_, _, _, _, s, _, _, _, _, _, _, X, A, _, _) => va_X b L xs s s.heap ∧ b < s.heap.size ∧ ¬ A b ∧ X.2.2.2.1 = b
section
variable {Φ : rb_F} {own : String} {cc : ByteArray} {nL fr lo mc ms cells slots pc : Nat} {Lv : List (Option rb_V)} {st : List rb_V} {G : rb_G}
theorem rb_slen (C : rb_C Φ own cc nL fr lo mc ms) {b L : Nat} {xs : Nat → Int32} (hs : rb_Scr Φ b L xs) (hd : decode cc pc = .ok (.arraylength, 1)) (kk : rb_W Φ cells slots (pc + 1) Lv (rbI (nI L) :: st) G) : rb_W Φ cells slots pc Lv (rbR (18, 0, 0) :: st) G := by
  obtain ⟨p, l, e, R, s, m, args, below, meth, c, Q, X, A, ad0, G0⟩ := Φ
  intro ad H locs ls hP hn hS hl ho hv
  obtain ⟨s1, s2, s3, s4⟩ := hs
  have hb : ad (18, 0, 0) = b := hP.2.2.2.2.1.trans s4
  have h := kk ad H locs ls hP hn hS hl (ho.tl.cons (rb_ok_i _ _)) hv
  show W p l e R s m args below meth c H locs cells slots Q (F0 m pc ls (.ref (ad (18, 0, 0)) :: st.map (rb_c ad)))
  rw [hb]
  exact va_slen C.1 C.2.1 s1 s2 s3 hS hd h
theorem rb_sld (C : rb_C Φ own cc nL fr lo mc ms) {b L : Nat} {xs : Nat → Int32} (hs : rb_Scr Φ b L xs) {i : Int32} (hi : vp_in i L) (hd : decode cc pc = .ok (.iaload, 1)) (kk : rb_W Φ cells slots (pc + 1) Lv (rbI (xs i.toNatClampNeg) :: st) G) : rb_W Φ cells slots pc Lv (rbI i :: rbR (18, 0, 0) :: st) G := by
  obtain ⟨p, l, e, R, s, m, args, below, meth, c, Q, X, A, ad0, G0⟩ := Φ
  intro ad H locs ls hP hn hS hl ho hv
  obtain ⟨s1, s2, s3, s4⟩ := hs
  have hb : ad (18, 0, 0) = b := hP.2.2.2.2.1.trans s4
  have h := kk ad H locs ls hP hn hS hl (ho.tl.tl.cons (rb_ok_i _ _)) hv
  show W p l e R s m args below meth c H locs cells slots Q (F0 m pc ls (.int i :: .ref (ad (18, 0, 0)) :: st.map (rb_c ad)))
  rw [hb]
  exact va_sld C.1 C.2.1 s1 s2 s3 hS hi hd h
theorem rb_sldk (C : rb_C Φ own cc nL fr lo mc ms) {b L : Nat} {xs : Nat → Int32} (hs : rb_Scr Φ b L xs) {i k : Nat} {v : Int32} (hv : v = nI k) (hk : k < 8) (hi : i + 8 ≤ L) (hL : L ≤ 4096) (hd : decode cc pc = .ok (.iaload, 1)) (kk : rb_W Φ cells slots (pc + 1) Lv (rbI (xs (i + k)) :: st) G) : rb_W Φ cells slots pc Lv (rbI (nI i + v) :: rbR (18, 0, 0) :: st) G := by
  subst hv
  rw [nI_add]
  refine rb_sld C hs (vp_in_nI (by omega) (by omega)) hd ?_
  rw [nI_clamp (by omega)]
  exact kk
theorem rb_sld0 (C : rb_C Φ own cc nL fr lo mc ms) {b L : Nat} {xs : Nat → Int32} (hs : rb_Scr Φ b L xs) {i : Nat} (hi : i + 8 ≤ L) (hL : L ≤ 4096) (hd : decode cc pc = .ok (.iaload, 1)) (kk : rb_W Φ cells slots (pc + 1) Lv (rbI (xs i) :: st) G) : rb_W Φ cells slots pc Lv (rbI (nI i) :: rbR (18, 0, 0) :: st) G := by
  refine rb_sld C hs (vp_in_nI (by omega) (by omega)) hd ?_
  rw [nI_clamp (by omega)]
  exact kk
end
def zb (v : Int32) : Int32 := if v = 0 then 0 else 1
theorem zb_01 (v : Int32) : zb v = 0 ∨ zb v = 1 := by
  unfold zb
  split
  · exact Or.inl rfl
  · exact Or.inr rfl
/-- what holds between two calls of the law -/
def lI (G : rb_G) (W : rb_I) (cn : Nat → Nat) (ag : Nat → Nat → Int32) : Prop := xCS G cn ag ∧ MS G ∧ gN G (17, 0, 0) = 1 ∧ ∃ t R, sx W W cn ag t R
def LV (i : Nat) : List (Option rb_V) := [some (rbR (18, 0, 0)), some (rbR (0, 0, 0)), some (rbR (16, 0, 0)), some (rbR (17, 0, 0)), some (rbI (nI i)), none, none]
theorem sx_w {W M : rb_I} {cn : Nat → Nat} {ag : Nat → Nat → Int32} {t R : Nat} (h : sx W W cn ag t R) (hf : xf W M) : sx W M cn ag t R := sx_c h (fun _ _ _ _ => rfl) (am_of hf)
theorem sx_hr {C M : rb_I} {cn : Nat → Nat} {ag : Nat → Nat → Int32} {t R : Nat} (h : sx C M cn ag t R) : cn 2 < 200 → ∀ k, k < 36 → cn (10 + k) ≤ 398 := fun h2 k hk => by
  have h1 := h.1.2.2.2.2.2.2.2.2.2.2.2.1 k hk
  have h3 := rc_le M k R
  have h4 := h.2.2.1
  omega
theorem sx_hm {C M : rb_I} {cn : Nat → Nat} {ag : Nat → Nat → Int32} {t R : Nat} (h : sx C M cn ag t R) : ¬ M (16, 0, 0) 28 = 200 → vp_in (M (16, 0, 0) 29) 399 := fun h2 => by
  have h4 := h.2.2.1
  have hc := h.1.1.2.2.2.2.2.2.2.2.2.2.1
  rw [h.2.1] at h2
  rw [h.1.2.2.2.1.2.2]
  have : cn 2 ≠ 200 := fun q => h2 (by rw [q]; rfl)
  exact vp_in_nI (by omega) (by decide)
theorem sq_3z {n : Nat} (h : n < 4) (hz : sq_3 n = 0) : n = 0 := by
  rcases (by omega : n = 0 ∨ n = 1 ∨ n = 2 ∨ n = 3) with rfl | rfl | rfl | rfl
  · rfl
  · exact absurd hz (by decide)
  · exact absurd hz (by decide)
  · exact absurd hz (by decide)
theorem sq_2z {n : Nat} (h : n = 0 ∨ n = 1 ∨ n = 3) (hz : sq_2 n = 0) : n = 0 := by
  rcases h with rfl | rfl | rfl
  · rfl
  · exact absurd hz (by decide)
  · exact absurd hz (by decide)
theorem sq_1z {n : Nat} (h : n = 0 ∨ n = 2 ∨ n = 3) (hz : sq_1 n = 0) : n = 0 := by
  rcases h with rfl | rfl | rfl
  · rfl
  · exact absurd hz (by decide)
  · exact absurd hz (by decide)
