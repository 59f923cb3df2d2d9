theorem tb_out {x : Int32} (h : ∀ j, j < 24 → x ≠ nI j) : x.toInt < 0 ∨ 23 < x.toInt := by
  rcases Classical.em (x < 0) with q | q
  · exact Or.inl (by simpa using Int32.lt_iff_toInt_lt.mp q)
  · obtain ⟨j, hj, e⟩ := nI_of q
    refine Or.inr ?_
    rw [e, nI_toInt hj]
    have : ¬ j < 24 := fun z => h j z e
    omega

section
variable {W M : rb_I} {S A R P t d : Nat}
theorem e_call6 (hl : lx W M S A R P t d) : m_call M 6 0 0 = (0, up2 M (16, 0, 0) 0 1) := by
  have hb := lr_b hl
  have e : m_isSubscriber M 6 = 0 := by
    unfold m_isSubscriber
    rw [lm_S hl, show (6 : Int32) = nI 6 from rfl]
    exact sub_nlt (by omega) (Or.inr (nI_nlt hb.1 (by decide)))
  rw [m_call_e, if_pos e]
theorem e_reach8 (hl : lx W M S A R P t d) : m_reach M 8 0 = (0, up2 M (16, 0, 0) 0 1) := by
  unfold m_reach
  rw [if_pos (show m_isPlace 8 = 0 by decide)]
theorem c_call6 (l : Launch) (X : rb_X) (G : rb_G) (W M : rb_I) (h : LI G W M) {W9 : rb_I} {S A R P t d : Nat} (hl : lx W9 M S A R P t d)  : rb_N l X yL_call (.codeWith yL_call cL_call 6 (some .int) [(0, 9, 12, 14), (0, 9, 18, 16), (0, 9, 24, 26)]) 9 208 12 2200 [rbR (0, 0, 0), rbI 6, rbI 0, rbI 0] (wI G W) (fun v9 G9 => PK (-7100) (up2 M (16, 0, 0) 0 1) W v9 G9) := by
  refine (rk_call l X G W M h 6 0 0).imp (fun v9 G9 hpp => ?_)
  rw [e_call6 hl] at hpp
  rw [show mr3 (_, up2 M (16, 0, 0) 0 1) = -7100 from mr3_1' (up2_s _ _ _ _)] at hpp
  exact hpp
theorem c_reach8 (l : Launch) (X : rb_X) (G : rb_G) (W M : rb_I) (h : LI G W M) {W9 : rb_I} {S A R P t d : Nat} (hl : lx W9 M S A R P t d)  : rb_N l X yL_reach (.codeWith yL_reach cL_reach 5 (some .int) [(0, 7, 10, 14), (0, 7, 16, 16)]) 9 157 12 72 [rbR (0, 0, 0), rbI 8, rbI 0] (wI G W) (fun v9 G9 => PK (-7100) (up2 M (16, 0, 0) 0 1) W v9 G9) := by
  refine (rk_reach l X G W M h 8 0).imp (fun v9 G9 hpp => ?_)
  rw [e_reach8 hl] at hpp
  rw [show mr3 (_, up2 M (16, 0, 0) 0 1) = -7100 from mr3_1' (up2_s _ _ _ _)] at hpp
  exact hpp
end

def LVt (k : Nat) : List (Option rb_V) := [some (rbR (18, 0, 0)), some (rbR (0, 0, 0)), some (rbR (14, 0, 0)), some (rbR (14, 1, 0)), some (rbR (14, 2, 0)), some (rbR (14, 3, 0)), some (rbR (14, 4, 0)), some (rbR (14, 5, 0)), some (rbR (14, 6, 0)), some (rbR (14, 7, 0)), some (rbR (14, 8, 0)), some (rbR (14, 9, 0)), some (rbI (nI k)), none, none, none, none, none, none, none, none, none, none, none, none, none, none, none, none, none, none, none, none, none, none, none, none, none, none, none, none, none, none, none, none, none, none, none, none, none, none, none, none, none]
set_option maxRecDepth 100000 in
set_option maxHeartbeats 4000000 in
theorem law_step {Φ : rb_F} {cells slots : Nat} (C : rb_C Φ RL cL_law 54 15 568 734644 6897897) (hc : cells + 90 ≤ 734644) (hsl : slots + 2600 ≤ 6897897) {G : rb_G} {W M : rb_I} (hL : LI G W M) {S A R P t d : Nat} (hl : lx W M S A R P t d) (x v u : Int32) (k n i j : Nat) (hk : k < 140) (hn : n < 6) (hi : i < S ∨ S = 0 ∧ i = 0) (hj : j < S ∨ S = 0 ∧ j = 0) (kk : ∀ G' W' M', lJ G' W' M' → rb_W Φ (cells + 90) (slots + 2600) 3288 (LVE k v u) [] (wI G' W')) : rb_W Φ cells slots 290 (LV0 k v u n i j) [rbI x] (wI G W) := by
  rcases Classical.em (x = 0) with q0 | q0
  · refine rb_tableIn C 400 dL_law_290 (by rw [q0]; decide) (by rw [q0]; decide) (off := 110) (by rw [q0]; rfl) (by decide) ?_
    exact law_0 C hc hsl hL hl v u k n i j hk hn hi hj kk
  rcases Classical.em (x = 1) with q1 | q1
  · refine rb_tableIn C 554 dL_law_290 (by rw [q1]; decide) (by rw [q1]; decide) (off := 264) (by rw [q1]; rfl) (by decide) ?_
    exact law_1 C hc hsl hL hl v u k n i j hk hn hi hj kk
  rcases Classical.em (x = 2) with q2 | q2
  · refine rb_tableIn C 716 dL_law_290 (by rw [q2]; decide) (by rw [q2]; decide) (off := 426) (by rw [q2]; rfl) (by decide) ?_
    exact law_2 C hc hsl hL hl v u k n i j hk hn hi hj kk
  rcases Classical.em (x = 3) with q3 | q3
  · refine rb_tableIn C 716 dL_law_290 (by rw [q3]; decide) (by rw [q3]; decide) (off := 426) (by rw [q3]; rfl) (by decide) ?_
    exact law_2 C hc hsl hL hl v u k n i j hk hn hi hj kk
  rcases Classical.em (x = 4) with q4 | q4
  · refine rb_tableIn C 1008 dL_law_290 (by rw [q4]; decide) (by rw [q4]; decide) (off := 718) (by rw [q4]; rfl) (by decide) ?_
    exact law_4 C hc hsl hL hl v u k n i j hk hn hi hj kk
  rcases Classical.em (x = 5) with q5 | q5
  · refine rb_tableIn C 1100 dL_law_290 (by rw [q5]; decide) (by rw [q5]; decide) (off := 810) (by rw [q5]; rfl) (by decide) ?_
    exact law_5 C hc hsl hL hl v u k n i j hk hn hi hj kk
  rcases Classical.em (x = 6) with q6 | q6
  · refine rb_tableIn C 1189 dL_law_290 (by rw [q6]; decide) (by rw [q6]; decide) (off := 899) (by rw [q6]; rfl) (by decide) ?_
    exact law_6 C hc hsl hL hl v u k n i j hk hn hi hj kk
  rcases Classical.em (x = 7) with q7 | q7
  · refine rb_tableIn C 1234 dL_law_290 (by rw [q7]; decide) (by rw [q7]; decide) (off := 944) (by rw [q7]; rfl) (by decide) ?_
    exact law_7 C hc hsl hL hl v u k n i j hk hn hi hj kk
  rcases Classical.em (x = 8) with q8 | q8
  · refine rb_tableIn C 1234 dL_law_290 (by rw [q8]; decide) (by rw [q8]; decide) (off := 944) (by rw [q8]; rfl) (by decide) ?_
    exact law_7 C hc hsl hL hl v u k n i j hk hn hi hj kk
  rcases Classical.em (x = 9) with q9 | q9
  · refine rb_tableIn C 1372 dL_law_290 (by rw [q9]; decide) (by rw [q9]; decide) (off := 1082) (by rw [q9]; rfl) (by decide) ?_
    exact law_9 C hc hsl hL hl v u k n i j hk hn hi hj kk
  rcases Classical.em (x = 10) with q10 | q10
  · refine rb_tableIn C 1495 dL_law_290 (by rw [q10]; decide) (by rw [q10]; decide) (off := 1205) (by rw [q10]; rfl) (by decide) ?_
    exact law_10 C hc hsl hL hl v u k n i j hk hn hi hj kk
  rcases Classical.em (x = 11) with q11 | q11
  · refine rb_tableIn C 1550 dL_law_290 (by rw [q11]; decide) (by rw [q11]; decide) (off := 1260) (by rw [q11]; rfl) (by decide) ?_
    exact law_11 C hc hsl hL hl v u k n i j hk hn hi hj kk
  rcases Classical.em (x = 12) with q12 | q12
  · refine rb_tableIn C 1643 dL_law_290 (by rw [q12]; decide) (by rw [q12]; decide) (off := 1353) (by rw [q12]; rfl) (by decide) ?_
    exact law_12 C hc hsl hL hl v u k n i j hk hn hi hj kk
  rcases Classical.em (x = 13) with q13 | q13
  · refine rb_tableIn C 1643 dL_law_290 (by rw [q13]; decide) (by rw [q13]; decide) (off := 1353) (by rw [q13]; rfl) (by decide) ?_
    exact law_12 C hc hsl hL hl v u k n i j hk hn hi hj kk
  rcases Classical.em (x = 14) with q14 | q14
  · refine rb_tableIn C 1643 dL_law_290 (by rw [q14]; decide) (by rw [q14]; decide) (off := 1353) (by rw [q14]; rfl) (by decide) ?_
    exact law_12 C hc hsl hL hl v u k n i j hk hn hi hj kk
  rcases Classical.em (x = 15) with q15 | q15
  · refine rb_tableIn C 1643 dL_law_290 (by rw [q15]; decide) (by rw [q15]; decide) (off := 1353) (by rw [q15]; rfl) (by decide) ?_
    exact law_12 C hc hsl hL hl v u k n i j hk hn hi hj kk
  rcases Classical.em (x = 16) with q16 | q16
  · refine rb_tableIn C 1897 dL_law_290 (by rw [q16]; decide) (by rw [q16]; decide) (off := 1607) (by rw [q16]; rfl) (by decide) ?_
    exact law_16 C hc hsl hL hl v u k n i j hk hn hi hj kk
  rcases Classical.em (x = 17) with q17 | q17
  · refine rb_tableIn C 2003 dL_law_290 (by rw [q17]; decide) (by rw [q17]; decide) (off := 1713) (by rw [q17]; rfl) (by decide) ?_
    exact law_17 C hc hsl hL hl v u k n i j hk hn hi hj kk
  rcases Classical.em (x = 18) with q18 | q18
  · refine rb_tableIn C 2003 dL_law_290 (by rw [q18]; decide) (by rw [q18]; decide) (off := 1713) (by rw [q18]; rfl) (by decide) ?_
    exact law_17 C hc hsl hL hl v u k n i j hk hn hi hj kk
  rcases Classical.em (x = 19) with q19 | q19
  · refine rb_tableIn C 2003 dL_law_290 (by rw [q19]; decide) (by rw [q19]; decide) (off := 1713) (by rw [q19]; rfl) (by decide) ?_
    exact law_17 C hc hsl hL hl v u k n i j hk hn hi hj kk
  rcases Classical.em (x = 20) with q20 | q20
  · refine rb_tableIn C 2003 dL_law_290 (by rw [q20]; decide) (by rw [q20]; decide) (off := 1713) (by rw [q20]; rfl) (by decide) ?_
    exact law_17 C hc hsl hL hl v u k n i j hk hn hi hj kk
  rcases Classical.em (x = 21) with q21 | q21
  · refine rb_tableIn C 2604 dL_law_290 (by rw [q21]; decide) (by rw [q21]; decide) (off := 2314) (by rw [q21]; rfl) (by decide) ?_
    exact law_21 C hc hsl hL hl v u k n i j hk hn hi hj kk
  rcases Classical.em (x = 22) with q22 | q22
  · refine rb_tableIn C 2604 dL_law_290 (by rw [q22]; decide) (by rw [q22]; decide) (off := 2314) (by rw [q22]; rfl) (by decide) ?_
    exact law_21 C hc hsl hL hl v u k n i j hk hn hi hj kk
  rcases Classical.em (x = 23) with q23 | q23
  · refine rb_tableIn C 2777 dL_law_290 (by rw [q23]; decide) (by rw [q23]; decide) (off := 2487) (by rw [q23]; rfl) (by decide) ?_
    exact law_23 C hc hsl hL hl v u k n i j hk hn hi hj kk
  refine rb_tableOut C 3079 dL_law_290 (tb_out (fun y hy e => ?_)) (by decide) (law_24 C hc hsl hL hl v u k n i j hk hn hi hj kk)
  rcases (by omega : y = 0 ∨ y = 1 ∨ y = 2 ∨ y = 3 ∨ y = 4 ∨ y = 5 ∨ y = 6 ∨ y = 7 ∨ y = 8 ∨ y = 9 ∨ y = 10 ∨ y = 11 ∨ y = 12 ∨ y = 13 ∨ y = 14 ∨ y = 15 ∨ y = 16 ∨ y = 17 ∨ y = 18 ∨ y = 19 ∨ y = 20 ∨ y = 21 ∨ y = 22 ∨ y = 23) with rfl | rfl | rfl | rfl | rfl | rfl | rfl | rfl | rfl | rfl | rfl | rfl | rfl | rfl | rfl | rfl | rfl | rfl | rfl | rfl | rfl | rfl | rfl | rfl
  · exact q0 e
  · exact q1 e
  · exact q2 e
  · exact q3 e
  · exact q4 e
  · exact q5 e
  · exact q6 e
  · exact q7 e
  · exact q8 e
  · exact q9 e
  · exact q10 e
  · exact q11 e
  · exact q12 e
  · exact q13 e
  · exact q14 e
  · exact q15 e
  · exact q16 e
  · exact q17 e
  · exact q18 e
  · exact q19 e
  · exact q20 e
  · exact q21 e
  · exact q22 e
  · exact q23 e

set_option maxRecDepth 100000 in
set_option maxHeartbeats 4000000 in
theorem law_turn {Φ : rb_F} {cells slots : Nat} (C : rb_C Φ RL cL_law 54 15 568 734644 6897897) (hc : cells + 1500 ≤ 734644) (hsl : slots + 11000 ≤ 6897897) {G : rb_G} {W M : rb_I} (hL : LI G W M) {S A R P t d : Nat} (hl : lx W M S A R P t d) (k : Nat) (hk : k < 140) (kk : ∀ G' W' M', lJ G' W' M' → rb_W Φ (cells + 1500) (slots + 11000) 148 (LVt (k + 1)) [] (wI G' W')) : rb_W Φ cells slots 156 (LVt k) [] (wI G W) := by
  show rb_W Φ cells slots 156 [some (rbR (18, 0, 0)), some (rbR (0, 0, 0)), some (rbR (14, 0, 0)), some (rbR (14, 1, 0)), some (rbR (14, 2, 0)), some (rbR (14, 3, 0)), some (rbR (14, 4, 0)), some (rbR (14, 5, 0)), some (rbR (14, 6, 0)), some (rbR (14, 7, 0)), some (rbR (14, 8, 0)), some (rbR (14, 9, 0)), some (rbI (nI k)), none, none, none, none, none, none, none, none, none, none, none, none, none, none, none, none, none, none, none, none, none, none, none, none, none, none, none, none, none, none, none, none, none, none, none, none, none, none, none, none, none] [] (wI G W)
  have hm := hL.1
  obtain ⟨hS6, hA10, hRP, hP58, hP2, hd64, htm⟩ := lr_b hl
  refine rb_aload_n C dL_law_156 rfl ?_
  refine rb_iconst C dL_law_157 (v := 2) (by decide) ?_
  refine rb_iload C dL_law_158 rfl ?_
  refine rq_imul C (z := (nI (2 * k))) dL_law_160 (pk_mul 2 k) ?_
  refine rb_callS C M_L_139 (fun l X => (k_L_cell l X G W (2 * k) (by omega)).m) dL_law_161 rfl rfl rfl (Nat.le_of_ble_eq_true rfl) ⟨(Nat.le_of_ble_eq_true rfl), (Nat.le_of_ble_eq_true rfl)⟩ (by omega) (by omega) (fun v G' hp => ?_) (fun _ _ hp => hp.elim)
  obtain ⟨v, rfl, e9⟩ := hp
  rw [e9]
  clear e9 G'
  refine rb_istore C dL_law_164 (Nat.le_of_ble_eq_true rfl) rfl (Lv' := [_, _, _, _, _, _, _, _, _, _, _, _, _, _, _, _, _, _, _, _, _, _, _, _, _, _, _, _, _, _, _, _, _, _, _, _, _, _, _, _, _, _, _, _, _, _, _, _, _, _, _, _, _, _]) rfl ?_
  refine rb_aload_n C dL_law_166 rfl ?_
  refine rb_iconst C dL_law_167 (v := 2) (by decide) ?_
  refine rb_iload C dL_law_168 rfl ?_
  refine rq_imul C (z := (nI (2 * k))) dL_law_170 (pk_mul 2 k) ?_
  refine rb_iconst C dL_law_171 (v := 1) (by decide) ?_
  refine rq_iadd C (z := (nI (2 * k + 1))) dL_law_172 (nI_add (2 * k) 1) ?_
  refine rb_callS C M_L_139 (fun l X => (k_L_cell l X G W (2 * k + 1) (by omega)).m) dL_law_173 rfl rfl rfl (Nat.le_of_ble_eq_true rfl) ⟨(Nat.le_of_ble_eq_true rfl), (Nat.le_of_ble_eq_true rfl)⟩ (by omega) (by omega) (fun v G' hp => ?_) (fun _ _ hp => hp.elim)
  obtain ⟨u, rfl, e9⟩ := hp
  rw [e9]
  clear e9 G'
  refine rb_istore C dL_law_176 (Nat.le_of_ble_eq_true rfl) rfl (Lv' := [_, _, _, _, _, _, _, _, _, _, _, _, _, _, _, _, _, _, _, _, _, _, _, _, _, _, _, _, _, _, _, _, _, _, _, _, _, _, _, _, _, _, _, _, _, _, _, _, _, _, _, _, _, _]) rfl ?_
  refine rb_iload C dL_law_178 rfl ?_
  refine rb_iconst C dL_law_180 (v := 5) (by decide) ?_
  refine rq_ishr C (z := (v >>> ((5 : Int32) &&& 31))) dL_law_181 rfl ?_
  refine rb_iload C dL_law_182 rfl ?_
  refine rb_ldc C dL_law_184 N_L_143 ?_
  refine rq_iand C (z := (v &&& (1073741824 : Int32))) dL_law_186 rfl ?_
  have mg187 : ∀ (zn : Nat) (hzn : zn = 3 ∨ zn = 6), rb_W Φ ((cells + 0) + 0) ((slots + 0) + 0) 196 [some (rbR (18, 0, 0)), some (rbR (0, 0, 0)), some (rbR (14, 0, 0)), some (rbR (14, 1, 0)), some (rbR (14, 2, 0)), some (rbR (14, 3, 0)), some (rbR (14, 4, 0)), some (rbR (14, 5, 0)), some (rbR (14, 6, 0)), some (rbR (14, 7, 0)), some (rbR (14, 8, 0)), some (rbR (14, 9, 0)), some (rbI (nI k)), some (rbI v), some (rbI u), none, none, none, none, none, none, none, none, none, none, none, none, none, none, none, none, none, none, none, none, none, none, none, none, none, none, none, none, none, none, none, none, none, none, none, none, none, none, none] [rbI (nI zn), rbI (v >>> ((5 : Int32) &&& 31))] (wI G W) := by
    intro zn hzn
    refine rb_callS C M_L_124 (fun l X => (k_L_low l X G W _ zn (by omega) (by omega)).m) dL_law_196 rfl rfl rfl (Nat.le_of_ble_eq_true rfl) ⟨(Nat.le_of_ble_eq_true rfl), (Nat.le_of_ble_eq_true rfl)⟩ (by omega) (by omega) (fun v G' hp => ?_) (fun _ _ hp => hp.elim)
    obtain ⟨n9, hn9, rfl, e9⟩ := hp
    rw [e9]
    clear e9 G'
    have hn9 : n9 < 6 := by omega
    refine rb_istore C dL_law_199 (Nat.le_of_ble_eq_true rfl) rfl (Lv' := [_, _, _, _, _, _, _, _, _, _, _, _, _, _, _, _, _, _, _, _, _, _, _, _, _, _, _, _, _, _, _, _, _, _, _, _, _, _, _, _, _, _, _, _, _, _, _, _, _, _, _, _, _, _]) rfl ?_
    refine rb_aload_n C dL_law_201 rfl ?_
    refine rb_iconst C dL_law_202 (v := 1) (by decide) ?_
    refine rw_iald C (x := (nI S)) 44 (1) dL_law_203 rfl (hm 0 (by decide)) (show ¬ (((1 : Int32)) < 0 ∨ 44 ≤ (1 : Int32).toNatClampNeg) by decide) rfl ((lr_g1 hl)) ?_
    have mg204 : ∀ (i9 : Nat) (hi9 : i9 < S ∨ S = 0 ∧ i9 = 0), rb_W Φ (((cells + 0) + 0) + 0) (((slots + 0) + 0) + 0) 222 [some (rbR (18, 0, 0)), some (rbR (0, 0, 0)), some (rbR (14, 0, 0)), some (rbR (14, 1, 0)), some (rbR (14, 2, 0)), some (rbR (14, 3, 0)), some (rbR (14, 4, 0)), some (rbR (14, 5, 0)), some (rbR (14, 6, 0)), some (rbR (14, 7, 0)), some (rbR (14, 8, 0)), some (rbR (14, 9, 0)), some (rbI (nI k)), some (rbI v), some (rbI u), some (rbI (nI n9)), none, none, none, none, none, none, none, none, none, none, none, none, none, none, none, none, none, none, none, none, none, none, none, none, none, none, none, none, none, none, none, none, none, none, none, none, none, none] [rbI (nI i9)] (wI G W) := by
      intro i9 hi9
      refine rb_istore C dL_law_222 (Nat.le_of_ble_eq_true rfl) rfl (Lv' := [_, _, _, _, _, _, _, _, _, _, _, _, _, _, _, _, _, _, _, _, _, _, _, _, _, _, _, _, _, _, _, _, _, _, _, _, _, _, _, _, _, _, _, _, _, _, _, _, _, _, _, _, _, _]) rfl ?_
      refine rb_aload_n C dL_law_224 rfl ?_
      refine rb_iconst C dL_law_225 (v := 1) (by decide) ?_
      refine rw_iald C (x := (nI S)) 44 (1) dL_law_226 rfl (hm 0 (by decide)) (show ¬ (((1 : Int32)) < 0 ∨ 44 ≤ (1 : Int32).toNatClampNeg) by decide) rfl ((lr_g1 hl)) ?_
      have mg227 : ∀ (j9 : Nat) (hj9 : j9 < S ∨ S = 0 ∧ j9 = 0), rb_W Φ (((cells + 0) + 0) + 0) (((slots + 0) + 0) + 0) 245 [some (rbR (18, 0, 0)), some (rbR (0, 0, 0)), some (rbR (14, 0, 0)), some (rbR (14, 1, 0)), some (rbR (14, 2, 0)), some (rbR (14, 3, 0)), some (rbR (14, 4, 0)), some (rbR (14, 5, 0)), some (rbR (14, 6, 0)), some (rbR (14, 7, 0)), some (rbR (14, 8, 0)), some (rbR (14, 9, 0)), some (rbI (nI k)), some (rbI v), some (rbI u), some (rbI (nI n9)), some (rbI (nI i9)), none, none, none, none, none, none, none, none, none, none, none, none, none, none, none, none, none, none, none, none, none, none, none, none, none, none, none, none, none, none, none, none, none, none, none, none, none] [rbI (nI j9)] (wI G W) := by
        intro j9 hj9
        refine rb_istore C dL_law_245 (Nat.le_of_ble_eq_true rfl) rfl (Lv' := [_, _, _, _, _, _, _, _, _, _, _, _, _, _, _, _, _, _, _, _, _, _, _, _, _, _, _, _, _, _, _, _, _, _, _, _, _, _, _, _, _, _, _, _, _, _, _, _, _, _, _, _, _, _]) rfl ?_
        refine rb_iconst C dL_law_247 (v := 1) (by decide) ?_
        refine rb_istore C dL_law_248 (Nat.le_of_ble_eq_true rfl) rfl (Lv' := [_, _, _, _, _, _, _, _, _, _, _, _, _, _, _, _, _, _, _, _, _, _, _, _, _, _, _, _, _, _, _, _, _, _, _, _, _, _, _, _, _, _, _, _, _, _, _, _, _, _, _, _, _, _]) rfl ?_
        refine rb_iload C dL_law_250 rfl ?_
        refine rb_iconst C dL_law_252 (v := 3) (by decide) ?_
        have mg253 : ∀ (x9 : Int32), rb_W Φ (((cells + 0) + 0) + 0) (((slots + 0) + 0) + 0) 290 [some (rbR (18, 0, 0)), some (rbR (0, 0, 0)), some (rbR (14, 0, 0)), some (rbR (14, 1, 0)), some (rbR (14, 2, 0)), some (rbR (14, 3, 0)), some (rbR (14, 4, 0)), some (rbR (14, 5, 0)), some (rbR (14, 6, 0)), some (rbR (14, 7, 0)), some (rbR (14, 8, 0)), some (rbR (14, 9, 0)), some (rbI (nI k)), some (rbI v), some (rbI u), some (rbI (nI n9)), some (rbI (nI i9)), some (rbI (nI j9)), some (rbI 1), none, none, none, none, none, none, none, none, none, none, none, none, none, none, none, none, none, none, none, none, none, none, none, none, none, none, none, none, none, none, none, none, none, none, none] [rbI x9] (wI G W) := by
          intro x9
          refine law_step C (by omega) (by omega) hL hl x9 v u k n9 i9 j9 hk hn9 hi9 hj9 (fun G2 W2 M2 h2 => ?_)
          obtain ⟨hL2, S2, A2, R2, P2, t2, d2, hl2⟩ := h2
          show rb_W Φ ((((cells + 0) + 0) + 0) + 90) ((((slots + 0) + 0) + 0) + 2600) 3288 [some (rbR (18, 0, 0)), some (rbR (0, 0, 0)), some (rbR (14, 0, 0)), some (rbR (14, 1, 0)), some (rbR (14, 2, 0)), some (rbR (14, 3, 0)), some (rbR (14, 4, 0)), some (rbR (14, 5, 0)), some (rbR (14, 6, 0)), some (rbR (14, 7, 0)), some (rbR (14, 8, 0)), some (rbR (14, 9, 0)), some (rbI (nI k)), some (rbI v), some (rbI u), none, none, none, some (rbI 1), none, none, none, none, none, none, none, none, none, none, none, none, none, none, none, none, none, none, none, none, none, none, none, none, none, none, none, none, none, none, none, none, none, none, none] [] (wI G2 W2)
          have hm2 := hL2.1
          refine rb_iload C dL_law_3288 rfl ?_
          refine rb_if_eq C 3321 dL_law_3290 (by decide) (fun h9 => absurd h9 (by decide)) (fun _ => ?_)
          refine rb_aload_n C dL_law_3293 rfl ?_
          refine rb_iload C dL_law_3294 rfl ?_
          refine rb_iload C dL_law_3296 rfl ?_
          refine rb_iconst C dL_law_3298 (v := 2) (by decide) ?_
          refine rq_ishr C (z := (u >>> ((2 : Int32) &&& 31))) dL_law_3299 rfl ?_
          refine rq_ixor C (z := (v ^^^ (u >>> ((2 : Int32) &&& 31)))) dL_law_3300 rfl ?_
          refine rb_aload_n C dL_law_3301 rfl ?_
          refine rb_aload C dL_law_3302 rfl ?_
          refine rb_aload C dL_law_3304 rfl ?_
          refine rb_aload C dL_law_3306 rfl ?_
          refine rb_aload C dL_law_3308 rfl ?_
          refine rb_aload C dL_law_3310 rfl ?_
          refine rb_aload C dL_law_3312 rfl ?_
          refine rb_aload_n C dL_law_3314 rfl ?_
          refine rb_callS C M_L_193 (fun l X => (k_L_isTold l X G2 W2 M2 hL2 hl2 _).m) dL_law_3315 rfl rfl rfl (Nat.le_of_ble_eq_true rfl) ⟨(Nat.le_of_ble_eq_true rfl), (Nat.le_of_ble_eq_true rfl)⟩ (by omega) (by omega) (fun v G' hp => ?_) (fun _ _ hp => hp.elim)
          obtain ⟨rfl, G3, W3, e9, hL3, hl3⟩ := hp
          rw [e9]
          clear e9 G'
          refine rb_if_ne C 3323 dL_law_3318 (by decide) (fun _ => ?_) (fun h9 => absurd h9 (by decide))
          refine rq_iinc C dL_law_3323 rfl (v := (nI (k + 1))) (nI_1 k) rfl (Lv' := [_, _, _, _, _, _, _, _, _, _, _, _, _, _, _, _, _, _, _, _, _, _, _, _, _, _, _, _, _, _, _, _, _, _, _, _, _, _, _, _, _, _, _, _, _, _, _, _, _, _, _, _, _, _]) rfl ?_
          refine rb_goto C 148 dL_law_3326 (by decide) ?_
          refine rb_W.unset 13 ?_
          refine rb_W.unset 14 ?_
          refine rb_W.unset 18 ?_
          exact rb_W.room (kk G3 W3 M2 ⟨hL3, _, _, _, _, _, _, hl3⟩) (by omega) (by omega)
        refine rb_icmp_ge C 260 dL_law_253 (by decide) (fun h253 => ?_) (fun h253 => ?_)
        · replace h253 := (nI_leI (a := 3) (b := k) (by omega) (by omega)).mp h253
          refine rb_iload C dL_law_260 rfl ?_
          refine rb_bipush C dL_law_262 (v := 6) (by decide) ?_
          refine rb_icmp_ge C 272 dL_law_264 (by decide) (fun h264 => ?_) (fun h264 => ?_)
          · replace h264 := (nI_leI (a := 6) (b := k) (by omega) (by omega)).mp h264
            refine rb_iload C dL_law_272 rfl ?_
            refine rb_bipush C dL_law_274 (v := 10) (by decide) ?_
            refine rb_icmp_ge C 283 dL_law_276 (by decide) (fun h276 => ?_) (fun h276 => ?_)
            · replace h276 := (nI_leI (a := 10) (b := k) (by omega) (by omega)).mp h276
              refine rb_iload C dL_law_283 rfl ?_
              refine rb_bipush C dL_law_285 (v := 26) (by decide) ?_
              refine rb_callS C M_L_124 (fun l X => (k_L_low l X G W _ 26 (by decide) (by decide)).m) dL_law_287 rfl rfl rfl (Nat.le_of_ble_eq_true rfl) ⟨(Nat.le_of_ble_eq_true rfl), (Nat.le_of_ble_eq_true rfl)⟩ (by omega) (by omega) (fun v G' hp => ?_) (fun _ _ hp => hp.elim)
              obtain ⟨y3, hy3, rfl, e9⟩ := hp
              rw [e9]
              clear e9 G'
              exact mg253 (nI y3)
            · replace h276 := mt (nI_leI (a := 10) (b := k) (by omega) (by omega)).mpr h276
              refine rb_iconst C dL_law_279 (v := 2) (by decide) ?_
              refine rb_goto C 290 dL_law_280 (by decide) ?_
              exact mg253 (2 : Int32)
          · replace h264 := mt (nI_leI (a := 6) (b := k) (by omega) (by omega)).mpr h264
            refine rb_bipush C dL_law_267 (v := 7) (by decide) ?_
            refine rb_goto C 290 dL_law_269 (by decide) ?_
            exact mg253 (7 : Int32)
        · replace h253 := mt (nI_leI (a := 3) (b := k) (by omega) (by omega)).mpr h253
          refine rb_iconst C dL_law_256 (v := 0) (by decide) ?_
          refine rb_goto C 290 dL_law_257 (by decide) ?_
          exact mg253 (0 : Int32)
      refine rb_if_ne C 234 dL_law_227 (by decide) (fun h227 => ?_) (fun h227 => ?_)
      · replace h227 := mt (nI_eq (a := S) (b := 0) (by omega) (by omega)).mpr h227
        refine rb_iload C dL_law_234 rfl ?_
        refine rb_bipush C dL_law_236 (v := 12) (by decide) ?_
        refine rq_ishr C (z := (v >>> ((12 : Int32) &&& 31))) dL_law_238 rfl ?_
        refine rb_aload_n C dL_law_239 rfl ?_
        refine rb_iconst C dL_law_240 (v := 1) (by decide) ?_
        refine rw_iald C (x := (nI S)) 44 (1) dL_law_241 rfl (hm 0 (by decide)) (show ¬ (((1 : Int32)) < 0 ∨ 44 ≤ (1 : Int32).toNatClampNeg) by decide) rfl ((lr_g1 hl)) ?_
        refine rb_callS C M_L_124 (fun l X => (k_L_low l X G W _ S (by omega) (by omega)).m) dL_law_242 rfl rfl rfl (Nat.le_of_ble_eq_true rfl) ⟨(Nat.le_of_ble_eq_true rfl), (Nat.le_of_ble_eq_true rfl)⟩ (by omega) (by omega) (fun v G' hp => ?_) (fun _ _ hp => hp.elim)
        obtain ⟨y2, hy2, rfl, e9⟩ := hp
        rw [e9]
        clear e9 G'
        exact mg227 y2 (Or.inl hy2)
      · replace h227 := (nI_eq (a := S) (b := 0) (by omega) (by omega)).mp h227
        refine rb_iconst C dL_law_230 (v := 0) (by decide) ?_
        refine rb_goto C 245 dL_law_231 (by decide) ?_
        exact mg227 0 (Or.inr ⟨h227, rfl⟩)
    refine rb_if_ne C 211 dL_law_204 (by decide) (fun h204 => ?_) (fun h204 => ?_)
    · replace h204 := mt (nI_eq (a := S) (b := 0) (by omega) (by omega)).mpr h204
      refine rb_iload C dL_law_211 rfl ?_
      refine rb_bipush C dL_law_213 (v := 9) (by decide) ?_
      refine rq_ishr C (z := (v >>> ((9 : Int32) &&& 31))) dL_law_215 rfl ?_
      refine rb_aload_n C dL_law_216 rfl ?_
      refine rb_iconst C dL_law_217 (v := 1) (by decide) ?_
      refine rw_iald C (x := (nI S)) 44 (1) dL_law_218 rfl (hm 0 (by decide)) (show ¬ (((1 : Int32)) < 0 ∨ 44 ≤ (1 : Int32).toNatClampNeg) by decide) rfl ((lr_g1 hl)) ?_
      refine rb_callS C M_L_124 (fun l X => (k_L_low l X G W _ S (by omega) (by omega)).m) dL_law_219 rfl rfl rfl (Nat.le_of_ble_eq_true rfl) ⟨(Nat.le_of_ble_eq_true rfl), (Nat.le_of_ble_eq_true rfl)⟩ (by omega) (by omega) (fun v G' hp => ?_) (fun _ _ hp => hp.elim)
      obtain ⟨y1, hy1, rfl, e9⟩ := hp
      rw [e9]
      clear e9 G'
      exact mg204 y1 (Or.inl hy1)
    · replace h204 := (nI_eq (a := S) (b := 0) (by omega) (by omega)).mp h204
      refine rb_iconst C dL_law_207 (v := 0) (by decide) ?_
      refine rb_goto C 222 dL_law_208 (by decide) ?_
      exact mg204 0 (Or.inr ⟨h204, rfl⟩)
  refine rb_if_ne C 194 dL_law_187 (by decide) (fun h187 => ?_) (fun h187 => ?_)
  · refine rb_bipush C dL_law_194 (v := 6) (by decide) ?_
    exact mg187 6 (by omega)
  · refine rb_iconst C dL_law_190 (v := 3) (by decide) ?_
    refine rb_goto C 196 dL_law_191 (by decide) ?_
    exact mg187 3 (by omega)

set_option maxRecDepth 100000 in
set_option maxHeartbeats 4000000 in
theorem law_end {Φ : rb_F} {cells slots : Nat} (C : rb_C Φ RL cL_law 54 15 568 734644 6897897) (hc : cells + 1500 ≤ 734644) (hsl : slots + 11000 ≤ 6897897) {G : rb_G} {W M : rb_I} (hL : LI G W M) {S A R P t d : Nat} (hl : lx W M S A R P t d) (k : Nat) (fin : ∀ c s Lv G, c ≤ 734644 → s ≤ 6897897 → rb_W Φ c s 3361 Lv [rbI 1] G) : rb_W Φ cells slots 3329 (LVt k) [] (wI G W) := by
  show rb_W Φ cells slots 3329 [some (rbR (18, 0, 0)), some (rbR (0, 0, 0)), some (rbR (14, 0, 0)), some (rbR (14, 1, 0)), some (rbR (14, 2, 0)), some (rbR (14, 3, 0)), some (rbR (14, 4, 0)), some (rbR (14, 5, 0)), some (rbR (14, 6, 0)), some (rbR (14, 7, 0)), some (rbR (14, 8, 0)), some (rbR (14, 9, 0)), some (rbI (nI k)), none, none, none, none, none, none, none, none, none, none, none, none, none, none, none, none, none, none, none, none, none, none, none, none, none, none, none, none, none, none, none, none, none, none, none, none, none, none, none, none, none] [] (wI G W)
  have hm := hL.1
  refine rb_aload_n C dL_law_3329 rfl ?_
  refine rb_bipush C dL_law_3330 (v := 6) (by decide) ?_
  refine rb_iconst C dL_law_3332 (v := 0) (by decide) ?_
  refine rb_iconst C dL_law_3333 (v := 0) (by decide) ?_
  refine rb_callSW C M_L_184 (fun l X => c_call6 l X G W M hL hl) dL_law_3334 rfl rfl rfl (Nat.le_of_ble_eq_true rfl) ⟨(Nat.le_of_ble_eq_true rfl), (Nat.le_of_ble_eq_true rfl)⟩ (by omega) (by omega) (fun v G' hp => ?_)
  obtain ⟨rfl, G1, W1, e9, hL1, hw1⟩ := hp
  rw [e9]
  clear e9 G'
  have hl1 := lx_lw hl hw1
  have hm := hL1.1
  refine rb_sipush C dL_law_3337 (v := (-7100)) (by decide) ?_
  refine rb_icmp_ne C 3360 dL_law_3340 (by decide) (fun h9 => absurd (by decide) h9) (fun _ => ?_)
  refine rb_aload_n C dL_law_3343 rfl ?_
  refine rb_bipush C dL_law_3344 (v := 8) (by decide) ?_
  refine rb_iconst C dL_law_3346 (v := 0) (by decide) ?_
  have hlq := lx_thr hl1 1
  refine rb_callSW C M_L_144 (fun l X => c_reach8 l X G1 W1 (up2 M (16, 0, 0) 0 1) hL1 hlq) dL_law_3347 rfl rfl rfl (Nat.le_of_ble_eq_true rfl) ⟨(Nat.le_of_ble_eq_true rfl), (Nat.le_of_ble_eq_true rfl)⟩ (by omega) (by omega) (fun v G' hp => ?_)
  obtain ⟨rfl, G2, W2, e9, hL2, hw2⟩ := hp
  rw [e9]
  clear e9 G'
  have hl2 := lx_lw hl1 hw2
  have hm := hL2.1
  refine rb_sipush C dL_law_3350 (v := (-7100)) (by decide) ?_
  refine rb_icmp_ne C 3360 dL_law_3353 (by decide) (fun h9 => absurd (by decide) h9) (fun _ => ?_)
  refine rb_iconst C dL_law_3356 (v := 1) (by decide) ?_
  refine rb_goto C 3361 dL_law_3357 (by decide) ?_
  exact fin _ _ _ _ (by omega) (by omega)

theorem law_loop {Φ : rb_F} (C : rb_C Φ RL cL_law 54 15 568 734644 6897897) (fin : ∀ c s Lv G, c ≤ 734644 → s ≤ 6897897 → rb_W Φ c s 3361 Lv [rbI 1] G) : ∀ dd k, k + dd = 140 → ∀ G W M, lJ G W M → rb_W Φ (1000 + 1500 * k) (10000 + 11000 * k) 148 (LVt k) [] (wI G W) := by
  intro dd
  induction dd with
  | zero =>
    intro k hk G W M h
    obtain ⟨hL, S, A, R, P, t, d, hl⟩ := h
    refine rb_iload C dL_law_148 rfl ?_
    refine rb_sipush C dL_law_150 (v := 140) (by decide) ?_
    refine rb_icmp_ge C 3329 dL_law_153 (by decide) (fun _ => ?_) (fun h9 => absurd (nI_le (a := 140) (b := k) (by omega) (by omega)) h9)
    exact law_end C (by omega) (by omega) hL hl k fin
  | succ dd ih =>
    intro k hk G W M h
    obtain ⟨hL, S, A, R, P, t, d, hl⟩ := h
    refine rb_iload C dL_law_148 rfl ?_
    refine rb_sipush C dL_law_150 (v := 140) (by decide) ?_
    refine rb_icmp_ge C 3329 dL_law_153 (by decide) (fun h9 => absurd h9 (nI_ge (a := k) (b := 140) (by omega) (by omega))) (fun _ => ?_)
    exact law_turn C (by omega) (by omega) hL hl k (by omega) (fun G' W' M' h' => rb_W.room (ih (k + 1) (by omega) G' W' M' h') (by omega) (by omega))

