/-! each call that changes something, by the model's numbers -/
theorem mr3_v {x : Int32} {M : rb_I} (h : M (16, 0, 0) 0 = 0) : mr3 (x, M) = x := if_pos h
theorem mr2_v {x : Int32} {M : rb_I} (h : M (16, 0, 0) 0 = 0) : mr2 (x, M) = x := if_pos h
theorem mr1_v {x : Int32} {M : rb_I} (h : M (16, 0, 0) 0 = 0) : mr1 (x, M) = x := if_pos h
theorem mr3_2 {x : Int32} {M : rb_I} (h : M (16, 0, 0) 0 = 2) : mr3 (x, M) = -7200 := by unfold mr3; simp [h]
theorem mr2_2 {x : Int32} {M : rb_I} (h : M (16, 0, 0) 0 = 2) : mr2 (x, M) = -7300 := by unfold mr2; simp [h]
theorem mr3_1' {x : Int32} {M : rb_I} (h : M (16, 0, 0) 0 = 1) : mr3 (x, M) = -7100 := by unfold mr3; simp [h]
theorem fo_r {f : Nat → rb_I → rb_I} {a : rb_I} {r : rb_R} {k : Nat} (h : ∀ i s, f i s r k = s r k) (n : Nat) : fo f n a r k = a r k := fo_inv (f := f) (a := a) (P := fun w => w r k = a r k) rfl (fun i s q => (h i s).trans q) n
section
variable {W M : rb_I} {S A R P t d : Nat}
theorem rb_0 (p ns : Int32) (i : Nat) (s : rb_I) : m_reach_b p ns i s (16, 0, 0) 0 = s (16, 0, 0) 0 := by
  unfold m_reach_b
  (repeat' split) <;> simp [up2]
theorem e_reach (hl : lx W M S A R P t d) {pz sz : Nat} (hp : pz < 8) (hz : sz < 64) : m_reach M (nI pz) (nI sz) = (M (14, 2, 0) pz, fo (m_reach_b (nI pz) (nI sz)) S (up2 (up2 M (16, 0, 0) 0 0) (14, 2, 0) pz (nI sz))) := by
  have hb := lr_b hl
  unfold m_reach
  rw [if_neg (is_plc hp), if_neg (in_ok (c := 63) (n := 63) rfl (by omega) (by decide)), cl_ (by omega), lm_S hl, cl_ (by omega)]
theorem c_reach (l : Launch) (X : rb_X) (G : rb_G) (W M : rb_I) (h : LI G W M) {W9 : rb_I} {S A R P t d : Nat} (hl : lx W9 M S A R P t d) {pz sz : Nat} (hp : pz < 8) (hz : sz < 64) : rb_N l X yL_reach (.codeWith yL_reach cL_reach 5 (some .int) [(0, 7, 10, 14), (0, 7, 16, 16)]) 9 157 12 72 [rbR (0, 0, 0), rbI (nI pz), rbI (nI sz)] (wI G W) (fun v9 G9 => PK (M (14, 2, 0) pz) (fo (m_reach_b (nI pz) (nI sz)) S (up2 (up2 M (16, 0, 0) 0 0) (14, 2, 0) pz (nI sz))) W v9 G9) := by
  refine (rk_reach l X G W M h (nI pz) (nI sz)).imp (fun v9 G9 hpp => ?_)
  rw [e_reach hl hp hz] at hpp
  rw [show mr3 (_, fo (m_reach_b (nI pz) (nI sz)) S (up2 (up2 M (16, 0, 0) 0 0) (14, 2, 0) pz (nI sz))) = M (14, 2, 0) pz from mr3_v ((fo_r (rb_0 _ _) S).trans (by simp [up2]))] at hpp
  exact hpp
theorem db_0 (p : Int32) (i : Nat) (s : rb_I) : m_dead_b p i s (16, 0, 0) 0 = s (16, 0, 0) 0 := by
  unfold m_dead_b
  (repeat' split) <;> simp [up2]
theorem e_dead0 (hl : lx W M S A R P t d) {n : Nat} (hn : n < 6) : m_dead M (nI n) 0 = (nI (d / 2 ^ n % 2), (up2 (up2 M (16, 0, 0) 0 0) (15, 3, 0) n 0)) := by
  unfold m_dead
  rw [if_neg (is_net hn), if_pos rfl, cl_ (by omega), (lr_N hl hn).1]
theorem e_dead1 (hl : lx W M S A R P t d) {n : Nat} (hn : n < 6) : m_dead M (nI n) 1 = (nI (d / 2 ^ n % 2), (fo (m_dead_b (nI n)) S (m_empties (up2 (up2 M (16, 0, 0) 0 0) (15, 3, 0) n 1) (nI n)))) := by
  have hb := lr_b hl
  unfold m_dead
  rw [if_neg (is_net hn), if_neg (by decide), cl_ (by omega), (lr_N hl hn).1, lm_S hl, cl_ (by omega)]
theorem bit_z (x : Nat) : (if nI (x % 2) = 0 then (0 : Int32) else 1) = nI (x % 2) := by
  rcases (by omega : x % 2 = 0 ∨ x % 2 = 1) with e | e <;> rw [e] <;> decide
theorem c_dead0 (l : Launch) (X : rb_X) (G : rb_G) (W M : rb_I) (h : LI G W M) {W9 : rb_I} {S A R P t d : Nat} (hl : lx W9 M S A R P t d) {n : Nat} (hn : n < 6) : rb_N l X yL_dead (.codeWith yL_dead cL_dead 5 (some .int) [(0, 7, 10, 14)]) 9 156 12 72 [rbR (0, 0, 0), rbI (nI n), rbI 0] (wI G W) (fun v9 G9 => PK (nI (d / 2 ^ n % 2)) (up2 (up2 M (16, 0, 0) 0 0) (15, 3, 0) n 0) W v9 G9) := by
  refine (rk_dead l X G W M h (nI n) 0 (by decide)).imp (fun v9 G9 hp => ?_)
  rw [e_dead0 hl hn] at hp
  rw [bit_z, show mr3 (_, (up2 (up2 M (16, 0, 0) 0 0) (15, 3, 0) n 0)) = nI (d / 2 ^ n % 2) from mr3_v (by simp [up2])] at hp
  exact hp
theorem c_dead1 (l : Launch) (X : rb_X) (G : rb_G) (W M : rb_I) (h : LI G W M) {W9 : rb_I} {S A R P t d : Nat} (hl : lx W9 M S A R P t d) {n : Nat} (hn : n < 6) : rb_N l X yL_dead (.codeWith yL_dead cL_dead 5 (some .int) [(0, 7, 10, 14)]) 9 156 12 72 [rbR (0, 0, 0), rbI (nI n), rbI 1] (wI G W) (fun v9 G9 => PK (nI (d / 2 ^ n % 2)) (fo (m_dead_b (nI n)) S (m_empties (up2 (up2 M (16, 0, 0) 0 0) (15, 3, 0) n 1) (nI n))) W v9 G9) := by
  refine (rk_dead l X G W M h (nI n) 1 (by decide)).imp (fun v9 G9 hp => ?_)
  rw [e_dead1 hl hn] at hp
  rw [bit_z, show mr3 (_, (fo (m_dead_b (nI n)) S (m_empties (up2 (up2 M (16, 0, 0) 0 0) (15, 3, 0) n 1) (nI n)))) = nI (d / 2 ^ n % 2) from mr3_v ((fo_r (db_0 _) S).trans ((m_empties_o (by simp)).trans (by simp [up2])))] at hp
  exact hp
theorem e_steer (hl : lx W M S A R P t d) {h : Nat} (hh : h < 6) {b : Int32} (hb : at6 b) (hne : ¬ b = nI h) : m_steer M (nI h) b = (M (14, 4, 0) h, up2 (up2 M (16, 0, 0) 0 0) (14, 4, 0) h b) := by
  unfold m_steer
  rw [if_neg (is_net hh), cl_ (by omega)]
  by_cases e : b = -1
  · rw [if_pos e, if_neg hne]
  · rw [if_neg e, if_neg (isNetwork_ne (hb.resolve_left e)), if_neg hne]
theorem e_steerX {h : Nat} (hh : h < 6) : m_steer M (nI h) (nI h) = (0, up2 M (16, 0, 0) 0 2) := by
  unfold m_steer
  rw [if_neg (is_net hh), if_neg (nI_ne1 (by omega)), if_neg (is_net hh), if_pos rfl]
theorem c_steer (l : Launch) (X : rb_X) (G : rb_G) (W M : rb_I) (h : LI G W M) {W9 : rb_I} {S A R P t d : Nat} (hl : lx W9 M S A R P t d) {h9 : Nat} (hh : h9 < 6) {b : Int32} (hb : at6 b) (hne : ¬ b = nI h9) : rb_N l X yL_steer (.codeWith yL_steer cL_steer 5 (some .int) [(0, 7, 10, 14), (0, 7, 16, 16)]) 9 156 12 72 [rbR (0, 0, 0), rbI (nI h9), rbI b] (wI G W) (fun v9 G9 => PK (M (14, 4, 0) h9) (up2 (up2 M (16, 0, 0) 0 0) (14, 4, 0) h9 b) W v9 G9) := by
  refine (rk_steer l X G W M h (nI h9) b).imp (fun v9 G9 hpp => ?_)
  rw [e_steer hl hh hb hne] at hpp
  rw [show mr3 (_, up2 (up2 M (16, 0, 0) 0 0) (14, 4, 0) h9 b) = M (14, 4, 0) h9 from mr3_v (by simp [up2])] at hpp
  exact hpp
theorem c_steerX (l : Launch) (X : rb_X) (G : rb_G) (W M : rb_I) (h : LI G W M) {W9 : rb_I} {S A R P t d : Nat} (hl : lx W9 M S A R P t d) {h9 : Nat} (hh : h9 < 6) : rb_N l X yL_steer (.codeWith yL_steer cL_steer 5 (some .int) [(0, 7, 10, 14), (0, 7, 16, 16)]) 9 156 12 72 [rbR (0, 0, 0), rbI (nI h9), rbI (nI h9)] (wI G W) (fun v9 G9 => PK (-7200) (up2 M (16, 0, 0) 0 2) W v9 G9) := by
  refine (rk_steer l X G W M h (nI h9) (nI h9)).imp (fun v9 G9 hpp => ?_)
  rw [e_steerX hh] at hpp
  rw [show mr3 (_, up2 M (16, 0, 0) 0 2) = -7200 from mr3_2 (up2_s _ _ _ _)] at hpp
  exact hpp
theorem e_prices {h9 a b c : Nat} (hh : h9 < 6) (ha : a < 100) (hb : b < 100) (hc : c < 100) : m_prices M (nI h9) (nI a) (nI b) (nI c) = (up2 (up2 (up2 (up2 M (16, 0, 0) 0 0) (14, 5, 0) (3 * h9 + 0) (nI a)) (14, 5, 0) (3 * h9 + 1) (nI b)) (14, 5, 0) (3 * h9 + 2) (nI c)) := by
  unfold m_prices
  rw [if_neg (is_net hh), if_neg (in_ok (c := 99) (n := 99) rfl (by omega) (by decide)), if_neg (in_ok (c := 99) (n := 99) rfl (by omega) (by decide)), if_neg (in_ok (c := 99) (n := 99) rfl (by omega) (by decide)), cl_ (by omega)]
theorem c_prices (l : Launch) (X : rb_X) (G : rb_G) (W M : rb_I) (h : LI G W M) {W9 : rb_I} {S A R P t d : Nat} (hl : lx W9 M S A R P t d) {h9 a b c : Nat} (hh : h9 < 6) (ha : a < 100) (hb : b < 100) (hc : c < 100) : rb_N l X yL_prices (.codeWith yL_prices cL_prices 6 (some .int) [(0, 9, 12, 14), (0, 9, 18, 16)]) 9 157 12 72 [rbR (0, 0, 0), rbI (nI h9), rbI (nI a), rbI (nI b), rbI (nI c)] (wI G W) (fun v9 G9 => PK (0) ((up2 (up2 (up2 (up2 M (16, 0, 0) 0 0) (14, 5, 0) (3 * h9 + 0) (nI a)) (14, 5, 0) (3 * h9 + 1) (nI b)) (14, 5, 0) (3 * h9 + 2) (nI c))) W v9 G9) := by
  refine (rk_prices l X G W M h (nI h9) (nI a) (nI b) (nI c)).imp (fun v9 G9 hpp => ?_)
  rw [e_prices hh ha hb hc] at hpp
  rw [show mr3 (_, (up2 (up2 (up2 (up2 M (16, 0, 0) 0 0) (14, 5, 0) (3 * h9 + 0) (nI a)) (14, 5, 0) (3 * h9 + 1) (nI b)) (14, 5, 0) (3 * h9 + 2) (nI c))) = 0 from mr3_v (by simp [up2])] at hpp
  exact hpp
theorem e_lose {n m : Nat} (hn : n < 6) (hm : m < 10) : m_lose M (nI n) (nI m) = (M (14, 6, 0) n, up2 (up2 M (16, 0, 0) 0 0) (14, 6, 0) n (nI m)) := by
  unfold m_lose
  rw [if_neg (is_net hn), if_neg (in_ok (c := 9) (n := 9) rfl (by omega) (by decide)), cl_ (by omega)]
theorem c_lose (l : Launch) (X : rb_X) (G : rb_G) (W M : rb_I) (h : LI G W M) {W9 : rb_I} {S A R P t d : Nat} (hl : lx W9 M S A R P t d) {n m : Nat} (hn : n < 6) (hm : m < 10) : rb_N l X yL_lose (.codeWith yL_lose cL_lose 5 (some .int) [(0, 7, 10, 14), (0, 7, 16, 16)]) 9 156 12 72 [rbR (0, 0, 0), rbI (nI n), rbI (nI m)] (wI G W) (fun v9 G9 => PK (M (14, 6, 0) n) (up2 (up2 M (16, 0, 0) 0 0) (14, 6, 0) n (nI m)) W v9 G9) := by
  refine (rk_lose l X G W M h (nI n) (nI m)).imp (fun v9 G9 hpp => ?_)
  rw [e_lose hn hm] at hpp
  rw [show mr3 (_, up2 (up2 M (16, 0, 0) 0 0) (14, 6, 0) n (nI m)) = M (14, 6, 0) n from mr3_v (by simp [up2])] at hpp
  exact hpp
theorem e_crash {n : Nat} (hn : n < 6) : m_crash M (nI n) = (fo (m_crash_b M (nI n)) 10 0, m_empties (up2 M (16, 0, 0) 0 0) (nI n)) := by
  unfold m_crash
  rw [if_neg (is_net hn)]
theorem c_crash (l : Launch) (X : rb_X) (G : rb_G) (W M : rb_I) (h : LI G W M) {W9 : rb_I} {S A R P t d : Nat} (hl : lx W9 M S A R P t d) {n : Nat} (hn : n < 6) : rb_N l X yL_crash (.codeWith yL_crash cL_crash 4 (some .int) [(0, 6, 9, 14)]) 9 155 12 72 [rbR (0, 0, 0), rbI (nI n)] (wI G W) (fun v9 G9 => PK (fo (m_crash_b M (nI n)) 10 0) (m_empties (up2 M (16, 0, 0) 0 0) (nI n)) W v9 G9) := by
  refine (rk_crash l X G W M h (nI n)).imp (fun v9 G9 hpp => ?_)
  rw [e_crash hn] at hpp
  rw [show mr3 (_, m_empties (up2 M (16, 0, 0) 0 0) (nI n)) = fo (m_crash_b M (nI n)) 10 0 from mr3_v ((m_empties_o (by simp)).trans (by simp [up2]))] at hpp
  exact hpp
theorem e_off (hl : lx W M S A R P t d) {s : Nat} (hs : s < S) : m_off M (nI s) = (M (14, 19, 0) s, up2 (up2 M (16, 0, 0) 0 0) (14, 19, 0) s (-1)) := by
  have hb := lr_b hl
  unfold m_off
  rw [if_neg (is_sub hl hs), cl_ (by omega)]
theorem e_cap (hl : lx W M S A R P t d) {s c : Nat} (hs : s < S) (hc : c < 100000) (co : Int32) : m_cap M (nI s) (nI c) co = up2 (up2 (up2 M (16, 0, 0) 0 0) (14, 22, 0) s (nI c)) (15, 23, 0) s co := by
  have hb := lr_b hl
  unfold m_cap
  rw [if_neg (is_sub hl hs), if_neg (in_ok (c := 99999) (n := 99999) rfl (by omega) (by decide)), cl_ (by omega)]
theorem c_off (l : Launch) (X : rb_X) (G : rb_G) (W M : rb_I) (h : LI G W M) {W9 : rb_I} {S A R P t d : Nat} (hl : lx W9 M S A R P t d) {s : Nat} (hs : s < S) : rb_N l X yL_off (.codeWith yL_off cL_off 4 (some .int) [(0, 6, 9, 14)]) 8 134 12 72 [rbR (0, 0, 0), rbI (nI s)] (wI G W) (fun v9 G9 => PK (M (14, 19, 0) s) (up2 (up2 M (16, 0, 0) 0 0) (14, 19, 0) s (-1)) W v9 G9) := by
  refine (rk_off l X G W M h (nI s)).imp (fun v9 G9 hpp => ?_)
  rw [e_off hl hs] at hpp
  rw [show mr3 (_, up2 (up2 M (16, 0, 0) 0 0) (14, 19, 0) s (-1)) = M (14, 19, 0) s from mr3_v (by simp [up2])] at hpp
  exact hpp
theorem c_cap (l : Launch) (X : rb_X) (G : rb_G) (W M : rb_I) (h : LI G W M) {W9 : rb_I} {S A R P t d : Nat} (hl : lx W9 M S A R P t d) {s c : Nat} (hs : s < S) (hc : c < 100000) {co : Int32} (hco : co = 0 ∨ co = 1) : rb_N l X yL_cap (.codeWith yL_cap cL_cap 5 (some .int) [(0, 7, 10, 14), (0, 7, 16, 16)]) 8 136 12 72 [rbR (0, 0, 0), rbI (nI s), rbI (nI c), rbI co] (wI G W) (fun v9 G9 => PK (0) (up2 (up2 (up2 M (16, 0, 0) 0 0) (14, 22, 0) s (nI c)) (15, 23, 0) s co) W v9 G9) := by
  refine (rk_cap l X G W M h (nI s) (nI c) co hco).imp (fun v9 G9 hpp => ?_)
  rw [e_cap hl hs hc co] at hpp
  rw [show mr3 (_, up2 (up2 (up2 M (16, 0, 0) 0 0) (14, 22, 0) s (nI c)) (15, 23, 0) s co) = 0 from mr3_v (by simp [up2])] at hpp
  exact hpp
theorem e_moveA (hl : lx W M S A R P t d) {s pl : Nat} (hs : s < S) (hp : pl < 8) (e : M (14, 19, 0) s = -1 ∨ ¬ m_isIn (M (14, 2, 0) pl) (M (14, 19, 0) s) = 0) : m_move M (nI s) (nI pl) = (M (14, 19, 0) s, (up2 (up2 (up2 M (16, 0, 0) 0 0) (14, 17, 0) s (nI pl)) (14, 20, 0) s 0)) := by
  have hb := lr_b hl
  unfold m_move
  rw [if_neg (is_sub hl hs), if_neg (is_plc hp), cl_ (show s < 1000000 by omega), cl_ (show pl < 1000000 by omega)]
  by_cases h : M (14, 19, 0) s = -1
  · rw [if_pos h]
  · rw [if_neg h, if_neg (e.resolve_left h)]
theorem e_moveB (hl : lx W M S A R P t d) {s pl : Nat} (hs : s < S) (hp : pl < 8) (h : ¬ M (14, 19, 0) s = -1) (e : m_isIn (M (14, 2, 0) pl) (M (14, 19, 0) s) = 0) : m_move M (nI s) (nI pl) = (-1, up2 (up2 (up2 (up2 M (16, 0, 0) 0 0) (14, 17, 0) s (nI pl)) (14, 20, 0) s 0) (14, 19, 0) s (-1)) := by
  have hb := lr_b hl
  unfold m_move
  rw [if_neg (is_sub hl hs), if_neg (is_plc hp), cl_ (show s < 1000000 by omega), cl_ (show pl < 1000000 by omega), if_neg h, if_pos e]
theorem c_moveA (l : Launch) (X : rb_X) (G : rb_G) (W M : rb_I) (h : LI G W M) {W9 : rb_I} {S A R P t d : Nat} (hl : lx W9 M S A R P t d) {s pl : Nat} (hs : s < S) (hp : pl < 8) (e : M (14, 19, 0) s = -1 ∨ ¬ m_isIn (M (14, 2, 0) pl) (M (14, 19, 0) s) = 0) : rb_N l X yL_move (.codeWith yL_move cL_move 5 (some .int) [(0, 7, 10, 14)]) 8 134 12 72 [rbR (0, 0, 0), rbI (nI s), rbI (nI pl)] (wI G W) (fun v9 G9 => PK (M (14, 19, 0) s) ((up2 (up2 (up2 M (16, 0, 0) 0 0) (14, 17, 0) s (nI pl)) (14, 20, 0) s 0)) W v9 G9) := by
  refine (rk_move l X G W M h (nI s) (nI pl)).imp (fun v9 G9 hpp => ?_)
  rw [e_moveA hl hs hp e] at hpp
  rw [show mr3 (_, (up2 (up2 (up2 M (16, 0, 0) 0 0) (14, 17, 0) s (nI pl)) (14, 20, 0) s 0)) = M (14, 19, 0) s from mr3_v (by simp [up2])] at hpp
  exact hpp
theorem c_moveB (l : Launch) (X : rb_X) (G : rb_G) (W M : rb_I) (h : LI G W M) {W9 : rb_I} {S A R P t d : Nat} (hl : lx W9 M S A R P t d) {s pl : Nat} (hs : s < S) (hp : pl < 8) (h1 : ¬ M (14, 19, 0) s = -1) (e : m_isIn (M (14, 2, 0) pl) (M (14, 19, 0) s) = 0) : rb_N l X yL_move (.codeWith yL_move cL_move 5 (some .int) [(0, 7, 10, 14)]) 8 134 12 72 [rbR (0, 0, 0), rbI (nI s), rbI (nI pl)] (wI G W) (fun v9 G9 => PK (-1) (up2 (up2 (up2 (up2 M (16, 0, 0) 0 0) (14, 17, 0) s (nI pl)) (14, 20, 0) s 0) (14, 19, 0) s (-1)) W v9 G9) := by
  refine (rk_move l X G W M h (nI s) (nI pl)).imp (fun v9 G9 hpp => ?_)
  rw [e_moveB hl hs hp h1 e] at hpp
  rw [show mr3 (_, up2 (up2 (up2 (up2 M (16, 0, 0) 0 0) (14, 17, 0) s (nI pl)) (14, 20, 0) s 0) (14, 19, 0) s (-1)) = -1 from mr3_v (by simp [up2])] at hpp
  exact hpp
end
