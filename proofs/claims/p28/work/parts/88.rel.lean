/-! the law's calls beside the model's -/
def mr3 (z : Int32 × rb_I) : Int32 := if z.2 (16, 0, 0) 0 = 0 then z.1 else if z.2 (16, 0, 0) 0 = 1 then -7100 else if z.2 (16, 0, 0) 0 = 2 then -7200 else -7300
def mr2 (z : Int32 × rb_I) : Int32 := if z.2 (16, 0, 0) 0 = 0 then z.1 else if z.2 (16, 0, 0) 0 = 1 then -7100 else -7300
def mr1 (z : Int32 × rb_I) : Int32 := if z.2 (16, 0, 0) 0 = 0 then z.1 else if z.2 (16, 0, 0) 0 = 1 then -7200 else -7300
theorem mr_3 {a : rb_U} {v : Int32} {M : rb_I} (h1 : M (16, 0, 0) 0 = sq_3 a.1) (h2 : a.1 = 0 → a.2.1 = v) (hc : a.1 < 4) : lc a = mr3 (v, M) := by
  unfold lc mr3
  rcases (by omega : a.1 = 0 ∨ a.1 = 1 ∨ a.1 = 2 ∨ a.1 = 3) with e | e | e | e
  · rw [e, sq_30] at h1
    simp [e, h1, h2 e]
  · rw [e, sq_31] at h1
    simp [e, h1]
  · rw [e, sq_32] at h1
    simp [e, h1]
  · rw [e, sq_33] at h1
    simp [e, h1]
theorem mr_3v {a : rb_U} {v : Int32} {M : rb_I} (h1 : M (16, 0, 0) 0 = sq_3 a.1) (h2 : a.1 = 0 → a.2.1 = v) (hc : a.1 < 4) : lcv a = mr3 (0, M) := by
  unfold lcv mr3
  rcases (by omega : a.1 = 0 ∨ a.1 = 1 ∨ a.1 = 2 ∨ a.1 = 3) with e | e | e | e
  · rw [e, sq_30] at h1
    simp [e, h1]
  · rw [e, sq_31] at h1
    simp [e, h1]
  · rw [e, sq_32] at h1
    simp [e, h1]
  · rw [e, sq_33] at h1
    simp [e, h1]
theorem mr_3z {a : rb_U} {v : Int32} {M : rb_I} (h1 : M (16, 0, 0) 0 = sq_3 a.1) (h2 : a.1 = 0 → a.2.1 = v) (hc : a.1 < 4) : lcz a = mr3 (if v = 0 then 0 else 1, M) := by
  unfold lcz mr3
  rcases (by omega : a.1 = 0 ∨ a.1 = 1 ∨ a.1 = 2 ∨ a.1 = 3) with e | e | e | e
  · rw [e, sq_30] at h1
    simp [e, h1, h2 e]
  · rw [e, sq_31] at h1
    simp [e, h1]
  · rw [e, sq_32] at h1
    simp [e, h1]
  · rw [e, sq_33] at h1
    simp [e, h1]
theorem mr_2 {a : rb_U} {v : Int32} {M : rb_I} (h1 : M (16, 0, 0) 0 = sq_2 a.1) (h2 : a.1 = 0 → a.2.1 = v) (hc : a.1 = 0 ∨ a.1 = 1 ∨ a.1 = 3) : lc a = mr2 (v, M) := by
  unfold lc mr2
  rcases hc with e | e | e
  · rw [e, sq_20] at h1
    simp [e, h1, h2 e]
  · rw [e, sq_21] at h1
    simp [e, h1]
  · rw [e, sq_23] at h1
    simp [e, h1]
theorem mr_1 {a : rb_U} {v : Int32} {M : rb_I} (h1 : M (16, 0, 0) 0 = sq_1 a.1) (h2 : a.1 = 0 → a.2.1 = v) (hc : a.1 = 0 ∨ a.1 = 2 ∨ a.1 = 3) : lc a = mr1 (v, M) := by
  unfold lc mr1
  rcases hc with e | e | e
  · rw [e, sq_10] at h1
    simp [e, h1, h2 e]
  · rw [e, sq_12] at h1
    simp [e, h1]
  · rw [e, sq_13] at h1
    simp [e, h1]
/-- what a call leaves: its answer, the class beside the model's new numbers, the law's rows as they were -/
def PK (x : Int32) (M' W : rb_I) (v9 : Option rb_V) (G9 : rb_G) : Prop := v9 = some (rbI x) ∧ ∃ G1 W1, G9 = wI G1 W1 ∧ LI G1 W1 M' ∧ lw W W1
theorem lw_xf {W W' : rb_I} (h : xf W W') : lw W W' := fun f q => h (14, f, 0) q (Nat.le_of_ble_eq_true rfl)
theorem sx_hr {C M : rb_I} {cn : Nat → Nat} {ag : Nat → Nat → Int32} {t R : Nat} (h : sx C M cn ag t R) : cn 2 < 200 → ∀ k, k < 36 → cn (10 + k) ≤ 398 := fun h2 k hk => by
  have h1 := h.1.2.2.2.2.2.2.2.2.2.2.2.1 k hk
  have h3 := rc_le M k R
  have h4 := h.2.2.1
  omega
theorem rk_reach (l : Launch) (X : rb_X) (G : rb_G) (W M : rb_I) (h : LI G W M) (p ns : Int32) : rb_N l X yL_reach (.codeWith yL_reach cL_reach 5 (some .int) [(0, 7, 10, 14), (0, 7, 16, 16)]) 9 157 12 72 [rbR (0, 0, 0), rbI p, rbI ns] (wI G W) (fun v9 G9 => PK (mr3 (m_reach M p ns)) (m_reach M p ns).2 W v9 G9) := by
  obtain ⟨hm, cn, ag, t, R, hG, hs⟩ := h
  refine (k_L_reach l X G W cn ag hG p ns hs.1.1).imp (fun v9 G9 hp => ?_)
  obtain ⟨rfl, e9⟩ := hp
  have okk := s_reach hs p ns
  refine ⟨by rw [mr_3 okk.1 okk.2.1 (by rcases cd_reach W cn p ns with e | e | e <;> omega)], G, _, e9, ⟨hm, cn, ag, okk.2.2.choose, okk.2.2.choose_spec.choose, hG, okk.2.2.choose_spec.choose_spec⟩, lw_xf (xf_reach W cn p ns)⟩
theorem rk_dead (l : Launch) (X : rb_X) (G : rb_G) (W M : rb_I) (h : LI G W M) (n is : Int32) (his : is = 0 ∨ is = 1) : rb_N l X yL_dead (.codeWith yL_dead cL_dead 5 (some .int) [(0, 7, 10, 14)]) 9 156 12 72 [rbR (0, 0, 0), rbI n, rbI is] (wI G W) (fun v9 G9 => PK (mr3 (if (m_dead M n is).1 = 0 then 0 else 1, (m_dead M n is).2)) (m_dead M n is).2 W v9 G9) := by
  obtain ⟨hm, cn, ag, t, R, hG, hs⟩ := h
  refine (k_L_dead l X G W cn ag hG n is hs.1.1 his).imp (fun v9 G9 hp => ?_)
  obtain ⟨rfl, e9⟩ := hp
  have okk := s_dead hs n is his
  refine ⟨by rw [mr_3z okk.1 okk.2.1 (by rcases cd_dead W cn n is with e | e <;> omega)], G, _, e9, ⟨hm, cn, ag, okk.2.2.choose, okk.2.2.choose_spec.choose, hG, okk.2.2.choose_spec.choose_spec⟩, lw_xf (xf_dead W cn n is)⟩
theorem rk_agree (l : Launch) (X : rb_X) (G : rb_G) (W M : rb_I) (h : LI G W M) (ho vi fr0 to0 pr th lw : Int32) : rb_N l X yL_agree (.codeWith yL_agree cL_agree 10 (some .int) [(0, 17, 20, 14), (0, 17, 26, 16), (0, 17, 32, 26)]) 8 182 12 800 [rbR (0, 0, 0), rbI ho, rbI vi, rbI fr0, rbI to0, rbI pr, rbI th, rbI lw] (wI G W) (fun v9 G9 => PK (mr3 (m_agree M ho vi fr0 to0 pr th lw)) (m_agree M ho vi fr0 to0 pr th lw).2 W v9 G9) := by
  obtain ⟨hm, cn, ag, t, R, hG, hs⟩ := h
  refine (k_L_agree l X G W cn ag hG ho vi fr0 to0 pr th lw hs.1.1 hm).imp (fun v9 G9 hp => ?_)
  obtain ⟨rfl, e9⟩ := hp
  have okk := s_agree hs ho vi fr0 to0 pr th lw
  refine ⟨by rw [mr_3 okk.1 okk.2.1 (by rcases cd_agree W cn ho vi fr0 to0 pr th lw with e | e | e | e <;> omega)], ?_⟩
  obtain ⟨t1, R1, h1⟩ := okk.2.2
  rcases e9 with ⟨e0, e9⟩ | ⟨e0, G1, W1, e9, hq, hK, hC1⟩
  · rw [if_neg e0] at h1
    exact ⟨G, _, e9, ⟨hm, cn, ag, t1, R1, hG, h1⟩, lw_xf (xf_agree W cn ho vi fr0 to0 pr th lw)⟩
  · rw [if_pos e0] at h1
    exact ⟨G1, W1, e9, ⟨hK.1, _, ag, t1, R1, hC1, sx_c h1 (fun r q hr hz => hq r q (Nat.ne_of_lt hr) hz) (fun _ _ _ => rfl)⟩, fun f q => (hq (14, f, 0) q (by simp) (fun z => absurd z.1 (show ¬ (14 : Nat) = 4 by decide))).trans (xf_agree W cn ho vi fr0 to0 pr th lw (14, f, 0) q (Nat.le_of_ble_eq_true rfl))⟩
theorem rk_steer (l : Launch) (X : rb_X) (G : rb_G) (W M : rb_I) (h : LI G W M) (ho n : Int32) : rb_N l X yL_steer (.codeWith yL_steer cL_steer 5 (some .int) [(0, 7, 10, 14), (0, 7, 16, 16)]) 9 156 12 72 [rbR (0, 0, 0), rbI ho, rbI n] (wI G W) (fun v9 G9 => PK (mr3 (m_steer M ho n)) (m_steer M ho n).2 W v9 G9) := by
  obtain ⟨hm, cn, ag, t, R, hG, hs⟩ := h
  refine (k_L_steer l X G W cn ag hG ho n hs.1.1).imp (fun v9 G9 hp => ?_)
  obtain ⟨rfl, e9⟩ := hp
  have okk := s_steer hs ho n
  refine ⟨by rw [mr_3 okk.1 okk.2.1 (by rcases cd_steer W cn ho n with e | e | e <;> omega)], G, _, e9, ⟨hm, cn, ag, okk.2.2.choose, okk.2.2.choose_spec.choose, hG, okk.2.2.choose_spec.choose_spec⟩, lw_xf (xf_steer W cn ho n)⟩
theorem rk_prices (l : Launch) (X : rb_X) (G : rb_G) (W M : rb_I) (h : LI G W M) (ho ah ab ca : Int32) : rb_N l X yL_prices (.codeWith yL_prices cL_prices 6 (some .int) [(0, 9, 12, 14), (0, 9, 18, 16)]) 9 157 12 72 [rbR (0, 0, 0), rbI ho, rbI ah, rbI ab, rbI ca] (wI G W) (fun v9 G9 => PK (mr3 (0, m_prices M ho ah ab ca)) (m_prices M ho ah ab ca) W v9 G9) := by
  obtain ⟨hm, cn, ag, t, R, hG, hs⟩ := h
  refine (k_L_prices l X G W cn ag hG ho ah ab ca hs.1.1).imp (fun v9 G9 hp => ?_)
  obtain ⟨rfl, e9⟩ := hp
  have okk := s_prices hs ho ah ab ca
  refine ⟨by rw [mr_3v okk.1 okk.2.1 (by rcases cd_prices W cn ho ah ab ca with e | e | e <;> omega)], G, _, e9, ⟨hm, cn, ag, okk.2.2.choose, okk.2.2.choose_spec.choose, hG, okk.2.2.choose_spec.choose_spec⟩, lw_xf (xf_prices W cn ho ah ab ca)⟩
theorem rk_lose (l : Launch) (X : rb_X) (G : rb_G) (W M : rb_I) (h : LI G W M) (n many : Int32) : rb_N l X yL_lose (.codeWith yL_lose cL_lose 5 (some .int) [(0, 7, 10, 14), (0, 7, 16, 16)]) 9 156 12 72 [rbR (0, 0, 0), rbI n, rbI many] (wI G W) (fun v9 G9 => PK (mr3 (m_lose M n many)) (m_lose M n many).2 W v9 G9) := by
  obtain ⟨hm, cn, ag, t, R, hG, hs⟩ := h
  refine (k_L_lose l X G W cn ag hG n many hs.1.1).imp (fun v9 G9 hp => ?_)
  obtain ⟨rfl, e9⟩ := hp
  have okk := s_lose hs n many
  refine ⟨by rw [mr_3 okk.1 okk.2.1 (by rcases cd_lose W cn n many with e | e | e <;> omega)], G, _, e9, ⟨hm, cn, ag, okk.2.2.choose, okk.2.2.choose_spec.choose, hG, okk.2.2.choose_spec.choose_spec⟩, lw_xf (xf_lose W cn n many)⟩
theorem rk_crash (l : Launch) (X : rb_X) (G : rb_G) (W M : rb_I) (h : LI G W M) (n : Int32) : rb_N l X yL_crash (.codeWith yL_crash cL_crash 4 (some .int) [(0, 6, 9, 14)]) 9 155 12 72 [rbR (0, 0, 0), rbI n] (wI G W) (fun v9 G9 => PK (mr3 (m_crash M n)) (m_crash M n).2 W v9 G9) := by
  obtain ⟨hm, cn, ag, t, R, hG, hs⟩ := h
  refine (k_L_crash l X G W cn ag hG n hs.1.1).imp (fun v9 G9 hp => ?_)
  obtain ⟨rfl, e9⟩ := hp
  have okk := s_crash hs n
  refine ⟨by rw [mr_3 okk.1 okk.2.1 (by rcases cd_crash W cn n with e | e <;> omega)], G, _, e9, ⟨hm, cn, ag, okk.2.2.choose, okk.2.2.choose_spec.choose, hG, okk.2.2.choose_spec.choose_spec⟩, lw_xf (xf_crash W cn n)⟩
theorem rk_subscriber (l : Launch) (X : rb_X) (G : rb_G) (W M : rb_I) (h : LI G W M) (ho pl fo0 : Int32) : rb_N l X yL_subscriber (.codeWith yL_subscriber cL_subscriber 6 (some .int) [(0, 9, 12, 14), (0, 9, 18, 16), (0, 9, 24, 26)]) 8 179 12 800 [rbR (0, 0, 0), rbI ho, rbI pl, rbI fo0] (wI G W) (fun v9 G9 => PK (mr3 (m_subscriber M ho pl fo0)) (m_subscriber M ho pl fo0).2 W v9 G9) := by
  obtain ⟨hm, cn, ag, t, R, hG, hs⟩ := h
  refine (k_L_subscriber l X G W cn ag hG ho pl fo0 hs.1.1 hm).imp (fun v9 G9 hp => ?_)
  obtain ⟨rfl, e9⟩ := hp
  have okk := s_subscriber hs ho pl fo0
  refine ⟨by rw [mr_3 okk.1 okk.2.1 (by rcases cd_subscriber W cn ho pl fo0 with e | e | e | e <;> omega)], ?_⟩
  obtain ⟨t1, R1, h1⟩ := okk.2.2
  rcases e9 with ⟨e0, e9⟩ | ⟨e0, G1, W1, e9, hq, hK, hC1⟩
  · rw [if_neg e0] at h1
    exact ⟨G, _, e9, ⟨hm, cn, ag, t1, R1, hG, h1⟩, lw_xf (xf_subscriber W cn ho pl fo0)⟩
  · rw [if_pos e0] at h1
    exact ⟨G1, W1, e9, ⟨hK.1, _, ag, t1, R1, hC1, sx_c h1 (fun r q hr hz => hq r q (Nat.ne_of_lt hr) hz) (fun _ _ _ => rfl)⟩, fun f q => (hq (14, f, 0) q (by simp) (fun z => absurd z.1 (show ¬ (14 : Nat) = 4 by decide))).trans (xf_subscriber W cn ho pl fo0 (14, f, 0) q (Nat.le_of_ble_eq_true rfl))⟩
theorem rk_move (l : Launch) (X : rb_X) (G : rb_G) (W M : rb_I) (h : LI G W M) (s p : Int32) : rb_N l X yL_move (.codeWith yL_move cL_move 5 (some .int) [(0, 7, 10, 14)]) 8 134 12 72 [rbR (0, 0, 0), rbI s, rbI p] (wI G W) (fun v9 G9 => PK (mr3 (m_move M s p)) (m_move M s p).2 W v9 G9) := by
  obtain ⟨hm, cn, ag, t, R, hG, hs⟩ := h
  refine (k_L_move l X G W cn ag hG s p hs.1.1).imp (fun v9 G9 hp => ?_)
  obtain ⟨rfl, e9⟩ := hp
  have okk := s_move hs s p
  refine ⟨by rw [mr_3 okk.1 okk.2.1 (by rcases cd_move W cn s p with e | e <;> omega)], G, _, e9, ⟨hm, cn, ag, okk.2.2.choose, okk.2.2.choose_spec.choose, hG, okk.2.2.choose_spec.choose_spec⟩, lw_xf (xf_move W cn s p)⟩
theorem rk_off (l : Launch) (X : rb_X) (G : rb_G) (W M : rb_I) (h : LI G W M) (s : Int32) : rb_N l X yL_off (.codeWith yL_off cL_off 4 (some .int) [(0, 6, 9, 14)]) 8 134 12 72 [rbR (0, 0, 0), rbI s] (wI G W) (fun v9 G9 => PK (mr3 (m_off M s)) (m_off M s).2 W v9 G9) := by
  obtain ⟨hm, cn, ag, t, R, hG, hs⟩ := h
  refine (k_L_off l X G W cn ag hG s hs.1.1).imp (fun v9 G9 hp => ?_)
  obtain ⟨rfl, e9⟩ := hp
  have okk := s_off hs s
  refine ⟨by rw [mr_3 okk.1 okk.2.1 (by rcases cd_off W cn s with e | e <;> omega)], G, _, e9, ⟨hm, cn, ag, okk.2.2.choose, okk.2.2.choose_spec.choose, hG, okk.2.2.choose_spec.choose_spec⟩, lw_xf (xf_off W cn s)⟩
theorem rk_attach (l : Launch) (X : rb_X) (G : rb_G) (W M : rb_I) (h : LI G W M) (s n : Int32) : rb_N l X yL_attach (.codeWith yL_attach cL_attach 5 (some .int) [(0, 7, 10, 14), (0, 7, 16, 26)]) 8 169 12 72 [rbR (0, 0, 0), rbI s, rbI n] (wI G W) (fun v9 G9 => PK (mr2 (m_attach M s n)) (m_attach M s n).2 W v9 G9) := by
  obtain ⟨hm, cn, ag, t, R, hG, hs⟩ := h
  refine (k_L_attach l X G W cn ag hG s n hs.1.1).imp (fun v9 G9 hp => ?_)
  obtain ⟨rfl, e9⟩ := hp
  have okk := s_attach hs s n
  refine ⟨by rw [mr_2 okk.1 okk.2.1 (cd_attach W cn s n)], G, _, e9, ⟨hm, cn, ag, okk.2.2.choose, okk.2.2.choose_spec.choose, hG, okk.2.2.choose_spec.choose_spec⟩, lw_xf (xf_attach W cn s n)⟩
theorem rk_emergency (l : Launch) (X : rb_X) (G : rb_G) (W M : rb_I) (h : LI G W M) (u : Int32) : rb_N l X yL_emergency (.codeWith yL_emergency cL_emergency 4 (some .int) [(0, 6, 9, 14)]) 8 135 12 72 [rbR (0, 0, 0), rbI u] (wI G W) (fun v9 G9 => PK (mr3 (m_emergency M u)) (m_emergency M u).2 W v9 G9) := by
  obtain ⟨hm, cn, ag, t, R, hG, hs⟩ := h
  refine (k_L_emergency l X G W cn ag hG u hs.1.1).imp (fun v9 G9 hp => ?_)
  obtain ⟨rfl, e9⟩ := hp
  have okk := s_emergency hs u
  refine ⟨by rw [mr_3 okk.1 okk.2.1 (by rcases cd_emergency W cn u with e | e <;> omega)], G, _, e9, ⟨hm, cn, ag, okk.2.2.choose, okk.2.2.choose_spec.choose, hG, okk.2.2.choose_spec.choose_spec⟩, lw_xf (xf_emergency W cn u)⟩
theorem rk_where (l : Launch) (X : rb_X) (G : rb_G) (W M : rb_I) (h : LI G W M) (s : Int32) : rb_N l X yL_where (.codeWith yL_where cL_where 4 (some .int) [(0, 6, 9, 14)]) 8 132 12 72 [rbR (0, 0, 0), rbI s] (wI G W) (fun v9 G9 => PK (mr3 (m_where M s)) (m_where M s).2 W v9 G9) := by
  obtain ⟨hm, cn, ag, t, R, hG, hs⟩ := h
  refine (k_L_where l X G W cn ag hG s hs.1.1).imp (fun v9 G9 hp => ?_)
  obtain ⟨rfl, e9⟩ := hp
  have okk := s_where hs s
  refine ⟨by rw [mr_3 okk.1 okk.2.1 (by rcases cd_where W cn s with e | e <;> omega)], G, _, e9, ⟨hm, cn, ag, okk.2.2.choose, okk.2.2.choose_spec.choose, hG, okk.2.2.choose_spec.choose_spec⟩, lw_xf (xf_where W cn s)⟩
theorem rk_contact (l : Launch) (X : rb_X) (G : rb_G) (W M : rb_I) (h : LI G W M) (n s : Int32) : rb_N l X yL_contact (.codeWith yL_contact cL_contact 5 (some .int) [(0, 7, 10, 14)]) 9 155 12 72 [rbR (0, 0, 0), rbI n, rbI s] (wI G W) (fun v9 G9 => PK (mr3 (m_contact M n s)) (m_contact M n s).2 W v9 G9) := by
  obtain ⟨hm, cn, ag, t, R, hG, hs⟩ := h
  refine (k_L_contact l X G W cn ag hG n s hs.1.1).imp (fun v9 G9 hp => ?_)
  obtain ⟨rfl, e9⟩ := hp
  have okk := s_contact hs n s
  refine ⟨by rw [mr_3 okk.1 okk.2.1 (by rcases cd_contact W cn n s with e | e <;> omega)], G, _, e9, ⟨hm, cn, ag, okk.2.2.choose, okk.2.2.choose_spec.choose, hG, okk.2.2.choose_spec.choose_spec⟩, lw_xf (xf_contact W cn n s)⟩
theorem rk_agrees (l : Launch) (X : rb_X) (G : rb_G) (W M : rb_I) (h : LI G W M) (u : Int32) : rb_N l X yL_agrees (.codeWith yL_agrees cL_agrees 4 (some .int) [(0, 6, 9, 14)]) 8 134 12 72 [rbR (0, 0, 0), rbI u] (wI G W) (fun v9 G9 => PK (mr3 (if (m_agrees M u).1 = 0 then 0 else 1, (m_agrees M u).2)) (m_agrees M u).2 W v9 G9) := by
  obtain ⟨hm, cn, ag, t, R, hG, hs⟩ := h
  refine (k_L_agrees l X G W cn ag hG u hs.1.1).imp (fun v9 G9 hp => ?_)
  obtain ⟨rfl, e9⟩ := hp
  have okk := s_agrees hs u
  refine ⟨by rw [mr_3z okk.1 okk.2.1 (by rcases cd_agrees W cn u with e | e <;> omega)], G, _, e9, ⟨hm, cn, ag, okk.2.2.choose, okk.2.2.choose_spec.choose, hG, okk.2.2.choose_spec.choose_spec⟩, lw_xf (xf_agrees W cn u)⟩
theorem rk_subscriberIs (l : Launch) (X : rb_X) (G : rb_G) (W M : rb_I) (h : LI G W M) (s what : Int32) : rb_N l X yL_subscriberIs (.codeWith yL_subscriberIs cL_subscriberIs 5 (some .int) [(0, 7, 10, 14), (0, 7, 16, 16)]) 8 134 12 72 [rbR (0, 0, 0), rbI s, rbI what] (wI G W) (fun v9 G9 => PK (mr3 (m_subscriberIs M s what)) (m_subscriberIs M s what).2 W v9 G9) := by
  obtain ⟨hm, cn, ag, t, R, hG, hs⟩ := h
  refine (k_L_subscriberIs l X G W cn ag hG s what hs.1.1).imp (fun v9 G9 hp => ?_)
  obtain ⟨rfl, e9⟩ := hp
  have okk := s_subscriberIs hs s what
  refine ⟨by rw [mr_3 okk.1 okk.2.1 (by rcases cd_subscriberIs W cn s what with e | e | e <;> omega)], G, _, e9, ⟨hm, cn, ag, okk.2.2.choose, okk.2.2.choose_spec.choose, hG, okk.2.2.choose_spec.choose_spec⟩, lw_xf (xf_subscriberIs W cn s what)⟩
theorem rk_cap (l : Launch) (X : rb_X) (G : rb_G) (W M : rb_I) (h : LI G W M) (s c co : Int32) (hco : co = 0 ∨ co = 1) : rb_N l X yL_cap (.codeWith yL_cap cL_cap 5 (some .int) [(0, 7, 10, 14), (0, 7, 16, 16)]) 8 136 12 72 [rbR (0, 0, 0), rbI s, rbI c, rbI co] (wI G W) (fun v9 G9 => PK (mr3 (0, m_cap M s c co)) (m_cap M s c co) W v9 G9) := by
  obtain ⟨hm, cn, ag, t, R, hG, hs⟩ := h
  refine (k_L_cap l X G W cn ag hG s c co hs.1.1 hco).imp (fun v9 G9 hp => ?_)
  obtain ⟨rfl, e9⟩ := hp
  have okk := s_cap hs s c co hco
  refine ⟨by rw [mr_3v okk.1 okk.2.1 (by rcases cd_cap W cn s c co with e | e | e <;> omega)], G, _, e9, ⟨hm, cn, ag, okk.2.2.choose, okk.2.2.choose_spec.choose, hG, okk.2.2.choose_spec.choose_spec⟩, lw_xf (xf_cap W cn s c co)⟩
theorem rk_call (l : Launch) (X : rb_X) (G : rb_G) (W M : rb_I) (h : LI G W M) (s o sec : Int32) : rb_N l X yL_call (.codeWith yL_call cL_call 6 (some .int) [(0, 9, 12, 14), (0, 9, 18, 16), (0, 9, 24, 26)]) 9 208 12 2200 [rbR (0, 0, 0), rbI s, rbI o, rbI sec] (wI G W) (fun v9 G9 => PK (mr3 (m_call M s o sec)) (m_call M s o sec).2 W v9 G9) := by
  obtain ⟨hm, cn, ag, t, R, hG, hs⟩ := h
  refine (k_L_call l X G W cn ag hG s o sec hs.1.1 hm (sx_hr hs)).imp (fun v9 G9 hp => ?_)
  obtain ⟨rfl, e9⟩ := hp
  have K := s_call hs s o sec
  refine ⟨by rw [mr_3 K.1 K.2.1 (by rcases cd_call W cn s o sec with e | e | e | e <;> omega)], ?_⟩
  rcases e9 with ⟨f1, e9⟩ | ⟨f1, ⟨f2, e9⟩ | ⟨f2, W1, W2, G3, W3, e9, q1, q2, q3, hK, hC3⟩⟩
  · obtain ⟨R1, h1⟩ := K.2.2.2.1 (Or.inl f1)
    rw [K.2.2.1 f1] at e9
    exact ⟨G, _, e9, ⟨hm, cn, ag, t, R1, hG, h1⟩, lw_rf W⟩
  · obtain ⟨R1, h1⟩ := K.2.2.2.1 (Or.inr f2)
    exact ⟨G, _, e9, ⟨hm, cn, ag, t, R1, hG, h1⟩, lw_rf W⟩
  · obtain ⟨R1, h1⟩ := K.2.2.2.2 f1 f2 W1 W2 W3 q1 q2 q3
    exact ⟨G3, W3, e9, ⟨hK.1, _, _, t, R1, hC3, h1⟩, lw_xf (xf_tr (xf_tr (xf_tr (xf_call W cn s o sec) (xf_xq q1)) (xf_tr (xf_settle _ _ _ _ _) (xf_xq q2))) (xf_tr (xf_settle _ _ _ _ _) (xf_xq q3)))⟩
theorem rk_paidAnew (l : Launch) (X : rb_X) (G : rb_G) (W M : rb_I) (h : LI G W M) (u : Int32) : rb_N l X yL_paidAnew (.codeWith yL_paidAnew cL_paidAnew 4 (some .int) [(0, 6, 9, 14)]) 8 135 12 72 [rbR (0, 0, 0), rbI u] (wI G W) (fun v9 G9 => PK (mr3 (m_paidAnew M u)) (m_paidAnew M u).2 W v9 G9) := by
  obtain ⟨hm, cn, ag, t, R, hG, hs⟩ := h
  refine (k_L_paidAnew l X G W cn ag hG u hs.1.1).imp (fun v9 G9 hp => ?_)
  obtain ⟨rfl, e9⟩ := hp
  have okk := s_paidAnew hs u
  refine ⟨by rw [mr_3 okk.1 okk.2.1 (by rcases cd_paidAnew W cn u with e | e <;> omega)], G, _, e9, ⟨hm, cn, ag, okk.2.2.choose, okk.2.2.choose_spec.choose, hG, okk.2.2.choose_spec.choose_spec⟩, lw_xf (xf_paidAnew W cn u)⟩
theorem rk_file (l : Launch) (X : rb_X) (G : rb_G) (W M : rb_I) (h : LI G W M) (vi ho : Int32) : rb_N l X yL_file (.codeWith yL_file cL_file 5 (some .int) [(0, 7, 10, 14), (0, 7, 16, 26)]) 9 156 12 72 [rbR (0, 0, 0), rbI vi, rbI ho] (wI G W) (fun v9 G9 => PK (mr2 (m_file M vi ho)) (m_file M vi ho).2 W v9 G9) := by
  obtain ⟨hm, cn, ag, t, R, hG, hs⟩ := h
  refine (k_L_file l X G W cn ag hG vi ho hs.1.1).imp (fun v9 G9 hp => ?_)
  obtain ⟨rfl, e9⟩ := hp
  have okk := s_file hs vi ho
  refine ⟨by rw [mr_2 okk.1 okk.2.1 (cd_file W cn vi ho)], G, _, e9, ⟨hm, cn, ag, okk.2.2.choose, okk.2.2.choose_spec.choose, hG, okk.2.2.choose_spec.choose_spec⟩, lw_xf (xf_file W cn vi ho)⟩
theorem rk_deliver (l : Launch) (X : rb_X) (G : rb_G) (W M : rb_I) (h : LI G W M) (vi ho fl : Int32) : rb_N l X yL_deliver (.codeWith yL_deliver cL_deliver 6 (some .int) [(0, 9, 12, 14)]) 9 157 12 72 [rbR (0, 0, 0), rbI vi, rbI ho, rbI fl] (wI G W) (fun v9 G9 => PK (mr3 (m_deliver M vi ho fl)) (m_deliver M vi ho fl).2 W v9 G9) := by
  obtain ⟨hm, cn, ag, t, R, hG, hs⟩ := h
  refine (k_L_deliver l X G W cn ag hG vi ho fl hs.1.1).imp (fun v9 G9 hp => ?_)
  obtain ⟨rfl, e9⟩ := hp
  have okk := s_deliver hs vi ho fl
  refine ⟨by rw [mr_3 okk.1 okk.2.1 (by rcases cd_deliver W cn vi ho fl with e | e <;> omega)], G, _, e9, ⟨hm, cn, ag, okk.2.2.choose, okk.2.2.choose_spec.choose, hG, okk.2.2.choose_spec.choose_spec⟩, lw_xf (xf_deliver W cn vi ho fl)⟩
theorem rk_owes (l : Launch) (X : rb_X) (G : rb_G) (W M : rb_I) (h : LI G W M) (ho vi : Int32) : rb_N l X yL_owes (.codeWith yL_owes cL_owes 5 (some .int) [(0, 7, 10, 14)]) 9 155 12 72 [rbR (0, 0, 0), rbI ho, rbI vi] (wI G W) (fun v9 G9 => PK (mr3 (m_owes M ho vi)) (m_owes M ho vi).2 W v9 G9) := by
  obtain ⟨hm, cn, ag, t, R, hG, hs⟩ := h
  refine (k_L_owes l X G W cn ag hG ho vi hs.1.1).imp (fun v9 G9 hp => ?_)
  obtain ⟨rfl, e9⟩ := hp
  have okk := s_owes hs ho vi
  refine ⟨by rw [mr_3 okk.1 okk.2.1 (by rcases cd_owes W cn ag ho vi with e | e <;> omega)], G, _, e9, ⟨hm, cn, ag, okk.2.2.choose, okk.2.2.choose_spec.choose, hG, okk.2.2.choose_spec.choose_spec⟩, lw_xf (xf_owes W cn ag ho vi)⟩
theorem rk_owesAnew (l : Launch) (X : rb_X) (G : rb_G) (W M : rb_I) (h : LI G W M) (ho vi : Int32) : rb_N l X yL_owesAnew (.codeWith yL_owesAnew cL_owesAnew 5 (some .int) [(0, 7, 10, 14)]) 9 155 12 72 [rbR (0, 0, 0), rbI ho, rbI vi] (wI G W) (fun v9 G9 => PK (mr3 (m_owesAnew M ho vi)) (m_owesAnew M ho vi).2 W v9 G9) := by
  obtain ⟨hm, cn, ag, t, R, hG, hs⟩ := h
  refine (k_L_owesAnew l X G W cn ag hG ho vi hs.1.1 hs.1.2.2.2.2.2.2.2.2.2.2.2.2.2.1).imp (fun v9 G9 hp => ?_)
  obtain ⟨rfl, e9⟩ := hp
  have okk := s_owesAnew hs ho vi
  refine ⟨by rw [mr_3 okk.1 okk.2.1 (by rcases cd_owesAnew W cn ag ho vi with e | e <;> omega)], G, _, e9, ⟨hm, cn, ag, okk.2.2.choose, okk.2.2.choose_spec.choose, hG, okk.2.2.choose_spec.choose_spec⟩, lw_xf (xf_owesAnew W cn ag ho vi)⟩
theorem rk_recorded (l : Launch) (X : rb_X) (G : rb_G) (W M : rb_I) (h : LI G W M) (vi ho what : Int32) : rb_N l X yL_recorded (.codeWith yL_recorded cL_recorded 6 (some .int) [(0, 9, 12, 14), (0, 9, 18, 16)]) 9 157 12 72 [rbR (0, 0, 0), rbI vi, rbI ho, rbI what] (wI G W) (fun v9 G9 => PK (mr3 (m_recorded M vi ho what)) (m_recorded M vi ho what).2 W v9 G9) := by
  obtain ⟨hm, cn, ag, t, R, hG, hs⟩ := h
  refine (k_L_recorded l X G W cn ag hG vi ho what hs.1.1).imp (fun v9 G9 hp => ?_)
  obtain ⟨rfl, e9⟩ := hp
  have okk := s_recorded hs vi ho what
  refine ⟨by rw [mr_3 okk.1 okk.2.1 (by rcases cd_recorded W cn vi ho what with e | e | e <;> omega)], G, _, e9, ⟨hm, cn, ag, okk.2.2.choose, okk.2.2.choose_spec.choose, hG, okk.2.2.choose_spec.choose_spec⟩, lw_xf (xf_recorded W cn vi ho what)⟩
theorem rk_pass (l : Launch) (X : rb_X) (G : rb_G) (W M : rb_I) (h : LI G W M) (mins : Int32) : rb_N l X yL_pass (.codeWith yL_pass cL_pass 4 (some .int) [(0, 6, 9, 16), (0, 6, 14, 26)]) 8 168 12 72 [rbR (0, 0, 0), rbI mins] (wI G W) (fun v9 G9 => PK (mr1 (m_pass M mins)) (m_pass M mins).2 W v9 G9) := by
  obtain ⟨hm, cn, ag, t, R, hG, hs⟩ := h
  refine (k_L_pass l X G W cn ag hG mins t hs.1.1 hs.1.2.2.1.2.1 hs.1.2.2.1.2.2.1).imp (fun v9 G9 hp => ?_)
  obtain ⟨rfl, e9⟩ := hp
  have okk := s_pass hs mins
  refine ⟨by rw [mr_1 okk.1 okk.2.1 (cd_pass W cn mins t)], G, _, e9, ⟨hm, cn, ag, okk.2.2.choose, okk.2.2.choose_spec.choose, hG, okk.2.2.choose_spec.choose_spec⟩, lw_xf (xf_pass W cn mins t)⟩
