/-! what the law asks, by the model's numbers -/
theorem up2_bk (f : rb_I) (r : rb_R) (k : Nat) (v : Int32) : up2 (up2 f r k v) r k (f r k) = f := by
  funext x q
  unfold up2
  by_cases h : x = r ∧ q = k
  · rw [if_pos h, h.1, h.2]
  · rw [if_neg h, if_neg h]
theorem qk_ {x : Int32} {M W : rb_I} {v9 : Option rb_V} {G9 : rb_G} {c : Int32} (h : PK x (up2 M (16, 0, 0) 0 c) W v9 G9) : PK x M W v9 G9 := by
  obtain ⟨h1, G1, W1, h2, h3, h4⟩ := h
  refine ⟨h1, G1, W1, h2, ?_, h4⟩
  have := LI_thr h3 (M (16, 0, 0) 0)
  rwa [up2_bk] at this
theorem mr3_0 {z : Int32 × rb_I} {x : Int32} {M : rb_I} (h : z = (x, up2 M (16, 0, 0) 0 0)) : mr3 z = x := by rw [h]; unfold mr3; rw [if_pos (up2_s _ _ _ _)]
theorem mr3_1 {z : Int32 × rb_I} {x : Int32} {M : rb_I} (h : z = (x, up2 M (16, 0, 0) 0 1)) : mr3 z = -7100 := by
  rw [h]
  unfold mr3
  simp [up2_s]
section
variable {W M : rb_I} {S A R P t d : Nat}
theorem is_sub (hl : lx W M S A R P t d) {s : Nat} (hs : s < S) : ¬ m_isSubscriber M (nI s) = 0 := by
  have hb := lr_b hl
  unfold m_isSubscriber
  rw [lm_S hl]
  exact (sub_lt (by omega) (nI_pos (by omega)) (nI_lt hs (by omega))).1
theorem no_sub (hl : lx W M S A R P t d) : m_isSubscriber M (nI S) = 0 := by
  have hb := lr_b hl
  unfold m_isSubscriber
  rw [lm_S hl]
  exact sub_nlt (by omega) (Or.inr (nI_nlt (Nat.le_refl _) (by omega)))
theorem is_net {n : Nat} (hn : n < 6) : ¬ m_isNetwork (nI n) = 0 := isNetwork_ne (vp_in_nI hn (by decide))
theorem is_plc {n : Nat} (hn : n < 8) : ¬ m_isPlace (nI n) = 0 := isPlace_ne (vp_in_nI hn (by decide))
theorem in_ok {k n : Nat} {c : Int32} (hc : c = nI n) (h : k ≤ n) (hn : n < 2 ^ 31) : ¬ m_in (nI k) 0 c = 0 := by
  rw [hc]
  exact in_yes (nI_pos (by omega)) (nI_nlt h hn)
theorem cl_ {n : Nat} (h : n < 1000000) : (nI n).toNatClampNeg = n := nI_clamp (by omega)
theorem e_where (hl : lx W M S A R P t d) {s : Nat} (hs : s < S) : m_where M (nI s) = (M (14, 21, 0) s, up2 M (16, 0, 0) 0 0) := by
  have hb := lr_b hl
  unfold m_where
  rw [if_neg (is_sub hl hs), cl_ (by omega)]
theorem e_paidAnew (hl : lx W M S A R P t d) {s : Nat} (hs : s < S) : m_paidAnew M (nI s) = (M (14, 24, 0) s, up2 M (16, 0, 0) 0 0) := by
  have hb := lr_b hl
  unfold m_paidAnew
  rw [if_neg (is_sub hl hs), cl_ (by omega)]
theorem e_contact (hl : lx W M S A R P t d) {n s : Nat} (hn : n < 6) (hs : s < S) : m_contact M (nI n) (nI s) = (M (14, 27, 0) (10 * n + s), up2 M (16, 0, 0) 0 0) := by
  have hb := lr_b hl
  unfold m_contact
  rw [if_neg (is_net hn), if_neg (is_sub hl hs), cl_ (by omega), cl_ (by omega)]
theorem e_contactX (hl : lx W M S A R P t d) : m_contact M 0 (nI S) = (0, up2 M (16, 0, 0) 0 1) := by
  unfold m_contact
  rw [if_neg (show ¬ m_isNetwork 0 = 0 by decide), if_pos (no_sub hl)]
theorem ab_thr (M : rb_I) (s : Int32) : m_abroadOf (up2 M (16, 0, 0) 0 0) s = m_abroadOf M s := by unfold m_abroadOf; simp [up2]
theorem ab_eq (hl : lx W M S A R P t d) {s : Nat} (hs : s < S) : m_abroadOf M (nI s) = if M (14, 25, 0) s = nI (t / 43200) then M (14, 26, 0) s else 0 := by
  have hb := lr_b hl
  unfold m_abroadOf
  rw [cl_ (by omega), lm_t hl, show nI t / 43200 = nI (t / 43200) from pk_div (by omega) (by decide) (by decide)]
theorem lp_mo (hl : lx W M S A R P t d) {s : Nat} (hs : s < S) : fo (py_m W (nI s) (nI (t / 43200))) P 0 = m_abroadOf M (nI s) := by
  have hb := lr_b hl
  rw [ab_eq hl hs]
  exact hl.2.2.2.2.2.2.2.2.1.2.2.1 s hs (t / 43200) (Nat.le_refl _) (by omega)
theorem lp_al (hl : lx W M S A R P t d) {s : Nat} (hs : s < S) : fo (py_a W (nI s)) P 0 = M (14, 24, 0) s := hl.2.2.2.2.2.2.2.2.1.2.1 s hs
theorem lp_z (hl : lx W M S A R P t d) {s : Nat} (hs : s < S) : ∃ z : Nat, z ≤ 870000 ∧ m_abroadOf M (nI s) = nI z := by
  have hb := lr_b hl
  obtain ⟨z, hz, e⟩ := hl.2.2.2.2.2.2.2.2.1.2.2.2 s hs
  have : 15000 * P ≤ 15000 * 58 := Nat.mul_le_mul_left _ (by omega)
  exact ⟨z, by omega, (ab_eq hl hs).trans e⟩
theorem wn_iff {z c : Nat} (hz : z ≤ 870000) (hc : c < 6000) : (100 : Int32) * nI z < 80 * nI c ↔ (5 : Int32) * nI z < 4 * nI c := by
  rw [show (100 : Int32) * nI z = nI (100 * z) from pk_mul 100 z, show (80 : Int32) * nI c = nI (80 * c) from pk_mul 80 c, show (5 : Int32) * nI z = nI (5 * z) from pk_mul 5 z, show (4 : Int32) * nI c = nI (4 * c) from pk_mul 4 c, nI_ltI (by omega) (by omega), nI_ltI (by omega) (by omega)]
  omega
theorem e_subIs0 (hl : lx W M S A R P t d) {s : Nat} (hs : s < S) : m_subscriberIs M (nI s) 0 = (M (14, 19, 0) s, up2 M (16, 0, 0) 0 0) := by
  have hb := lr_b hl
  unfold m_subscriberIs
  rw [if_neg (is_sub hl hs), if_neg (show ¬ m_in (0 : Int32) 0 6 = 0 by decide), if_pos rfl, cl_ (by omega)]
theorem e_subIs1 (hl : lx W M S A R P t d) {s : Nat} (hs : s < S) : m_subscriberIs M (nI s) 1 = (M (14, 17, 0) s, up2 M (16, 0, 0) 0 0) := by
  have hb := lr_b hl
  unfold m_subscriberIs
  rw [if_neg (is_sub hl hs), if_neg (show ¬ m_in (1 : Int32) 0 6 = 0 by decide), if_neg (show ¬ (1 : Int32) = 0 by decide), if_pos rfl, cl_ (by omega)]
theorem e_subIs2 (hl : lx W M S A R P t d) {s : Nat} (hs : s < S) : m_subscriberIs M (nI s) 2 = (M (14, 20, 0) s, up2 M (16, 0, 0) 0 0) := by
  have hb := lr_b hl
  unfold m_subscriberIs
  rw [if_neg (is_sub hl hs), if_neg (show ¬ m_in (2 : Int32) 0 6 = 0 by decide), if_neg (show ¬ (2 : Int32) = 0 by decide), if_neg (show ¬ (2 : Int32) = 1 by decide), if_pos rfl, cl_ (by omega)]
theorem e_subIs3 (hl : lx W M S A R P t d) {s : Nat} (hs : s < S) : m_subscriberIs M (nI s) 3 = (M (14, 24, 0) s, up2 M (16, 0, 0) 0 0) := by
  have hb := lr_b hl
  unfold m_subscriberIs
  rw [if_neg (is_sub hl hs), if_neg (show ¬ m_in (3 : Int32) 0 6 = 0 by decide), if_neg (show ¬ (3 : Int32) = 0 by decide), if_neg (show ¬ (3 : Int32) = 1 by decide), if_neg (show ¬ (3 : Int32) = 2 by decide), if_pos rfl, cl_ (by omega)]
theorem e_subIs4 (hl : lx W M S A R P t d) {s : Nat} (hs : s < S) : m_subscriberIs M (nI s) 4 = (m_abroadOf M (nI s), up2 M (16, 0, 0) 0 0) := by
  have hb := lr_b hl
  unfold m_subscriberIs
  rw [if_neg (is_sub hl hs), if_neg (show ¬ m_in (4 : Int32) 0 6 = 0 by decide), if_neg (show ¬ (4 : Int32) = 0 by decide), if_neg (show ¬ (4 : Int32) = 1 by decide), if_neg (show ¬ (4 : Int32) = 2 by decide), if_neg (show ¬ (4 : Int32) = 3 by decide), if_pos rfl, ab_thr]
theorem e_subIs5 (hl : lx W M S A R P t d) {s : Nat} (hs : s < S) : m_subscriberIs M (nI s) 5 = (if (5 : Int32) * m_abroadOf M (nI s) < 4 * M (14, 22, 0) s then 0 else 1, up2 M (16, 0, 0) 0 0) := by
  have hb := lr_b hl
  unfold m_subscriberIs
  rw [if_neg (is_sub hl hs), if_neg (show ¬ m_in (5 : Int32) 0 6 = 0 by decide), if_neg (show ¬ (5 : Int32) = 0 by decide), if_neg (show ¬ (5 : Int32) = 1 by decide), if_neg (show ¬ (5 : Int32) = 2 by decide), if_neg (show ¬ (5 : Int32) = 3 by decide), if_neg (show ¬ (5 : Int32) = 4 by decide), if_pos rfl]
  obtain ⟨z, hz, ez⟩ := lp_z hl hs
  obtain ⟨c, hc, ec⟩ := vp_nat (lr_cp hl hs)
  rw [cl_ (by omega), ab_thr, ez, ec]
  by_cases h : (100 : Int32) * nI z < 80 * nI c
  · rw [if_pos h, if_pos ((wn_iff hz hc).mp h)]
  · rw [if_neg h, if_neg (fun q => h ((wn_iff hz hc).mpr q))]
theorem e_subIs6 (hl : lx W M S A R P t d) {s : Nat} (hs : s < S) : m_subscriberIs M (nI s) 6 = (M (14, 22, 0) s, up2 M (16, 0, 0) 0 0) := by
  have hb := lr_b hl
  unfold m_subscriberIs
  rw [if_neg (is_sub hl hs), if_neg (show ¬ m_in (6 : Int32) 0 6 = 0 by decide), if_neg (show ¬ (6 : Int32) = 0 by decide), if_neg (show ¬ (6 : Int32) = 1 by decide), if_neg (show ¬ (6 : Int32) = 2 by decide), if_neg (show ¬ (6 : Int32) = 3 by decide), if_neg (show ¬ (6 : Int32) = 4 by decide), if_neg (show ¬ (6 : Int32) = 5 by decide), cl_ (by omega)]
/-- a book's bits from network j on -/
def bkP (M : rb_I) (s j B : Nat) : Prop := B < 64 ∧ ∀ n, n < 6 → (B / 2 ^ n % 2 = 1 ↔ j ≤ n ∧ ¬ M (14, 27, 0) (10 * n + s) = -1)
theorem bk_0 : ∀ B, B < 64 → (B = 0 ↔ ∀ n, n < 6 → ¬ B / 2 ^ n % 2 = 1) := by decide +kernel
theorem bk_1 : ∀ B, B < 64 → ∀ a, a < 6 → (B = 2 ^ a ↔ ∀ n, n < 6 → (B / 2 ^ n % 2 = 1 ↔ n = a)) := by decide +kernel
theorem bk_or : ∀ B, B < 64 → ∀ a, a < 6 → B ||| 2 ^ a < 64 ∧ ∀ n, n < 6 → ((B ||| 2 ^ a) / 2 ^ n % 2 = 1 ↔ B / 2 ^ n % 2 = 1 ∨ n = a) := by decide +kernel
theorem bkP_6 (M : rb_I) (s : Nat) : bkP M s 6 0 := ⟨by decide, fun n hn => ⟨fun h => absurd h (by rw [Nat.zero_div]; decide), fun h => by omega⟩⟩
theorem bkP_n {M : rb_I} {s j B : Nat} (h : bkP M s (j + 1) B) (hj : j < 6) (e : M (14, 27, 0) (10 * j + s) = -1) : bkP M s j B := ⟨h.1, fun n hn => (h.2 n hn).trans ⟨fun q => ⟨by omega, q.2⟩, fun q => ⟨by
  rcases Nat.lt_or_ge j n with w | w
  · exact w
  · exact absurd (by rw [show n = j by omega]; exact e) q.2, q.2⟩⟩⟩
theorem bkP_y {M : rb_I} {s j B : Nat} (h : bkP M s (j + 1) B) (hj : j < 6) (e : ¬ M (14, 27, 0) (10 * j + s) = -1) : bkP M s j (B ||| 2 ^ j) := ⟨(bk_or B h.1 j hj).1, fun n hn => ((bk_or B h.1 j hj).2 n hn).trans ⟨fun q => by
  rcases q with q | q
  · exact ⟨by have := ((h.2 n hn).mp q).1; omega, ((h.2 n hn).mp q).2⟩
  · rw [q]; exact ⟨Nat.le_refl _, e⟩, fun q => by
  rcases Nat.lt_or_ge j n with w | w
  · exact Or.inl ((h.2 n hn).mpr ⟨w, q.2⟩)
  · exact Or.inr (by omega)⟩⟩
/-- the lowest network from j on that may be used -/
def okn (M : rb_I) (pl n : Nat) : Prop := ¬ m_isIn (M (14, 2, 0) pl) (nI n) = 0 ∧ M (15, 3, 0) n = 0
def loP (M : rb_I) (pl j : Nat) (L : Int32) : Prop := (L = -1 ∧ ∀ n, j ≤ n → n < 6 → ¬ okn M pl n) ∨ ∃ k, j ≤ k ∧ k < 6 ∧ L = nI k ∧ okn M pl k ∧ ∀ n, j ≤ n → n < k → ¬ okn M pl n
theorem loP_6 (M : rb_I) (pl : Nat) : loP M pl 6 (-1) := Or.inl ⟨rfl, fun n h1 h2 => by omega⟩
theorem loP_n {M : rb_I} {pl j : Nat} {L : Int32} (h : loP M pl (j + 1) L) (e : ¬ okn M pl j) : loP M pl j L := by
  have key : ∀ n, ¬ (j + 1 ≤ n) → j ≤ n → ¬ okn M pl n := fun n h1 h2 => by rw [show n = j by omega]; exact e
  rcases h with ⟨h1, h2⟩ | ⟨k, h1, h2, h3, h4, h5⟩
  · refine Or.inl ⟨h1, fun n a b => ?_⟩
    by_cases w : j + 1 ≤ n
    · exact h2 n w b
    · exact key n w a
  · refine Or.inr ⟨k, by omega, h2, h3, h4, fun n a b => ?_⟩
    by_cases w : j + 1 ≤ n
    · exact h5 n w b
    · exact key n w a
theorem loP_y {M : rb_I} {pl j : Nat} (hj : j < 6) (e : okn M pl j) : loP M pl j (nI j) := Or.inr ⟨j, Nat.le_refl _, hj, rfl, e, fun n h1 h2 => by omega⟩
theorem em_fo {M : rb_I} {s pl : Nat} {L : Int32} (hs : s < 10) (hpl : pl < 8) (e17 : M (14, 17, 0) s = nI pl) (e19 : M (14, 19, 0) s = -1) (h : loP M pl 0 L) : fo (m_emergency_b M (nI s)) 6 (M (14, 19, 0) s) = L := by
  have st : ∀ i x, m_emergency_b M (nI s) i x = if x = -1 then (if m_isIn (M (14, 2, 0) pl) (nI i) = 0 then x else if M (15, 3, 0) i = 0 then nI i else x) else x := fun i x => by
    unfold m_emergency_b
    rw [nI_clamp (show s < 2 ^ 31 by omega), e17, nI_clamp (show pl < 2 ^ 31 by omega)]
  have no : ∀ m, (∀ n, n < m → ¬ okn M pl n) → fo (m_emergency_b M (nI s)) m (M (14, 19, 0) s) = -1 := by
    intro m
    induction m with
    | zero => intro _; rw [fo_0]; exact e19
    | succ m ih =>
      intro q
      rw [fo_s, ih (fun n hn => q n (by omega)), st, if_pos rfl]
      by_cases w : m_isIn (M (14, 2, 0) pl) (nI m) = 0
      · rw [if_pos w]
      · rw [if_neg w, if_neg (fun z => q m (Nat.lt_succ_self _) ⟨w, z⟩)]
  rcases h with ⟨h1, h2⟩ | ⟨k, -, h2, h3, h4, h5⟩
  · rw [h1]
    exact no 6 (fun n hn => h2 n (Nat.zero_le _) hn)
  · have yes : ∀ m, k < m → m ≤ 6 → fo (m_emergency_b M (nI s)) m (M (14, 19, 0) s) = nI k := by
      intro m
      induction m with
      | zero => intro q _; omega
      | succ m ih =>
        intro q q6
        rw [fo_s]
        by_cases w : k < m
        · rw [ih w (by omega), st, if_neg (nI_ne1 (by omega))]
        · obtain rfl : m = k := by omega
          rw [no m (fun n hn => h5 n (Nat.zero_le _) hn), st, if_pos rfl, if_neg h4.1, if_pos h4.2]
    rw [h3]
    exact yes 6 h2 (Nat.le_refl _)
theorem em_at {M : rb_I} {s : Nat} (e19 : ¬ M (14, 19, 0) s = -1) : fo (m_emergency_b M (nI s)) 6 (M (14, 19, 0) s) = M (14, 19, 0) s := by
  have : ∀ m, fo (m_emergency_b M (nI s)) m (M (14, 19, 0) s) = M (14, 19, 0) s := by
    intro m
    induction m with
    | zero => rw [fo_0]
    | succ m ih => rw [fo_s, ih]; unfold m_emergency_b; rw [if_neg e19]
  exact this 6
theorem e_emergency (hl : lx W M S A R P t d) {s : Nat} (hs : s < S) : m_emergency M (nI s) = (fo (m_emergency_b M (nI s)) 6 (M (14, 19, 0) s), up2 M (16, 0, 0) 0 0) := by
  have hb := lr_b hl
  unfold m_emergency
  rw [if_neg (is_sub hl hs), cl_ (by omega)]
/-- whether the books agree, as a number -/
def agP (M : rb_I) (s m : Nat) : Prop := ∀ n, n < m → (¬ M (14, 27, 0) (10 * n + s) = -1 ↔ nI n = M (14, 19, 0) s)
theorem ag_fo (M : rb_I) (s : Nat) (hs : s < 10) (x : Int32) : ∀ m, m ≤ 6 → (x = 0 → fo (m_agrees_b M (nI s)) m x = 0) ∧ (x = 1 → (agP M s m ∧ fo (m_agrees_b M (nI s)) m x = 1) ∨ (¬ agP M s m ∧ fo (m_agrees_b M (nI s)) m x = 0)) := by
  intro m
  induction m with
  | zero =>
    intro _
    rw [fo_0]
    exact ⟨fun h => h, fun h => Or.inl ⟨fun n hn => absurd hn (Nat.not_lt_zero _), h⟩⟩
  | succ m ih =>
    intro h6
    obtain ⟨i1, i2⟩ := ih (by omega)
    rw [fo_s]
    refine ⟨fun h => ?_, fun h => ?_⟩
    · rw [i1 h]
      unfold m_agrees_b
      rw [if_pos rfl]
    · rcases i2 h with ⟨ha, e⟩ | ⟨ha, e⟩
      · rw [e]
        unfold m_agrees_b
        rw [nI_clamp (show s < 2 ^ 31 by omega), if_neg (show ¬ (1 : Int32) = 0 by decide)]
        have key : (¬ M (14, 27, 0) (10 * m + s) = -1 ↔ nI m = M (14, 19, 0) s) → agP M s (m + 1) := fun hk n hn => by
          rcases Nat.lt_or_ge n m with w | w
          · exact ha n w
          · rw [show n = m by omega]; exact hk
        by_cases q : M (14, 27, 0) (10 * m + s) = -1
        · by_cases z : nI m = M (14, 19, 0) s
          · rw [if_pos q, if_pos z]
            exact Or.inr ⟨fun a => ((a m (Nat.lt_succ_self _)).mpr z) q, rfl⟩
          · rw [if_pos q, if_neg z]
            exact Or.inl ⟨key ⟨fun w => absurd q w, fun w => absurd w z⟩, rfl⟩
        · by_cases z : nI m = M (14, 19, 0) s
          · rw [if_neg q, if_pos z]
            exact Or.inl ⟨key ⟨fun _ => z, fun _ => q⟩, rfl⟩
          · rw [if_neg q, if_neg z]
            exact Or.inr ⟨fun a => z ((a m (Nat.lt_succ_self _)).mp q), rfl⟩
      · rw [e]
        unfold m_agrees_b
        rw [if_pos rfl]
        exact Or.inr ⟨fun a => ha (fun n hn => a n (by omega)), rfl⟩
def agQ (M : rb_I) (s : Nat) : Prop := (M (14, 19, 0) s = -1 ∨ M (14, 21, 0) s = M (14, 19, 0) s) ∧ agP M s 6
theorem e_agrees (hl : lx W M S A R P t d) {s : Nat} (hs : s < S) {y : Int32} (hy : (y = 1 ∧ agQ M s) ∨ (y = 0 ∧ ¬ agQ M s)) : m_agrees M (nI s) = (y, up2 M (16, 0, 0) 0 0) := by
  have hb := lr_b hl
  unfold m_agrees
  rw [if_neg (is_sub hl hs), cl_ (show s < 1000000 by omega)]
  have k1 := (ag_fo M s (by omega) 1 6 (Nat.le_refl _)).2 rfl
  have k0 := (ag_fo M s (by omega) 0 6 (Nat.le_refl _)).1 rfl
  have fin : (M (14, 19, 0) s = -1 ∨ M (14, 21, 0) s = M (14, 19, 0) s) → fo (m_agrees_b M (nI s)) 6 1 = y := fun h => by
    rcases k1 with ⟨a, e⟩ | ⟨a, e⟩
    · rw [e]
      rcases hy with ⟨q, _⟩ | ⟨_, q⟩
      · exact q.symm
      · exact absurd ⟨h, a⟩ q
    · rw [e]
      rcases hy with ⟨_, q⟩ | ⟨q, _⟩
      · exact absurd q.2 a
      · exact q.symm
  by_cases h1 : M (14, 19, 0) s = -1
  · rw [if_pos h1, fin (Or.inl h1)]
  · rw [if_neg h1]
    by_cases h3 : M (14, 21, 0) s = M (14, 19, 0) s
    · rw [if_pos h3, fin (Or.inr h3)]
    · rw [if_neg h3, k0]
      rcases hy with ⟨_, q⟩ | ⟨q, _⟩
      · exact absurd q.1 (fun z => z.elim h1 h3)
      · rw [q]
theorem mo_thr (M : rb_I) (a b c : Int32) : m_minutesOf (up2 M (16, 0, 0) 0 0) a b c = m_minutesOf M a b c := by unfold m_minutesOf m_minutesOf_b m_isOf; simp [up2]
theorem e_recorded {M : rb_I} {vi ho st : Nat} (hv : vi < 6) (hh : ho < 6) (hs : st < 4) : m_recorded M (nI vi) (nI ho) (nI st) = (m_minutesOf M (nI vi) (nI ho) (nI st), up2 M (16, 0, 0) 0 0) := by
  unfold m_recorded
  rw [if_neg (is_net hv), if_neg (is_net hh), if_neg (in_ok (c := 3) (n := 3) rfl (show st ≤ 3 by omega) (by decide)), mo_thr]
def ow_b (M : rb_I) (vi ho all : Int32) (i : Nat) (s : Int32) : Int32 := if m_isOf M (nI i) vi ho = 0 then s + 0 else if M (14, 35, 0) i = 2 then s + M (14, 32, 0) i * m_priceOf M (M (14, 34, 0) i) all else s + 0
theorem e_owes (hl : lx W M S A R P t d) {vi ho : Nat} (hv : vi < 6) (hh : ho < 6) : m_owes M (nI ho) (nI vi) = (fo (ow_b M (nI vi) (nI ho) (m_minutesOf M (nI vi) (nI ho) 2)) R 0, up2 M (16, 0, 0) 0 0) := by
  have hb := lr_b hl
  have e : m_owes_b M (nI ho) (nI vi) = ow_b M (nI vi) (nI ho) (m_minutesOf M (nI vi) (nI ho) 2) := by
    funext i s
    unfold m_owes_b ow_b
    rw [mo_thr]
    unfold m_isOf m_priceOf
    simp [up2]
  unfold m_owes
  rw [if_neg (is_net hh), if_neg (is_net hv), lm_R hl, cl_ (by omega), e]
theorem e_owesAnew (hl : lx W M S A R P t d) {vi ho : Nat} (hv : vi < 6) (hh : ho < 6) : m_owesAnew M (nI ho) (nI vi) = (fo (ow_b M (nI vi) (nI ho) (m_minutesOf M (nI vi) (nI ho) 2)) R 0, up2 M (16, 0, 0) 0 0) := by
  unfold m_owesAnew
  rw [e_owes hl hv hh]
theorem or_vh {vi ho : Nat} (h : vi < 8) : nI vi ||| nI (ho * 2 ^ 3) = nI (vi + 8 * ho) := by rw [bs_or, bs_orD (k := 3) (by omega), Nat.mul_comm ho]
end
theorem q_where (l : Launch) (X : rb_X) (G : rb_G) (W M : rb_I) (h : LI G W M) {S A R P t d : Nat} (hl : lx W M S A R P t d) {s : Nat} (hs : s < S) : rb_N l X yL_where (.codeWith yL_where cL_where 4 (some .int) [(0, 6, 9, 14)]) 8 132 12 72 [rbR (0, 0, 0), rbI (nI s)] (wI G W) (fun v9 G9 => PK (M (14, 21, 0) s) M W v9 G9) := by
  refine (rk_where l X G W M h (nI s)).imp (fun v9 G9 hp => ?_)
  rw [mr3_0 (e_where hl hs), e_where hl hs] at hp
  exact qk_ hp
theorem q_paidAnew (l : Launch) (X : rb_X) (G : rb_G) (W M : rb_I) (h : LI G W M) {S A R P t d : Nat} (hl : lx W M S A R P t d) {s : Nat} (hs : s < S) : rb_N l X yL_paidAnew (.codeWith yL_paidAnew cL_paidAnew 4 (some .int) [(0, 6, 9, 14)]) 8 135 12 72 [rbR (0, 0, 0), rbI (nI s)] (wI G W) (fun v9 G9 => PK (M (14, 24, 0) s) M W v9 G9) := by
  refine (rk_paidAnew l X G W M h (nI s)).imp (fun v9 G9 hp => ?_)
  rw [mr3_0 (e_paidAnew hl hs), e_paidAnew hl hs] at hp
  exact qk_ hp
theorem q_contact (l : Launch) (X : rb_X) (G : rb_G) (W M : rb_I) (h : LI G W M) {S A R P t d : Nat} (hl : lx W M S A R P t d) {n s : Nat} (hn : n < 6) (hs : s < S) : rb_N l X yL_contact (.codeWith yL_contact cL_contact 5 (some .int) [(0, 7, 10, 14)]) 9 155 12 72 [rbR (0, 0, 0), rbI (nI n), rbI (nI s)] (wI G W) (fun v9 G9 => PK (M (14, 27, 0) (10 * n + s)) M W v9 G9) := by
  refine (rk_contact l X G W M h (nI n) (nI s)).imp (fun v9 G9 hp => ?_)
  rw [mr3_0 (e_contact hl hn hs), e_contact hl hn hs] at hp
  exact qk_ hp
theorem q_contactX (l : Launch) (X : rb_X) (G : rb_G) (W M : rb_I) (h : LI G W M) {S A R P t d : Nat} (hl : lx W M S A R P t d)  : rb_N l X yL_contact (.codeWith yL_contact cL_contact 5 (some .int) [(0, 7, 10, 14)]) 9 155 12 72 [rbR (0, 0, 0), rbI 0, rbI (nI S)] (wI G W) (fun v9 G9 => PK (-7100) M W v9 G9) := by
  refine (rk_contact l X G W M h 0 (nI S)).imp (fun v9 G9 hp => ?_)
  rw [mr3_1 (e_contactX hl), e_contactX hl] at hp
  exact qk_ hp
theorem q_subIs0 (l : Launch) (X : rb_X) (G : rb_G) (W M : rb_I) (h : LI G W M) {S A R P t d : Nat} (hl : lx W M S A R P t d) {s : Nat} (hs : s < S) : rb_N l X yL_subscriberIs (.codeWith yL_subscriberIs cL_subscriberIs 5 (some .int) [(0, 7, 10, 14), (0, 7, 16, 16)]) 8 134 12 72 [rbR (0, 0, 0), rbI (nI s), rbI 0] (wI G W) (fun v9 G9 => PK (M (14, 19, 0) s) M W v9 G9) := by
  refine (rk_subscriberIs l X G W M h (nI s) 0).imp (fun v9 G9 hp => ?_)
  rw [mr3_0 (e_subIs0 hl hs), e_subIs0 hl hs] at hp
  exact qk_ hp
theorem q_subIs1 (l : Launch) (X : rb_X) (G : rb_G) (W M : rb_I) (h : LI G W M) {S A R P t d : Nat} (hl : lx W M S A R P t d) {s : Nat} (hs : s < S) : rb_N l X yL_subscriberIs (.codeWith yL_subscriberIs cL_subscriberIs 5 (some .int) [(0, 7, 10, 14), (0, 7, 16, 16)]) 8 134 12 72 [rbR (0, 0, 0), rbI (nI s), rbI 1] (wI G W) (fun v9 G9 => PK (M (14, 17, 0) s) M W v9 G9) := by
  refine (rk_subscriberIs l X G W M h (nI s) 1).imp (fun v9 G9 hp => ?_)
  rw [mr3_0 (e_subIs1 hl hs), e_subIs1 hl hs] at hp
  exact qk_ hp
theorem q_subIs2 (l : Launch) (X : rb_X) (G : rb_G) (W M : rb_I) (h : LI G W M) {S A R P t d : Nat} (hl : lx W M S A R P t d) {s : Nat} (hs : s < S) : rb_N l X yL_subscriberIs (.codeWith yL_subscriberIs cL_subscriberIs 5 (some .int) [(0, 7, 10, 14), (0, 7, 16, 16)]) 8 134 12 72 [rbR (0, 0, 0), rbI (nI s), rbI 2] (wI G W) (fun v9 G9 => PK (M (14, 20, 0) s) M W v9 G9) := by
  refine (rk_subscriberIs l X G W M h (nI s) 2).imp (fun v9 G9 hp => ?_)
  rw [mr3_0 (e_subIs2 hl hs), e_subIs2 hl hs] at hp
  exact qk_ hp
theorem q_subIs3 (l : Launch) (X : rb_X) (G : rb_G) (W M : rb_I) (h : LI G W M) {S A R P t d : Nat} (hl : lx W M S A R P t d) {s : Nat} (hs : s < S) : rb_N l X yL_subscriberIs (.codeWith yL_subscriberIs cL_subscriberIs 5 (some .int) [(0, 7, 10, 14), (0, 7, 16, 16)]) 8 134 12 72 [rbR (0, 0, 0), rbI (nI s), rbI 3] (wI G W) (fun v9 G9 => PK (M (14, 24, 0) s) M W v9 G9) := by
  refine (rk_subscriberIs l X G W M h (nI s) 3).imp (fun v9 G9 hp => ?_)
  rw [mr3_0 (e_subIs3 hl hs), e_subIs3 hl hs] at hp
  exact qk_ hp
theorem q_subIs4 (l : Launch) (X : rb_X) (G : rb_G) (W M : rb_I) (h : LI G W M) {S A R P t d : Nat} (hl : lx W M S A R P t d) {s : Nat} (hs : s < S) : rb_N l X yL_subscriberIs (.codeWith yL_subscriberIs cL_subscriberIs 5 (some .int) [(0, 7, 10, 14), (0, 7, 16, 16)]) 8 134 12 72 [rbR (0, 0, 0), rbI (nI s), rbI 4] (wI G W) (fun v9 G9 => PK (m_abroadOf M (nI s)) M W v9 G9) := by
  refine (rk_subscriberIs l X G W M h (nI s) 4).imp (fun v9 G9 hp => ?_)
  rw [mr3_0 (e_subIs4 hl hs), e_subIs4 hl hs] at hp
  exact qk_ hp
theorem q_subIs5 (l : Launch) (X : rb_X) (G : rb_G) (W M : rb_I) (h : LI G W M) {S A R P t d : Nat} (hl : lx W M S A R P t d) {s : Nat} (hs : s < S) : rb_N l X yL_subscriberIs (.codeWith yL_subscriberIs cL_subscriberIs 5 (some .int) [(0, 7, 10, 14), (0, 7, 16, 16)]) 8 134 12 72 [rbR (0, 0, 0), rbI (nI s), rbI 5] (wI G W) (fun v9 G9 => PK (if (5 : Int32) * m_abroadOf M (nI s) < 4 * M (14, 22, 0) s then 0 else 1) M W v9 G9) := by
  refine (rk_subscriberIs l X G W M h (nI s) 5).imp (fun v9 G9 hp => ?_)
  rw [mr3_0 (e_subIs5 hl hs), e_subIs5 hl hs] at hp
  exact qk_ hp
theorem q_subIs6 (l : Launch) (X : rb_X) (G : rb_G) (W M : rb_I) (h : LI G W M) {S A R P t d : Nat} (hl : lx W M S A R P t d) {s : Nat} (hs : s < S) : rb_N l X yL_subscriberIs (.codeWith yL_subscriberIs cL_subscriberIs 5 (some .int) [(0, 7, 10, 14), (0, 7, 16, 16)]) 8 134 12 72 [rbR (0, 0, 0), rbI (nI s), rbI 6] (wI G W) (fun v9 G9 => PK (M (14, 22, 0) s) M W v9 G9) := by
  refine (rk_subscriberIs l X G W M h (nI s) 6).imp (fun v9 G9 hp => ?_)
  rw [mr3_0 (e_subIs6 hl hs), e_subIs6 hl hs] at hp
  exact qk_ hp
theorem q_emergency (l : Launch) (X : rb_X) (G : rb_G) (W M : rb_I) (h : LI G W M) {S A R P t d : Nat} (hl : lx W M S A R P t d) {s : Nat} (hs : s < S) : rb_N l X yL_emergency (.codeWith yL_emergency cL_emergency 4 (some .int) [(0, 6, 9, 14)]) 8 135 12 72 [rbR (0, 0, 0), rbI (nI s)] (wI G W) (fun v9 G9 => PK (fo (m_emergency_b M (nI s)) 6 (M (14, 19, 0) s)) M W v9 G9) := by
  refine (rk_emergency l X G W M h (nI s)).imp (fun v9 G9 hp => ?_)
  rw [mr3_0 (e_emergency hl hs), e_emergency hl hs] at hp
  exact qk_ hp
theorem q_recorded (l : Launch) (X : rb_X) (G : rb_G) (W M : rb_I) (h : LI G W M) {S A R P t d : Nat} (hl : lx W M S A R P t d) {vi ho st : Nat} (hv : vi < 6) (hh : ho < 6) (hs : st < 4) : rb_N l X yL_recorded (.codeWith yL_recorded cL_recorded 6 (some .int) [(0, 9, 12, 14), (0, 9, 18, 16)]) 9 157 12 72 [rbR (0, 0, 0), rbI (nI vi), rbI (nI ho), rbI (nI st)] (wI G W) (fun v9 G9 => PK (m_minutesOf M (nI vi) (nI ho) (nI st)) M W v9 G9) := by
  refine (rk_recorded l X G W M h (nI vi) (nI ho) (nI st)).imp (fun v9 G9 hp => ?_)
  rw [mr3_0 (e_recorded hv hh hs), e_recorded hv hh hs] at hp
  exact qk_ hp
theorem q_owes (l : Launch) (X : rb_X) (G : rb_G) (W M : rb_I) (h : LI G W M) {S A R P t d : Nat} (hl : lx W M S A R P t d) {vi ho : Nat} (hv : vi < 6) (hh : ho < 6) : rb_N l X yL_owes (.codeWith yL_owes cL_owes 5 (some .int) [(0, 7, 10, 14)]) 9 155 12 72 [rbR (0, 0, 0), rbI (nI ho), rbI (nI vi)] (wI G W) (fun v9 G9 => PK (fo (ow_b M (nI vi) (nI ho) (m_minutesOf M (nI vi) (nI ho) 2)) R 0) M W v9 G9) := by
  refine (rk_owes l X G W M h (nI ho) (nI vi)).imp (fun v9 G9 hp => ?_)
  rw [mr3_0 (e_owes hl hv hh), e_owes hl hv hh] at hp
  exact qk_ hp
theorem q_owesAnew (l : Launch) (X : rb_X) (G : rb_G) (W M : rb_I) (h : LI G W M) {S A R P t d : Nat} (hl : lx W M S A R P t d) {vi ho : Nat} (hv : vi < 6) (hh : ho < 6) : rb_N l X yL_owesAnew (.codeWith yL_owesAnew cL_owesAnew 5 (some .int) [(0, 7, 10, 14)]) 9 155 12 72 [rbR (0, 0, 0), rbI (nI ho), rbI (nI vi)] (wI G W) (fun v9 G9 => PK (fo (ow_b M (nI vi) (nI ho) (m_minutesOf M (nI vi) (nI ho) 2)) R 0) M W v9 G9) := by
  refine (rk_owesAnew l X G W M h (nI ho) (nI vi)).imp (fun v9 G9 hp => ?_)
  rw [mr3_0 (e_owesAnew hl hv hh), e_owesAnew hl hv hh] at hp
  exact qk_ hp
theorem q_agrees (l : Launch) (X : rb_X) (G : rb_G) (W M : rb_I) (h : LI G W M) {S A R P t d : Nat} (hl : lx W M S A R P t d) {s : Nat} (hs : s < S) {y : Int32} (hy : (y = 1 ∧ agQ M s) ∨ (y = 0 ∧ ¬ agQ M s)) : rb_N l X yL_agrees (.codeWith yL_agrees cL_agrees 4 (some .int) [(0, 6, 9, 14)]) 8 134 12 72 [rbR (0, 0, 0), rbI (nI s)] (wI G W) (fun v9 G9 => PK y M W v9 G9) := by
  refine (rk_agrees l X G W M h (nI s)).imp (fun v9 G9 hp => ?_)
  rw [e_agrees hl hs hy] at hp
  have e : (if y = 0 then (0 : Int32) else 1) = y := by
    rcases hy with ⟨q, _⟩ | ⟨q, _⟩ <;> rw [q] <;> rfl
  rw [mr3_0 (x := y) (M := M) (by rw [e])] at hp
  exact qk_ hp
theorem q_month (l : Launch) (X : rb_X) (G : rb_G) (W M : rb_I) (hm : MS G) {S A R P t d : Nat} (hl : lx W M S A R P t d) {s : Nat} (hs : s < S) : rb_N l X yL_paid (.code yL_paid cL_paid 8 (some .int)) 1 12 0 0 [rbI (nI s), rbI 1, rbR (14, 7, 0), rbR (14, 8, 0), rbR (14, 0, 0)] (wI G W) (fun v9 G9 => v9 = some (rbI (m_abroadOf M (nI s))) ∧ G9 = wI G W) := by
  have hb := lr_b hl
  exact (k_L_paid_month l X G W M hm hl s (by omega)).imp (fun v9 G9 hp => ⟨hp.1.trans (by rw [lp_mo hl hs]), hp.2⟩)
theorem q_all (l : Launch) (X : rb_X) (G : rb_G) (W M : rb_I) (hm : MS G) {S A R P t d : Nat} (hl : lx W M S A R P t d) {s : Nat} (hs : s < S) : rb_N l X yL_paid (.code yL_paid cL_paid 8 (some .int)) 1 12 0 0 [rbI (nI s), rbI 0, rbR (14, 7, 0), rbR (14, 8, 0), rbR (14, 0, 0)] (wI G W) (fun v9 G9 => v9 = some (rbI (M (14, 24, 0) s)) ∧ G9 = wI G W) := by
  have hb := lr_b hl
  exact (k_L_paid_all l X G W M hm hl s (by omega)).imp (fun v9 G9 hp => ⟨hp.1.trans (by rw [lp_al hl hs]), hp.2⟩)
theorem shl1 : ∀ n, n < 6 → (1 : Int32) <<< (nI n &&& 31) = nI (2 ^ n) := by decide +kernel
theorem p2_ : ∀ n, n < 6 → 2 ^ n < 2 ^ 31 := by decide +kernel
theorem or_0 (n : Nat) : nI n ||| 0 = nI n := by rw [show (0 : Int32) = nI 0 from rfl, bs_or, Nat.or_zero]
theorem ag_a {M : rb_I} {s B : Nat} (e19 : M (14, 19, 0) s = -1) (hB : bkP M s 0 B) : B = 0 ↔ agQ M s := by
  rw [bk_0 B hB.1]
  constructor
  · intro h
    refine ⟨Or.inl e19, fun n hn => ⟨fun q => absurd ((hB.2 n hn).mpr ⟨Nat.zero_le _, q⟩) (h n hn), fun q => absurd (q.trans e19) (nI_ne1 (by omega))⟩⟩
  · intro h n hn q
    exact nI_ne1 (show n < 2 ^ 31 by omega) (((h.2 n hn).mp ((hB.2 n hn).mp q).2).trans e19)
theorem ag_b {M : rb_I} {s B a : Nat} (e19 : M (14, 19, 0) s = nI a) (ha : a < 6) (hB : bkP M s 0 B) : (B = 2 ^ a ∧ M (14, 21, 0) s = M (14, 19, 0) s) ↔ agQ M s := by
  rw [bk_1 B hB.1 a ha]
  constructor
  · rintro ⟨h, e⟩
    refine ⟨Or.inr e, fun n hn => ?_⟩
    rw [e19, nI_eq (by omega) (by omega)]
    exact ⟨fun q => (h n hn).mp ((hB.2 n hn).mpr ⟨Nat.zero_le _, q⟩), fun q => ((hB.2 n hn).mp ((h n hn).mpr q)).2⟩
  · rintro ⟨h, e⟩
    refine ⟨fun n hn => ?_, h.resolve_left (by rw [e19]; exact nI_ne1 (by omega))⟩
    have z := e n hn
    rw [e19, nI_eq (by omega) (by omega)] at z
    exact ⟨fun q => z.mp ((hB.2 n hn).mp q).2, fun q => (hB.2 n hn).mpr ⟨Nat.zero_le _, z.mpr q⟩⟩
theorem pd_z {b : Nat} (hb : b < 2 ^ 31) : nI b - 1 = -1 ↔ b = 0 := by
  constructor
  · intro h
    rcases b with _ | b
    · rfl
    · rw [nI_pred] at h
      exact absurd h (nI_ne1 (by omega))
  · intro h
    rw [h]
    decide
theorem ow_eq {M : rb_I} {k vi ho vi1 ho1 st1 mi : Nat} {all : Int32} (hk : k < 1000) (b1 : vi < 1000) (b2 : ho < 1000) (b4 : vi1 < 1000) (b5 : ho1 < 1000) (b6 : st1 < 1000) (m31 : M (14, 31, 0) k = nI vi1) (m30 : M (14, 30, 0) k = nI ho1) (m35 : M (14, 35, 0) k = nI st1) (m32 : M (14, 32, 0) k = nI mi) (s : Int32) : ow_b M (nI vi) (nI ho) all k s = if vi1 = vi ∧ ho1 = ho ∧ st1 = 2 then s + nI mi * m_priceOf M (M (14, 34, 0) k) all else s + 0 := by
  unfold ow_b m_isOf
  rw [nI_clamp (show k < 2 ^ 31 by omega), m31, m30, m35, m32]
  have e2 : (nI st1 = 2) ↔ st1 = 2 := nI_eq (b := 2) (show st1 < 2 ^ 31 by omega) (by decide)
  simp only [nI_eq (show vi1 < 2 ^ 31 by omega) (show vi < 2 ^ 31 by omega), nI_eq (show ho1 < 2 ^ 31 by omega) (show ho < 2 ^ 31 by omega), e2]
  by_cases e1 : vi1 = vi
  · by_cases e2 : ho1 = ho
    · by_cases e3 : st1 = 2
      · simp [e1, e2, e3]
      · simp [e1, e2, e3]
    · simp [e1, e2]
  · simp [e1]
theorem pz_n (M : rb_I) (all : Int32) : m_priceOf M (-1) all = 0 := by unfold m_priceOf; rw [if_pos rfl]
theorem pz_y {M : rb_I} {bj pr th lw : Nat} {all : Int32} (hb : bj < 1000) (h12 : M (14, 12, 0) bj = nI pr) (h13 : M (14, 13, 0) bj = nI th) (h14 : M (14, 14, 0) bj = nI lw) (ht : th < 100000) : m_priceOf M (nI bj) all = if th = 0 then nI pr else if all < nI th then nI pr else nI lw := by
  unfold m_priceOf
  rw [if_neg (nI_ne1 (by omega)), nI_clamp (show bj < 2 ^ 31 by omega), h12, h13, h14]
  by_cases e : th = 0
  · rw [if_pos (by rw [e]; decide), if_pos e]
  · rw [if_neg (nI_nle (by omega) (by omega)), if_neg e]
