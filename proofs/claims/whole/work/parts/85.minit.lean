/-! the model's constructor: 33 arrays -/
def ga_f : List Nat := [2, 3, 4, 5, 6, 8, 9, 10, 11, 12, 13, 14, 16, 17, 18, 19, 20, 21, 22, 23, 24, 25, 26, 27, 30, 31, 32, 33, 34, 35, 36, 37, 38]
def ga_n : List Nat := [8, 6, 6, 18, 6, 30, 30, 30, 30, 30, 30, 30, 10, 10, 10, 10, 10, 10, 10, 10, 10, 10, 10, 60, 400, 400, 400, 400, 400, 400, 400, 36, 36]
def gAs : Nat → rb_G → rb_G
  | 0, G => G
  | k + 1, G => sP (sN (gAs k G) (mrl (ga_f.getD k 0)) (ga_n.getD k 0)) (16, 0, 0) (ga_f.getD k 0) (some (mrl (ga_f.getD k 0)))
theorem gAs_D (k : Nat) (G : rb_G) (r : rb_R) : gD (gAs k G) r ↔ (∃ i, i < k ∧ r = mrl (ga_f.getD i 0)) ∨ gD G r := by
  induction k with
  | zero => exact ⟨Or.inr, fun h => h.elim (fun ⟨i, hi, _⟩ => absurd hi (Nat.not_lt_zero _)) id⟩
  | succ k ih =>
    show (r = mrl (ga_f.getD k 0) ∨ gD (gAs k G) r) ↔ _
    rw [ih]
    refine ⟨fun h => ?_, fun h => ?_⟩
    · rcases h with h | ⟨i, hi, h⟩ | h
      · exact Or.inl ⟨k, Nat.lt_succ_self _, h⟩
      · exact Or.inl ⟨i, by omega, h⟩
      · exact Or.inr h
    · rcases h with ⟨i, hi, h⟩ | h
      · by_cases e : i = k
        · subst e; exact Or.inl h
        · exact Or.inr (Or.inl ⟨i, by omega, h⟩)
      · exact Or.inr (Or.inr h)
theorem ga_inj : ∀ i, i < 33 → ∀ j, j < 33 → ga_f.getD i 0 = ga_f.getD j 0 → i = j := by decide +kernel
theorem ga_1415 : ∀ i, i < 33 → (mrl (ga_f.getD i 0)).1 = 14 ∨ (mrl (ga_f.getD i 0)).1 = 15 := by decide +kernel
theorem mrl_2 (f : Nat) : (mrl f).2.1 = f := rfl
theorem gAs_f {G : rb_G} (hF : ∀ a b c, a = 14 ∨ a = 15 → ¬ gD G (a, b, c)) (k : Nat) (hk : k < 33) : ¬ gD (gAs k G) (mrl (ga_f.getD k 0)) := by
  intro h
  rcases (gAs_D k G _).mp h with ⟨i, hi, e⟩ | h
  · have := congrArg (fun r : rb_R => r.2.1) e
    have := ga_inj k hk i (by omega) this
    omega
  · generalize hm : mrl (ga_f.getD k 0) = z at h
    obtain ⟨a, b, c⟩ := z
    have := ga_1415 k hk
    rw [hm] at this
    exact hF a b c this h
theorem gAs_P (k : Nat) (G : rb_G) (hF : ∀ b c, ¬ gD G (16, b, c) ∨ True) : (∀ i, i < k → k ≤ 33 → gP (gAs k G) (16, 0, 0) (ga_f.getD i 0) = some (mrl (ga_f.getD i 0))) ∧ ∀ i, i < k → k ≤ 33 → gN (gAs k G) (mrl (ga_f.getD i 0)) = ga_n.getD i 0 := by
  induction k with
  | zero => exact ⟨fun i h => absurd h (Nat.not_lt_zero _), fun i h => absurd h (Nat.not_lt_zero _)⟩
  | succ k ih =>
    obtain ⟨h1, h2⟩ := ih
    have hne : ∀ i, i < k → k + 1 ≤ 33 → ¬ ga_f.getD i 0 = ga_f.getD k 0 := fun i hi hk e => by
      have := ga_inj i (by omega) k (by omega) e
      omega
    have h16 : ∀ j, j < 33 → ¬ ((16, 0, 0) : rb_R) = mrl (ga_f.getD j 0) := fun j hj e => by
      have := ga_1415 j hj
      rw [← e] at this
      exact absurd this (by decide)
    refine ⟨fun i hi hk => ?_, fun i hi hk => ?_⟩
    · show up2 (fun x q => if x = mrl (ga_f.getD k 0) then none else gP (gAs k G) x q) (16, 0, 0) (ga_f.getD k 0) (some (mrl (ga_f.getD k 0))) (16, 0, 0) (ga_f.getD i 0) = _
      by_cases e : i = k
      · subst e; rw [up2_s]
      · rw [up2_n _ _ _ _ (fun z => hne i (by omega) hk z.2), if_neg (h16 k (by omega))]
        exact h1 i (by omega) (by omega)
    · show (if mrl (ga_f.getD i 0) = mrl (ga_f.getD k 0) then ga_n.getD k 0 else gN (gAs k G) (mrl (ga_f.getD i 0))) = _
      by_cases e : i = k
      · subst e; rw [if_pos rfl]
      · rw [if_neg (fun z => hne i (by omega) hk (congrArg (fun r : rb_R => r.2.1) z))]
        exact h2 i (by omega) (by omega)
theorem ga_all : ∀ f, f < 39 → mlen f ≠ 0 → ∃ i, i < 33 ∧ ga_f.getD i 0 = f ∧ ga_n.getD i 0 = mlen f := by decide +kernel
theorem mlen_39 (f : Nat) (h : mlen f ≠ 0) : f < 39 := by
  rcases Nat.lt_or_ge f 39 with q | q
  · exact q
  · exact absurd (by unfold mlen; rw [List.getD_eq_getElem?_getD, List.getElem?_eq_none (by simpa using q)]; rfl) h
theorem gAs_s (k : Nat) (G : rb_G) : sP (sN (gAs k G) (mrl (ga_f.getD k 0)) (ga_n.getD k 0)) (16, 0, 0) (ga_f.getD k 0) (some (mrl (ga_f.getD k 0))) = gAs (k + 1) G := rfl
theorem wI_e (G : rb_G) : G = wI G (gI G) := rfl
theorem gAs_M (G : rb_G) : MS (gAs 33 G) := by
  obtain ⟨h1, h2⟩ := gAs_P 33 G (fun _ _ => Or.inr trivial)
  refine ⟨fun f hf => ?_, fun f hf => ?_⟩
  · obtain ⟨i, hi, e1, e2⟩ := ga_all f (mlen_39 f hf) hf
    rw [← e1]; exact h1 i hi (Nat.le_refl _)
  · obtain ⟨i, hi, e1, e2⟩ := ga_all f (mlen_39 f hf) hf
    rw [← e2, ← e1]; exact h2 i hi (Nat.le_refl _)
def m_init_b  (i : Nat) (s : rb_I) : rb_I := (up2 (up2 (up2 (up2 s (14, 4, 0) i (-1)) (14, 5, 0) (3 * i + 0) 10) (14, 5, 0) (3 * i + 1) 50) (14, 5, 0) (3 * i + 2) 20)
def m_init_c  (i : Nat) (s : rb_I) : rb_I := (up2 s (14, 27, 0) i (-1))
def m_init (W : rb_I) : rb_I := (fo m_init_c 60 (fo m_init_b 6 W))
set_option maxRecDepth 100000 in
set_option maxHeartbeats 4000000 in
theorem k_X8_init (l : Launch) (X : rb_X) (G0 : rb_G) (hF : ∀ a b c, a = 14 ∨ a = 15 → ¬ gD G0 (a, b, c)) : rb_N l X yX8_init (.code yX8_init cX8_init 2 none) 2 60 33 3296 [rbR (16, 0, 0)] G0 (fun v9 G9 => v9 = none ∧ G9 = wI (gAs 33 G0) (m_init (gI (gAs 33 G0)))) := by
  refine rb_startN RX8 rfl (by decide +kernel) rfl (Nat.le_of_ble_eq_true rfl) ?_
  intro Φ C E nm
  show rb_W Φ 0 0 0 [some (rbR (16, 0, 0)), none] [] G0
  rw [show G0 = gAs 0 G0 from rfl]
  refine rb_aload_n C dX8_init_0 rfl ?_
  refine rb_objInit C M_X8_1 ts_oi ts_oc dX8_init_1 rfl (Nat.le_of_ble_eq_true rfl) (Nat.le_of_ble_eq_true rfl) ?_
  refine rb_aload_n C dX8_init_4 rfl ?_
  refine rb_bipush C dX8_init_5 (v := 8) (by decide) ?_
  refine rb_newaI C (14, 2, 0) 8 ts_arr_int dX8_init_7 rfl (gAs_f hF 0 (by decide)) (by decide) (by decide) (by decide) (Nat.le_of_ble_eq_true rfl) (Nat.le_of_ble_eq_true rfl) ?_
  refine rb_putFP C nm F_X8_7 dX8_init_9 rfl rfl ?_
  rw [show sP (sN (gAs 0 G0) (14, 2, 0) 8) (16, 0, 0) 2 (some (14, 2, 0)) = gAs 1 G0 from gAs_s 0 G0]
  refine rb_aload_n C dX8_init_12 rfl ?_
  refine rb_bipush C dX8_init_13 (v := 6) (by decide) ?_
  refine rb_newaZ C (15, 3, 0) 6 ts_arr_boolean dX8_init_15 rfl (gAs_f hF 1 (by decide)) (by decide) (by decide) (by decide) (Nat.le_of_ble_eq_true rfl) (Nat.le_of_ble_eq_true rfl) ?_
  refine rb_putFP C nm F_X8_13 dX8_init_17 rfl rfl ?_
  rw [show sP (sN (gAs 1 G0) (15, 3, 0) 6) (16, 0, 0) 3 (some (15, 3, 0)) = gAs 2 G0 from gAs_s 1 G0]
  refine rb_aload_n C dX8_init_20 rfl ?_
  refine rb_bipush C dX8_init_21 (v := 6) (by decide) ?_
  refine rb_newaI C (14, 4, 0) 6 ts_arr_int dX8_init_23 rfl (gAs_f hF 2 (by decide)) (by decide) (by decide) (by decide) (Nat.le_of_ble_eq_true rfl) (Nat.le_of_ble_eq_true rfl) ?_
  refine rb_putFP C nm F_X8_17 dX8_init_25 rfl rfl ?_
  rw [show sP (sN (gAs 2 G0) (14, 4, 0) 6) (16, 0, 0) 4 (some (14, 4, 0)) = gAs 3 G0 from gAs_s 2 G0]
  refine rb_aload_n C dX8_init_28 rfl ?_
  refine rb_bipush C dX8_init_29 (v := 18) (by decide) ?_
  refine rb_newaI C (14, 5, 0) 18 ts_arr_int dX8_init_31 rfl (gAs_f hF 3 (by decide)) (by decide) (by decide) (by decide) (Nat.le_of_ble_eq_true rfl) (Nat.le_of_ble_eq_true rfl) ?_
  refine rb_putFP C nm F_X8_20 dX8_init_33 rfl rfl ?_
  rw [show sP (sN (gAs 3 G0) (14, 5, 0) 18) (16, 0, 0) 5 (some (14, 5, 0)) = gAs 4 G0 from gAs_s 3 G0]
  refine rb_aload_n C dX8_init_36 rfl ?_
  refine rb_bipush C dX8_init_37 (v := 6) (by decide) ?_
  refine rb_newaI C (14, 6, 0) 6 ts_arr_int dX8_init_39 rfl (gAs_f hF 4 (by decide)) (by decide) (by decide) (by decide) (Nat.le_of_ble_eq_true rfl) (Nat.le_of_ble_eq_true rfl) ?_
  refine rb_putFP C nm F_X8_23 dX8_init_41 rfl rfl ?_
  rw [show sP (sN (gAs 4 G0) (14, 6, 0) 6) (16, 0, 0) 6 (some (14, 6, 0)) = gAs 5 G0 from gAs_s 4 G0]
  refine rb_aload_n C dX8_init_44 rfl ?_
  refine rb_bipush C dX8_init_45 (v := 30) (by decide) ?_
  refine rb_newaI C (14, 8, 0) 30 ts_arr_int dX8_init_47 rfl (gAs_f hF 5 (by decide)) (by decide) (by decide) (by decide) (Nat.le_of_ble_eq_true rfl) (Nat.le_of_ble_eq_true rfl) ?_
  refine rb_putFP C nm F_X8_26 dX8_init_49 rfl rfl ?_
  rw [show sP (sN (gAs 5 G0) (14, 8, 0) 30) (16, 0, 0) 8 (some (14, 8, 0)) = gAs 6 G0 from gAs_s 5 G0]
  refine rb_aload_n C dX8_init_52 rfl ?_
  refine rb_bipush C dX8_init_53 (v := 30) (by decide) ?_
  refine rb_newaI C (14, 9, 0) 30 ts_arr_int dX8_init_55 rfl (gAs_f hF 6 (by decide)) (by decide) (by decide) (by decide) (Nat.le_of_ble_eq_true rfl) (Nat.le_of_ble_eq_true rfl) ?_
  refine rb_putFP C nm F_X8_29 dX8_init_57 rfl rfl ?_
  rw [show sP (sN (gAs 6 G0) (14, 9, 0) 30) (16, 0, 0) 9 (some (14, 9, 0)) = gAs 7 G0 from gAs_s 6 G0]
  refine rb_aload_n C dX8_init_60 rfl ?_
  refine rb_bipush C dX8_init_61 (v := 30) (by decide) ?_
  refine rb_newaI C (14, 10, 0) 30 ts_arr_int dX8_init_63 rfl (gAs_f hF 7 (by decide)) (by decide) (by decide) (by decide) (Nat.le_of_ble_eq_true rfl) (Nat.le_of_ble_eq_true rfl) ?_
  refine rb_putFP C nm F_X8_32 dX8_init_65 rfl rfl ?_
  rw [show sP (sN (gAs 7 G0) (14, 10, 0) 30) (16, 0, 0) 10 (some (14, 10, 0)) = gAs 8 G0 from gAs_s 7 G0]
  refine rb_aload_n C dX8_init_68 rfl ?_
  refine rb_bipush C dX8_init_69 (v := 30) (by decide) ?_
  refine rb_newaI C (14, 11, 0) 30 ts_arr_int dX8_init_71 rfl (gAs_f hF 8 (by decide)) (by decide) (by decide) (by decide) (Nat.le_of_ble_eq_true rfl) (Nat.le_of_ble_eq_true rfl) ?_
  refine rb_putFP C nm F_X8_35 dX8_init_73 rfl rfl ?_
  rw [show sP (sN (gAs 8 G0) (14, 11, 0) 30) (16, 0, 0) 11 (some (14, 11, 0)) = gAs 9 G0 from gAs_s 8 G0]
  refine rb_aload_n C dX8_init_76 rfl ?_
  refine rb_bipush C dX8_init_77 (v := 30) (by decide) ?_
  refine rb_newaI C (14, 12, 0) 30 ts_arr_int dX8_init_79 rfl (gAs_f hF 9 (by decide)) (by decide) (by decide) (by decide) (Nat.le_of_ble_eq_true rfl) (Nat.le_of_ble_eq_true rfl) ?_
  refine rb_putFP C nm F_X8_38 dX8_init_81 rfl rfl ?_
  rw [show sP (sN (gAs 9 G0) (14, 12, 0) 30) (16, 0, 0) 12 (some (14, 12, 0)) = gAs 10 G0 from gAs_s 9 G0]
  refine rb_aload_n C dX8_init_84 rfl ?_
  refine rb_bipush C dX8_init_85 (v := 30) (by decide) ?_
  refine rb_newaI C (14, 13, 0) 30 ts_arr_int dX8_init_87 rfl (gAs_f hF 10 (by decide)) (by decide) (by decide) (by decide) (Nat.le_of_ble_eq_true rfl) (Nat.le_of_ble_eq_true rfl) ?_
  refine rb_putFP C nm F_X8_41 dX8_init_89 rfl rfl ?_
  rw [show sP (sN (gAs 10 G0) (14, 13, 0) 30) (16, 0, 0) 13 (some (14, 13, 0)) = gAs 11 G0 from gAs_s 10 G0]
  refine rb_aload_n C dX8_init_92 rfl ?_
  refine rb_bipush C dX8_init_93 (v := 30) (by decide) ?_
  refine rb_newaI C (14, 14, 0) 30 ts_arr_int dX8_init_95 rfl (gAs_f hF 11 (by decide)) (by decide) (by decide) (by decide) (Nat.le_of_ble_eq_true rfl) (Nat.le_of_ble_eq_true rfl) ?_
  refine rb_putFP C nm F_X8_44 dX8_init_97 rfl rfl ?_
  rw [show sP (sN (gAs 11 G0) (14, 14, 0) 30) (16, 0, 0) 14 (some (14, 14, 0)) = gAs 12 G0 from gAs_s 11 G0]
  refine rb_aload_n C dX8_init_100 rfl ?_
  refine rb_bipush C dX8_init_101 (v := 10) (by decide) ?_
  refine rb_newaI C (14, 16, 0) 10 ts_arr_int dX8_init_103 rfl (gAs_f hF 12 (by decide)) (by decide) (by decide) (by decide) (Nat.le_of_ble_eq_true rfl) (Nat.le_of_ble_eq_true rfl) ?_
  refine rb_putFP C nm F_X8_47 dX8_init_105 rfl rfl ?_
  rw [show sP (sN (gAs 12 G0) (14, 16, 0) 10) (16, 0, 0) 16 (some (14, 16, 0)) = gAs 13 G0 from gAs_s 12 G0]
  refine rb_aload_n C dX8_init_108 rfl ?_
  refine rb_bipush C dX8_init_109 (v := 10) (by decide) ?_
  refine rb_newaI C (14, 17, 0) 10 ts_arr_int dX8_init_111 rfl (gAs_f hF 13 (by decide)) (by decide) (by decide) (by decide) (Nat.le_of_ble_eq_true rfl) (Nat.le_of_ble_eq_true rfl) ?_
  refine rb_putFP C nm F_X8_50 dX8_init_113 rfl rfl ?_
  rw [show sP (sN (gAs 13 G0) (14, 17, 0) 10) (16, 0, 0) 17 (some (14, 17, 0)) = gAs 14 G0 from gAs_s 13 G0]
  refine rb_aload_n C dX8_init_116 rfl ?_
  refine rb_bipush C dX8_init_117 (v := 10) (by decide) ?_
  refine rb_newaI C (14, 18, 0) 10 ts_arr_int dX8_init_119 rfl (gAs_f hF 14 (by decide)) (by decide) (by decide) (by decide) (Nat.le_of_ble_eq_true rfl) (Nat.le_of_ble_eq_true rfl) ?_
  refine rb_putFP C nm F_X8_53 dX8_init_121 rfl rfl ?_
  rw [show sP (sN (gAs 14 G0) (14, 18, 0) 10) (16, 0, 0) 18 (some (14, 18, 0)) = gAs 15 G0 from gAs_s 14 G0]
  refine rb_aload_n C dX8_init_124 rfl ?_
  refine rb_bipush C dX8_init_125 (v := 10) (by decide) ?_
  refine rb_newaI C (14, 19, 0) 10 ts_arr_int dX8_init_127 rfl (gAs_f hF 15 (by decide)) (by decide) (by decide) (by decide) (Nat.le_of_ble_eq_true rfl) (Nat.le_of_ble_eq_true rfl) ?_
  refine rb_putFP C nm F_X8_56 dX8_init_129 rfl rfl ?_
  rw [show sP (sN (gAs 15 G0) (14, 19, 0) 10) (16, 0, 0) 19 (some (14, 19, 0)) = gAs 16 G0 from gAs_s 15 G0]
  refine rb_aload_n C dX8_init_132 rfl ?_
  refine rb_bipush C dX8_init_133 (v := 10) (by decide) ?_
  refine rb_newaI C (14, 20, 0) 10 ts_arr_int dX8_init_135 rfl (gAs_f hF 16 (by decide)) (by decide) (by decide) (by decide) (Nat.le_of_ble_eq_true rfl) (Nat.le_of_ble_eq_true rfl) ?_
  refine rb_putFP C nm F_X8_59 dX8_init_137 rfl rfl ?_
  rw [show sP (sN (gAs 16 G0) (14, 20, 0) 10) (16, 0, 0) 20 (some (14, 20, 0)) = gAs 17 G0 from gAs_s 16 G0]
  refine rb_aload_n C dX8_init_140 rfl ?_
  refine rb_bipush C dX8_init_141 (v := 10) (by decide) ?_
  refine rb_newaI C (14, 21, 0) 10 ts_arr_int dX8_init_143 rfl (gAs_f hF 17 (by decide)) (by decide) (by decide) (by decide) (Nat.le_of_ble_eq_true rfl) (Nat.le_of_ble_eq_true rfl) ?_
  refine rb_putFP C nm F_X8_62 dX8_init_145 rfl rfl ?_
  rw [show sP (sN (gAs 17 G0) (14, 21, 0) 10) (16, 0, 0) 21 (some (14, 21, 0)) = gAs 18 G0 from gAs_s 17 G0]
  refine rb_aload_n C dX8_init_148 rfl ?_
  refine rb_bipush C dX8_init_149 (v := 10) (by decide) ?_
  refine rb_newaI C (14, 22, 0) 10 ts_arr_int dX8_init_151 rfl (gAs_f hF 18 (by decide)) (by decide) (by decide) (by decide) (Nat.le_of_ble_eq_true rfl) (Nat.le_of_ble_eq_true rfl) ?_
  refine rb_putFP C nm F_X8_65 dX8_init_153 rfl rfl ?_
  rw [show sP (sN (gAs 18 G0) (14, 22, 0) 10) (16, 0, 0) 22 (some (14, 22, 0)) = gAs 19 G0 from gAs_s 18 G0]
  refine rb_aload_n C dX8_init_156 rfl ?_
  refine rb_bipush C dX8_init_157 (v := 10) (by decide) ?_
  refine rb_newaZ C (15, 23, 0) 10 ts_arr_boolean dX8_init_159 rfl (gAs_f hF 19 (by decide)) (by decide) (by decide) (by decide) (Nat.le_of_ble_eq_true rfl) (Nat.le_of_ble_eq_true rfl) ?_
  refine rb_putFP C nm F_X8_68 dX8_init_161 rfl rfl ?_
  rw [show sP (sN (gAs 19 G0) (15, 23, 0) 10) (16, 0, 0) 23 (some (15, 23, 0)) = gAs 20 G0 from gAs_s 19 G0]
  refine rb_aload_n C dX8_init_164 rfl ?_
  refine rb_bipush C dX8_init_165 (v := 10) (by decide) ?_
  refine rb_newaI C (14, 24, 0) 10 ts_arr_int dX8_init_167 rfl (gAs_f hF 20 (by decide)) (by decide) (by decide) (by decide) (Nat.le_of_ble_eq_true rfl) (Nat.le_of_ble_eq_true rfl) ?_
  refine rb_putFP C nm F_X8_71 dX8_init_169 rfl rfl ?_
  rw [show sP (sN (gAs 20 G0) (14, 24, 0) 10) (16, 0, 0) 24 (some (14, 24, 0)) = gAs 21 G0 from gAs_s 20 G0]
  refine rb_aload_n C dX8_init_172 rfl ?_
  refine rb_bipush C dX8_init_173 (v := 10) (by decide) ?_
  refine rb_newaI C (14, 25, 0) 10 ts_arr_int dX8_init_175 rfl (gAs_f hF 21 (by decide)) (by decide) (by decide) (by decide) (Nat.le_of_ble_eq_true rfl) (Nat.le_of_ble_eq_true rfl) ?_
  refine rb_putFP C nm F_X8_74 dX8_init_177 rfl rfl ?_
  rw [show sP (sN (gAs 21 G0) (14, 25, 0) 10) (16, 0, 0) 25 (some (14, 25, 0)) = gAs 22 G0 from gAs_s 21 G0]
  refine rb_aload_n C dX8_init_180 rfl ?_
  refine rb_bipush C dX8_init_181 (v := 10) (by decide) ?_
  refine rb_newaI C (14, 26, 0) 10 ts_arr_int dX8_init_183 rfl (gAs_f hF 22 (by decide)) (by decide) (by decide) (by decide) (Nat.le_of_ble_eq_true rfl) (Nat.le_of_ble_eq_true rfl) ?_
  refine rb_putFP C nm F_X8_77 dX8_init_185 rfl rfl ?_
  rw [show sP (sN (gAs 22 G0) (14, 26, 0) 10) (16, 0, 0) 26 (some (14, 26, 0)) = gAs 23 G0 from gAs_s 22 G0]
  refine rb_aload_n C dX8_init_188 rfl ?_
  refine rb_bipush C dX8_init_189 (v := 60) (by decide) ?_
  refine rb_newaI C (14, 27, 0) 60 ts_arr_int dX8_init_191 rfl (gAs_f hF 23 (by decide)) (by decide) (by decide) (by decide) (Nat.le_of_ble_eq_true rfl) (Nat.le_of_ble_eq_true rfl) ?_
  refine rb_putFP C nm F_X8_80 dX8_init_193 rfl rfl ?_
  rw [show sP (sN (gAs 23 G0) (14, 27, 0) 60) (16, 0, 0) 27 (some (14, 27, 0)) = gAs 24 G0 from gAs_s 23 G0]
  refine rb_aload_n C dX8_init_196 rfl ?_
  refine rb_sipush C dX8_init_197 (v := 400) (by decide) ?_
  refine rb_newaI C (14, 30, 0) 400 ts_arr_int dX8_init_200 rfl (gAs_f hF 24 (by decide)) (by decide) (by decide) (by decide) (Nat.le_of_ble_eq_true rfl) (Nat.le_of_ble_eq_true rfl) ?_
  refine rb_putFP C nm F_X8_83 dX8_init_202 rfl rfl ?_
  rw [show sP (sN (gAs 24 G0) (14, 30, 0) 400) (16, 0, 0) 30 (some (14, 30, 0)) = gAs 25 G0 from gAs_s 24 G0]
  refine rb_aload_n C dX8_init_205 rfl ?_
  refine rb_sipush C dX8_init_206 (v := 400) (by decide) ?_
  refine rb_newaI C (14, 31, 0) 400 ts_arr_int dX8_init_209 rfl (gAs_f hF 25 (by decide)) (by decide) (by decide) (by decide) (Nat.le_of_ble_eq_true rfl) (Nat.le_of_ble_eq_true rfl) ?_
  refine rb_putFP C nm F_X8_86 dX8_init_211 rfl rfl ?_
  rw [show sP (sN (gAs 25 G0) (14, 31, 0) 400) (16, 0, 0) 31 (some (14, 31, 0)) = gAs 26 G0 from gAs_s 25 G0]
  refine rb_aload_n C dX8_init_214 rfl ?_
  refine rb_sipush C dX8_init_215 (v := 400) (by decide) ?_
  refine rb_newaI C (14, 32, 0) 400 ts_arr_int dX8_init_218 rfl (gAs_f hF 26 (by decide)) (by decide) (by decide) (by decide) (Nat.le_of_ble_eq_true rfl) (Nat.le_of_ble_eq_true rfl) ?_
  refine rb_putFP C nm F_X8_89 dX8_init_220 rfl rfl ?_
  rw [show sP (sN (gAs 26 G0) (14, 32, 0) 400) (16, 0, 0) 32 (some (14, 32, 0)) = gAs 27 G0 from gAs_s 26 G0]
  refine rb_aload_n C dX8_init_223 rfl ?_
  refine rb_sipush C dX8_init_224 (v := 400) (by decide) ?_
  refine rb_newaI C (14, 33, 0) 400 ts_arr_int dX8_init_227 rfl (gAs_f hF 27 (by decide)) (by decide) (by decide) (by decide) (Nat.le_of_ble_eq_true rfl) (Nat.le_of_ble_eq_true rfl) ?_
  refine rb_putFP C nm F_X8_92 dX8_init_229 rfl rfl ?_
  rw [show sP (sN (gAs 27 G0) (14, 33, 0) 400) (16, 0, 0) 33 (some (14, 33, 0)) = gAs 28 G0 from gAs_s 27 G0]
  refine rb_aload_n C dX8_init_232 rfl ?_
  refine rb_sipush C dX8_init_233 (v := 400) (by decide) ?_
  refine rb_newaI C (14, 34, 0) 400 ts_arr_int dX8_init_236 rfl (gAs_f hF 28 (by decide)) (by decide) (by decide) (by decide) (Nat.le_of_ble_eq_true rfl) (Nat.le_of_ble_eq_true rfl) ?_
  refine rb_putFP C nm F_X8_95 dX8_init_238 rfl rfl ?_
  rw [show sP (sN (gAs 28 G0) (14, 34, 0) 400) (16, 0, 0) 34 (some (14, 34, 0)) = gAs 29 G0 from gAs_s 28 G0]
  refine rb_aload_n C dX8_init_241 rfl ?_
  refine rb_sipush C dX8_init_242 (v := 400) (by decide) ?_
  refine rb_newaI C (14, 35, 0) 400 ts_arr_int dX8_init_245 rfl (gAs_f hF 29 (by decide)) (by decide) (by decide) (by decide) (Nat.le_of_ble_eq_true rfl) (Nat.le_of_ble_eq_true rfl) ?_
  refine rb_putFP C nm F_X8_98 dX8_init_247 rfl rfl ?_
  rw [show sP (sN (gAs 29 G0) (14, 35, 0) 400) (16, 0, 0) 35 (some (14, 35, 0)) = gAs 30 G0 from gAs_s 29 G0]
  refine rb_aload_n C dX8_init_250 rfl ?_
  refine rb_sipush C dX8_init_251 (v := 400) (by decide) ?_
  refine rb_newaI C (14, 36, 0) 400 ts_arr_int dX8_init_254 rfl (gAs_f hF 30 (by decide)) (by decide) (by decide) (by decide) (Nat.le_of_ble_eq_true rfl) (Nat.le_of_ble_eq_true rfl) ?_
  refine rb_putFP C nm F_X8_101 dX8_init_256 rfl rfl ?_
  rw [show sP (sN (gAs 30 G0) (14, 36, 0) 400) (16, 0, 0) 36 (some (14, 36, 0)) = gAs 31 G0 from gAs_s 30 G0]
  refine rb_aload_n C dX8_init_259 rfl ?_
  refine rb_bipush C dX8_init_260 (v := 36) (by decide) ?_
  refine rb_newaI C (14, 37, 0) 36 ts_arr_int dX8_init_262 rfl (gAs_f hF 31 (by decide)) (by decide) (by decide) (by decide) (Nat.le_of_ble_eq_true rfl) (Nat.le_of_ble_eq_true rfl) ?_
  refine rb_putFP C nm F_X8_104 dX8_init_264 rfl rfl ?_
  rw [show sP (sN (gAs 31 G0) (14, 37, 0) 36) (16, 0, 0) 37 (some (14, 37, 0)) = gAs 32 G0 from gAs_s 31 G0]
  refine rb_aload_n C dX8_init_267 rfl ?_
  refine rb_bipush C dX8_init_268 (v := 36) (by decide) ?_
  refine rb_newaI C (14, 38, 0) 36 ts_arr_int dX8_init_270 rfl (gAs_f hF 32 (by decide)) (by decide) (by decide) (by decide) (Nat.le_of_ble_eq_true rfl) (Nat.le_of_ble_eq_true rfl) ?_
  refine rb_putFP C nm F_X8_107 dX8_init_272 rfl rfl ?_
  rw [show sP (sN (gAs 32 G0) (14, 38, 0) 36) (16, 0, 0) 38 (some (14, 38, 0)) = gAs 33 G0 from gAs_s 32 G0]
  have hm : MS (gAs 33 G0) := gAs_M G0
  rw [wI_e (gAs 33 G0)]
  generalize hW : gI (gAs 33 G0) = W at E ⊢
  generalize hG : gAs 33 G0 = G at hm E ⊢
  refine rb_iconst C dX8_init_275 (v := 0) (by decide) ?_
  refine rb_istore_n C dX8_init_276 (Nat.le_of_ble_eq_true rfl) rfl (Lv' := [_, _]) rfl ?_
  have loop : ∀ (d i : Nat) (s : rb_I), i + d = 6 → s = fo m_init_b i W → rb_W Φ 33 3296 277 [some (rbR (16, 0, 0)), some (rbI (nI i))] [] (wI G s) := by
    intro d
    induction d with
    | zero =>
      intro i s hi hs
      obtain rfl : i = 6 := by omega
      subst hs
      refine rb_iload_n C dX8_init_277 rfl ?_
      refine rb_bipush C dX8_init_278 (v := 6) (by decide) ?_
      refine rb_icmp_ge C 332 dX8_init_280 (by decide) (fun _ => ?_) (fun h9 => absurd ((nI_le (a := 6) (b := 6) (Nat.le_refl _) (by decide))) h9)
      refine rb_iconst C dX8_init_332 (v := 0) (by decide) ?_
      refine rb_istore_n C dX8_init_333 (Nat.le_of_ble_eq_true rfl) rfl (Lv' := [_, _]) rfl ?_
      have loop : ∀ (d i : Nat) (s : rb_I), i + d = 60 → s = fo m_init_c i (fo m_init_b 6 W) → rb_W Φ 33 3296 334 [some (rbR (16, 0, 0)), some (rbI (nI i))] [] (wI G s) := by
        intro d
        induction d with
        | zero =>
          intro i s hi hs
          obtain rfl : i = 60 := by omega
          subst hs
          refine rb_iload_n C dX8_init_334 rfl ?_
          refine rb_bipush C dX8_init_335 (v := 60) (by decide) ?_
          refine rb_icmp_ge C 353 dX8_init_337 (by decide) (fun _ => ?_) (fun h9 => absurd ((nI_le (a := 60) (b := 60) (Nat.le_refl _) (by decide))) h9)
          exact rb_vret C E dX8_init_353 (Nat.le_of_ble_eq_true rfl) (Nat.le_of_ble_eq_true rfl) (pw_ (rfl))
        | succ d ih =>
          intro i s hi hs
          have hi9 : i < 60 := by omega
          refine rb_iload_n C dX8_init_334 rfl ?_
          refine rb_bipush C dX8_init_335 (v := 60) (by decide) ?_
          refine rb_icmp_ge C 353 dX8_init_337 (by decide) (fun h9 => absurd h9 ((nI_ge (a := i) (b := 60) hi9 (by decide)))) (fun _ => ?_)
          refine rb_aload_n C dX8_init_340 rfl ?_
          refine rw_getP C FR_X8_80 dX8_init_341 rfl (o := some (14, 27, 0)) (hm.1 27 (by decide)) ?_
          refine rb_iload_n C dX8_init_344 rfl ?_
          refine rb_iconst C dX8_init_345 (v := (-1)) (by decide) ?_
          refine rw_iast C 60 i dX8_init_346 rfl (hm.2 27 (by decide)) (vp_in_nI (show i < 60 by omega) (by decide)) (nI_clamp (show i < 2 ^ 31 by omega)) ?_
          refine rb_iinc C dX8_init_347 rfl (v := _ + 1) rfl rfl (Lv' := [_, _]) rfl ?_
          refine rb_goto C 334 dX8_init_350 (by decide) ?_
          rw [nI_1 i]
          exact ih (i + 1) (up2 s (14, 27, 0) i (-1)) (by omega) (by rw [fo_s, ← hs]; exact Eq.symm (rfl))
      exact loop 60 0 (fo m_init_b 6 W) (Nat.zero_add _) (fo_0 _ _).symm
    | succ d ih =>
      intro i s hi hs
      have hi9 : i < 6 := by omega
      refine rb_iload_n C dX8_init_277 rfl ?_
      refine rb_bipush C dX8_init_278 (v := 6) (by decide) ?_
      refine rb_icmp_ge C 332 dX8_init_280 (by decide) (fun h9 => absurd h9 ((nI_ge (a := i) (b := 6) hi9 (by decide)))) (fun _ => ?_)
      refine rb_aload_n C dX8_init_283 rfl ?_
      refine rw_getP C FR_X8_17 dX8_init_284 rfl (o := some (14, 4, 0)) (hm.1 4 (by decide)) ?_
      refine rb_iload_n C dX8_init_287 rfl ?_
      refine rb_iconst C dX8_init_288 (v := (-1)) (by decide) ?_
      refine rw_iast C 6 i dX8_init_289 rfl (hm.2 4 (by decide)) (vp_in_nI (show i < 6 by omega) (by decide)) (nI_clamp (show i < 2 ^ 31 by omega)) ?_
      refine rb_aload_n C dX8_init_290 rfl ?_
      refine rw_getP C FR_X8_20 dX8_init_291 rfl (o := some (14, 5, 0)) (hm.1 5 (by decide)) ?_
      refine rb_iconst C dX8_init_294 (v := 3) (by decide) ?_
      refine rb_iload_n C dX8_init_295 rfl ?_
      refine rb_imul C dX8_init_296 ?_
      refine rb_iconst C dX8_init_297 (v := 0) (by decide) ?_
      refine rb_iadd C dX8_init_298 ?_
      refine rb_bipush C dX8_init_299 (v := 10) (by decide) ?_
      refine rw_iast C 18 (3 * i + 0) dX8_init_301 rfl (hm.2 5 (by decide)) (ix_lin (N := 18) 3 3 rfl (vp_in_nI (show i < 6 by omega) (by decide)) (show ¬ ((0 : Int32) < 0 ∨ 1 ≤ (0 : Int32).toNatClampNeg) by decide) (by decide) (by decide) (by decide)).1 ((ix_lin (N := 18) 3 3 rfl (vp_in_nI (show i < 6 by omega) (by decide)) (show ¬ ((0 : Int32) < 0 ∨ 1 ≤ (0 : Int32).toNatClampNeg) by decide) (by decide) (by decide) (by decide)).2.trans (by rw [(nI_clamp (show i < 2 ^ 31 by omega)), (show (0 : Int32).toNatClampNeg = 0 from rfl)])) ?_
      refine rb_aload_n C dX8_init_302 rfl ?_
      refine rw_getP C FR_X8_20 dX8_init_303 rfl (o := some (14, 5, 0)) (hm.1 5 (by decide)) ?_
      refine rb_iconst C dX8_init_306 (v := 3) (by decide) ?_
      refine rb_iload_n C dX8_init_307 rfl ?_
      refine rb_imul C dX8_init_308 ?_
      refine rb_iconst C dX8_init_309 (v := 1) (by decide) ?_
      refine rb_iadd C dX8_init_310 ?_
      refine rb_bipush C dX8_init_311 (v := 50) (by decide) ?_
      refine rw_iast C 18 (3 * i + 1) dX8_init_313 rfl (hm.2 5 (by decide)) (ix_lin (N := 18) 3 3 rfl (vp_in_nI (show i < 6 by omega) (by decide)) (show ¬ ((1 : Int32) < 0 ∨ 2 ≤ (1 : Int32).toNatClampNeg) by decide) (by decide) (by decide) (by decide)).1 ((ix_lin (N := 18) 3 3 rfl (vp_in_nI (show i < 6 by omega) (by decide)) (show ¬ ((1 : Int32) < 0 ∨ 2 ≤ (1 : Int32).toNatClampNeg) by decide) (by decide) (by decide) (by decide)).2.trans (by rw [(nI_clamp (show i < 2 ^ 31 by omega)), (show (1 : Int32).toNatClampNeg = 1 from rfl)])) ?_
      refine rb_aload_n C dX8_init_314 rfl ?_
      refine rw_getP C FR_X8_20 dX8_init_315 rfl (o := some (14, 5, 0)) (hm.1 5 (by decide)) ?_
      refine rb_iconst C dX8_init_318 (v := 3) (by decide) ?_
      refine rb_iload_n C dX8_init_319 rfl ?_
      refine rb_imul C dX8_init_320 ?_
      refine rb_iconst C dX8_init_321 (v := 2) (by decide) ?_
      refine rb_iadd C dX8_init_322 ?_
      refine rb_bipush C dX8_init_323 (v := 20) (by decide) ?_
      refine rw_iast C 18 (3 * i + 2) dX8_init_325 rfl (hm.2 5 (by decide)) (ix_lin (N := 18) 3 3 rfl (vp_in_nI (show i < 6 by omega) (by decide)) (show ¬ ((2 : Int32) < 0 ∨ 3 ≤ (2 : Int32).toNatClampNeg) by decide) (by decide) (by decide) (by decide)).1 ((ix_lin (N := 18) 3 3 rfl (vp_in_nI (show i < 6 by omega) (by decide)) (show ¬ ((2 : Int32) < 0 ∨ 3 ≤ (2 : Int32).toNatClampNeg) by decide) (by decide) (by decide) (by decide)).2.trans (by rw [(nI_clamp (show i < 2 ^ 31 by omega)), (show (2 : Int32).toNatClampNeg = 2 from rfl)])) ?_
      refine rb_iinc C dX8_init_326 rfl (v := _ + 1) rfl rfl (Lv' := [_, _]) rfl ?_
      refine rb_goto C 277 dX8_init_329 (by decide) ?_
      rw [nI_1 i]
      exact ih (i + 1) (up2 (up2 (up2 (up2 s (14, 4, 0) i (-1)) (14, 5, 0) (3 * i + 0) 10) (14, 5, 0) (3 * i + 1) 50) (14, 5, 0) (3 * i + 2) 20) (by omega) (by rw [fo_s, ← hs]; exact Eq.symm (rfl))
  exact loop 6 0 W (Nat.zero_add _) (fo_0 _ _).symm

