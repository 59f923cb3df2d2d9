theorem or_file {a by1 fz : Nat} (ha : a < 64) (hf : fz < 32) : (a + 8192 * by1) ||| (64 ||| fz * 2 ^ 8) = a + 64 + 256 * fz + 8192 * by1 := by
  rw [bs_orD (a := 64) (k := 8) (by decide), show a + 8192 * by1 = a + by1 * 2 ^ 13 by omega, ← bs_orD (a := a) (k := 13) (by omega), Nat.or_assoc, Nat.or_comm (by1 * 2 ^ 13), ← Nat.or_assoc, show 64 + fz * 2 ^ 8 = (1 + 4 * fz) * 2 ^ 6 by omega, bs_orD (a := a) (k := 6) (by omega), bs_orD (k := 13) (by omega)]
  omega
theorem lu_fS {W M : rb_I} {S A R P t d k : Nat} {v : Int32} (h : lx W M S A R P t d) (e : W (14, 9, 0) k = v) : lx (up2 W (14, 9, 0) k v) M S A R P t d := by rw [up2_same e]; exact h

theorem nfs_s {M : rb_I} {vi ho c : Nat} (h : ∀ c1, c1 < c → ¬ fsh M vi ho c1) (e : ¬ fsh M vi ho c) : ∀ c1, c1 < c + 1 → ¬ fsh M vi ho c1 := fun c1 hc => by
  rcases Nat.lt_or_ge c1 c with w | w
  · exact h c1 w
  · rw [show c1 = c by omega]; exact e
theorem fbk {M : rb_I} {vi ho : Int32} (n c : Nat) (f : Nat) (hf : f ≠ 35) (hf2 : f ≠ 36) (k : Nat) : fo (m_file_b M vi ho) c (up2 (up2 M (16, 0, 0) 0 0) (16, 0, 0) 0 0) (14, f, 0) k = M (14, f, 0) k :=
  (fo_r (fun i s => by unfold m_file_b; (repeat' split) <;> simp [up2, hf, hf2]) c).trans ((up2_n _ _ _ _ (by simp)).trans (up2_n _ _ _ _ (by simp)))
theorem fbk35 {M : rb_I} {vi ho : Int32} (c f : Nat) : ∀ c1, c1 ≤ f → fo (m_file_b M vi ho) c1 (up2 (up2 M (16, 0, 0) 0 0) (16, 0, 0) 0 0) (14, 35, 0) f = M (14, 35, 0) f := by
  intro c1
  induction c1 with
  | zero => intro _; rw [fo_0, up2_n _ _ _ _ (by simp), up2_n _ _ _ _ (by simp)]
  | succ c1 ih =>
    intro h
    rw [fo_s, ← ih (by omega)]
    have e : ¬ f = c1 := by omega
    unfold m_file_b
    (repeat' split) <;> simp [up2, e]

set_option maxRecDepth 100000 in
set_option maxHeartbeats 4000000 in
theorem law_21n {Φ : rb_F} {cells slots : Nat} (C : rb_C Φ RL cL_law 54 15 568 734644 6897897) (hc : cells + 12 ≤ 734644) (hsl : slots + 72 ≤ 6897897) {G : rb_G} {W M : rb_I} {S A R P t d : Nat} (v u : Int32) (k n i j h9 q fz gz : Nat) (hq6 : q < 6) (hh9 : h9 < 3) (hg : gz ≤ fz) (hf : fz ≤ 20) (e37 : M (14, 37, 0) (6 * q + h9) = nI fz) (e38 : M (14, 38, 0) (6 * q + h9) = nI gz) (ef : W (14, 9, 0) (q + 8 * h9) = nI (fz + 32 * gz)) (hL : LI G W M) (hl : lx W M S A R P t d) (hN : (∀ c1, c1 < R → ¬ fsh M q h9 c1) ∨ fz = 20) (kk : ∀ G' W' M', LI G' W' M' → lx W' M' S A R P t d → rb_W Φ (cells + 12) (slots + 72) 2768 [some (rbR (18, 0, 0)), some (rbR (0, 0, 0)), some (rbR (14, 0, 0)), some (rbR (14, 1, 0)), some (rbR (14, 2, 0)), some (rbR (14, 3, 0)), some (rbR (14, 4, 0)), some (rbR (14, 5, 0)), some (rbR (14, 6, 0)), some (rbR (14, 7, 0)), some (rbR (14, 8, 0)), some (rbR (14, 9, 0)), some (rbI (nI k)), some (rbI v), some (rbI u), some (rbI (nI n)), some (rbI (nI i)), some (rbI (nI j)), some (rbI 1), none, none, none, none, none, none, none, none, none, none, none, none, none, none, none, none, none, none, none, none, none, none, none, none, none, some (rbI (nI h9)), some (rbI (nI q)), some (rbI (nI (q + 8 * h9))), some (rbI (nI fz)), none, none, none, none, none, none] [] (wI G' W')) : rb_W Φ cells slots 2716 [some (rbR (18, 0, 0)), some (rbR (0, 0, 0)), some (rbR (14, 0, 0)), some (rbR (14, 1, 0)), some (rbR (14, 2, 0)), some (rbR (14, 3, 0)), some (rbR (14, 4, 0)), some (rbR (14, 5, 0)), some (rbR (14, 6, 0)), some (rbR (14, 7, 0)), some (rbR (14, 8, 0)), some (rbR (14, 9, 0)), some (rbI (nI k)), some (rbI v), some (rbI u), some (rbI (nI n)), some (rbI (nI i)), some (rbI (nI j)), some (rbI 1), none, none, none, none, none, none, none, none, none, none, none, none, none, none, none, none, none, none, none, none, none, none, none, none, none, some (rbI (nI h9)), some (rbI (nI q)), some (rbI (nI (q + 8 * h9))), some (rbI (nI fz)), some (rbI 0), some (rbI (nI R)), none, none, none, none] [] (wI G W) := by
  have hm := hL.1
  obtain ⟨hS6, hA10, hRP, hP58, hP2, hd64, htm⟩ := lr_b hl
  refine rb_iload C dL_law_2716 rfl ?_
  refine rb_aload_n C dL_law_2718 rfl ?_
  refine rb_iload C dL_law_2719 rfl ?_
  refine rb_iload C dL_law_2721 rfl ?_
  refine rb_callSW C M_L_186 (fun l X => c_fileN l X G W M hL hl (vi := q) (ho := h9) hq6 (by omega) (hN.imp id (fun z => by rw [e37, z]; rfl))) dL_law_2723 rfl rfl rfl (Nat.le_of_ble_eq_true rfl) ⟨(Nat.le_of_ble_eq_true rfl), (Nat.le_of_ble_eq_true rfl)⟩ (by omega) (by omega) (fun v G' hp => ?_)
  obtain ⟨rfl, G1, W1, e9, hL1, hw1⟩ := hp
  rw [e9]
  clear e9 G'
  have hl1 := lx_lw hl hw1
  have hm := hL1.1
  refine rb_iload C dL_law_2726 rfl ?_
  refine rb_if_eq C 2736 dL_law_2728 (by decide) (fun _ => ?_) (fun h9 => absurd (by decide) h9)
  refine rb_sipush C dL_law_2736 (v := (-7300)) (by decide) ?_
  refine rb_icmp_ne C 2746 dL_law_2739 (by decide) (fun h9 => absurd (by decide) h9) (fun _ => ?_)
  refine rb_iconst C dL_law_2742 (v := 1) (by decide) ?_
  refine rb_goto C 2747 dL_law_2743 (by decide) ?_
  refine rq_iand C (z := (1 : Int32)) dL_law_2747 (by decide) ?_
  refine rb_istore C dL_law_2748 (Nat.le_of_ble_eq_true rfl) rfl (Lv' := [_, _, _, _, _, _, _, _, _, _, _, _, _, _, _, _, _, _, _, _, _, _, _, _, _, _, _, _, _, _, _, _, _, _, _, _, _, _, _, _, _, _, _, _, _, _, _, _, _, _, _, _, _, _]) rfl ?_
  refine rb_aload C dL_law_2750 rfl ?_
  refine rb_iload C dL_law_2752 rfl ?_
  refine rb_dup2 C dL_law_2754 rfl rfl ?_
  refine rw_iald C (x := (nI (fz + 32 * gz))) 48 (q + 8 * h9) dL_law_2755 rfl (hm 9 (by decide)) (vp_in_nI (show q + 8 * h9 < 48 by omega) (by decide)) (nI_clamp (show q + 8 * h9 < 2 ^ 31 by omega)) ((hw1 _ _).trans ef) ?_
  refine rb_iload C dL_law_2756 rfl ?_
  refine rb_if_eq C 2765 dL_law_2758 (by decide) (fun _ => ?_) (fun h9 => absurd (by decide) h9)
  refine rb_iconst C dL_law_2765 (v := 0) (by decide) ?_
  refine rq_iadd C (z := (nI (fz + 32 * gz))) dL_law_2766 (nI_add (fz + 32 * gz) 0) ?_
  refine rw_iast C 48 (q + 8 * h9) dL_law_2767 rfl (hm 9 (by decide)) (vp_in_nI (show q + 8 * h9 < 48 by omega) (by decide)) (nI_clamp (show q + 8 * h9 < 2 ^ 31 by omega)) ?_
  have hl2 := lu_fS hl1 (v := nI (fz + 32 * gz)) ((hw1 _ _).trans ef)
  have hL2 := LI_up hL1 9 (q + 8 * h9) (nI (fz + 32 * gz))
  generalize up2 W1 (14, 9, 0) (q + 8 * h9) (nI (fz + 32 * gz)) = W2 at hl2 hL2 ⊢
  refine rb_W.unset 48 ?_
  refine rb_W.unset 49 ?_
  exact rb_W.room (kk G1 W2 (up2 (up2 M (16, 0, 0) 0 0) (16, 0, 0) 0 2) hL2 (lx_thr (lx_thr hl2 0) 2)) (by omega) (by omega)

set_option maxRecDepth 100000 in
set_option maxHeartbeats 4000000 in
theorem law_21w {Φ : rb_F} {cells slots : Nat} (C : rb_C Φ RL cL_law 54 15 568 734644 6897897) (hc : cells + 12 ≤ 734644) (hsl : slots + 72 ≤ 6897897) {G : rb_G} {W M : rb_I} {S A R P t d : Nat} (v u : Int32) (k n i j h9 q fz gz : Nat) (hq6 : q < 6) (hh9 : h9 < 3) (hg : gz ≤ fz) (hf : fz ≤ 20) (e37 : M (14, 37, 0) (6 * q + h9) = nI fz) (e38 : M (14, 38, 0) (6 * q + h9) = nI gz) (ef : W (14, 9, 0) (q + 8 * h9) = nI (fz + 32 * gz)) (hL : LI G W M) (hl0 : ∃ W0, lx W0 M S A R P t d) (hl : lx W (fo (m_file_b M (nI q) (nI h9)) R (up2 (up2 M (16, 0, 0) 0 0) (16, 0, 0) 0 0)) S A R P t d) (hfz : fz < 20) (hN : ∃ c1, c1 < R ∧ fsh M q h9 c1) (kk : ∀ G' W' M', LI G' W' M' → lx W' M' S A R P t d → rb_W Φ (cells + 12) (slots + 72) 2768 [some (rbR (18, 0, 0)), some (rbR (0, 0, 0)), some (rbR (14, 0, 0)), some (rbR (14, 1, 0)), some (rbR (14, 2, 0)), some (rbR (14, 3, 0)), some (rbR (14, 4, 0)), some (rbR (14, 5, 0)), some (rbR (14, 6, 0)), some (rbR (14, 7, 0)), some (rbR (14, 8, 0)), some (rbR (14, 9, 0)), some (rbI (nI k)), some (rbI v), some (rbI u), some (rbI (nI n)), some (rbI (nI i)), some (rbI (nI j)), some (rbI 1), none, none, none, none, none, none, none, none, none, none, none, none, none, none, none, none, none, none, none, none, none, none, none, none, none, some (rbI (nI h9)), some (rbI (nI q)), some (rbI (nI (q + 8 * h9))), some (rbI (nI fz)), none, none, none, none, none, none] [] (wI G' W')) : rb_W Φ cells slots 2716 [some (rbR (18, 0, 0)), some (rbR (0, 0, 0)), some (rbR (14, 0, 0)), some (rbR (14, 1, 0)), some (rbR (14, 2, 0)), some (rbR (14, 3, 0)), some (rbR (14, 4, 0)), some (rbR (14, 5, 0)), some (rbR (14, 6, 0)), some (rbR (14, 7, 0)), some (rbR (14, 8, 0)), some (rbR (14, 9, 0)), some (rbI (nI k)), some (rbI v), some (rbI u), some (rbI (nI n)), some (rbI (nI i)), some (rbI (nI j)), some (rbI 1), none, none, none, none, none, none, none, none, none, none, none, none, none, none, none, none, none, none, none, none, none, none, none, none, none, some (rbI (nI h9)), some (rbI (nI q)), some (rbI (nI (q + 8 * h9))), some (rbI (nI fz)), some (rbI 1), some (rbI (nI R)), none, none, none, none] [] (wI G W) := by
  have hm := hL.1
  obtain ⟨W0, hl0⟩ := hl0
  obtain ⟨hS6, hA10, hRP, hP58, hP2, hd64, htm⟩ := lr_b hl
  refine rb_iload C dL_law_2716 rfl ?_
  refine rb_aload_n C dL_law_2718 rfl ?_
  refine rb_iload C dL_law_2719 rfl ?_
  refine rb_iload C dL_law_2721 rfl ?_
  refine rb_callSW C M_L_186 (fun l X => c_fileY l X G W M hL hl0 (vi := q) (ho := h9) (fz := fz) hq6 (by omega) hN e37 hfz) dL_law_2723 rfl rfl rfl (Nat.le_of_ble_eq_true rfl) ⟨(Nat.le_of_ble_eq_true rfl), (Nat.le_of_ble_eq_true rfl)⟩ (by omega) (by omega) (fun v G' hp => ?_)
  obtain ⟨rfl, G1, W1, e9, hL1, hw1⟩ := hp
  rw [e9]
  clear e9 G'
  have hl1 := lx_lw hl hw1
  have hm := hL1.1
  refine rb_iload C dL_law_2726 rfl ?_
  refine rb_if_eq C 2736 dL_law_2728 (by decide) (fun h9 => absurd h9 (by decide)) (fun _ => ?_)
  refine rb_iload C dL_law_2731 rfl ?_
  refine rb_goto C 2739 dL_law_2733 (by decide) ?_
  refine rb_icmp_ne C 2746 dL_law_2739 (by decide) (fun h9 => absurd (rfl) h9) (fun _ => ?_)
  refine rb_iconst C dL_law_2742 (v := 1) (by decide) ?_
  refine rb_goto C 2747 dL_law_2743 (by decide) ?_
  refine rq_iand C (z := (1 : Int32)) dL_law_2747 (by decide) ?_
  refine rb_istore C dL_law_2748 (Nat.le_of_ble_eq_true rfl) rfl (Lv' := [_, _, _, _, _, _, _, _, _, _, _, _, _, _, _, _, _, _, _, _, _, _, _, _, _, _, _, _, _, _, _, _, _, _, _, _, _, _, _, _, _, _, _, _, _, _, _, _, _, _, _, _, _, _]) rfl ?_
  refine rb_aload C dL_law_2750 rfl ?_
  refine rb_iload C dL_law_2752 rfl ?_
  refine rb_dup2 C dL_law_2754 rfl rfl ?_
  refine rw_iald C (x := (nI (fz + 32 * gz))) 48 (q + 8 * h9) dL_law_2755 rfl (hm 9 (by decide)) (vp_in_nI (show q + 8 * h9 < 48 by omega) (by decide)) (nI_clamp (show q + 8 * h9 < 2 ^ 31 by omega)) ((hw1 _ _).trans ef) ?_
  refine rb_iload C dL_law_2756 rfl ?_
  refine rb_if_eq C 2765 dL_law_2758 (by decide) (fun h9 => absurd h9 (by decide)) (fun _ => ?_)
  refine rb_iconst C dL_law_2761 (v := 1) (by decide) ?_
  refine rb_goto C 2766 dL_law_2762 (by decide) ?_
  refine rq_iadd C (z := (nI (fz + 1 + 32 * gz))) dL_law_2766 ((nI_1 (fz + 32 * gz)).trans (by rw [Nat.add_right_comm])) ?_
  refine rw_iast C 48 (q + 8 * h9) dL_law_2767 rfl (hm 9 (by decide)) (vp_in_nI (show q + 8 * h9 < 48 by omega) (by decide)) (nI_clamp (show q + 8 * h9 < 2 ^ 31 by omega)) ?_
  have hl2 := lu_f37 hl1 (vi := q) (ho := h9) (f1 := fz + 1) (g1 := gz) hq6 (by omega) (by omega) (by omega) ((fbk 0 R 38 (by decide) (by decide) _).trans e38)
  have hL2 := LI_up hL1 9 (q + 8 * h9) (nI (fz + 1 + 32 * gz))
  generalize up2 W1 (14, 9, 0) (q + 8 * h9) (nI (fz + 1 + 32 * gz)) = W2 at hl2 hL2 ⊢
  refine rb_W.unset 48 ?_
  refine rb_W.unset 49 ?_
  exact rb_W.room (kk G1 W2 (up2 (fo (m_file_b M (nI q) (nI h9)) R (up2 (up2 M (16, 0, 0) 0 0) (16, 0, 0) 0 0)) (14, 37, 0) (6 * q + h9) (nI (fz + 1))) hL2 hl2) (by omega) (by omega)

theorem lx_th00 {W M : rb_I} {S A R P t d : Nat} (h : lx W (up2 (up2 M (16, 0, 0) 0 0) (16, 0, 0) 0 0) S A R P t d) : lx W M S A R P t d := by
  have z := lx_thr h (M (16, 0, 0) 0)
  rw [up2_tw, up2_tw, up2_same rfl] at z
  exact z

set_option maxRecDepth 100000 in
set_option maxHeartbeats 4000000 in
theorem law_21x {Φ : rb_F} {cells slots : Nat} (C : rb_C Φ RL cL_law 54 15 568 734644 6897897) (hc : cells + 12 ≤ 734644) (hsl : slots + 72 ≤ 6897897) {G : rb_G} {W M : rb_I} {S A R P t d : Nat} (v u : Int32) (k n i j h9 q fz gz : Nat) (hq6 : q < 6) (hh9 : h9 < 3) (hg : gz ≤ fz) (hf : fz ≤ 20) (e37 : M (14, 37, 0) (6 * q + h9) = nI fz) (e38 : M (14, 38, 0) (6 * q + h9) = nI gz) (ef : W (14, 9, 0) (q + 8 * h9) = nI (fz + 32 * gz)) (hL : LI G W M) (hl : lx W M S A R P t d) (hfz : fz = 20) (kk : ∀ G' W' M', LI G' W' M' → lx W' M' S A R P t d → rb_W Φ (cells + 12) (slots + 72) 2768 [some (rbR (18, 0, 0)), some (rbR (0, 0, 0)), some (rbR (14, 0, 0)), some (rbR (14, 1, 0)), some (rbR (14, 2, 0)), some (rbR (14, 3, 0)), some (rbR (14, 4, 0)), some (rbR (14, 5, 0)), some (rbR (14, 6, 0)), some (rbR (14, 7, 0)), some (rbR (14, 8, 0)), some (rbR (14, 9, 0)), some (rbI (nI k)), some (rbI v), some (rbI u), some (rbI (nI n)), some (rbI (nI i)), some (rbI (nI j)), some (rbI 1), none, none, none, none, none, none, none, none, none, none, none, none, none, none, none, none, none, none, none, none, none, none, none, none, none, some (rbI (nI h9)), some (rbI (nI q)), some (rbI (nI (q + 8 * h9))), some (rbI (nI fz)), none, none, none, none, none, none] [] (wI G' W')) : rb_W Φ cells slots 2644 [some (rbR (18, 0, 0)), some (rbR (0, 0, 0)), some (rbR (14, 0, 0)), some (rbR (14, 1, 0)), some (rbR (14, 2, 0)), some (rbR (14, 3, 0)), some (rbR (14, 4, 0)), some (rbR (14, 5, 0)), some (rbR (14, 6, 0)), some (rbR (14, 7, 0)), some (rbR (14, 8, 0)), some (rbR (14, 9, 0)), some (rbI (nI k)), some (rbI v), some (rbI u), some (rbI (nI n)), some (rbI (nI i)), some (rbI (nI j)), some (rbI 1), none, none, none, none, none, none, none, none, none, none, none, none, none, none, none, none, none, none, none, none, none, none, none, none, none, some (rbI (nI h9)), some (rbI (nI q)), some (rbI (nI (q + 8 * h9))), some (rbI (nI fz)), some (rbI 0), none, none, none, none, none] [] (wI G W) := by
  have hm := hL.1
  have hl00 := hl
  obtain ⟨hS6, hA10, hRP, hP58, hP2, hd64, htm⟩ := lr_b hl
  show rb_W Φ cells slots 2644 [some (rbR (18, 0, 0)), some (rbR (0, 0, 0)), some (rbR (14, 0, 0)), some (rbR (14, 1, 0)), some (rbR (14, 2, 0)), some (rbR (14, 3, 0)), some (rbR (14, 4, 0)), some (rbR (14, 5, 0)), some (rbR (14, 6, 0)), some (rbR (14, 7, 0)), some (rbR (14, 8, 0)), some (rbR (14, 9, 0)), some (rbI (nI k)), some (rbI v), some (rbI u), some (rbI (nI n)), some (rbI (nI i)), some (rbI (nI j)), some (rbI 1), none, none, none, none, none, none, none, none, none, none, none, none, none, none, none, none, none, none, none, none, none, none, none, none, none, some (rbI (nI h9)), some (rbI (nI q)), some (rbI (nI (q + 8 * h9))), some (rbI (nI fz)), some (rbI 0), none, none, none, none, none] [] (wI G W)
  refine rb_iconst C dL_law_2644 (v := 0) (by decide) ?_
  refine rb_istore C dL_law_2645 (Nat.le_of_ble_eq_true rfl) rfl (Lv' := [_, _, _, _, _, _, _, _, _, _, _, _, _, _, _, _, _, _, _, _, _, _, _, _, _, _, _, _, _, _, _, _, _, _, _, _, _, _, _, _, _, _, _, _, _, _, _, _, _, _, _, _, _, _]) rfl ?_
  have loop2647 : ∀ (dd : Nat) (c : Nat), c + dd = R → rb_W Φ cells slots 2647 [some (rbR (18, 0, 0)), some (rbR (0, 0, 0)), some (rbR (14, 0, 0)), some (rbR (14, 1, 0)), some (rbR (14, 2, 0)), some (rbR (14, 3, 0)), some (rbR (14, 4, 0)), some (rbR (14, 5, 0)), some (rbR (14, 6, 0)), some (rbR (14, 7, 0)), some (rbR (14, 8, 0)), some (rbR (14, 9, 0)), some (rbI (nI k)), some (rbI v), some (rbI u), some (rbI (nI n)), some (rbI (nI i)), some (rbI (nI j)), some (rbI 1), none, none, none, none, none, none, none, none, none, none, none, none, none, none, none, none, none, none, none, none, none, none, none, none, none, some (rbI (nI h9)), some (rbI (nI q)), some (rbI (nI (q + 8 * h9))), some (rbI (nI fz)), some (rbI 0), some (rbI (nI c)), none, none, none, none] [] (wI G W) := by
    intro dd
    induction dd with
    | zero =>
      intro c hc9
      refine rb_iload C dL_law_2647 rfl ?_
      refine rb_aload_n C dL_law_2649 rfl ?_
      refine rb_iconst C dL_law_2650 (v := 3) (by decide) ?_
      refine rw_iald C (x := (nI R)) 44 (3) dL_law_2651 rfl (hm 0 (by decide)) (show ¬ (((3 : Int32)) < 0 ∨ 44 ≤ (3 : Int32).toNatClampNeg) by decide) rfl ((lr_g3 hl)) ?_
      refine rb_icmp_ge C 2716 dL_law_2652 (by decide) (fun _ => ?_) (fun h9 => absurd ((nI_le (a := R) (b := c) (by omega) (by omega))) h9)
      obtain rfl : c = R := by omega
      exact law_21n C hc hsl v u k n i j h9 q fz gz hq6 hh9 hg hf e37 e38 ef hL hl (Or.inr hfz) kk
    | succ dd ih =>
      intro c hc9
      obtain ⟨vi1, ho1, st1, fl, by1, e, mi, ⟨b1, b2, b3, b4, b5, b6, b7, b8⟩, ⟨rr, rm, rt⟩, ⟨m31, m30, m35, m36, m34, m33, m32⟩⟩ := hl.2.2.2.2.2.2.2.1 c (by omega)
      refine rb_iload C dL_law_2647 rfl ?_
      refine rb_aload_n C dL_law_2649 rfl ?_
      refine rb_iconst C dL_law_2650 (v := 3) (by decide) ?_
      refine rw_iald C (x := (nI R)) 44 (3) dL_law_2651 rfl (hm 0 (by decide)) (show ¬ (((3 : Int32)) < 0 ∨ 44 ≤ (3 : Int32).toNatClampNeg) by decide) rfl ((lr_g3 hl)) ?_
      refine rb_icmp_ge C 2716 dL_law_2652 (by decide) (fun h9 => absurd h9 ((nI_ge (a := c) (b := R) (by omega) (by omega)))) (fun _ => ?_)
      refine rb_aload C dL_law_2655 rfl ?_
      refine rb_iload C dL_law_2657 rfl ?_
      refine rw_iald C (x := (nI (vi1 + 8 * ho1 + 64 * st1 + 256 * fl + 8192 * by1))) 60 (c) dL_law_2659 rfl (hm 4 (by decide)) (vp_in_nI (show c < 60 by omega) (by decide)) (nI_clamp (show c < 2 ^ 31 by omega)) (rr) ?_
      refine rb_bipush C dL_law_2660 (v := 63) (by decide) ?_
      refine rq_iand C (z := (nI ((vi1 + 8 * ho1 + 64 * st1 + 256 * fl + 8192 * by1) % 2 ^ 6))) dL_law_2662 (bs_and (by omega) 6 rfl) ?_
      refine rb_iload C dL_law_2663 rfl ?_
      refine rb_icmp_ne C 2710 dL_law_2665 (by decide) (fun h2665 => ?_) (fun h2665 => ?_)
      · replace h2665 := mt (nI_eq (a := (vi1 + 8 * ho1 + 64 * st1 + 256 * fl + 8192 * by1) % 2 ^ 6) (b := q + 8 * h9) (by omega) (by omega)).mpr h2665
        refine rq_iinc C dL_law_2710 rfl (v := (nI (c + 1))) (nI_1 c) rfl (Lv' := [_, _, _, _, _, _, _, _, _, _, _, _, _, _, _, _, _, _, _, _, _, _, _, _, _, _, _, _, _, _, _, _, _, _, _, _, _, _, _, _, _, _, _, _, _, _, _, _, _, _, _, _, _, _]) rfl ?_
        refine rb_goto C 2647 dL_law_2713 (by decide) ?_
        exact ih (c + 1) (by omega)
      · replace h2665 := (nI_eq (a := (vi1 + 8 * ho1 + 64 * st1 + 256 * fl + 8192 * by1) % 2 ^ 6) (b := q + 8 * h9) (by omega) (by omega)).mp h2665
        refine rb_aload C dL_law_2668 rfl ?_
        refine rb_iload C dL_law_2670 rfl ?_
        refine rw_iald C (x := (nI (vi1 + 8 * ho1 + 64 * st1 + 256 * fl + 8192 * by1))) 60 (c) dL_law_2672 rfl (hm 4 (by decide)) (vp_in_nI (show c < 60 by omega) (by decide)) (nI_clamp (show c < 2 ^ 31 by omega)) (rr) ?_
        refine rb_bipush C dL_law_2673 (v := 6) (by decide) ?_
        refine rq_ishr C (z := (nI ((vi1 + 8 * ho1 + 64 * st1 + 256 * fl + 8192 * by1) / 2 ^ 6))) dL_law_2675 (bs_shr (by omega) (by decide)) ?_
        refine rb_iconst C dL_law_2676 (v := 3) (by decide) ?_
        refine rq_iand C (z := (nI (((vi1 + 8 * ho1 + 64 * st1 + 256 * fl + 8192 * by1) / 2 ^ 6) % 2 ^ 2))) dL_law_2677 (bs_and (by omega) 2 rfl) ?_
        refine rb_if_ne C 2710 dL_law_2678 (by decide) (fun h2678 => ?_) (fun h2678 => ?_)
        · replace h2678 := mt (nI_eq (a := ((vi1 + 8 * ho1 + 64 * st1 + 256 * fl + 8192 * by1) / 2 ^ 6) % 2 ^ 2) (b := 0) (by omega) (by omega)).mpr h2678
          refine rq_iinc C dL_law_2710 rfl (v := (nI (c + 1))) (nI_1 c) rfl (Lv' := [_, _, _, _, _, _, _, _, _, _, _, _, _, _, _, _, _, _, _, _, _, _, _, _, _, _, _, _, _, _, _, _, _, _, _, _, _, _, _, _, _, _, _, _, _, _, _, _, _, _, _, _, _, _]) rfl ?_
          refine rb_goto C 2647 dL_law_2713 (by decide) ?_
          exact ih (c + 1) (by omega)
        · replace h2678 := (nI_eq (a := ((vi1 + 8 * ho1 + 64 * st1 + 256 * fl + 8192 * by1) / 2 ^ 6) % 2 ^ 2) (b := 0) (by omega) (by omega)).mp h2678
          refine rb_iload C dL_law_2681 rfl ?_
          refine rb_bipush C dL_law_2683 (v := 20) (by decide) ?_
          refine rb_icmp_ne C 2691 dL_law_2685 (by decide) (fun h9 => absurd ((by rw [hfz]; rfl)) h9) (fun _ => ?_)
          refine rb_goto C 2710 dL_law_2688 (by decide) ?_
          refine rq_iinc C dL_law_2710 rfl (v := (nI (c + 1))) (nI_1 c) rfl (Lv' := [_, _, _, _, _, _, _, _, _, _, _, _, _, _, _, _, _, _, _, _, _, _, _, _, _, _, _, _, _, _, _, _, _, _, _, _, _, _, _, _, _, _, _, _, _, _, _, _, _, _, _, _, _, _]) rfl ?_
          refine rb_goto C 2647 dL_law_2713 (by decide) ?_
          exact ih (c + 1) (by omega)
  have h0 := loop2647 R 0 (by omega)
  rw [nI_0] at h0
  exact h0

set_option maxRecDepth 100000 in
set_option maxHeartbeats 4000000 in
theorem law_21y {Φ : rb_F} {cells slots : Nat} (C : rb_C Φ RL cL_law 54 15 568 734644 6897897) (hc : cells + 12 ≤ 734644) (hsl : slots + 72 ≤ 6897897) {G : rb_G} {W M : rb_I} {S A R P t d : Nat} (v u : Int32) (k n i j h9 q fz gz : Nat) (hq6 : q < 6) (hh9 : h9 < 3) (hg : gz ≤ fz) (hf : fz ≤ 20) (e37 : M (14, 37, 0) (6 * q + h9) = nI fz) (e38 : M (14, 38, 0) (6 * q + h9) = nI gz) (ef : W (14, 9, 0) (q + 8 * h9) = nI (fz + 32 * gz)) (hL : LI G W M) (hl : lx W M S A R P t d) (hfz : fz < 20) (kk : ∀ G' W' M', LI G' W' M' → lx W' M' S A R P t d → rb_W Φ (cells + 12) (slots + 72) 2768 [some (rbR (18, 0, 0)), some (rbR (0, 0, 0)), some (rbR (14, 0, 0)), some (rbR (14, 1, 0)), some (rbR (14, 2, 0)), some (rbR (14, 3, 0)), some (rbR (14, 4, 0)), some (rbR (14, 5, 0)), some (rbR (14, 6, 0)), some (rbR (14, 7, 0)), some (rbR (14, 8, 0)), some (rbR (14, 9, 0)), some (rbI (nI k)), some (rbI v), some (rbI u), some (rbI (nI n)), some (rbI (nI i)), some (rbI (nI j)), some (rbI 1), none, none, none, none, none, none, none, none, none, none, none, none, none, none, none, none, none, none, none, none, none, none, none, none, none, some (rbI (nI h9)), some (rbI (nI q)), some (rbI (nI (q + 8 * h9))), some (rbI (nI fz)), none, none, none, none, none, none] [] (wI G' W')) : rb_W Φ cells slots 2644 [some (rbR (18, 0, 0)), some (rbR (0, 0, 0)), some (rbR (14, 0, 0)), some (rbR (14, 1, 0)), some (rbR (14, 2, 0)), some (rbR (14, 3, 0)), some (rbR (14, 4, 0)), some (rbR (14, 5, 0)), some (rbR (14, 6, 0)), some (rbR (14, 7, 0)), some (rbR (14, 8, 0)), some (rbR (14, 9, 0)), some (rbI (nI k)), some (rbI v), some (rbI u), some (rbI (nI n)), some (rbI (nI i)), some (rbI (nI j)), some (rbI 1), none, none, none, none, none, none, none, none, none, none, none, none, none, none, none, none, none, none, none, none, none, none, none, none, none, some (rbI (nI h9)), some (rbI (nI q)), some (rbI (nI (q + 8 * h9))), some (rbI (nI fz)), some (rbI 0), none, none, none, none, none] [] (wI G W) := by
  have hm := hL.1
  have hl00 := hl
  obtain ⟨hS6, hA10, hRP, hP58, hP2, hd64, htm⟩ := lr_b hl
  show rb_W Φ cells slots 2644 [some (rbR (18, 0, 0)), some (rbR (0, 0, 0)), some (rbR (14, 0, 0)), some (rbR (14, 1, 0)), some (rbR (14, 2, 0)), some (rbR (14, 3, 0)), some (rbR (14, 4, 0)), some (rbR (14, 5, 0)), some (rbR (14, 6, 0)), some (rbR (14, 7, 0)), some (rbR (14, 8, 0)), some (rbR (14, 9, 0)), some (rbI (nI k)), some (rbI v), some (rbI u), some (rbI (nI n)), some (rbI (nI i)), some (rbI (nI j)), some (rbI 1), none, none, none, none, none, none, none, none, none, none, none, none, none, none, none, none, none, none, none, none, none, none, none, none, none, some (rbI (nI h9)), some (rbI (nI q)), some (rbI (nI (q + 8 * h9))), some (rbI (nI fz)), some (rbI 0), none, none, none, none, none] [] (wI G W)
  refine rb_iconst C dL_law_2644 (v := 0) (by decide) ?_
  refine rb_istore C dL_law_2645 (Nat.le_of_ble_eq_true rfl) rfl (Lv' := [_, _, _, _, _, _, _, _, _, _, _, _, _, _, _, _, _, _, _, _, _, _, _, _, _, _, _, _, _, _, _, _, _, _, _, _, _, _, _, _, _, _, _, _, _, _, _, _, _, _, _, _, _, _]) rfl ?_
  have loop2647 : ∀ (dd : Nat) (c : Nat) (W : rb_I) (hz : Int32), c + dd = R → LI G W M → lx W (fo (m_file_b M (nI q) (nI h9)) c (up2 (up2 M (16, 0, 0) 0 0) (16, 0, 0) 0 0)) S A R P t d → W (14, 9, 0) (q + 8 * h9) = nI (fz + 32 * gz) → ((hz = 0 ∧ (fo (m_file_b M (nI q) (nI h9)) c (up2 (up2 M (16, 0, 0) 0 0) (16, 0, 0) 0 0)) = (up2 (up2 M (16, 0, 0) 0 0) (16, 0, 0) 0 0) ∧ ∀ c1, c1 < c → ¬ fsh M q h9 c1) ∨ (hz = 1 ∧ ∃ c1, c1 < c ∧ fsh M q h9 c1)) → rb_W Φ cells slots 2647 [some (rbR (18, 0, 0)), some (rbR (0, 0, 0)), some (rbR (14, 0, 0)), some (rbR (14, 1, 0)), some (rbR (14, 2, 0)), some (rbR (14, 3, 0)), some (rbR (14, 4, 0)), some (rbR (14, 5, 0)), some (rbR (14, 6, 0)), some (rbR (14, 7, 0)), some (rbR (14, 8, 0)), some (rbR (14, 9, 0)), some (rbI (nI k)), some (rbI v), some (rbI u), some (rbI (nI n)), some (rbI (nI i)), some (rbI (nI j)), some (rbI 1), none, none, none, none, none, none, none, none, none, none, none, none, none, none, none, none, none, none, none, none, none, none, none, none, none, some (rbI (nI h9)), some (rbI (nI q)), some (rbI (nI (q + 8 * h9))), some (rbI (nI fz)), some (rbI hz), some (rbI (nI c)), none, none, none, none] [] (wI G W) := by
    intro dd
    induction dd with
    | zero =>
      intro c W hz hc9 hL hl ef hzz
      refine rb_iload C dL_law_2647 rfl ?_
      refine rb_aload_n C dL_law_2649 rfl ?_
      refine rb_iconst C dL_law_2650 (v := 3) (by decide) ?_
      refine rw_iald C (x := (nI R)) 44 (3) dL_law_2651 rfl (hm 0 (by decide)) (show ¬ (((3 : Int32)) < 0 ∨ 44 ≤ (3 : Int32).toNatClampNeg) by decide) rfl ((lr_g3 hl)) ?_
      refine rb_icmp_ge C 2716 dL_law_2652 (by decide) (fun _ => ?_) (fun h9 => absurd ((nI_le (a := R) (b := c) (by omega) (by omega))) h9)
      obtain rfl : c = R := by omega
      rcases hzz with ⟨rfl, hz1, hz2⟩ | ⟨rfl, hz2⟩
      · exact law_21n C hc hsl v u k n i j h9 q fz gz hq6 hh9 hg hf e37 e38 ef hL (lx_th00 (by have z := hl; rw [hz1] at z; exact z)) (Or.inl hz2) kk
      · exact law_21w C hc hsl v u k n i j h9 q fz gz hq6 hh9 hg hf e37 e38 ef hL ⟨_, hl00⟩ hl hfz hz2 kk
    | succ dd ih =>
      intro c W hz hc9 hL hl ef hzz
      obtain ⟨vi1, ho1, st1, fl, by1, e, mi, ⟨b1, b2, b3, b4, b5, b6, b7, b8⟩, ⟨rr, rm, rt⟩, ⟨m31, m30, m35, m36, m34, m33, m32⟩⟩ := hl.2.2.2.2.2.2.2.1 c (by omega)
      have hfs : fsh M q h9 c ↔ vi1 = q ∧ ho1 = h9 ∧ st1 = 0 := by
        unfold fsh
        rw [← fbk (M := M) (vi := nI q) (ho := nI h9) 0 c 31 (by decide) (by decide) c, ← fbk (M := M) (vi := nI q) (ho := nI h9) 0 c 30 (by decide) (by decide) c, ← fbk35 (M := M) (vi := nI q) (ho := nI h9) 0 c c (Nat.le_refl _), m31, m30, m35, nI_eq (by omega) (by omega), nI_eq (by omega) (by omega), show (nI st1 = 0 ↔ st1 = 0) from nI_eq (b := 0) (by omega) (by decide)]
      have fbe := fb_e (M := M) (vi := q) (ho := h9) (show c < 1000 by omega) hq6 (by omega) (show vi1 < 1000 by omega) (show ho1 < 1000 by omega) (show st1 < 1000 by omega) m31 m30 m35
      rw [e37] at fbe
      refine rb_iload C dL_law_2647 rfl ?_
      refine rb_aload_n C dL_law_2649 rfl ?_
      refine rb_iconst C dL_law_2650 (v := 3) (by decide) ?_
      refine rw_iald C (x := (nI R)) 44 (3) dL_law_2651 rfl (hm 0 (by decide)) (show ¬ (((3 : Int32)) < 0 ∨ 44 ≤ (3 : Int32).toNatClampNeg) by decide) rfl ((lr_g3 hl)) ?_
      refine rb_icmp_ge C 2716 dL_law_2652 (by decide) (fun h9 => absurd h9 ((nI_ge (a := c) (b := R) (by omega) (by omega)))) (fun _ => ?_)
      refine rb_aload C dL_law_2655 rfl ?_
      refine rb_iload C dL_law_2657 rfl ?_
      refine rw_iald C (x := (nI (vi1 + 8 * ho1 + 64 * st1 + 256 * fl + 8192 * by1))) 60 (c) dL_law_2659 rfl (hm 4 (by decide)) (vp_in_nI (show c < 60 by omega) (by decide)) (nI_clamp (show c < 2 ^ 31 by omega)) (rr) ?_
      refine rb_bipush C dL_law_2660 (v := 63) (by decide) ?_
      refine rq_iand C (z := (nI ((vi1 + 8 * ho1 + 64 * st1 + 256 * fl + 8192 * by1) % 2 ^ 6))) dL_law_2662 (bs_and (by omega) 6 rfl) ?_
      refine rb_iload C dL_law_2663 rfl ?_
      refine rb_icmp_ne C 2710 dL_law_2665 (by decide) (fun h2665 => ?_) (fun h2665 => ?_)
      · replace h2665 := mt (nI_eq (a := (vi1 + 8 * ho1 + 64 * st1 + 256 * fl + 8192 * by1) % 2 ^ 6) (b := q + 8 * h9) (by omega) (by omega)).mpr h2665
        refine rq_iinc C dL_law_2710 rfl (v := (nI (c + 1))) (nI_1 c) rfl (Lv' := [_, _, _, _, _, _, _, _, _, _, _, _, _, _, _, _, _, _, _, _, _, _, _, _, _, _, _, _, _, _, _, _, _, _, _, _, _, _, _, _, _, _, _, _, _, _, _, _, _, _, _, _, _, _]) rfl ?_
        refine rb_goto C 2647 dL_law_2713 (by decide) ?_
        exact ih (c + 1) W hz (by omega) hL (by rw [fo_s, fbe, if_neg (by omega)]; exact hl) ef (hzz.imp (fun z => ⟨z.1, by rw [fo_s, fbe, if_neg (by omega)]; exact z.2.1, fun c1 hc1 => nfs_s z.2.2 (fun y => absurd (hfs.mp y) (by omega)) c1 hc1⟩) (fun z => ⟨z.1, z.2.imp (fun c1 y => ⟨Nat.lt_succ_of_lt y.1, y.2⟩)⟩))
      · replace h2665 := (nI_eq (a := (vi1 + 8 * ho1 + 64 * st1 + 256 * fl + 8192 * by1) % 2 ^ 6) (b := q + 8 * h9) (by omega) (by omega)).mp h2665
        refine rb_aload C dL_law_2668 rfl ?_
        refine rb_iload C dL_law_2670 rfl ?_
        refine rw_iald C (x := (nI (vi1 + 8 * ho1 + 64 * st1 + 256 * fl + 8192 * by1))) 60 (c) dL_law_2672 rfl (hm 4 (by decide)) (vp_in_nI (show c < 60 by omega) (by decide)) (nI_clamp (show c < 2 ^ 31 by omega)) (rr) ?_
        refine rb_bipush C dL_law_2673 (v := 6) (by decide) ?_
        refine rq_ishr C (z := (nI ((vi1 + 8 * ho1 + 64 * st1 + 256 * fl + 8192 * by1) / 2 ^ 6))) dL_law_2675 (bs_shr (by omega) (by decide)) ?_
        refine rb_iconst C dL_law_2676 (v := 3) (by decide) ?_
        refine rq_iand C (z := (nI (((vi1 + 8 * ho1 + 64 * st1 + 256 * fl + 8192 * by1) / 2 ^ 6) % 2 ^ 2))) dL_law_2677 (bs_and (by omega) 2 rfl) ?_
        refine rb_if_ne C 2710 dL_law_2678 (by decide) (fun h2678 => ?_) (fun h2678 => ?_)
        · replace h2678 := mt (nI_eq (a := ((vi1 + 8 * ho1 + 64 * st1 + 256 * fl + 8192 * by1) / 2 ^ 6) % 2 ^ 2) (b := 0) (by omega) (by omega)).mpr h2678
          refine rq_iinc C dL_law_2710 rfl (v := (nI (c + 1))) (nI_1 c) rfl (Lv' := [_, _, _, _, _, _, _, _, _, _, _, _, _, _, _, _, _, _, _, _, _, _, _, _, _, _, _, _, _, _, _, _, _, _, _, _, _, _, _, _, _, _, _, _, _, _, _, _, _, _, _, _, _, _]) rfl ?_
          refine rb_goto C 2647 dL_law_2713 (by decide) ?_
          exact ih (c + 1) W hz (by omega) hL (by rw [fo_s, fbe, if_neg (by omega)]; exact hl) ef (hzz.imp (fun z => ⟨z.1, by rw [fo_s, fbe, if_neg (by omega)]; exact z.2.1, fun c1 hc1 => nfs_s z.2.2 (fun y => absurd (hfs.mp y) (by omega)) c1 hc1⟩) (fun z => ⟨z.1, z.2.imp (fun c1 y => ⟨Nat.lt_succ_of_lt y.1, y.2⟩)⟩))
        · replace h2678 := (nI_eq (a := ((vi1 + 8 * ho1 + 64 * st1 + 256 * fl + 8192 * by1) / 2 ^ 6) % 2 ^ 2) (b := 0) (by omega) (by omega)).mp h2678
          refine rb_iload C dL_law_2681 rfl ?_
          refine rb_bipush C dL_law_2683 (v := 20) (by decide) ?_
          refine rb_icmp_ne C 2691 dL_law_2685 (by decide) (fun _ => ?_) (fun h9 => absurd h9 ((fun z => by have := (nI_eq (b := 20) (by omega) (by decide)).mp z; omega)))
          refine rb_iconst C dL_law_2691 (v := 1) (by decide) ?_
          refine rb_istore C dL_law_2692 (Nat.le_of_ble_eq_true rfl) rfl (Lv' := [_, _, _, _, _, _, _, _, _, _, _, _, _, _, _, _, _, _, _, _, _, _, _, _, _, _, _, _, _, _, _, _, _, _, _, _, _, _, _, _, _, _, _, _, _, _, _, _, _, _, _, _, _, _]) rfl ?_
          refine rb_aload C dL_law_2694 rfl ?_
          refine rb_iload C dL_law_2696 rfl ?_
          refine rb_dup2 C dL_law_2698 rfl rfl ?_
          refine rw_iald C (x := (nI (vi1 + 8 * ho1 + 64 * st1 + 256 * fl + 8192 * by1))) 60 (c) dL_law_2699 rfl (hm 4 (by decide)) (vp_in_nI (show c < 60 by omega) (by decide)) (nI_clamp (show c < 2 ^ 31 by omega)) (rr) ?_
          refine rb_bipush C dL_law_2700 (v := 64) (by decide) ?_
          refine rb_iload C dL_law_2702 rfl ?_
          refine rb_bipush C dL_law_2704 (v := 8) (by decide) ?_
          refine rq_ishl C (z := (nI (fz * 2 ^ 8))) dL_law_2706 (bs_shl (a := fz) (n := 8) (by omega) (by omega)) ?_
          refine rq_ior C (z := (nI (64 ||| fz * 2 ^ 8))) dL_law_2707 (bs_or _ _) ?_
          refine rq_ior C (z := (nI (vi1 + 8 * ho1 + 64 * 1 + 256 * fz + 8192 * by1))) dL_law_2708 (by rw [show vi1 + 8 * ho1 + 64 * st1 + 256 * fl + 8192 * by1 = (vi1 + 8 * ho1) + 8192 * by1 by omega, bs_or, or_file (by omega) (by omega)]) ?_
          refine rw_iast C 60 (c) dL_law_2709 rfl (hm 4 (by decide)) (vp_in_nI (show c < 60 by omega) (by decide)) (nI_clamp (show c < 2 ^ 31 by omega)) ?_
          have hl1 := lu_rec hl (k0 := c) (vi := vi1) (ho := ho1) (st1 := 1) (fl1 := fz) (by1 := by1) (e1 := e) (mi := mi) ⟨b1, b2, b5, b6, b7⟩ ⟨by decide, by omega, by decide⟩ rm rt m31 m30 m34 m33 m32
          have hL1 := LI_up hL 4 (c) (nI (vi1 + 8 * ho1 + 64 * 1 + 256 * fz + 8192 * by1))
          have ef_1 : up2 W (14, 4, 0) (c) (nI (vi1 + 8 * ho1 + 64 * 1 + 256 * fz + 8192 * by1)) (14, 9, 0) (q + 8 * h9) = (nI (fz + 32 * gz)) := (up2_n _ _ _ _ (by first | (intro z; have z9 := z.2; omega) | simp)).trans ef
          have fz1_1 : up2 W (14, 4, 0) (c) (nI (vi1 + 8 * ho1 + 64 * 1 + 256 * fz + 8192 * by1)) (14, 4, 0) (c) = (nI (vi1 + 8 * ho1 + 64 * 1 + 256 * fz + 8192 * by1)) := up2_s _ _ _ _
          generalize up2 W (14, 4, 0) (c) (nI (vi1 + 8 * ho1 + 64 * 1 + 256 * fz + 8192 * by1)) = W1 at hl1 hL1 ef_1 fz1_1 ⊢
          refine rq_iinc C dL_law_2710 rfl (v := (nI (c + 1))) (nI_1 c) rfl (Lv' := [_, _, _, _, _, _, _, _, _, _, _, _, _, _, _, _, _, _, _, _, _, _, _, _, _, _, _, _, _, _, _, _, _, _, _, _, _, _, _, _, _, _, _, _, _, _, _, _, _, _, _, _, _, _]) rfl ?_
          refine rb_goto C 2647 dL_law_2713 (by decide) ?_
          exact ih (c + 1) W1 1 (by omega) hL1 (by rw [fo_s, fbe, if_pos (by omega)]; exact hl1) ef_1 (Or.inr ⟨rfl, c, Nat.lt_succ_self _, hfs.mpr (by omega)⟩)
  have h0 := loop2647 R 0 W 0 (by omega) hL (by rw [fo_0]; exact lx_thr (lx_thr hl 0) 0) ef (Or.inl ⟨rfl, by rw [fo_0], fun c1 hc1 => absurd hc1 (Nat.not_lt_zero _)⟩)
  rw [nI_0] at h0
  exact h0

set_option maxRecDepth 100000 in
set_option maxHeartbeats 4000000 in
theorem law_21 {Φ : rb_F} {cells slots : Nat} (C : rb_C Φ RL cL_law 54 15 568 734644 6897897) (hc : cells + 90 ≤ 734644) (hsl : slots + 2600 ≤ 6897897) {G : rb_G} {W M : rb_I} (hL : LI G W M) {S A R P t d : Nat} (hl : lx W M S A R P t d) (v u : Int32) (k n i j : Nat) (hk : k < 140) (hn : n < 6) (hi : i < S ∨ S = 0 ∧ i = 0) (hj : j < S ∨ S = 0 ∧ j = 0) (kk : ∀ G' W' M', lJ G' W' M' → rb_W Φ (cells + 90) (slots + 2600) 3288 (LVE k v u) [] (wI G' W')) : rb_W Φ cells slots 2604 (LV0 k v u n i j) [] (wI G W) := by
  show rb_W Φ cells slots 2604 [some (rbR (18, 0, 0)), some (rbR (0, 0, 0)), some (rbR (14, 0, 0)), some (rbR (14, 1, 0)), some (rbR (14, 2, 0)), some (rbR (14, 3, 0)), some (rbR (14, 4, 0)), some (rbR (14, 5, 0)), some (rbR (14, 6, 0)), some (rbR (14, 7, 0)), some (rbR (14, 8, 0)), some (rbR (14, 9, 0)), some (rbI (nI k)), some (rbI v), some (rbI u), some (rbI (nI n)), some (rbI (nI i)), some (rbI (nI j)), some (rbI 1), none, none, none, none, none, none, none, none, none, none, none, none, none, none, none, none, none, none, none, none, none, none, none, none, none, none, none, none, none, none, none, none, none, none, none] [] (wI G W)
  have hm := hL.1
  obtain ⟨hS6, hA10, hRP, hP58, hP2, hd64, htm⟩ := lr_b hl
  refine rb_iload C dL_law_2604 rfl ?_
  refine rb_iconst C dL_law_2606 (v := 3) (by decide) ?_
  refine rb_callS C M_L_124 (fun l X => (k_L_low l X G W _ 3 (by decide) (by decide)).m) dL_law_2607 rfl rfl rfl (Nat.le_of_ble_eq_true rfl) ⟨(Nat.le_of_ble_eq_true rfl), (Nat.le_of_ble_eq_true rfl)⟩ (by omega) (by omega) (fun v G' hp => ?_) (fun _ _ hp => hp.elim)
  obtain ⟨h9, hh9, rfl, e9⟩ := hp
  rw [e9]
  clear e9 G'
  refine rb_istore C dL_law_2610 (Nat.le_of_ble_eq_true rfl) rfl (Lv' := [_, _, _, _, _, _, _, _, _, _, _, _, _, _, _, _, _, _, _, _, _, _, _, _, _, _, _, _, _, _, _, _, _, _, _, _, _, _, _, _, _, _, _, _, _, _, _, _, _, _, _, _, _, _]) rfl ?_
  refine rb_iconst C dL_law_2612 (v := 0) (by decide) ?_
  refine rb_istore C dL_law_2613 (Nat.le_of_ble_eq_true rfl) rfl (Lv' := [_, _, _, _, _, _, _, _, _, _, _, _, _, _, _, _, _, _, _, _, _, _, _, _, _, _, _, _, _, _, _, _, _, _, _, _, _, _, _, _, _, _, _, _, _, _, _, _, _, _, _, _, _, _]) rfl ?_
  have loop2615 : ∀ (dd : Nat) (q : Nat) (G : rb_G) (W M : rb_I), q + dd = 6 → LI G W M → lx W M S A R P t d → rb_W Φ (cells + 12 * q) (slots + 72 * q) 2615 [some (rbR (18, 0, 0)), some (rbR (0, 0, 0)), some (rbR (14, 0, 0)), some (rbR (14, 1, 0)), some (rbR (14, 2, 0)), some (rbR (14, 3, 0)), some (rbR (14, 4, 0)), some (rbR (14, 5, 0)), some (rbR (14, 6, 0)), some (rbR (14, 7, 0)), some (rbR (14, 8, 0)), some (rbR (14, 9, 0)), some (rbI (nI k)), some (rbI v), some (rbI u), some (rbI (nI n)), some (rbI (nI i)), some (rbI (nI j)), some (rbI 1), none, none, none, none, none, none, none, none, none, none, none, none, none, none, none, none, none, none, none, none, none, none, none, none, none, some (rbI (nI h9)), some (rbI (nI q)), none, none, none, none, none, none, none, none] [] (wI G W) := by
    intro dd
    induction dd with
    | zero =>
      intro q G W M hq hL hl
      have hm := hL.1
      refine rb_iload C dL_law_2615 rfl ?_
      refine rb_bipush C dL_law_2617 (v := 6) (by decide) ?_
      refine rb_icmp_ge C 2774 dL_law_2619 (by decide) (fun _ => ?_) (fun h9 => absurd ((nI_le (a := 6) (b := q) (by omega) (by omega))) h9)
      refine rb_goto C 3288 dL_law_2774 (by decide) ?_
      refine rb_W.unset 15 ?_
      refine rb_W.unset 16 ?_
      refine rb_W.unset 17 ?_
      refine rb_W.unset 44 ?_
      refine rb_W.unset 45 ?_
      exact rb_W.room (kk G W M ⟨hL, _, _, _, _, _, _, hl⟩) (by omega) (by omega)
    | succ dd ih =>
      intro q G W M hq hL hl
      have hm := hL.1
      obtain ⟨fz, gz, hg, hf, ef, e37, e38⟩ := hl.2.2.2.2.2.2.2.2.2 q h9 (by omega) (by omega)
      refine rb_iload C dL_law_2615 rfl ?_
      refine rb_bipush C dL_law_2617 (v := 6) (by decide) ?_
      refine rb_icmp_ge C 2774 dL_law_2619 (by decide) (fun h9 => absurd h9 ((nI_ge (a := q) (b := 6) (by omega) (by omega)))) (fun _ => ?_)
      refine rb_iload C dL_law_2622 rfl ?_
      refine rb_iload C dL_law_2624 rfl ?_
      refine rb_iconst C dL_law_2626 (v := 3) (by decide) ?_
      refine rq_ishl C (z := (nI (h9 * 2 ^ 3))) dL_law_2627 (bs_shl (a := h9) (n := 3) (by omega) (by omega)) ?_
      refine rq_ior C (z := (nI (q + 8 * h9))) dL_law_2628 (or_vh (by omega)) ?_
      refine rb_istore C dL_law_2629 (Nat.le_of_ble_eq_true rfl) rfl (Lv' := [_, _, _, _, _, _, _, _, _, _, _, _, _, _, _, _, _, _, _, _, _, _, _, _, _, _, _, _, _, _, _, _, _, _, _, _, _, _, _, _, _, _, _, _, _, _, _, _, _, _, _, _, _, _]) rfl ?_
      refine rb_aload C dL_law_2631 rfl ?_
      refine rb_iload C dL_law_2633 rfl ?_
      refine rw_iald C (x := (nI (fz + 32 * gz))) 48 (q + 8 * h9) dL_law_2635 rfl (hm 9 (by decide)) (vp_in_nI (show q + 8 * h9 < 48 by omega) (by decide)) (nI_clamp (show q + 8 * h9 < 2 ^ 31 by omega)) (ef) ?_
      refine rb_bipush C dL_law_2636 (v := 31) (by decide) ?_
      refine rq_iand C (z := (nI fz)) dL_law_2638 ((bs_and (by omega) 5 rfl).trans (by rw [show (fz + 32 * gz) % 2 ^ 5 = fz by omega])) ?_
      refine rb_istore C dL_law_2639 (Nat.le_of_ble_eq_true rfl) rfl (Lv' := [_, _, _, _, _, _, _, _, _, _, _, _, _, _, _, _, _, _, _, _, _, _, _, _, _, _, _, _, _, _, _, _, _, _, _, _, _, _, _, _, _, _, _, _, _, _, _, _, _, _, _, _, _, _]) rfl ?_
      refine rb_iconst C dL_law_2641 (v := 0) (by decide) ?_
      refine rb_istore C dL_law_2642 (Nat.le_of_ble_eq_true rfl) rfl (Lv' := [_, _, _, _, _, _, _, _, _, _, _, _, _, _, _, _, _, _, _, _, _, _, _, _, _, _, _, _, _, _, _, _, _, _, _, _, _, _, _, _, _, _, _, _, _, _, _, _, _, _, _, _, _, _]) rfl ?_
      have kk2 : ∀ (G' : rb_G) (W' M' : rb_I), LI G' W' M' → lx W' M' S A R P t d → rb_W Φ (cells + 12 * q + 12) (slots + 72 * q + 72) 2768 [some (rbR (18, 0, 0)), some (rbR (0, 0, 0)), some (rbR (14, 0, 0)), some (rbR (14, 1, 0)), some (rbR (14, 2, 0)), some (rbR (14, 3, 0)), some (rbR (14, 4, 0)), some (rbR (14, 5, 0)), some (rbR (14, 6, 0)), some (rbR (14, 7, 0)), some (rbR (14, 8, 0)), some (rbR (14, 9, 0)), some (rbI (nI k)), some (rbI v), some (rbI u), some (rbI (nI n)), some (rbI (nI i)), some (rbI (nI j)), some (rbI 1), none, none, none, none, none, none, none, none, none, none, none, none, none, none, none, none, none, none, none, none, none, none, none, none, none, some (rbI (nI h9)), some (rbI (nI q)), some (rbI (nI (q + 8 * h9))), some (rbI (nI fz)), none, none, none, none, none, none] [] (wI G' W') := fun G2 W2 M2 hL2 hl2 => by
        refine rq_iinc C dL_law_2768 rfl (v := (nI (q + 1))) (nI_1 q) rfl (Lv' := [_, _, _, _, _, _, _, _, _, _, _, _, _, _, _, _, _, _, _, _, _, _, _, _, _, _, _, _, _, _, _, _, _, _, _, _, _, _, _, _, _, _, _, _, _, _, _, _, _, _, _, _, _, _]) rfl ?_
        refine rb_goto C 2615 dL_law_2771 (by decide) ?_
        refine rb_W.unset 46 ?_
        refine rb_W.unset 47 ?_
        exact rb_W.room (ih (q + 1) G2 W2 M2 (by omega) hL2 hl2) (by omega) (by omega)
      rcases Nat.lt_or_ge fz 20 with hfz | hfz
      · exact law_21y C (by omega) (by omega) v u k n i j h9 q fz gz (by omega) (by omega) hg hf e37 e38 ef hL hl hfz kk2
      · exact law_21x C (by omega) (by omega) v u k n i j h9 q fz gz (by omega) (by omega) hg hf e37 e38 ef hL hl (by omega) kk2
  have h0 := loop2615 6 0 G W M (by omega) hL hl
  rw [nI_0] at h0
  exact rb_W.room h0 (by omega) (by omega)

