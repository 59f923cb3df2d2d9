theorem dl_f (a b c : Int32) (f : Nat) (hf : f ≠ 35) (i k : Nat) (s : Int32 × rb_I) : (m_deliver_b a b c i s).2 (14, f, 0) k = s.2 (14, f, 0) k := by
  unfold m_deliver_b
  (repeat' split) <;> simp [up2, hf]
theorem dl_16 (a b c : Int32) (i k : Nat) (s : Int32 × rb_I) : (m_deliver_b a b c i s).2 (16, 0, 0) k = s.2 (16, 0, 0) k := by
  unfold m_deliver_b
  (repeat' split) <;> simp [up2]

theorem dlk {M : rb_I} {a b c : Int32} (f : Nat) (hf : f ≠ 35) (m k : Nat) : (fo (m_deliver_b a b c) m (0, up2 M (16, 0, 0) 0 0)).2 (14, f, 0) k = M (14, f, 0) k := by
  rw [dl_r (a := (0, up2 M (16, 0, 0) 0 0)) (r := (14, f, 0)) (k := k) (fun i s => dl_f a b c f hf i k s) m]
  exact up2_n M (16, 0, 0) 0 0 (r' := (14, f, 0)) (k' := k) (by simp)
theorem dlk1 {M : rb_I} {a b c : Int32} (m : Nat) : (fo (m_deliver_b a b c) m (0, up2 M (16, 0, 0) 0 0)).2 (16, 0, 0) 1 = M (16, 0, 0) 1 := by
  rw [dl_r (a := (0, up2 M (16, 0, 0) 0 0)) (r := (16, 0, 0)) (k := 1) (fun i s => dl_16 a b c i 1 s) m]
  exact up2_n M (16, 0, 0) 0 0 (r' := (16, 0, 0)) (k' := 1) (by simp)

set_option maxRecDepth 100000 in
set_option maxHeartbeats 4000000 in
theorem law_23 {Φ : rb_F} {cells slots : Nat} (C : rb_C Φ RL cL_law 54 15 568 734644 6897897) (hc : cells + 90 ≤ 734644) (hsl : slots + 2600 ≤ 6897897) {G : rb_G} {W M : rb_I} (hL : LI G W M) {S A R P t d : Nat} (hl : lx W M S A R P t d) (v u : Int32) (k n i j : Nat) (hk : k < 140) (hn : n < 6) (hi : i < S ∨ S = 0 ∧ i = 0) (hj : j < S ∨ S = 0 ∧ j = 0) (kk : ∀ G' W' M', lJ G' W' M' → rb_W Φ (cells + 90) (slots + 2600) 3288 (LVE k v u) [] (wI G' W')) : rb_W Φ cells slots 2777 (LV0 k v u n i j) [] (wI G W) := by
  show rb_W Φ cells slots 2777 [some (rbR (18, 0, 0)), some (rbR (0, 0, 0)), some (rbR (14, 0, 0)), some (rbR (14, 1, 0)), some (rbR (14, 2, 0)), some (rbR (14, 3, 0)), some (rbR (14, 4, 0)), some (rbR (14, 5, 0)), some (rbR (14, 6, 0)), some (rbR (14, 7, 0)), some (rbR (14, 8, 0)), some (rbR (14, 9, 0)), some (rbI (nI k)), some (rbI v), some (rbI u), some (rbI (nI n)), some (rbI (nI i)), some (rbI (nI j)), some (rbI 1), none, none, none, none, none, none, none, none, none, none, none, none, none, none, none, none, none, none, none, none, none, none, none, none, none, none, none, none, none, none, none, none, none, none, none] [] (wI G W)
  have hm := hL.1
  obtain ⟨hS6, hA10, hRP, hP58, hP2, hd64, htm⟩ := lr_b hl
  refine rb_iload C dL_law_2777 rfl ?_
  refine rb_iconst C dL_law_2779 (v := 3) (by decide) ?_
  refine rb_callS C M_L_124 (fun l X => (k_L_low l X G W _ 3 (by decide) (by decide)).m) dL_law_2780 rfl rfl rfl (Nat.le_of_ble_eq_true rfl) ⟨(Nat.le_of_ble_eq_true rfl), (Nat.le_of_ble_eq_true rfl)⟩ (by omega) (by omega) (fun v G' hp => ?_) (fun _ _ hp => hp.elim)
  obtain ⟨h9, hh9, rfl, e9⟩ := hp
  rw [e9]
  clear e9 G'
  refine rb_istore C dL_law_2783 (Nat.le_of_ble_eq_true rfl) rfl (Lv' := [_, _, _, _, _, _, _, _, _, _, _, _, _, _, _, _, _, _, _, _, _, _, _, _, _, _, _, _, _, _, _, _, _, _, _, _, _, _, _, _, _, _, _, _, _, _, _, _, _, _, _, _, _, _]) rfl ?_
  obtain ⟨fz, gz, hg, hf, ef, e37, e38⟩ := hl.2.2.2.2.2.2.2.2.2 n h9 hn (by omega)
  refine rb_iload C dL_law_2785 rfl ?_
  refine rb_iload C dL_law_2787 rfl ?_
  refine rb_iconst C dL_law_2789 (v := 3) (by decide) ?_
  refine rq_ishl C (z := (nI (h9 * 2 ^ 3))) dL_law_2790 (bs_shl (a := h9) (n := 3) (by omega) (by omega)) ?_
  refine rq_ior C (z := (nI (n + 8 * h9))) dL_law_2791 (or_vh (by omega)) ?_
  refine rb_istore C dL_law_2792 (Nat.le_of_ble_eq_true rfl) rfl (Lv' := [_, _, _, _, _, _, _, _, _, _, _, _, _, _, _, _, _, _, _, _, _, _, _, _, _, _, _, _, _, _, _, _, _, _, _, _, _, _, _, _, _, _, _, _, _, _, _, _, _, _, _, _, _, _]) rfl ?_
  refine rb_aload C dL_law_2794 rfl ?_
  refine rb_iload C dL_law_2796 rfl ?_
  refine rw_iald C (x := (nI (fz + 32 * gz))) 48 (n + 8 * h9) dL_law_2798 rfl (hm 9 (by decide)) (vp_in_nI (show n + 8 * h9 < 48 by omega) (by decide)) (nI_clamp (show n + 8 * h9 < 2 ^ 31 by omega)) (ef) ?_
  refine rb_bipush C dL_law_2799 (v := 31) (by decide) ?_
  refine rq_iand C (z := (nI fz)) dL_law_2801 ((bs_and (by omega) 5 rfl).trans (by rw [show (fz + 32 * gz) % 2 ^ 5 = fz by omega])) ?_
  refine rb_istore C dL_law_2802 (Nat.le_of_ble_eq_true rfl) rfl (Lv' := [_, _, _, _, _, _, _, _, _, _, _, _, _, _, _, _, _, _, _, _, _, _, _, _, _, _, _, _, _, _, _, _, _, _, _, _, _, _, _, _, _, _, _, _, _, _, _, _, _, _, _, _, _, _]) rfl ?_
  refine rb_aload_n C dL_law_2804 rfl ?_
  refine rb_iload C dL_law_2805 rfl ?_
  refine rb_iload C dL_law_2807 rfl ?_
  refine rb_iload C dL_law_2809 rfl ?_
  refine rb_callSW C M_L_188 (fun l X => c_dlX l X G W M hL hl (vi := n) (ho := h9) (fz := fz) hn (by omega) e37 hf) dL_law_2811 rfl rfl rfl (Nat.le_of_ble_eq_true rfl) ⟨(Nat.le_of_ble_eq_true rfl), (Nat.le_of_ble_eq_true rfl)⟩ (by omega) (by omega) (fun v G' hp => ?_)
  obtain ⟨rfl, G2, W2, e9, hL2, hw2⟩ := hp
  rw [e9]
  clear e9 G'
  have hl2 := lx_lw hl hw2
  have hm := hL2.1
  have ef_2 : W2 (14, 9, 0) (n + 8 * h9) = (nI (fz + 32 * gz)) := (hw2 _ _).trans ef
  refine rb_sipush C dL_law_2814 (v := (-7100)) (by decide) ?_
  refine rb_icmp_ne C 2824 dL_law_2817 (by decide) (fun h9 => absurd (by decide) h9) (fun _ => ?_)
  refine rb_iconst C dL_law_2820 (v := 1) (by decide) ?_
  refine rb_goto C 2825 dL_law_2821 (by decide) ?_
  refine rb_istore C dL_law_2825 (Nat.le_of_ble_eq_true rfl) rfl (Lv' := [_, _, _, _, _, _, _, _, _, _, _, _, _, _, _, _, _, _, _, _, _, _, _, _, _, _, _, _, _, _, _, _, _, _, _, _, _, _, _, _, _, _, _, _, _, _, _, _, _, _, _, _, _, _]) rfl ?_
  refine rb_iconst C dL_law_2827 (v := 0) (by decide) ?_
  refine rb_istore C dL_law_2828 (Nat.le_of_ble_eq_true rfl) rfl (Lv' := [_, _, _, _, _, _, _, _, _, _, _, _, _, _, _, _, _, _, _, _, _, _, _, _, _, _, _, _, _, _, _, _, _, _, _, _, _, _, _, _, _, _, _, _, _, _, _, _, _, _, _, _, _, _]) rfl ?_
  have loop2830 : ∀ (dd : Nat) (q : Nat) (G : rb_G) (W M : rb_I) (gz : Nat), q + dd = 2 → LI G W M → lx W M S A R P t d → gz ≤ fz → W (14, 9, 0) (n + 8 * h9) = nI (fz + 32 * gz) → M (14, 37, 0) (6 * n + h9) = nI fz → M (14, 38, 0) (6 * n + h9) = nI gz → rb_W Φ (cells + 12 + 24 * q) (slots + 72 + 144 * q) 2830 [some (rbR (18, 0, 0)), some (rbR (0, 0, 0)), some (rbR (14, 0, 0)), some (rbR (14, 1, 0)), some (rbR (14, 2, 0)), some (rbR (14, 3, 0)), some (rbR (14, 4, 0)), some (rbR (14, 5, 0)), some (rbR (14, 6, 0)), some (rbR (14, 7, 0)), some (rbR (14, 8, 0)), some (rbR (14, 9, 0)), some (rbI (nI k)), some (rbI v), some (rbI u), some (rbI (nI n)), some (rbI (nI i)), some (rbI (nI j)), some (rbI 1), none, none, none, none, none, none, none, none, none, none, none, none, none, none, none, none, none, none, none, none, none, none, none, none, none, none, some (rbI (nI h9)), some (rbI (nI (n + 8 * h9))), some (rbI (nI fz)), some (rbI (nI q)), none, none, none, none, none] [] (wI G W) := by
    intro dd
    induction dd with
    | zero =>
      intro q G W M gz hq hL hl hg ef e37 e38
      have hm := hL.1
      refine rb_iload C dL_law_2830 rfl ?_
      refine rb_iconst C dL_law_2832 (v := 2) (by decide) ?_
      refine rb_icmp_ge C 3076 dL_law_2833 (by decide) (fun _ => ?_) (fun h9 => absurd ((nI_le (a := 2) (b := q) (by omega) (by omega))) h9)
      refine rb_goto C 3288 dL_law_3076 (by decide) ?_
      refine rb_W.unset 15 ?_
      refine rb_W.unset 16 ?_
      refine rb_W.unset 17 ?_
      refine rb_W.unset 45 ?_
      refine rb_W.unset 46 ?_
      refine rb_W.unset 47 ?_
      refine rb_W.unset 48 ?_
      exact rb_W.room (kk G W M ⟨hL, _, _, _, _, _, _, hl⟩) (by omega) (by omega)
    | succ dd ih =>
      intro q G W M gz hq hL hl hg ef e37 e38
      have hm := hL.1
      have hl0 := hl
      refine rb_iload C dL_law_2830 rfl ?_
      refine rb_iconst C dL_law_2832 (v := 2) (by decide) ?_
      refine rb_icmp_ge C 3076 dL_law_2833 (by decide) (fun h9 => absurd h9 ((nI_ge (a := q) (b := 2) (by omega) (by omega)))) (fun _ => ?_)
      refine rb_iload C dL_law_2836 rfl ?_
      refine rb_if_le C 3076 dL_law_2838 (by decide) (fun h2838 => ?_) (fun h2838 => ?_)
      · replace h2838 := (nI_leI (a := fz) (b := 0) (by omega) (by omega)).mp h2838
        refine rb_goto C 3288 dL_law_3076 (by decide) ?_
        refine rb_W.unset 15 ?_
        refine rb_W.unset 16 ?_
        refine rb_W.unset 17 ?_
        refine rb_W.unset 45 ?_
        refine rb_W.unset 46 ?_
        refine rb_W.unset 47 ?_
        refine rb_W.unset 48 ?_
        exact rb_W.room (kk G W M ⟨hL, _, _, _, _, _, _, hl⟩) (by omega) (by omega)
      · replace h2838 := mt (nI_leI (a := fz) (b := 0) (by omega) (by omega)).mpr h2838
        refine rb_iload C dL_law_2841 rfl ?_
        refine rb_iconst C dL_law_2843 (v := 4) (by decide) ?_
        refine rb_iconst C dL_law_2844 (v := 3) (by decide) ?_
        refine rb_iload C dL_law_2845 rfl ?_
        refine rq_imul C (z := (nI (3 * q))) dL_law_2847 (pk_mul 3 q) ?_
        refine rq_iadd C (z := (nI (4 + 3 * q))) dL_law_2848 (nI_add 4 (3 * q)) ?_
        refine rq_ishr C (z := (u >>> ((nI (4 + 3 * q)) &&& 31))) dL_law_2849 rfl ?_
        refine rb_iload C dL_law_2850 rfl ?_
        refine rb_callS C M_L_124 (fun l X => (k_L_low l X G W _ fz (by omega) (by omega)).m) dL_law_2852 rfl rfl rfl (Nat.le_of_ble_eq_true rfl) ⟨(Nat.le_of_ble_eq_true rfl), (Nat.le_of_ble_eq_true rfl)⟩ (by omega) (by omega) (fun v G' hp => ?_) (fun _ _ hp => hp.elim)
        obtain ⟨fi, hfi, rfl, e9⟩ := hp
        rw [e9]
        clear e9 G'
        refine rb_istore C dL_law_2855 (Nat.le_of_ble_eq_true rfl) rfl (Lv' := [_, _, _, _, _, _, _, _, _, _, _, _, _, _, _, _, _, _, _, _, _, _, _, _, _, _, _, _, _, _, _, _, _, _, _, _, _, _, _, _, _, _, _, _, _, _, _, _, _, _, _, _, _, _]) rfl ?_
        refine rb_aload C dL_law_2857 rfl ?_
        refine rb_iload C dL_law_2859 rfl ?_
        refine rw_iald C (x := (nI (fz + 32 * gz))) 48 (n + 8 * h9) dL_law_2861 rfl (hm 9 (by decide)) (vp_in_nI (show n + 8 * h9 < 48 by omega) (by decide)) (nI_clamp (show n + 8 * h9 < 2 ^ 31 by omega)) (ef) ?_
        refine rb_iconst C dL_law_2862 (v := 5) (by decide) ?_
        refine rq_ishr C (z := (nI gz)) dL_law_2863 ((bs_shr (a := fz + 32 * gz) (n := 5) (by omega) (by decide)).trans (by rw [show (fz + 32 * gz) / 2 ^ 5 = gz by omega])) ?_
        refine rb_istore C dL_law_2864 (Nat.le_of_ble_eq_true rfl) rfl (Lv' := [_, _, _, _, _, _, _, _, _, _, _, _, _, _, _, _, _, _, _, _, _, _, _, _, _, _, _, _, _, _, _, _, _, _, _, _, _, _, _, _, _, _, _, _, _, _, _, _, _, _, _, _, _, _]) rfl ?_
        refine rb_iload C dL_law_2866 rfl ?_
        refine rb_iload C dL_law_2868 rfl ?_
        refine rb_icmp_eq C 2912 dL_law_2870 (by decide) (fun h2870 => ?_) (fun h2870 => ?_)
        · replace h2870 := (nI_eq (a := fi) (b := gz) (by omega) (by omega)).mp h2870
          rw [h2870]
          refine rb_iconst C dL_law_2912 (v := 0) (by decide) ?_
          refine rb_istore C dL_law_2913 (Nat.le_of_ble_eq_true rfl) rfl (Lv' := [_, _, _, _, _, _, _, _, _, _, _, _, _, _, _, _, _, _, _, _, _, _, _, _, _, _, _, _, _, _, _, _, _, _, _, _, _, _, _, _, _, _, _, _, _, _, _, _, _, _, _, _, _, _]) rfl ?_
          refine rb_iconst C dL_law_2915 (v := 0) (by decide) ?_
          refine rb_istore C dL_law_2916 (Nat.le_of_ble_eq_true rfl) rfl (Lv' := [_, _, _, _, _, _, _, _, _, _, _, _, _, _, _, _, _, _, _, _, _, _, _, _, _, _, _, _, _, _, _, _, _, _, _, _, _, _, _, _, _, _, _, _, _, _, _, _, _, _, _, _, _, _]) rfl ?_
          have loop2918 : ∀ (dd : Nat) (c : Nat) (W : rb_I), c + dd = R → LI G W M → lx W (fo (m_deliver_b (nI n) (nI h9) (nI gz)) c (0, (up2 M (16, 0, 0) 0 0))).2 S A R P t d → W (14, 9, 0) (n + 8 * h9) = nI (fz + 32 * gz) → rb_W Φ ((cells + 12 + 24 * q) + 0) ((slots + 72 + 144 * q) + 0) 2918 [some (rbR (18, 0, 0)), some (rbR (0, 0, 0)), some (rbR (14, 0, 0)), some (rbR (14, 1, 0)), some (rbR (14, 2, 0)), some (rbR (14, 3, 0)), some (rbR (14, 4, 0)), some (rbR (14, 5, 0)), some (rbR (14, 6, 0)), some (rbR (14, 7, 0)), some (rbR (14, 8, 0)), some (rbR (14, 9, 0)), some (rbI (nI k)), some (rbI v), some (rbI u), some (rbI (nI n)), some (rbI (nI i)), some (rbI (nI j)), some (rbI 1), none, none, none, none, none, none, none, none, none, none, none, none, none, none, none, none, none, none, none, none, none, none, none, none, none, none, some (rbI (nI h9)), some (rbI (nI (n + 8 * h9))), some (rbI (nI fz)), some (rbI (nI q)), some (rbI (nI gz)), some (rbI (nI gz)), some (rbI (fo (m_deliver_b (nI n) (nI h9) (nI gz)) c (0, (up2 M (16, 0, 0) 0 0))).1), some (rbI (nI c)), none] [] (wI G W) := by
            intro dd
            induction dd with
            | zero =>
              intro c W hc9 hL hl ef
              refine rb_iload C dL_law_2918 rfl ?_
              refine rb_aload_n C dL_law_2920 rfl ?_
              refine rb_iconst C dL_law_2921 (v := 3) (by decide) ?_
              refine rw_iald C (x := (nI R)) 44 (3) dL_law_2922 rfl (hm 0 (by decide)) (show ¬ (((3 : Int32)) < 0 ∨ 44 ≤ (3 : Int32).toNatClampNeg) by decide) rfl ((lr_g3 hl)) ?_
              refine rb_icmp_ge C 3035 dL_law_2923 (by decide) (fun _ => ?_) (fun h9 => absurd ((nI_le (a := R) (b := c) (by omega) (by omega))) h9)
              refine rb_iload C dL_law_3035 rfl ?_
              refine rb_aload_n C dL_law_3037 rfl ?_
              refine rb_iload C dL_law_3038 rfl ?_
              refine rb_iload C dL_law_3040 rfl ?_
              refine rb_iload C dL_law_3042 rfl ?_
              refine rb_callSW C M_L_188 (fun l X => c_dlY l X G W M hL hl0 (vi := n) (ho := h9) (fz := fz) (fl := gz) hn (by omega) e37 e38 hf (by omega)) dL_law_3044 rfl rfl rfl (Nat.le_of_ble_eq_true rfl) ⟨(Nat.le_of_ble_eq_true rfl), (Nat.le_of_ble_eq_true rfl)⟩ (by omega) (by omega) (fun v G' hp => ?_)
              obtain ⟨rfl, G4, W4, e9, hL4, hw4⟩ := hp
              rw [e9]
              clear e9 G'
              have hl4 := lx_lw hl hw4
              have hm := hL4.1
              have ef_4 : W4 (14, 9, 0) (n + 8 * h9) = (nI (fz + 32 * gz)) := (hw4 _ _).trans ef
              refine rb_iload C dL_law_3047 rfl ?_
              refine rb_icmp_ne C 3056 dL_law_3049 (by decide) (fun h9 => absurd ((by rw [dl_cm, show R = c by omega])) h9) (fun _ => ?_)
              refine rb_iconst C dL_law_3052 (v := 1) (by decide) ?_
              refine rb_goto C 3057 dL_law_3053 (by decide) ?_
              refine rq_iand C (z := (1 : Int32)) dL_law_3057 (by decide) ?_
              refine rb_istore C dL_law_3058 (Nat.le_of_ble_eq_true rfl) rfl (Lv' := [_, _, _, _, _, _, _, _, _, _, _, _, _, _, _, _, _, _, _, _, _, _, _, _, _, _, _, _, _, _, _, _, _, _, _, _, _, _, _, _, _, _, _, _, _, _, _, _, _, _, _, _, _, _]) rfl ?_
              refine rb_aload C dL_law_3060 rfl ?_
              refine rb_iload C dL_law_3062 rfl ?_
              refine rb_dup2 C dL_law_3064 rfl rfl ?_
              refine rw_iald C (x := (nI (fz + 32 * gz))) 48 (n + 8 * h9) dL_law_3065 rfl (hm 9 (by decide)) (vp_in_nI (show n + 8 * h9 < 48 by omega) (by decide)) (nI_clamp (show n + 8 * h9 < 2 ^ 31 by omega)) (ef_4) ?_
              refine rb_bipush C dL_law_3066 (v := 32) (by decide) ?_
              refine rq_iadd C (z := (nI (fz + 32 * (gz + 1)))) dL_law_3068 ((nI_add (fz + 32 * gz) 32).trans (by rw [Nat.mul_add, Nat.mul_one, Nat.add_assoc])) ?_
              refine rw_iast C 48 (n + 8 * h9) dL_law_3069 rfl (hm 9 (by decide)) (vp_in_nI (show n + 8 * h9 < 48 by omega) (by decide)) (nI_clamp (show n + 8 * h9 < 2 ^ 31 by omega)) ?_
              have hl5 := lu_f38 hl4 (vi := n) (ho := h9) (f1 := fz) (g1 := gz + 1) hn (by omega) (by omega) hf ((dlk 37 (by decide) c _).trans e37)
              have hL5 := LI_up hL4 9 (n + 8 * h9) (nI (fz + 32 * (gz + 1)))
              have fz5_5 : up2 W4 (14, 9, 0) (n + 8 * h9) (nI (fz + 32 * (gz + 1))) (14, 9, 0) (n + 8 * h9) = (nI (fz + 32 * (gz + 1))) := up2_s _ _ _ _
              generalize up2 W4 (14, 9, 0) (n + 8 * h9) (nI (fz + 32 * (gz + 1))) = W5 at hl5 hL5 fz5_5 ⊢
              refine rq_iinc C dL_law_3070 rfl (v := (nI (q + 1))) (nI_1 q) rfl (Lv' := [_, _, _, _, _, _, _, _, _, _, _, _, _, _, _, _, _, _, _, _, _, _, _, _, _, _, _, _, _, _, _, _, _, _, _, _, _, _, _, _, _, _, _, _, _, _, _, _, _, _, _, _, _, _]) rfl ?_
              refine rb_goto C 2830 dL_law_3073 (by decide) ?_
              refine rb_W.unset 49 ?_
              refine rb_W.unset 50 ?_
              refine rb_W.unset 51 ?_
              refine rb_W.unset 52 ?_
              exact rb_W.room (ih (q + 1) G4 W5 (fo (m_deliver_b (nI n) (nI h9) (nI gz)) R (0, up2 (up2 M (16, 0, 0) 0 0) (14, 38, 0) (6 * n + h9) (nI (gz + 1)))).2 (gz + 1) (by omega) hL5 (by have z := hl5; rw [show c = R by omega] at z; rw [dl_cm]; exact z) (by omega) fz5_5 (by rw [dl_cm]; show up2 (fo (m_deliver_b (nI n) (nI h9) (nI gz)) R (0, (up2 M (16, 0, 0) 0 0))).2 (14, 38, 0) (6 * n + h9) (nI (gz + 1)) (14, 37, 0) (6 * n + h9) = nI fz; rw [up2_n _ _ _ _ (by simp)]; exact (dlk 37 (by decide) R _).trans e37) (by rw [dl_cm]; exact up2_s _ _ _ _)) (by omega) (by omega)
            | succ dd ih =>
              intro c W hc9 hL hl ef
              obtain ⟨vi1, ho1, st1, fl, by1, e, mi, ⟨b1, b2, b3, b4, b5, b6, b7, b8⟩, ⟨rr, rm, rt⟩, ⟨m31, m30, m35, m36, m34, m33, m32⟩⟩ := hl.2.2.2.2.2.2.2.1 c (by omega)
              have dbe := fun x => db_ee (s := (fo (m_deliver_b (nI n) (nI h9) (nI gz)) c (0, (up2 M (16, 0, 0) 0 0))).2) (x := x) (k := c) (vi := n) (ho := h9) (fl := gz) (show c < 1000 by omega) (by omega) (by omega) (by omega) (show vi1 < 1000 by omega) (show ho1 < 1000 by omega) (show st1 < 1000 by omega) (show fl < 1000 by omega) b6 htm m31 m30 m35 m36 m33 ((dlk1 c).trans (lm_t hl0))
              refine rb_iload C dL_law_2918 rfl ?_
              refine rb_aload_n C dL_law_2920 rfl ?_
              refine rb_iconst C dL_law_2921 (v := 3) (by decide) ?_
              refine rw_iald C (x := (nI R)) 44 (3) dL_law_2922 rfl (hm 0 (by decide)) (show ¬ (((3 : Int32)) < 0 ∨ 44 ≤ (3 : Int32).toNatClampNeg) by decide) rfl ((lr_g3 hl)) ?_
              refine rb_icmp_ge C 3035 dL_law_2923 (by decide) (fun h9 => absurd h9 ((nI_ge (a := c) (b := R) (by omega) (by omega)))) (fun _ => ?_)
              refine rb_aload C dL_law_2926 rfl ?_
              refine rb_iload C dL_law_2928 rfl ?_
              refine rw_iald C (x := (nI (vi1 + 8 * ho1 + 64 * st1 + 256 * fl + 8192 * by1))) 60 (c) dL_law_2930 rfl (hm 4 (by decide)) (vp_in_nI (show c < 60 by omega) (by decide)) (nI_clamp (show c < 2 ^ 31 by omega)) (rr) ?_
              refine rb_bipush C dL_law_2931 (v := 63) (by decide) ?_
              refine rq_iand C (z := (nI ((vi1 + 8 * ho1 + 64 * st1 + 256 * fl + 8192 * by1) % 2 ^ 6))) dL_law_2933 (bs_and (by omega) 6 rfl) ?_
              refine rb_iload C dL_law_2934 rfl ?_
              refine rb_icmp_ne C 3029 dL_law_2936 (by decide) (fun h2936 => ?_) (fun h2936 => ?_)
              · replace h2936 := mt (nI_eq (a := (vi1 + 8 * ho1 + 64 * st1 + 256 * fl + 8192 * by1) % 2 ^ 6) (b := n + 8 * h9) (by omega) (by omega)).mpr h2936
                rw [show (fo (m_deliver_b (nI n) (nI h9) (nI gz)) c (0, (up2 M (16, 0, 0) 0 0))).1 = (fo (m_deliver_b (nI n) (nI h9) (nI gz)) (c + 1) (0, (up2 M (16, 0, 0) 0 0))).1 from (by rw [fo_s, show (m_deliver_b (nI n) (nI h9) (nI gz)) c (fo (m_deliver_b (nI n) (nI h9) (nI gz)) c (0, (up2 M (16, 0, 0) 0 0))) = _ from dbe (fo (m_deliver_b (nI n) (nI h9) (nI gz)) c (0, (up2 M (16, 0, 0) 0 0))).1, if_neg (by omega)])]
                refine rq_iinc C dL_law_3029 rfl (v := (nI (c + 1))) (nI_1 c) rfl (Lv' := [_, _, _, _, _, _, _, _, _, _, _, _, _, _, _, _, _, _, _, _, _, _, _, _, _, _, _, _, _, _, _, _, _, _, _, _, _, _, _, _, _, _, _, _, _, _, _, _, _, _, _, _, _, _]) rfl ?_
                refine rb_goto C 2918 dL_law_3032 (by decide) ?_
                exact ih (c + 1) W (by omega) hL (by rw [fo_s, show (m_deliver_b (nI n) (nI h9) (nI gz)) c (fo (m_deliver_b (nI n) (nI h9) (nI gz)) c (0, (up2 M (16, 0, 0) 0 0))) = _ from dbe (fo (m_deliver_b (nI n) (nI h9) (nI gz)) c (0, (up2 M (16, 0, 0) 0 0))).1, if_neg (by omega)]; exact hl) ef
              · replace h2936 := (nI_eq (a := (vi1 + 8 * ho1 + 64 * st1 + 256 * fl + 8192 * by1) % 2 ^ 6) (b := n + 8 * h9) (by omega) (by omega)).mp h2936
                refine rb_aload C dL_law_2939 rfl ?_
                refine rb_iload C dL_law_2941 rfl ?_
                refine rw_iald C (x := (nI (vi1 + 8 * ho1 + 64 * st1 + 256 * fl + 8192 * by1))) 60 (c) dL_law_2943 rfl (hm 4 (by decide)) (vp_in_nI (show c < 60 by omega) (by decide)) (nI_clamp (show c < 2 ^ 31 by omega)) (rr) ?_
                refine rb_bipush C dL_law_2944 (v := 6) (by decide) ?_
                refine rq_ishr C (z := (nI ((vi1 + 8 * ho1 + 64 * st1 + 256 * fl + 8192 * by1) / 2 ^ 6))) dL_law_2946 (bs_shr (by omega) (by decide)) ?_
                refine rb_iconst C dL_law_2947 (v := 3) (by decide) ?_
                refine rq_iand C (z := (nI (((vi1 + 8 * ho1 + 64 * st1 + 256 * fl + 8192 * by1) / 2 ^ 6) % 2 ^ 2))) dL_law_2948 (bs_and (by omega) 2 rfl) ?_
                refine rb_iconst C dL_law_2949 (v := 1) (by decide) ?_
                refine rb_icmp_ne C 3029 dL_law_2950 (by decide) (fun h2950 => ?_) (fun h2950 => ?_)
                · replace h2950 := mt (nI_eq (a := ((vi1 + 8 * ho1 + 64 * st1 + 256 * fl + 8192 * by1) / 2 ^ 6) % 2 ^ 2) (b := 1) (by omega) (by omega)).mpr h2950
                  rw [show (fo (m_deliver_b (nI n) (nI h9) (nI gz)) c (0, (up2 M (16, 0, 0) 0 0))).1 = (fo (m_deliver_b (nI n) (nI h9) (nI gz)) (c + 1) (0, (up2 M (16, 0, 0) 0 0))).1 from (by rw [fo_s, show (m_deliver_b (nI n) (nI h9) (nI gz)) c (fo (m_deliver_b (nI n) (nI h9) (nI gz)) c (0, (up2 M (16, 0, 0) 0 0))) = _ from dbe (fo (m_deliver_b (nI n) (nI h9) (nI gz)) c (0, (up2 M (16, 0, 0) 0 0))).1, if_neg (by omega)])]
                  refine rq_iinc C dL_law_3029 rfl (v := (nI (c + 1))) (nI_1 c) rfl (Lv' := [_, _, _, _, _, _, _, _, _, _, _, _, _, _, _, _, _, _, _, _, _, _, _, _, _, _, _, _, _, _, _, _, _, _, _, _, _, _, _, _, _, _, _, _, _, _, _, _, _, _, _, _, _, _]) rfl ?_
                  refine rb_goto C 2918 dL_law_3032 (by decide) ?_
                  exact ih (c + 1) W (by omega) hL (by rw [fo_s, show (m_deliver_b (nI n) (nI h9) (nI gz)) c (fo (m_deliver_b (nI n) (nI h9) (nI gz)) c (0, (up2 M (16, 0, 0) 0 0))) = _ from dbe (fo (m_deliver_b (nI n) (nI h9) (nI gz)) c (0, (up2 M (16, 0, 0) 0 0))).1, if_neg (by omega)]; exact hl) ef
                · replace h2950 := (nI_eq (a := ((vi1 + 8 * ho1 + 64 * st1 + 256 * fl + 8192 * by1) / 2 ^ 6) % 2 ^ 2) (b := 1) (by omega) (by omega)).mp h2950
                  refine rb_aload C dL_law_2953 rfl ?_
                  refine rb_iload C dL_law_2955 rfl ?_
                  refine rw_iald C (x := (nI (vi1 + 8 * ho1 + 64 * st1 + 256 * fl + 8192 * by1))) 60 (c) dL_law_2957 rfl (hm 4 (by decide)) (vp_in_nI (show c < 60 by omega) (by decide)) (nI_clamp (show c < 2 ^ 31 by omega)) (rr) ?_
                  refine rb_bipush C dL_law_2958 (v := 8) (by decide) ?_
                  refine rq_ishr C (z := (nI ((vi1 + 8 * ho1 + 64 * st1 + 256 * fl + 8192 * by1) / 2 ^ 8))) dL_law_2960 (bs_shr (by omega) (by decide)) ?_
                  refine rb_bipush C dL_law_2961 (v := 31) (by decide) ?_
                  refine rq_iand C (z := (nI (((vi1 + 8 * ho1 + 64 * st1 + 256 * fl + 8192 * by1) / 2 ^ 8) % 2 ^ 5))) dL_law_2963 (bs_and (by omega) 5 rfl) ?_
                  refine rb_iload C dL_law_2964 rfl ?_
                  refine rb_icmp_eq C 2972 dL_law_2966 (by decide) (fun h2966 => ?_) (fun h2966 => ?_)
                  · replace h2966 := (nI_eq (a := ((vi1 + 8 * ho1 + 64 * st1 + 256 * fl + 8192 * by1) / 2 ^ 8) % 2 ^ 5) (b := gz) (by omega) (by omega)).mp h2966
                    refine rb_aload C dL_law_2972 rfl ?_
                    refine rb_iload C dL_law_2974 rfl ?_
                    refine rw_iald C (x := (nI e)) 60 (c) dL_law_2976 rfl (hm 6 (by decide)) (vp_in_nI (show c < 60 by omega) (by decide)) (nI_clamp (show c < 2 ^ 31 by omega)) (rt) ?_
                    refine rb_ldc C dL_law_2977 N_L_105 ?_
                    refine rq_iadd C (z := (nI (e + 43200))) dL_law_2979 (nI_add e 43200) ?_
                    refine rb_aload_n C dL_law_2980 rfl ?_
                    refine rb_iconst C dL_law_2981 (v := 0) (by decide) ?_
                    refine rw_iald C (x := (nI t)) 44 (0) dL_law_2982 rfl (hm 0 (by decide)) (show ¬ (((0 : Int32)) < 0 ∨ 44 ≤ (0 : Int32).toNatClampNeg) by decide) rfl (lr_g0 hl) ?_
                    refine rb_icmp_gt C 2990 dL_law_2983 (by decide) (fun h2983 => ?_) (fun h2983 => ?_)
                    · replace h2983 := (nI_ltI (a := t) (b := e + 43200) (by omega) (by omega)).mp h2983
                      refine rb_iconst C dL_law_2990 (v := 0) (by decide) ?_
                      refine rb_istore C dL_law_2991 (Nat.le_of_ble_eq_true rfl) rfl (Lv' := [_, _, _, _, _, _, _, _, _, _, _, _, _, _, _, _, _, _, _, _, _, _, _, _, _, _, _, _, _, _, _, _, _, _, _, _, _, _, _, _, _, _, _, _, _, _, _, _, _, _, _, _, _, _]) rfl ?_
                      refine rb_iload C dL_law_2993 rfl ?_
                      refine rb_iload C dL_law_2995 rfl ?_
                      refine rb_if_eq C 3004 dL_law_2997 (by decide) (fun _ => ?_) (fun h9 => absurd (by decide) h9)
                      refine rb_iconst C dL_law_3004 (v := 0) (by decide) ?_
                      refine rq_iadd C (z := (fo (m_deliver_b (nI n) (nI h9) (nI gz)) (c + 1) (0, (up2 M (16, 0, 0) 0 0))).1) dL_law_3005 (by rw [fo_s, show (m_deliver_b (nI n) (nI h9) (nI gz)) c (fo (m_deliver_b (nI n) (nI h9) (nI gz)) c (0, (up2 M (16, 0, 0) 0 0))) = _ from dbe (fo (m_deliver_b (nI n) (nI h9) (nI gz)) c (0, (up2 M (16, 0, 0) 0 0))).1, if_pos (by omega), if_pos (by omega)]) ?_
                      refine rb_istore C dL_law_3006 (Nat.le_of_ble_eq_true rfl) rfl (Lv' := [_, _, _, _, _, _, _, _, _, _, _, _, _, _, _, _, _, _, _, _, _, _, _, _, _, _, _, _, _, _, _, _, _, _, _, _, _, _, _, _, _, _, _, _, _, _, _, _, _, _, _, _, _, _]) rfl ?_
                      refine rb_aload C dL_law_3008 rfl ?_
                      refine rb_iload C dL_law_3010 rfl ?_
                      refine rb_dup2 C dL_law_3012 rfl rfl ?_
                      refine rw_iald C (x := (nI (vi1 + 8 * ho1 + 64 * st1 + 256 * fl + 8192 * by1))) 60 (c) dL_law_3013 rfl (hm 4 (by decide)) (vp_in_nI (show c < 60 by omega) (by decide)) (nI_clamp (show c < 2 ^ 31 by omega)) (rr) ?_
                      refine rb_iload C dL_law_3014 rfl ?_
                      refine rb_if_eq C 3025 dL_law_3016 (by decide) (fun _ => ?_) (fun h9 => absurd (by decide) h9)
                      refine rb_bipush C dL_law_3025 (v := 64) (by decide) ?_
                      refine rq_iadd C (z := (nI (vi1 + 8 * ho1 + 64 * 2 + 256 * gz + 8192 * by1))) dL_law_3027 ((nI_add (vi1 + 8 * ho1 + 64 * st1 + 256 * fl + 8192 * by1) 64).trans (by rw [show vi1 + 8 * ho1 + 64 * st1 + 256 * fl + 8192 * by1 + 64 = vi1 + 8 * ho1 + 64 * 2 + 256 * gz + 8192 * by1 by omega])) ?_
                      refine rw_iast C 60 (c) dL_law_3028 rfl (hm 4 (by decide)) (vp_in_nI (show c < 60 by omega) (by decide)) (nI_clamp (show c < 2 ^ 31 by omega)) ?_
                      have hl6 := lu_rec2 hl (k0 := c) (vi := vi1) (ho := ho1) (st1 := 2) (fl1 := gz) (by1 := by1) (e1 := e) (mi := mi) ⟨b1, b2, b5, b6, b7⟩ ⟨by decide, by omega, by decide⟩ rm rt m31 m30 m34 m33 m32 ((m36 (by omega)).trans (by rw [show fl = gz by omega]))
                      have hL6 := LI_up hL 4 (c) (nI (vi1 + 8 * ho1 + 64 * 2 + 256 * gz + 8192 * by1))
                      have ef_6 : up2 W (14, 4, 0) (c) (nI (vi1 + 8 * ho1 + 64 * 2 + 256 * gz + 8192 * by1)) (14, 9, 0) (n + 8 * h9) = (nI (fz + 32 * gz)) := (up2_n _ _ _ _ (by first | (intro z; have z9 := z.2; omega) | simp)).trans ef
                      have fz6_6 : up2 W (14, 4, 0) (c) (nI (vi1 + 8 * ho1 + 64 * 2 + 256 * gz + 8192 * by1)) (14, 4, 0) (c) = (nI (vi1 + 8 * ho1 + 64 * 2 + 256 * gz + 8192 * by1)) := up2_s _ _ _ _
                      generalize up2 W (14, 4, 0) (c) (nI (vi1 + 8 * ho1 + 64 * 2 + 256 * gz + 8192 * by1)) = W6 at hl6 hL6 ef_6 fz6_6 ⊢
                      refine rq_iinc C dL_law_3029 rfl (v := (nI (c + 1))) (nI_1 c) rfl (Lv' := [_, _, _, _, _, _, _, _, _, _, _, _, _, _, _, _, _, _, _, _, _, _, _, _, _, _, _, _, _, _, _, _, _, _, _, _, _, _, _, _, _, _, _, _, _, _, _, _, _, _, _, _, _, _]) rfl ?_
                      refine rb_goto C 2918 dL_law_3032 (by decide) ?_
                      refine rb_W.unset 53 ?_
                      exact ih (c + 1) W6 (by omega) hL6 (by rw [fo_s, show (m_deliver_b (nI n) (nI h9) (nI gz)) c (fo (m_deliver_b (nI n) (nI h9) (nI gz)) c (0, (up2 M (16, 0, 0) 0 0))) = _ from dbe (fo (m_deliver_b (nI n) (nI h9) (nI gz)) c (0, (up2 M (16, 0, 0) 0 0))).1, if_pos (by omega), if_pos (by omega)]; exact hl6) ef_6
                    · replace h2983 := mt (nI_ltI (a := t) (b := e + 43200) (by omega) (by omega)).mpr h2983
                      refine rb_iconst C dL_law_2986 (v := 1) (by decide) ?_
                      refine rb_goto C 2991 dL_law_2987 (by decide) ?_
                      refine rb_istore C dL_law_2991 (Nat.le_of_ble_eq_true rfl) rfl (Lv' := [_, _, _, _, _, _, _, _, _, _, _, _, _, _, _, _, _, _, _, _, _, _, _, _, _, _, _, _, _, _, _, _, _, _, _, _, _, _, _, _, _, _, _, _, _, _, _, _, _, _, _, _, _, _]) rfl ?_
                      refine rb_iload C dL_law_2993 rfl ?_
                      refine rb_iload C dL_law_2995 rfl ?_
                      refine rb_if_eq C 3004 dL_law_2997 (by decide) (fun h9 => absurd h9 (by decide)) (fun _ => ?_)
                      refine rb_iconst C dL_law_3000 (v := 1) (by decide) ?_
                      refine rb_goto C 3005 dL_law_3001 (by decide) ?_
                      refine rq_iadd C (z := (fo (m_deliver_b (nI n) (nI h9) (nI gz)) (c + 1) (0, (up2 M (16, 0, 0) 0 0))).1) dL_law_3005 (by rw [fo_s, show (m_deliver_b (nI n) (nI h9) (nI gz)) c (fo (m_deliver_b (nI n) (nI h9) (nI gz)) c (0, (up2 M (16, 0, 0) 0 0))) = _ from dbe (fo (m_deliver_b (nI n) (nI h9) (nI gz)) c (0, (up2 M (16, 0, 0) 0 0))).1, if_pos (by omega), if_neg (by omega)]) ?_
                      refine rb_istore C dL_law_3006 (Nat.le_of_ble_eq_true rfl) rfl (Lv' := [_, _, _, _, _, _, _, _, _, _, _, _, _, _, _, _, _, _, _, _, _, _, _, _, _, _, _, _, _, _, _, _, _, _, _, _, _, _, _, _, _, _, _, _, _, _, _, _, _, _, _, _, _, _]) rfl ?_
                      refine rb_aload C dL_law_3008 rfl ?_
                      refine rb_iload C dL_law_3010 rfl ?_
                      refine rb_dup2 C dL_law_3012 rfl rfl ?_
                      refine rw_iald C (x := (nI (vi1 + 8 * ho1 + 64 * st1 + 256 * fl + 8192 * by1))) 60 (c) dL_law_3013 rfl (hm 4 (by decide)) (vp_in_nI (show c < 60 by omega) (by decide)) (nI_clamp (show c < 2 ^ 31 by omega)) (rr) ?_
                      refine rb_iload C dL_law_3014 rfl ?_
                      refine rb_if_eq C 3025 dL_law_3016 (by decide) (fun h9 => absurd h9 (by decide)) (fun _ => ?_)
                      refine rb_sipush C dL_law_3019 (v := 128) (by decide) ?_
                      refine rb_goto C 3027 dL_law_3022 (by decide) ?_
                      refine rq_iadd C (z := (nI (vi1 + 8 * ho1 + 64 * 3 + 256 * gz + 8192 * by1))) dL_law_3027 ((nI_add (vi1 + 8 * ho1 + 64 * st1 + 256 * fl + 8192 * by1) 128).trans (by rw [show vi1 + 8 * ho1 + 64 * st1 + 256 * fl + 8192 * by1 + 128 = vi1 + 8 * ho1 + 64 * 3 + 256 * gz + 8192 * by1 by omega])) ?_
                      refine rw_iast C 60 (c) dL_law_3028 rfl (hm 4 (by decide)) (vp_in_nI (show c < 60 by omega) (by decide)) (nI_clamp (show c < 2 ^ 31 by omega)) ?_
                      have hl7 := lu_rec2 hl (k0 := c) (vi := vi1) (ho := ho1) (st1 := 3) (fl1 := gz) (by1 := by1) (e1 := e) (mi := mi) ⟨b1, b2, b5, b6, b7⟩ ⟨by decide, by omega, by decide⟩ rm rt m31 m30 m34 m33 m32 ((m36 (by omega)).trans (by rw [show fl = gz by omega]))
                      have hL7 := LI_up hL 4 (c) (nI (vi1 + 8 * ho1 + 64 * 3 + 256 * gz + 8192 * by1))
                      have ef_7 : up2 W (14, 4, 0) (c) (nI (vi1 + 8 * ho1 + 64 * 3 + 256 * gz + 8192 * by1)) (14, 9, 0) (n + 8 * h9) = (nI (fz + 32 * gz)) := (up2_n _ _ _ _ (by first | (intro z; have z9 := z.2; omega) | simp)).trans ef
                      have fz7_7 : up2 W (14, 4, 0) (c) (nI (vi1 + 8 * ho1 + 64 * 3 + 256 * gz + 8192 * by1)) (14, 4, 0) (c) = (nI (vi1 + 8 * ho1 + 64 * 3 + 256 * gz + 8192 * by1)) := up2_s _ _ _ _
                      generalize up2 W (14, 4, 0) (c) (nI (vi1 + 8 * ho1 + 64 * 3 + 256 * gz + 8192 * by1)) = W7 at hl7 hL7 ef_7 fz7_7 ⊢
                      refine rq_iinc C dL_law_3029 rfl (v := (nI (c + 1))) (nI_1 c) rfl (Lv' := [_, _, _, _, _, _, _, _, _, _, _, _, _, _, _, _, _, _, _, _, _, _, _, _, _, _, _, _, _, _, _, _, _, _, _, _, _, _, _, _, _, _, _, _, _, _, _, _, _, _, _, _, _, _]) rfl ?_
                      refine rb_goto C 2918 dL_law_3032 (by decide) ?_
                      refine rb_W.unset 53 ?_
                      exact ih (c + 1) W7 (by omega) hL7 (by rw [fo_s, show (m_deliver_b (nI n) (nI h9) (nI gz)) c (fo (m_deliver_b (nI n) (nI h9) (nI gz)) c (0, (up2 M (16, 0, 0) 0 0))) = _ from dbe (fo (m_deliver_b (nI n) (nI h9) (nI gz)) c (0, (up2 M (16, 0, 0) 0 0))).1, if_pos (by omega), if_neg (by omega)]; exact hl7) ef_7
                  · replace h2966 := mt (nI_eq (a := ((vi1 + 8 * ho1 + 64 * st1 + 256 * fl + 8192 * by1) / 2 ^ 8) % 2 ^ 5) (b := gz) (by omega) (by omega)).mpr h2966
                    refine rb_goto C 3029 dL_law_2969 (by decide) ?_
                    rw [show (fo (m_deliver_b (nI n) (nI h9) (nI gz)) c (0, (up2 M (16, 0, 0) 0 0))).1 = (fo (m_deliver_b (nI n) (nI h9) (nI gz)) (c + 1) (0, (up2 M (16, 0, 0) 0 0))).1 from (by rw [fo_s, show (m_deliver_b (nI n) (nI h9) (nI gz)) c (fo (m_deliver_b (nI n) (nI h9) (nI gz)) c (0, (up2 M (16, 0, 0) 0 0))) = _ from dbe (fo (m_deliver_b (nI n) (nI h9) (nI gz)) c (0, (up2 M (16, 0, 0) 0 0))).1, if_neg (by omega)])]
                    refine rq_iinc C dL_law_3029 rfl (v := (nI (c + 1))) (nI_1 c) rfl (Lv' := [_, _, _, _, _, _, _, _, _, _, _, _, _, _, _, _, _, _, _, _, _, _, _, _, _, _, _, _, _, _, _, _, _, _, _, _, _, _, _, _, _, _, _, _, _, _, _, _, _, _, _, _, _, _]) rfl ?_
                    refine rb_goto C 2918 dL_law_3032 (by decide) ?_
                    exact ih (c + 1) W (by omega) hL (by rw [fo_s, show (m_deliver_b (nI n) (nI h9) (nI gz)) c (fo (m_deliver_b (nI n) (nI h9) (nI gz)) c (0, (up2 M (16, 0, 0) 0 0))) = _ from dbe (fo (m_deliver_b (nI n) (nI h9) (nI gz)) c (0, (up2 M (16, 0, 0) 0 0))).1, if_neg (by omega)]; exact hl) ef
          have h0 := loop2918 R 0 W (by omega) hL (by rw [fo_0]; exact lx_thr hl 0) ef
          rw [fo_0, nI_0] at h0
          exact h0
        · replace h2870 := mt (nI_eq (a := fi) (b := gz) (by omega) (by omega)).mpr h2870
          refine rb_iload C dL_law_2873 rfl ?_
          refine rb_aload_n C dL_law_2875 rfl ?_
          refine rb_iload C dL_law_2876 rfl ?_
          refine rb_iload C dL_law_2878 rfl ?_
          refine rb_iload C dL_law_2880 rfl ?_
          refine rb_callSW C M_L_188 (fun l X => c_dlN l X G W M hL hl (vi := n) (ho := h9) (fz := fz) (gz := gz) (fl := fi) hn (by omega) e37 e38 hf hg hfi h2870) dL_law_2882 rfl rfl rfl (Nat.le_of_ble_eq_true rfl) ⟨(Nat.le_of_ble_eq_true rfl), (Nat.le_of_ble_eq_true rfl)⟩ (by omega) (by omega) (fun v G' hp => ?_)
          obtain ⟨rfl, G8, W8, e9, hL8, hw8⟩ := hp
          rw [e9]
          clear e9 G'
          have hl8 := lx_lw hl hw8
          have hm := hL8.1
          have ef_8 : W8 (14, 9, 0) (n + 8 * h9) = (nI (fz + 32 * gz)) := (hw8 _ _).trans ef
          refine rb_iload C dL_law_2885 rfl ?_
          refine rb_iload C dL_law_2887 rfl ?_
          refine rb_icmp_ge C 2896 dL_law_2889 (by decide) (fun h2889 => ?_) (fun h2889 => ?_)
          · replace h2889 := (nI_leI (a := gz) (b := fi) (by omega) (by omega)).mp h2889
            refine rb_bipush C dL_law_2896 (v := (-2)) (by decide) ?_
            refine rb_icmp_ne C 2905 dL_law_2898 (by decide) (fun h9 => absurd (if_pos h2889) h9) (fun _ => ?_)
            refine rb_iconst C dL_law_2901 (v := 1) (by decide) ?_
            refine rb_goto C 2906 dL_law_2902 (by decide) ?_
            refine rq_iand C (z := (1 : Int32)) dL_law_2906 (by decide) ?_
            refine rb_istore C dL_law_2907 (Nat.le_of_ble_eq_true rfl) rfl (Lv' := [_, _, _, _, _, _, _, _, _, _, _, _, _, _, _, _, _, _, _, _, _, _, _, _, _, _, _, _, _, _, _, _, _, _, _, _, _, _, _, _, _, _, _, _, _, _, _, _, _, _, _, _, _, _]) rfl ?_
            refine rb_goto C 3070 dL_law_2909 (by decide) ?_
            refine rq_iinc C dL_law_3070 rfl (v := (nI (q + 1))) (nI_1 q) rfl (Lv' := [_, _, _, _, _, _, _, _, _, _, _, _, _, _, _, _, _, _, _, _, _, _, _, _, _, _, _, _, _, _, _, _, _, _, _, _, _, _, _, _, _, _, _, _, _, _, _, _, _, _, _, _, _, _]) rfl ?_
            refine rb_goto C 2830 dL_law_3073 (by decide) ?_
            refine rb_W.unset 49 ?_
            refine rb_W.unset 50 ?_
            exact rb_W.room (ih (q + 1) G8 W8 (up2 M (16, 0, 0) 0 0) gz (by omega) hL8 (lx_thr hl8 0) hg ef_8 ((up2_n _ _ _ _ (by simp)).trans e37) ((up2_n _ _ _ _ (by simp)).trans e38)) (by omega) (by omega)
          · replace h2889 := mt (nI_leI (a := gz) (b := fi) (by omega) (by omega)).mpr h2889
            refine rb_iconst C dL_law_2892 (v := (-1)) (by decide) ?_
            refine rb_goto C 2898 dL_law_2893 (by decide) ?_
            refine rb_icmp_ne C 2905 dL_law_2898 (by decide) (fun h9 => absurd (if_neg h2889) h9) (fun _ => ?_)
            refine rb_iconst C dL_law_2901 (v := 1) (by decide) ?_
            refine rb_goto C 2906 dL_law_2902 (by decide) ?_
            refine rq_iand C (z := (1 : Int32)) dL_law_2906 (by decide) ?_
            refine rb_istore C dL_law_2907 (Nat.le_of_ble_eq_true rfl) rfl (Lv' := [_, _, _, _, _, _, _, _, _, _, _, _, _, _, _, _, _, _, _, _, _, _, _, _, _, _, _, _, _, _, _, _, _, _, _, _, _, _, _, _, _, _, _, _, _, _, _, _, _, _, _, _, _, _]) rfl ?_
            refine rb_goto C 3070 dL_law_2909 (by decide) ?_
            refine rq_iinc C dL_law_3070 rfl (v := (nI (q + 1))) (nI_1 q) rfl (Lv' := [_, _, _, _, _, _, _, _, _, _, _, _, _, _, _, _, _, _, _, _, _, _, _, _, _, _, _, _, _, _, _, _, _, _, _, _, _, _, _, _, _, _, _, _, _, _, _, _, _, _, _, _, _, _]) rfl ?_
            refine rb_goto C 2830 dL_law_3073 (by decide) ?_
            refine rb_W.unset 49 ?_
            refine rb_W.unset 50 ?_
            exact rb_W.room (ih (q + 1) G8 W8 (up2 M (16, 0, 0) 0 0) gz (by omega) hL8 (lx_thr hl8 0) hg ef_8 ((up2_n _ _ _ _ (by simp)).trans e37) ((up2_n _ _ _ _ (by simp)).trans e38)) (by omega) (by omega)
  have h0 := loop2830 2 0 G2 W2 (up2 M (16, 0, 0) 0 1) gz (by omega) hL2 (lx_thr hl2 1) hg ef_2 ((up2_n _ _ _ _ (by simp)).trans e37) ((up2_n _ _ _ _ (by simp)).trans e38)
  rw [nI_0] at h0
  exact rb_W.room h0 (by omega) (by omega)

