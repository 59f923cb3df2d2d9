theorem ps_0x {Z : rb_I} {t : Nat} (hZ : Z (16, 0, 0) 1 = nI t) (ht : t < 1000000) (m : Nat) (h1 : t ≤ t + m) (h2 : t + m < t / 60 * 60 + 60 ∧ t + m < 1000000) : fo m_pass_b m Z = up2 Z (16, 0, 0) 1 (nI (t + m)) := by
  have := pr_k (Z := Z) (m := 0) (fo_0 _ _) hZ m (by omega) (by omega)
  rwa [Nat.zero_add] at this
theorem ps_sx {Z N : rb_I} {t tq hr th : Nat} (h : psI Z N t tq (min hr (th + 1))) (h1 : t ≤ tq) (h2 : tq < hr) (h6 : hr % 60 = 0) (h7 : hr ≤ th) (h8 : th < 1000000) : psI Z (m_begins (up2 N (16, 0, 0) 1 (nI hr))) t hr (min (hr + 60) (th + 1)) := ps_s (fun m a b => h m a (by omega)) h1 h2 h6 h7 h8

set_option maxRecDepth 100000 in
set_option maxHeartbeats 4000000 in
theorem law_24 {Φ : rb_F} {cells slots : Nat} (C : rb_C Φ RL cL_law 54 15 568 734644 6897897) (hc : cells + 90 ≤ 734644) (hsl : slots + 2600 ≤ 6897897) {G : rb_G} {W M : rb_I} (hL : LI G W M) {S A R P t d : Nat} (hl : lx W M S A R P t d) (v u : Int32) (k n i j : Nat) (hk : k < 140) (hn : n < 6) (hi : i < S ∨ S = 0 ∧ i = 0) (hj : j < S ∨ S = 0 ∧ j = 0) (kk : ∀ G' W' M', lJ G' W' M' → rb_W Φ (cells + 90) (slots + 2600) 3288 (LVE k v u) [] (wI G' W')) : rb_W Φ cells slots 3079 (LV0 k v u n i j) [] (wI G W) := by
  show rb_W Φ cells slots 3079 [some (rbR (18, 0, 0)), some (rbR (0, 0, 0)), some (rbR (14, 0, 0)), some (rbR (14, 1, 0)), some (rbR (14, 2, 0)), some (rbR (14, 3, 0)), some (rbR (14, 4, 0)), some (rbR (14, 5, 0)), some (rbR (14, 6, 0)), some (rbR (14, 7, 0)), some (rbR (14, 8, 0)), some (rbR (14, 9, 0)), some (rbI (nI k)), some (rbI v), some (rbI u), some (rbI (nI n)), some (rbI (nI i)), some (rbI (nI j)), some (rbI 1), none, none, none, none, none, none, none, none, none, none, none, none, none, none, none, none, none, none, none, none, none, none, none, none, none, none, none, none, none, none, none, none, none, none, none] [] (wI G W)
  have hm := hL.1
  obtain ⟨hS6, hA10, hRP, hP58, hP2, hd64, htm⟩ := lr_b hl
  have hl0 := hl
  refine rb_iload C dL_law_3079 rfl ?_
  refine rb_iconst C dL_law_3081 (v := 3) (by decide) ?_
  refine rq_ishr C (z := (u >>> ((3 : Int32) &&& 31))) dL_law_3082 rfl ?_
  refine rb_bipush C dL_law_3083 (v := 7) (by decide) ?_
  refine rq_iand C (z := ((u >>> ((3 : Int32) &&& 31)) &&& (7 : Int32))) dL_law_3085 rfl ?_
  refine rb_istore C dL_law_3086 (Nat.le_of_ble_eq_true rfl) rfl (Lv' := [_, _, _, _, _, _, _, _, _, _, _, _, _, _, _, _, _, _, _, _, _, _, _, _, _, _, _, _, _, _, _, _, _, _, _, _, _, _, _, _, _, _, _, _, _, _, _, _, _, _, _, _, _, _]) rfl ?_
  refine rb_iconst C dL_law_3088 (v := 1) (by decide) ?_
  refine rb_iload C dL_law_3089 rfl ?_
  refine rb_bipush C dL_law_3091 (v := 6) (by decide) ?_
  refine rq_ishr C (z := (u >>> ((6 : Int32) &&& 31))) dL_law_3093 rfl ?_
  refine rb_iload C dL_law_3094 rfl ?_
  refine rb_iconst C dL_law_3096 (v := 4) (by decide) ?_
  have mg3097 : ∀ (bz : Nat) (hbz : bz = 70 ∨ bz = 400 ∨ bz = 30000), rb_W Φ cells slots 3121 [some (rbR (18, 0, 0)), some (rbR (0, 0, 0)), some (rbR (14, 0, 0)), some (rbR (14, 1, 0)), some (rbR (14, 2, 0)), some (rbR (14, 3, 0)), some (rbR (14, 4, 0)), some (rbR (14, 5, 0)), some (rbR (14, 6, 0)), some (rbR (14, 7, 0)), some (rbR (14, 8, 0)), some (rbR (14, 9, 0)), some (rbI (nI k)), some (rbI v), some (rbI u), some (rbI (nI n)), some (rbI (nI i)), some (rbI (nI j)), some (rbI 1), none, none, none, none, none, none, none, none, none, none, none, none, none, none, none, none, none, none, none, none, none, none, none, none, none, none, none, none, none, some (rbI ((u >>> ((3 : Int32) &&& 31)) &&& (7 : Int32))), none, none, none, none, none] [rbI (nI bz), rbI (u >>> ((6 : Int32) &&& 31)), rbI 1] (wI G W) := by
    intro bz hbz
    refine rb_callS C M_L_124 (fun l X => (k_L_low l X G W _ bz (by omega) (by omega)).m) dL_law_3121 rfl rfl rfl (Nat.le_of_ble_eq_true rfl) ⟨(Nat.le_of_ble_eq_true rfl), (Nat.le_of_ble_eq_true rfl)⟩ (by omega) (by omega) (fun v G' hp => ?_) (fun _ _ hp => hp.elim)
    obtain ⟨z6, hz6, rfl, e9⟩ := hp
    rw [e9]
    clear e9 G'
    refine rq_iadd C (z := (nI (1 + z6))) dL_law_3124 (nI_add 1 z6) ?_
    refine rb_istore C dL_law_3125 (Nat.le_of_ble_eq_true rfl) rfl (Lv' := [_, _, _, _, _, _, _, _, _, _, _, _, _, _, _, _, _, _, _, _, _, _, _, _, _, _, _, _, _, _, _, _, _, _, _, _, _, _, _, _, _, _, _, _, _, _, _, _, _, _, _, _, _, _]) rfl ?_
    refine rb_aload_n C dL_law_3127 rfl ?_
    refine rb_iconst C dL_law_3128 (v := 0) (by decide) ?_
    refine rw_iald C (x := (nI t)) 44 (0) dL_law_3129 rfl (hm 0 (by decide)) (show ¬ (((0 : Int32)) < 0 ∨ 44 ≤ (0 : Int32).toNatClampNeg) by decide) rfl ((lr_g0 hl)) ?_
    refine rb_iload C dL_law_3130 rfl ?_
    refine rq_iadd C (z := (nI (t + (1 + z6)))) dL_law_3132 (nI_add t (1 + z6)) ?_
    refine rb_ldc C dL_law_3133 N_L_190 ?_
    refine rb_icmp_le C 3141 dL_law_3135 (by decide) (fun h3135 => ?_) (fun h3135 => ?_)
    · replace h3135 := (nI_leI (a := t + (1 + z6)) (b := 999999) (by omega) (by omega)).mp h3135
      refine rb_aload_n C dL_law_3141 rfl ?_
      refine rb_iconst C dL_law_3142 (v := 0) (by decide) ?_
      refine rw_iald C (x := (nI t)) 44 (0) dL_law_3143 rfl (hm 0 (by decide)) (show ¬ (((0 : Int32)) < 0 ∨ 44 ≤ (0 : Int32).toNatClampNeg) by decide) rfl ((lr_g0 hl)) ?_
      refine rb_iload C dL_law_3144 rfl ?_
      refine rq_iadd C (z := (nI (t + (1 + z6)))) dL_law_3146 (nI_add t (1 + z6)) ?_
      obtain ⟨th9, eth9⟩ : ∃ x, t + (1 + z6) = x := ⟨_, rfl⟩
      rw [eth9]
      refine rb_istore C dL_law_3147 (Nat.le_of_ble_eq_true rfl) rfl (Lv' := [_, _, _, _, _, _, _, _, _, _, _, _, _, _, _, _, _, _, _, _, _, _, _, _, _, _, _, _, _, _, _, _, _, _, _, _, _, _, _, _, _, _, _, _, _, _, _, _, _, _, _, _, _, _]) rfl ?_
      refine rb_aload_n C dL_law_3149 rfl ?_
      refine rb_iconst C dL_law_3150 (v := 0) (by decide) ?_
      refine rw_iald C (x := (nI t)) 44 (0) dL_law_3151 rfl (hm 0 (by decide)) (show ¬ (((0 : Int32)) < 0 ∨ 44 ≤ (0 : Int32).toNatClampNeg) by decide) rfl ((lr_g0 hl)) ?_
      refine rb_bipush C dL_law_3152 (v := 60) (by decide) ?_
      refine rq_idiv C (z := (nI (t / 60))) dL_law_3154 (by decide) (pk_div (by omega) (by decide) (by decide)) ?_
      refine rb_bipush C dL_law_3155 (v := 60) (by decide) ?_
      refine rq_imul C (z := (nI ((t / 60) * 60))) dL_law_3157 (pk_mul (t / 60) 60) ?_
      refine rb_bipush C dL_law_3158 (v := 60) (by decide) ?_
      refine rq_iadd C (z := (nI ((t / 60) * 60 + 60))) dL_law_3160 (nI_add ((t / 60) * 60) 60) ?_
      refine rb_istore C dL_law_3161 (Nat.le_of_ble_eq_true rfl) rfl (Lv' := [_, _, _, _, _, _, _, _, _, _, _, _, _, _, _, _, _, _, _, _, _, _, _, _, _, _, _, _, _, _, _, _, _, _, _, _, _, _, _, _, _, _, _, _, _, _, _, _, _, _, _, _, _, _]) rfl ?_
      have loop3163 : ∀ (dd : Nat) (hr tq : Nat) (W N : rb_I), th9 < hr + 60 * dd → hr % 60 = 0 → hr ≤ th9 + 60 → t ≤ tq → tq ≤ th9 → tq < hr → LI G W M → lx W N S A R P tq d → psI (up2 M (16, 0, 0) 0 0) N t tq (min hr (th9 + 1)) → rb_W Φ (cells + 0) (slots + 0) 3163 [some (rbR (18, 0, 0)), some (rbR (0, 0, 0)), some (rbR (14, 0, 0)), some (rbR (14, 1, 0)), some (rbR (14, 2, 0)), some (rbR (14, 3, 0)), some (rbR (14, 4, 0)), some (rbR (14, 5, 0)), some (rbR (14, 6, 0)), some (rbR (14, 7, 0)), some (rbR (14, 8, 0)), some (rbR (14, 9, 0)), some (rbI (nI k)), some (rbI v), some (rbI u), some (rbI (nI n)), some (rbI (nI i)), some (rbI (nI j)), some (rbI 1), none, none, none, none, none, none, none, none, none, none, none, none, none, none, none, none, none, none, none, none, none, none, none, none, none, none, none, none, none, some (rbI ((u >>> ((3 : Int32) &&& 31)) &&& (7 : Int32))), some (rbI (nI (1 + z6))), some (rbI (nI th9)), some (rbI (nI hr)), none, none] [] (wI G W) := by
        intro dd
        induction dd with
        | zero =>
          intro hr tq W N hq1 hq2 hq3 hq4 hq5 hq6 hL hl hps
          refine rb_iload C dL_law_3163 rfl ?_
          refine rb_iload C dL_law_3165 rfl ?_
          refine rb_icmp_gt C 3265 dL_law_3167 (by decide) (fun _ => ?_) (fun h9 => absurd (nI_lt (a := th9) (b := hr) (by omega) (by omega)) h9)
          refine rb_aload_n C dL_law_3265 rfl ?_
          refine rb_iconst C dL_law_3266 (v := 0) (by decide) ?_
          refine rb_iload C dL_law_3267 rfl ?_
          refine rw_iast C 44 (0) dL_law_3269 rfl (hm 0 (by decide)) (show ¬ (((0 : Int32)) < 0 ∨ 44 ≤ (0 : Int32).toNatClampNeg) by decide) rfl ?_
          have hl2 := lu_time hl (t1 := th9) (by omega) (by omega)
          have hL2 := LI_up hL 0 (0) (nI th9)
          generalize up2 W (14, 0, 0) (0) (nI th9) = W2 at hl2 hL2 ⊢
          refine rb_aload_n C dL_law_3270 rfl ?_
          refine rb_iload C dL_law_3271 rfl ?_
          refine rb_callSW C M_L_191 (fun l X => c_pass l X G W2 M hL2 hl0 (g := 1 + z6) (th := th9) (by omega) (by omega) (by omega) (by rw [hps (1 + z6) (by omega) (by omega), eth9]; exact up2_s _ _ _ _)) dL_law_3273 rfl rfl rfl (Nat.le_of_ble_eq_true rfl) ⟨(Nat.le_of_ble_eq_true rfl), (Nat.le_of_ble_eq_true rfl)⟩ (by omega) (by omega) (fun v G' hp => ?_)
          obtain ⟨rfl, G3, W3, e9, hL3, hw3⟩ := hp
          rw [e9]
          clear e9 G'
          have hl3 := lx_lw hl2 hw3
          have hm := hL3.1
          refine rb_iload C dL_law_3276 rfl ?_
          refine rb_icmp_ne C 3285 dL_law_3278 (by decide) (fun h9 => absurd (rfl) h9) (fun _ => ?_)
          refine rb_iconst C dL_law_3281 (v := 1) (by decide) ?_
          refine rb_goto C 3286 dL_law_3282 (by decide) ?_
          refine rb_istore C dL_law_3286 (Nat.le_of_ble_eq_true rfl) rfl (Lv' := [_, _, _, _, _, _, _, _, _, _, _, _, _, _, _, _, _, _, _, _, _, _, _, _, _, _, _, _, _, _, _, _, _, _, _, _, _, _, _, _, _, _, _, _, _, _, _, _, _, _, _, _, _, _]) rfl ?_
          refine rb_W.unset 15 ?_
          refine rb_W.unset 16 ?_
          refine rb_W.unset 17 ?_
          refine rb_W.unset 48 ?_
          refine rb_W.unset 49 ?_
          refine rb_W.unset 50 ?_
          refine rb_W.unset 51 ?_
          exact rb_W.room (kk G3 W3 (fo m_pass_b (1 + z6) (up2 M (16, 0, 0) 0 0)) ⟨hL3, _, _, _, _, _, _, (by rw [hps (1 + z6) (by omega) (by omega), eth9]; exact hl3)⟩) (by omega) (by omega)
        | succ dd ih =>
          intro hr tq W N hq1 hq2 hq3 hq4 hq5 hq6 hL hl hps
          have hNS := lm_S hl
          refine rb_iload C dL_law_3163 rfl ?_
          refine rb_iload C dL_law_3165 rfl ?_
          refine rb_icmp_gt C 3265 dL_law_3167 (by decide) (fun h3167 => ?_) (fun h3167 => ?_)
          · replace h3167 := (nI_ltI (a := th9) (b := hr) (by omega) (by omega)).mp h3167
            refine rb_aload_n C dL_law_3265 rfl ?_
            refine rb_iconst C dL_law_3266 (v := 0) (by decide) ?_
            refine rb_iload C dL_law_3267 rfl ?_
            refine rw_iast C 44 (0) dL_law_3269 rfl (hm 0 (by decide)) (show ¬ (((0 : Int32)) < 0 ∨ 44 ≤ (0 : Int32).toNatClampNeg) by decide) rfl ?_
            have hl4 := lu_time hl (t1 := th9) (by omega) (by omega)
            have hL4 := LI_up hL 0 (0) (nI th9)
            generalize up2 W (14, 0, 0) (0) (nI th9) = W4 at hl4 hL4 ⊢
            refine rb_aload_n C dL_law_3270 rfl ?_
            refine rb_iload C dL_law_3271 rfl ?_
            refine rb_callSW C M_L_191 (fun l X => c_pass l X G W4 M hL4 hl0 (g := 1 + z6) (th := th9) (by omega) (by omega) (by omega) (by rw [hps (1 + z6) (by omega) (by omega), eth9]; exact up2_s _ _ _ _)) dL_law_3273 rfl rfl rfl (Nat.le_of_ble_eq_true rfl) ⟨(Nat.le_of_ble_eq_true rfl), (Nat.le_of_ble_eq_true rfl)⟩ (by omega) (by omega) (fun v G' hp => ?_)
            obtain ⟨rfl, G5, W5, e9, hL5, hw5⟩ := hp
            rw [e9]
            clear e9 G'
            have hl5 := lx_lw hl4 hw5
            have hm := hL5.1
            refine rb_iload C dL_law_3276 rfl ?_
            refine rb_icmp_ne C 3285 dL_law_3278 (by decide) (fun h9 => absurd (rfl) h9) (fun _ => ?_)
            refine rb_iconst C dL_law_3281 (v := 1) (by decide) ?_
            refine rb_goto C 3286 dL_law_3282 (by decide) ?_
            refine rb_istore C dL_law_3286 (Nat.le_of_ble_eq_true rfl) rfl (Lv' := [_, _, _, _, _, _, _, _, _, _, _, _, _, _, _, _, _, _, _, _, _, _, _, _, _, _, _, _, _, _, _, _, _, _, _, _, _, _, _, _, _, _, _, _, _, _, _, _, _, _, _, _, _, _]) rfl ?_
            refine rb_W.unset 15 ?_
            refine rb_W.unset 16 ?_
            refine rb_W.unset 17 ?_
            refine rb_W.unset 48 ?_
            refine rb_W.unset 49 ?_
            refine rb_W.unset 50 ?_
            refine rb_W.unset 51 ?_
            exact rb_W.room (kk G5 W5 (fo m_pass_b (1 + z6) (up2 M (16, 0, 0) 0 0)) ⟨hL5, _, _, _, _, _, _, (by rw [hps (1 + z6) (by omega) (by omega), eth9]; exact hl5)⟩) (by omega) (by omega)
          · replace h3167 := mt (nI_ltI (a := th9) (b := hr) (by omega) (by omega)).mpr h3167
            refine rb_aload_n C dL_law_3170 rfl ?_
            refine rb_iconst C dL_law_3171 (v := 0) (by decide) ?_
            refine rb_iload C dL_law_3172 rfl ?_
            refine rw_iast C 44 (0) dL_law_3174 rfl (hm 0 (by decide)) (show ¬ (((0 : Int32)) < 0 ∨ 44 ≤ (0 : Int32).toNatClampNeg) by decide) rfl ?_
            have hl6 := lu_time hl (t1 := hr) (by omega) (by omega)
            have hL6 := LI_up hL 0 (0) (nI hr)
            generalize up2 W (14, 0, 0) (0) (nI hr) = W6 at hl6 hL6 ⊢
            refine rb_iconst C dL_law_3175 (v := 0) (by decide) ?_
            refine rb_istore C dL_law_3176 (Nat.le_of_ble_eq_true rfl) rfl (Lv' := [_, _, _, _, _, _, _, _, _, _, _, _, _, _, _, _, _, _, _, _, _, _, _, _, _, _, _, _, _, _, _, _, _, _, _, _, _, _, _, _, _, _, _, _, _, _, _, _, _, _, _, _, _, _]) rfl ?_
            have loop3178 : ∀ (dd : Nat) (q : Nat) (W : rb_I), q + dd = S → LI G W M → lx W (fo m_begins_b q (up2 N (16, 0, 0) 1 (nI hr))) S A R P hr d → rb_W Φ (cells + 0) (slots + 0) 3178 [some (rbR (18, 0, 0)), some (rbR (0, 0, 0)), some (rbR (14, 0, 0)), some (rbR (14, 1, 0)), some (rbR (14, 2, 0)), some (rbR (14, 3, 0)), some (rbR (14, 4, 0)), some (rbR (14, 5, 0)), some (rbR (14, 6, 0)), some (rbR (14, 7, 0)), some (rbR (14, 8, 0)), some (rbR (14, 9, 0)), some (rbI (nI k)), some (rbI v), some (rbI u), some (rbI (nI n)), some (rbI (nI i)), some (rbI (nI j)), some (rbI 1), none, none, none, none, none, none, none, none, none, none, none, none, none, none, none, none, none, none, none, none, none, none, none, none, none, none, none, none, none, some (rbI ((u >>> ((3 : Int32) &&& 31)) &&& (7 : Int32))), some (rbI (nI (1 + z6))), some (rbI (nI th9)), some (rbI (nI hr)), some (rbI (nI q)), none] [] (wI G W) := by
              intro dd
              induction dd with
              | zero =>
                intro q W hq hL hl
                have hlS : lx W (fo m_begins_b S (up2 N (16, 0, 0) 1 (nI hr))) S A R P hr d := by have z := hl; rw [show q = S by omega] at z; exact z
                refine rb_iload C dL_law_3178 rfl ?_
                refine rb_aload_n C dL_law_3180 rfl ?_
                refine rb_iconst C dL_law_3181 (v := 1) (by decide) ?_
                refine rw_iald C (x := (nI S)) 44 (1) dL_law_3182 rfl (hm 0 (by decide)) (show ¬ (((1 : Int32)) < 0 ∨ 44 ≤ (1 : Int32).toNatClampNeg) by decide) rfl ((lr_g1 hlS)) ?_
                refine rb_icmp_ge C 3214 dL_law_3183 (by decide) (fun _ => ?_) (fun h9 => absurd ((nI_le (a := S) (b := q) (by omega) (by omega))) h9)
                refine rb_iconst C dL_law_3214 (v := 0) (by decide) ?_
                refine rb_istore C dL_law_3215 (Nat.le_of_ble_eq_true rfl) rfl (Lv' := [_, _, _, _, _, _, _, _, _, _, _, _, _, _, _, _, _, _, _, _, _, _, _, _, _, _, _, _, _, _, _, _, _, _, _, _, _, _, _, _, _, _, _, _, _, _, _, _, _, _, _, _, _, _]) rfl ?_
                have loop3217 : ∀ (dd : Nat) (q : Nat) (W2 : rb_I), q + dd = 36 → LI G W2 M → exP hr W W2 q → rb_W Φ (cells + 0) (slots + 0) 3217 [some (rbR (18, 0, 0)), some (rbR (0, 0, 0)), some (rbR (14, 0, 0)), some (rbR (14, 1, 0)), some (rbR (14, 2, 0)), some (rbR (14, 3, 0)), some (rbR (14, 4, 0)), some (rbR (14, 5, 0)), some (rbR (14, 6, 0)), some (rbR (14, 7, 0)), some (rbR (14, 8, 0)), some (rbR (14, 9, 0)), some (rbI (nI k)), some (rbI v), some (rbI u), some (rbI (nI n)), some (rbI (nI i)), some (rbI (nI j)), some (rbI 1), none, none, none, none, none, none, none, none, none, none, none, none, none, none, none, none, none, none, none, none, none, none, none, none, none, none, none, none, none, some (rbI ((u >>> ((3 : Int32) &&& 31)) &&& (7 : Int32))), some (rbI (nI (1 + z6))), some (rbI (nI th9)), some (rbI (nI hr)), some (rbI (nI q)), none] [] (wI G W2) := by
                  intro dd
                  induction dd with
                  | zero =>
                    intro q W2 hq hL hE
                    refine rb_iload C dL_law_3217 rfl ?_
                    refine rb_bipush C dL_law_3219 (v := 36) (by decide) ?_
                    refine rb_icmp_ge C 3259 dL_law_3221 (by decide) (fun _ => ?_) (fun h9 => absurd ((nI_le (a := 36) (b := q) (by omega) (by omega))) h9)
                    refine rq_iinc C dL_law_3259 rfl (v := (nI (hr + 60))) (nI_add hr 60) rfl (Lv' := [_, _, _, _, _, _, _, _, _, _, _, _, _, _, _, _, _, _, _, _, _, _, _, _, _, _, _, _, _, _, _, _, _, _, _, _, _, _, _, _, _, _, _, _, _, _, _, _, _, _, _, _, _, _]) rfl ?_
                    refine rb_goto C 3163 dL_law_3262 (by decide) ?_
                    refine rb_W.unset 52 ?_
                    exact ih (hr + 60) hr W2 (m_begins (up2 N (16, 0, 0) 1 (nI hr))) (by omega) (by omega) (by omega) (by omega) (by omega) (by omega) hL (by rw [bg_eq (by simp [up2]; exact hNS) (by omega)]; exact lu_exp hlS (by rw [show 36 = q by omega]; exact hE)) (ps_sx hps hq4 hq6 hq2 (by omega) (by omega))
                  | succ dd ih =>
                    intro q W2 hq hL hE
                    refine rb_iload C dL_law_3217 rfl ?_
                    refine rb_bipush C dL_law_3219 (v := 36) (by decide) ?_
                    refine rb_icmp_ge C 3259 dL_law_3221 (by decide) (fun h9 => absurd h9 ((nI_ge (a := q) (b := 36) (by omega) (by omega)))) (fun _ => ?_)
                    refine rb_aload C dL_law_3224 rfl ?_
                    refine rb_iload C dL_law_3226 rfl ?_
                    refine rw_iald C (x := ((fo m_begins_b S (up2 N (16, 0, 0) 1 (nI hr))) (14, 27, 0) (10 * (q / 6) + q % 6))) 36 (q) dL_law_3228 rfl (hm 2 (by decide)) (vp_in_nI (show q < 36 by omega) (by decide)) (nI_clamp (show q < 2 ^ 31 by omega)) ((hE.2.1 q (Nat.le_refl _)).trans (lr_b36 hlS (by omega))) ?_
                    refine rb_iconst C dL_law_3229 (v := (-1)) (by decide) ?_
                    refine rb_icmp_eq C 3253 dL_law_3230 (by decide) (fun h3230 => ?_) (fun h3230 => ?_)
                    · refine rq_iinc C dL_law_3253 rfl (v := (nI (q + 1))) (nI_1 q) rfl (Lv' := [_, _, _, _, _, _, _, _, _, _, _, _, _, _, _, _, _, _, _, _, _, _, _, _, _, _, _, _, _, _, _, _, _, _, _, _, _, _, _, _, _, _, _, _, _, _, _, _, _, _, _, _, _, _]) rfl ?_
                      refine rb_goto C 3217 dL_law_3256 (by decide) ?_
                      exact ih (q + 1) W2 (by omega) hL (exP_k hE (by rw [lr_b36 hlS (by omega)]; exact exf_1 h3230))
                    · obtain ⟨e9, he9, ee9⟩ := (lr_b36e hlS (q := q) (by omega)).resolve_left h3230
                      refine rb_aload C dL_law_3233 rfl ?_
                      refine rb_iload C dL_law_3235 rfl ?_
                      refine rw_iald C (x := (nI e9)) 36 (q) dL_law_3237 rfl (hm 2 (by decide)) (vp_in_nI (show q < 36 by omega) (by decide)) (nI_clamp (show q < 2 ^ 31 by omega)) (((hE.2.1 q (Nat.le_refl _)).trans (lr_b36 hlS (by omega))).trans ee9) ?_
                      refine rb_sipush C dL_law_3238 (v := 180) (by decide) ?_
                      refine rq_iadd C (z := (nI (e9 + 180))) dL_law_3241 (nI_add e9 180) ?_
                      refine rb_iload C dL_law_3242 rfl ?_
                      refine rb_icmp_gt C 3253 dL_law_3244 (by decide) (fun h3244 => ?_) (fun h3244 => ?_)
                      · replace h3244 := (nI_ltI (a := hr) (b := e9 + 180) (by omega) (by omega)).mp h3244
                        refine rq_iinc C dL_law_3253 rfl (v := (nI (q + 1))) (nI_1 q) rfl (Lv' := [_, _, _, _, _, _, _, _, _, _, _, _, _, _, _, _, _, _, _, _, _, _, _, _, _, _, _, _, _, _, _, _, _, _, _, _, _, _, _, _, _, _, _, _, _, _, _, _, _, _, _, _, _, _]) rfl ?_
                        refine rb_goto C 3217 dL_law_3256 (by decide) ?_
                        exact ih (q + 1) W2 (by omega) hL (exP_k hE (by rw [lr_b36 hlS (by omega), ee9]; exact exf_2 (by omega) (by omega) (by omega)))
                      · replace h3244 := mt (nI_ltI (a := hr) (b := e9 + 180) (by omega) (by omega)).mpr h3244
                        refine rb_aload C dL_law_3247 rfl ?_
                        refine rb_iload C dL_law_3249 rfl ?_
                        refine rb_iconst C dL_law_3251 (v := (-1)) (by decide) ?_
                        refine rw_iast C 36 (q) dL_law_3252 rfl (hm 2 (by decide)) (vp_in_nI (show q < 36 by omega) (by decide)) (nI_clamp (show q < 2 ^ 31 by omega)) ?_
                        have hL9 := LI_up hL 2 q (-1)
                        refine rq_iinc C dL_law_3253 rfl (v := (nI (q + 1))) (nI_1 q) rfl (Lv' := [_, _, _, _, _, _, _, _, _, _, _, _, _, _, _, _, _, _, _, _, _, _, _, _, _, _, _, _, _, _, _, _, _, _, _, _, _, _, _, _, _, _, _, _, _, _, _, _, _, _, _, _, _, _]) rfl ?_
                        refine rb_goto C 3217 dL_law_3256 (by decide) ?_
                        exact ih (q + 1) (up2 W2 (14, 2, 0) q (-1)) (by omega) hL9 (exP_w hE (by rw [lr_b36 hlS (by omega), ee9]; exact exf_3 (by omega) (by omega)))
                have h0 := loop3217 36 0 W (by omega) hL (exP_0 hr W)
                rw [nI_0] at h0
                exact h0
              | succ dd ih =>
                intro q W hq hL hl
                refine rb_iload C dL_law_3178 rfl ?_
                refine rb_aload_n C dL_law_3180 rfl ?_
                refine rb_iconst C dL_law_3181 (v := 1) (by decide) ?_
                refine rw_iald C (x := (nI S)) 44 (1) dL_law_3182 rfl (hm 0 (by decide)) (show ¬ (((1 : Int32)) < 0 ∨ 44 ≤ (1 : Int32).toNatClampNeg) by decide) rfl ((lr_g1 hl)) ?_
                refine rb_icmp_ge C 3214 dL_law_3183 (by decide) (fun h9 => absurd h9 ((nI_ge (a := q) (b := S) (by omega) (by omega)))) (fun _ => ?_)
                refine rb_aload_n C dL_law_3186 rfl ?_
                refine rb_bipush C dL_law_3187 (v := 8) (by decide) ?_
                refine rb_iload C dL_law_3189 rfl ?_
                refine rq_imul C (z := (nI (8 * q))) dL_law_3191 (pk_mul 8 q) ?_
                refine rb_iconst C dL_law_3192 (v := 3) (by decide) ?_
                refine rq_iadd C (z := (nI (8 * q + 3))) dL_law_3193 (nI_add (8 * q) 3) ?_
                refine rw_iald C (x := ((fo m_begins_b q (up2 N (16, 0, 0) 1 (nI hr))) (14, 19, 0) q)) 48 (8 * q + 3) dL_law_3194 rfl (hm 1 (by decide)) (vp_in_nI (show 8 * q + 3 < 48 by omega) (by decide)) (nI_clamp (show 8 * q + 3 < 2 ^ 31 by omega)) ((lr_x3 hl (s := q) (by omega))) ?_
                refine rb_iconst C dL_law_3195 (v := (-1)) (by decide) ?_
                refine rb_icmp_eq C 3208 dL_law_3196 (by decide) (fun h3196 => ?_) (fun h3196 => ?_)
                · refine rq_iinc C dL_law_3208 rfl (v := (nI (q + 1))) (nI_1 q) rfl (Lv' := [_, _, _, _, _, _, _, _, _, _, _, _, _, _, _, _, _, _, _, _, _, _, _, _, _, _, _, _, _, _, _, _, _, _, _, _, _, _, _, _, _, _, _, _, _, _, _, _, _, _, _, _, _, _]) rfl ?_
                  refine rb_goto C 3178 dL_law_3211 (by decide) ?_
                  exact ih (q + 1) W (by omega) hL (by rw [fo_s, bgb_e, if_pos h3196]; exact hl)
                · obtain ⟨n2, hn2, en2⟩ := at6_nat (lr_at hl (s := q) (by omega)) h3196
                  refine rb_iload C dL_law_3199 rfl ?_
                  refine rb_aload_n C dL_law_3201 rfl ?_
                  refine rb_aload C dL_law_3202 rfl ?_
                  refine rb_aload_n C dL_law_3204 rfl ?_
                  refine rb_callS C M_L_176 (fun l X => (k_L_meets l X G W (fo m_begins_b q (up2 N (16, 0, 0) 1 (nI hr))) hm hl q n2 (by omega) hn2 en2).m) dL_law_3205 rfl rfl rfl (Nat.le_of_ble_eq_true rfl) ⟨(Nat.le_of_ble_eq_true rfl), (Nat.le_of_ble_eq_true rfl)⟩ (by omega) (by omega) (fun v G' hp => ?_) (fun _ _ hp => hp.elim)
                  obtain ⟨rfl, W7, e9, hl7, hf7⟩ := hp
                  rw [e9]
                  clear e9 G'
                  have hL7 := LI_cf hL hf7
                  refine rq_iinc C dL_law_3208 rfl (v := (nI (q + 1))) (nI_1 q) rfl (Lv' := [_, _, _, _, _, _, _, _, _, _, _, _, _, _, _, _, _, _, _, _, _, _, _, _, _, _, _, _, _, _, _, _, _, _, _, _, _, _, _, _, _, _, _, _, _, _, _, _, _, _, _, _, _, _]) rfl ?_
                  refine rb_goto C 3178 dL_law_3211 (by decide) ?_
                  exact ih (q + 1) W7 (by omega) hL7 (by rw [fo_s, bgb_e, if_neg h3196]; exact hl7)
            have h0 := loop3178 S 0 W6 (by omega) hL6 (by rw [fo_0]; exact hl6)
            rw [nI_0] at h0
            exact h0
      exact loop3163 th9 (t / 60 * 60 + 60) t W (up2 M (16, 0, 0) 0 0) (by omega) (by omega) (by omega) (Nat.le_refl _) (by omega) (by omega) hL (lx_thr hl 0) (fun m h1 h2 => ps_0x (by simp [up2]; exact lm_t hl) htm m h1 (by omega))
    · replace h3135 := mt (nI_leI (a := t + (1 + z6)) (b := 999999) (by omega) (by omega)).mpr h3135
      refine rb_goto C 3288 dL_law_3138 (by decide) ?_
      refine rb_W.unset 15 ?_
      refine rb_W.unset 16 ?_
      refine rb_W.unset 17 ?_
      refine rb_W.unset 48 ?_
      refine rb_W.unset 49 ?_
      exact rb_W.room (kk G W M ⟨hL, _, _, _, _, _, _, hl⟩) (by omega) (by omega)
  refine rb_icmp_ge C 3105 dL_law_3097 (by decide) (fun h3097 => ?_) (fun h3097 => ?_)
  · refine rb_iload C dL_law_3105 rfl ?_
    refine rb_bipush C dL_law_3107 (v := 7) (by decide) ?_
    refine rb_icmp_ge C 3118 dL_law_3109 (by decide) (fun h3109 => ?_) (fun h3109 => ?_)
    · refine rb_sipush C dL_law_3118 (v := 30000) (by decide) ?_
      exact mg3097 30000 (by omega)
    · refine rb_sipush C dL_law_3112 (v := 400) (by decide) ?_
      refine rb_goto C 3121 dL_law_3115 (by decide) ?_
      exact mg3097 400 (by omega)
  · refine rb_bipush C dL_law_3100 (v := 70) (by decide) ?_
    refine rb_goto C 3121 dL_law_3102 (by decide) ?_
    exact mg3097 70 (by omega)

