/-! the law's cases: what holds between two turns -/
def lJ (G : rb_G) (W M : rb_I) : Prop := LI G W M ∧ ∃ S A R P t d, lx W M S A R P t d
def LV0 (k : Nat) (v u : Int32) (n i j : Nat) : List (Option rb_V) := [some (rbR (18, 0, 0)), some (rbR (0, 0, 0)), some (rbR (14, 0, 0)), some (rbR (14, 1, 0)), some (rbR (14, 2, 0)), some (rbR (14, 3, 0)), some (rbR (14, 4, 0)), some (rbR (14, 5, 0)), some (rbR (14, 6, 0)), some (rbR (14, 7, 0)), some (rbR (14, 8, 0)), some (rbR (14, 9, 0)), some (rbI (nI k)), some (rbI v), some (rbI u), some (rbI (nI n)), some (rbI (nI i)), some (rbI (nI j)), some (rbI 1), none, none, none, none, none, none, none, none, none, none, none, none, none, none, none, none, none, none, none, none, none, none, none, none, none, none, none, none, none, none, none, none, none, none, none]
def LVE (k : Nat) (v u : Int32) : List (Option rb_V) := [some (rbR (18, 0, 0)), some (rbR (0, 0, 0)), some (rbR (14, 0, 0)), some (rbR (14, 1, 0)), some (rbR (14, 2, 0)), some (rbR (14, 3, 0)), some (rbR (14, 4, 0)), some (rbR (14, 5, 0)), some (rbR (14, 6, 0)), some (rbR (14, 7, 0)), some (rbR (14, 8, 0)), some (rbR (14, 9, 0)), some (rbI (nI k)), some (rbI v), some (rbI u), none, none, none, some (rbI 1), none, none, none, none, none, none, none, none, none, none, none, none, none, none, none, none, none, none, none, none, none, none, none, none, none, none, none, none, none, none, none, none, none, none, none]
theorem rcb_e (p ns : Int32) (i : Nat) (s : rb_I) : m_reach_b p ns i s = if s (14, 17, 0) i = p then (if s (14, 19, 0) i = -1 then s else if m_isIn ns (s (14, 19, 0) i) = 0 then up2 s (14, 19, 0) i (-1) else s) else s := rfl
theorem db_e (n : Int32) (i : Nat) (s : rb_I) : m_dead_b n i s = if s (14, 19, 0) i = n then up2 s (14, 19, 0) i (-1) else up2 s (14, 19, 0) i (s (14, 19, 0) i) := rfl
theorem eb_e {n : Nat} (hn : n < 1000) (i : Nat) (s : rb_I) : m_empties_b (nI n) i s = up2 s (14, 27, 0) (10 * n + i) (-1) := by
  unfold m_empties_b
  rw [cl_ (by omega)]
theorem shl7 : ∀ k, k < 3 → (7 : Int32) <<< (nI k &&& 31) = nI (7 * 2 ^ k) := by decide +kernel
theorem shl7_64 : ∀ k, k < 3 → 7 * 2 ^ k < 64 := by decide +kernel
theorem or1_64 : ∀ z, z < 64 → z ||| 1 < 64 := by decide +kernel
theorem dset_64 : ∀ d, d < 64 → ∀ n, n < 6 → d ||| 2 ^ n < 64 ∧ ∀ m, m < 6 → nI ((d ||| 2 ^ n) / 2 ^ m % 2) = if m = n then 1 else nI (d / 2 ^ m % 2) := by decide +kernel
def dclr (d n : Nat) : Nat := d - d / 2 ^ n % 2 * 2 ^ n
theorem dclr_64 : ∀ d, d < 64 → ∀ n, n < 6 → dclr d n < 64 ∧ ∀ m, m < 6 → nI (dclr d n / 2 ^ m % 2) = if m = n then 0 else nI (d / 2 ^ m % 2) := by decide +kernel
theorem dclr_e : ∀ d, d < 64 → ∀ n, n < 6 → nI d &&& (nI (2 ^ n) ^^^ (-1)) = nI (dclr d n) := by decide +kernel

set_option maxRecDepth 100000 in
set_option maxHeartbeats 4000000 in
theorem law_0 {Φ : rb_F} {cells slots : Nat} (C : rb_C Φ RL cL_law 54 15 568 734644 6897897) (hc : cells + 90 ≤ 734644) (hsl : slots + 2600 ≤ 6897897) {G : rb_G} {W M : rb_I} (hL : LI G W M) {S A R P t d : Nat} (hl : lx W M S A R P t d) (v u : Int32) (k n i j : Nat) (hk : k < 140) (hn : n < 6) (hi : i < S ∨ S = 0 ∧ i = 0) (hj : j < S ∨ S = 0 ∧ j = 0) (kk : ∀ G' W' M', lJ G' W' M' → rb_W Φ (cells + 90) (slots + 2600) 3288 (LVE k v u) [] (wI G' W')) : rb_W Φ cells slots 400 (LV0 k v u n i j) [] (wI G W) := by
  show rb_W Φ cells slots 400 [some (rbR (18, 0, 0)), some (rbR (0, 0, 0)), some (rbR (14, 0, 0)), some (rbR (14, 1, 0)), some (rbR (14, 2, 0)), some (rbR (14, 3, 0)), some (rbR (14, 4, 0)), some (rbR (14, 5, 0)), some (rbR (14, 6, 0)), some (rbR (14, 7, 0)), some (rbR (14, 8, 0)), some (rbR (14, 9, 0)), some (rbI (nI k)), some (rbI v), some (rbI u), some (rbI (nI n)), some (rbI (nI i)), some (rbI (nI j)), some (rbI 1), none, none, none, none, none, none, none, none, none, none, none, none, none, none, none, none, none, none, none, none, none, none, none, none, none, none, none, none, none, none, none, none, none, none, none] [] (wI G W)
  have hm := hL.1
  obtain ⟨hS6, hA10, hRP, hP58, hP2, hd64, htm⟩ := lr_b hl
  refine rb_iload C dL_law_400 rfl ?_
  refine rb_iconst C dL_law_402 (v := 3) (by decide) ?_
  have mg403 : ∀ (pz : Nat) (hpz : pz < 4), rb_W Φ cells slots 417 [some (rbR (18, 0, 0)), some (rbR (0, 0, 0)), some (rbR (14, 0, 0)), some (rbR (14, 1, 0)), some (rbR (14, 2, 0)), some (rbR (14, 3, 0)), some (rbR (14, 4, 0)), some (rbR (14, 5, 0)), some (rbR (14, 6, 0)), some (rbR (14, 7, 0)), some (rbR (14, 8, 0)), some (rbR (14, 9, 0)), some (rbI (nI k)), some (rbI v), some (rbI u), some (rbI (nI n)), some (rbI (nI i)), some (rbI (nI j)), some (rbI 1), none, none, none, none, none, none, none, none, none, none, none, none, none, none, none, none, none, none, none, none, none, none, none, none, none, none, none, none, none, none, none, none, none, none, none] [rbI (nI pz)] (wI G W) := by
    intro pz hpz
    refine rb_istore C dL_law_417 (Nat.le_of_ble_eq_true rfl) rfl (Lv' := [_, _, _, _, _, _, _, _, _, _, _, _, _, _, _, _, _, _, _, _, _, _, _, _, _, _, _, _, _, _, _, _, _, _, _, _, _, _, _, _, _, _, _, _, _, _, _, _, _, _, _, _, _, _]) rfl ?_
    refine rb_iload C dL_law_419 rfl ?_
    refine rb_iconst C dL_law_421 (v := 3) (by decide) ?_
    have mg422 : ∀ (sz : Nat) (hsz : sz < 64), rb_W Φ cells slots 444 [some (rbR (18, 0, 0)), some (rbR (0, 0, 0)), some (rbR (14, 0, 0)), some (rbR (14, 1, 0)), some (rbR (14, 2, 0)), some (rbR (14, 3, 0)), some (rbR (14, 4, 0)), some (rbR (14, 5, 0)), some (rbR (14, 6, 0)), some (rbR (14, 7, 0)), some (rbR (14, 8, 0)), some (rbR (14, 9, 0)), some (rbI (nI k)), some (rbI v), some (rbI u), some (rbI (nI n)), some (rbI (nI i)), some (rbI (nI j)), some (rbI 1), some (rbI (nI pz)), none, none, none, none, none, none, none, none, none, none, none, none, none, none, none, none, none, none, none, none, none, none, none, none, none, none, none, none, none, none, none, none, none, none] [rbI (nI sz)] (wI G W) := by
      intro sz hsz
      refine rb_istore C dL_law_444 (Nat.le_of_ble_eq_true rfl) rfl (Lv' := [_, _, _, _, _, _, _, _, _, _, _, _, _, _, _, _, _, _, _, _, _, _, _, _, _, _, _, _, _, _, _, _, _, _, _, _, _, _, _, _, _, _, _, _, _, _, _, _, _, _, _, _, _, _]) rfl ?_
      refine rb_aload_n C dL_law_446 rfl ?_
      refine rb_iload C dL_law_447 rfl ?_
      refine rb_iload C dL_law_449 rfl ?_
      refine rb_callSW C M_L_144 (fun l X => c_reach l X G W M hL hl (pz := pz) (sz := sz) (by omega) hsz) dL_law_451 rfl rfl rfl (Nat.le_of_ble_eq_true rfl) ⟨(Nat.le_of_ble_eq_true rfl), (Nat.le_of_ble_eq_true rfl)⟩ (by omega) (by omega) (fun v G' hp => ?_)
      obtain ⟨rfl, G1, W1, e9, hL1, hw1⟩ := hp
      rw [e9]
      clear e9 G'
      have hl1 := lx_lw hl hw1
      have hm := hL1.1
      refine rb_aload_n C dL_law_454 rfl ?_
      refine rb_bipush C dL_law_455 (v := 18) (by decide) ?_
      refine rb_iload C dL_law_457 rfl ?_
      refine rq_iadd C (z := (nI (18 + pz))) dL_law_459 (nI_add 18 pz) ?_
      refine rw_iald C (x := (M (14, 2, 0) pz)) 44 (18 + pz) dL_law_460 rfl (hm 0 (by decide)) (vp_in_nI (show 18 + pz < 44 by omega) (by decide)) (nI_clamp (show 18 + pz < 2 ^ 31 by omega)) ((lr_R hl1 (p := pz) (by omega)).1) ?_
      refine rb_icmp_ne C 468 dL_law_461 (by decide) (fun h9 => absurd (rfl) h9) (fun _ => ?_)
      refine rb_iconst C dL_law_464 (v := 1) (by decide) ?_
      refine rb_goto C 469 dL_law_465 (by decide) ?_
      refine rb_istore C dL_law_469 (Nat.le_of_ble_eq_true rfl) rfl (Lv' := [_, _, _, _, _, _, _, _, _, _, _, _, _, _, _, _, _, _, _, _, _, _, _, _, _, _, _, _, _, _, _, _, _, _, _, _, _, _, _, _, _, _, _, _, _, _, _, _, _, _, _, _, _, _]) rfl ?_
      refine rb_aload_n C dL_law_471 rfl ?_
      refine rb_bipush C dL_law_472 (v := 18) (by decide) ?_
      refine rb_iload C dL_law_474 rfl ?_
      refine rq_iadd C (z := (nI (18 + pz))) dL_law_476 (nI_add 18 pz) ?_
      refine rb_iload C dL_law_477 rfl ?_
      refine rw_iast C 44 (18 + pz) dL_law_479 rfl (hm 0 (by decide)) (vp_in_nI (show 18 + pz < 44 by omega) (by decide)) (nI_clamp (show 18 + pz < 2 ^ 31 by omega)) ?_
      have hl2 := lu_rcv (lx_thr hl1 0) (j := pz) hpz (v := nI sz) (vp_in_nI hsz (by decide))
      have hL2 := LI_up hL1 0 (18 + pz) (nI sz)
      generalize up2 W1 (14, 0, 0) (18 + pz) (nI sz) = W2 at hl2 hL2 ⊢
      refine rb_iconst C dL_law_480 (v := 0) (by decide) ?_
      refine rb_istore C dL_law_481 (Nat.le_of_ble_eq_true rfl) rfl (Lv' := [_, _, _, _, _, _, _, _, _, _, _, _, _, _, _, _, _, _, _, _, _, _, _, _, _, _, _, _, _, _, _, _, _, _, _, _, _, _, _, _, _, _, _, _, _, _, _, _, _, _, _, _, _, _]) rfl ?_
      have loop483 : ∀ (dd : Nat) (q : Nat) (W : rb_I), q + dd = S → LI G1 W (fo (m_reach_b (nI pz) (nI sz)) S (up2 (up2 M (16, 0, 0) 0 0) (14, 2, 0) pz (nI sz))) → lx W (fo (m_reach_b (nI pz) (nI sz)) q (up2 (up2 M (16, 0, 0) 0 0) (14, 2, 0) pz (nI sz))) S A R P t d → rb_W Φ (cells + 12) (slots + 72) 483 [some (rbR (18, 0, 0)), some (rbR (0, 0, 0)), some (rbR (14, 0, 0)), some (rbR (14, 1, 0)), some (rbR (14, 2, 0)), some (rbR (14, 3, 0)), some (rbR (14, 4, 0)), some (rbR (14, 5, 0)), some (rbR (14, 6, 0)), some (rbR (14, 7, 0)), some (rbR (14, 8, 0)), some (rbR (14, 9, 0)), some (rbI (nI k)), some (rbI v), some (rbI u), some (rbI (nI n)), some (rbI (nI i)), some (rbI (nI j)), some (rbI 1), some (rbI (nI pz)), some (rbI (nI sz)), some (rbI (nI q)), none, none, none, none, none, none, none, none, none, none, none, none, none, none, none, none, none, none, none, none, none, none, none, none, none, none, none, none, none, none, none, none] [] (wI G1 W) := by
        intro dd
        induction dd with
        | zero =>
          intro q W hq hL hl
          refine rb_iload C dL_law_483 rfl ?_
          refine rb_aload_n C dL_law_485 rfl ?_
          refine rb_iconst C dL_law_486 (v := 1) (by decide) ?_
          refine rw_iald C (x := (nI S)) 44 (1) dL_law_487 rfl (hm 0 (by decide)) (show ¬ (((1 : Int32)) < 0 ∨ 44 ≤ (1 : Int32).toNatClampNeg) by decide) rfl ((lr_g1 hl)) ?_
          refine rb_icmp_ge C 551 dL_law_488 (by decide) (fun _ => ?_) (fun h9 => absurd ((nI_le (a := S) (b := q) (by omega) (by omega))) h9)
          refine rb_goto C 3288 dL_law_551 (by decide) ?_
          refine rb_W.unset 15 ?_
          refine rb_W.unset 16 ?_
          refine rb_W.unset 17 ?_
          refine rb_W.unset 19 ?_
          refine rb_W.unset 20 ?_
          refine rb_W.unset 21 ?_
          exact rb_W.room (kk G1 W (fo (m_reach_b (nI pz) (nI sz)) S (up2 (up2 M (16, 0, 0) 0 0) (14, 2, 0) pz (nI sz))) ⟨hL, _, _, _, _, _, _, (by rw [show S = q by omega]; exact hl)⟩) (by omega) (by omega)
        | succ dd ih =>
          intro q W hq hL hl
          refine rb_iload C dL_law_483 rfl ?_
          refine rb_aload_n C dL_law_485 rfl ?_
          refine rb_iconst C dL_law_486 (v := 1) (by decide) ?_
          refine rw_iald C (x := (nI S)) 44 (1) dL_law_487 rfl (hm 0 (by decide)) (show ¬ (((1 : Int32)) < 0 ∨ 44 ≤ (1 : Int32).toNatClampNeg) by decide) rfl ((lr_g1 hl)) ?_
          refine rb_icmp_ge C 551 dL_law_488 (by decide) (fun h9 => absurd h9 ((nI_ge (a := q) (b := S) (by omega) (by omega)))) (fun _ => ?_)
          refine rb_aload_n C dL_law_491 rfl ?_
          refine rb_bipush C dL_law_492 (v := 8) (by decide) ?_
          refine rb_iload C dL_law_494 rfl ?_
          refine rq_imul C (z := (nI (8 * q))) dL_law_496 (pk_mul 8 q) ?_
          refine rb_iconst C dL_law_497 (v := 1) (by decide) ?_
          refine rq_iadd C (z := (nI (8 * q + 1))) dL_law_498 (nI_add (8 * q) 1) ?_
          refine rw_iald C (x := ((fo (m_reach_b (nI pz) (nI sz)) q (up2 (up2 M (16, 0, 0) 0 0) (14, 2, 0) pz (nI sz))) (14, 17, 0) q)) 48 (8 * q + 1) dL_law_499 rfl (hm 1 (by decide)) (vp_in_nI (show 8 * q + 1 < 48 by omega) (by decide)) (nI_clamp (show 8 * q + 1 < 2 ^ 31 by omega)) ((lr_x1 hl (s := q) (by omega))) ?_
          refine rb_iload C dL_law_500 rfl ?_
          refine rb_icmp_ne C 545 dL_law_502 (by decide) (fun h502 => ?_) (fun h502 => ?_)
          · refine rq_iinc C dL_law_545 rfl (v := (nI (q + 1))) (nI_1 q) rfl (Lv' := [_, _, _, _, _, _, _, _, _, _, _, _, _, _, _, _, _, _, _, _, _, _, _, _, _, _, _, _, _, _, _, _, _, _, _, _, _, _, _, _, _, _, _, _, _, _, _, _, _, _, _, _, _, _]) rfl ?_
            refine rb_goto C 483 dL_law_548 (by decide) ?_
            exact ih (q + 1) W (by omega) hL (by rw [fo_s, rcb_e, if_neg h502]; exact hl)
          · refine rb_aload_n C dL_law_505 rfl ?_
            refine rb_bipush C dL_law_506 (v := 8) (by decide) ?_
            refine rb_iload C dL_law_508 rfl ?_
            refine rq_imul C (z := (nI (8 * q))) dL_law_510 (pk_mul 8 q) ?_
            refine rb_iconst C dL_law_511 (v := 3) (by decide) ?_
            refine rq_iadd C (z := (nI (8 * q + 3))) dL_law_512 (nI_add (8 * q) 3) ?_
            refine rw_iald C (x := ((fo (m_reach_b (nI pz) (nI sz)) q (up2 (up2 M (16, 0, 0) 0 0) (14, 2, 0) pz (nI sz))) (14, 19, 0) q)) 48 (8 * q + 3) dL_law_513 rfl (hm 1 (by decide)) (vp_in_nI (show 8 * q + 3 < 48 by omega) (by decide)) (nI_clamp (show 8 * q + 3 < 2 ^ 31 by omega)) ((lr_x3 hl (s := q) (by omega))) ?_
            refine rb_iconst C dL_law_514 (v := (-1)) (by decide) ?_
            refine rb_icmp_eq C 545 dL_law_515 (by decide) (fun h515 => ?_) (fun h515 => ?_)
            · refine rq_iinc C dL_law_545 rfl (v := (nI (q + 1))) (nI_1 q) rfl (Lv' := [_, _, _, _, _, _, _, _, _, _, _, _, _, _, _, _, _, _, _, _, _, _, _, _, _, _, _, _, _, _, _, _, _, _, _, _, _, _, _, _, _, _, _, _, _, _, _, _, _, _, _, _, _, _]) rfl ?_
              refine rb_goto C 483 dL_law_548 (by decide) ?_
              exact ih (q + 1) W (by omega) hL (by rw [fo_s, rcb_e, if_pos h502, if_pos h515]; exact hl)
            · refine rb_iload C dL_law_518 rfl ?_
              refine rb_aload_n C dL_law_520 rfl ?_
              refine rb_bipush C dL_law_521 (v := 8) (by decide) ?_
              refine rb_iload C dL_law_523 rfl ?_
              refine rq_imul C (z := (nI (8 * q))) dL_law_525 (pk_mul 8 q) ?_
              refine rb_iconst C dL_law_526 (v := 3) (by decide) ?_
              refine rq_iadd C (z := (nI (8 * q + 3))) dL_law_527 (nI_add (8 * q) 3) ?_
              refine rw_iald C (x := ((fo (m_reach_b (nI pz) (nI sz)) q (up2 (up2 M (16, 0, 0) 0 0) (14, 2, 0) pz (nI sz))) (14, 19, 0) q)) 48 (8 * q + 3) dL_law_528 rfl (hm 1 (by decide)) (vp_in_nI (show 8 * q + 3 < 48 by omega) (by decide)) (nI_clamp (show 8 * q + 3 < 2 ^ 31 by omega)) ((lr_x3 hl (s := q) (by omega))) ?_
              refine rq_ishr C (z := ((nI sz) >>> (((fo (m_reach_b (nI pz) (nI sz)) q (up2 (up2 M (16, 0, 0) 0 0) (14, 2, 0) pz (nI sz))) (14, 19, 0) q) &&& 31))) dL_law_529 rfl ?_
              refine rb_iconst C dL_law_530 (v := 1) (by decide) ?_
              refine rq_iand C (z := (((nI sz) >>> (((fo (m_reach_b (nI pz) (nI sz)) q (up2 (up2 M (16, 0, 0) 0 0) (14, 2, 0) pz (nI sz))) (14, 19, 0) q) &&& 31)) &&& (1 : Int32))) dL_law_531 rfl ?_
              refine rb_if_ne C 545 dL_law_532 (by decide) (fun h532 => ?_) (fun h532 => ?_)
              · refine rq_iinc C dL_law_545 rfl (v := (nI (q + 1))) (nI_1 q) rfl (Lv' := [_, _, _, _, _, _, _, _, _, _, _, _, _, _, _, _, _, _, _, _, _, _, _, _, _, _, _, _, _, _, _, _, _, _, _, _, _, _, _, _, _, _, _, _, _, _, _, _, _, _, _, _, _, _]) rfl ?_
                refine rb_goto C 483 dL_law_548 (by decide) ?_
                exact ih (q + 1) W (by omega) hL (by rw [fo_s, rcb_e, if_pos h502, if_neg h515, if_neg (isIn_1 h532)]; exact hl)
              · refine rb_aload_n C dL_law_535 rfl ?_
                refine rb_bipush C dL_law_536 (v := 8) (by decide) ?_
                refine rb_iload C dL_law_538 rfl ?_
                refine rq_imul C (z := (nI (8 * q))) dL_law_540 (pk_mul 8 q) ?_
                refine rb_iconst C dL_law_541 (v := 3) (by decide) ?_
                refine rq_iadd C (z := (nI (8 * q + 3))) dL_law_542 (nI_add (8 * q) 3) ?_
                refine rb_iconst C dL_law_543 (v := (-1)) (by decide) ?_
                refine rw_iast C 48 (8 * q + 3) dL_law_544 rfl (hm 1 (by decide)) (vp_in_nI (show 8 * q + 3 < 48 by omega) (by decide)) (nI_clamp (show 8 * q + 3 < 2 ^ 31 by omega)) ?_
                have hl3 := lu_at hl (j := q) (by omega) (v := -1) (Or.inl rfl)
                have hL3 := LI_up hL 1 (8 * q + 3) (-1)
                generalize up2 W (14, 1, 0) (8 * q + 3) (-1) = W3 at hl3 hL3 ⊢
                refine rq_iinc C dL_law_545 rfl (v := (nI (q + 1))) (nI_1 q) rfl (Lv' := [_, _, _, _, _, _, _, _, _, _, _, _, _, _, _, _, _, _, _, _, _, _, _, _, _, _, _, _, _, _, _, _, _, _, _, _, _, _, _, _, _, _, _, _, _, _, _, _, _, _, _, _, _, _]) rfl ?_
                refine rb_goto C 483 dL_law_548 (by decide) ?_
                exact ih (q + 1) W3 (by omega) hL3 (by rw [fo_s, rcb_e, if_pos h502, if_neg h515, if_pos (isIn_0 h532)]; exact hl3)
      have h0 := loop483 S 0 W2 (by omega) hL2 (by rw [fo_0]; exact hl2)
      rw [nI_0] at h0
      exact h0
    refine rb_icmp_ge C 433 dL_law_422 (by decide) (fun h422 => ?_) (fun h422 => ?_)
    · replace h422 := (nI_leI (a := 3) (b := k) (by omega) (by omega)).mp h422
      refine rb_iload C dL_law_433 rfl ?_
      refine rb_iconst C dL_law_435 (v := 3) (by decide) ?_
      refine rq_ishr C (z := (u >>> ((3 : Int32) &&& 31))) dL_law_436 rfl ?_
      refine rb_bipush C dL_law_437 (v := 64) (by decide) ?_
      refine rb_callS C M_L_124 (fun l X => (k_L_low l X G W _ 64 (by decide) (by decide)).m) dL_law_439 rfl rfl rfl (Nat.le_of_ble_eq_true rfl) ⟨(Nat.le_of_ble_eq_true rfl), (Nat.le_of_ble_eq_true rfl)⟩ (by omega) (by omega) (fun v G' hp => ?_) (fun _ _ hp => hp.elim)
      obtain ⟨z2, hz2, rfl, e9⟩ := hp
      rw [e9]
      clear e9 G'
      refine rb_iconst C dL_law_442 (v := 1) (by decide) ?_
      refine rq_ior C (z := (nI (z2 ||| 1))) dL_law_443 (bs_or z2 1) ?_
      exact mg422 (z2 ||| 1) (or1_64 z2 (by omega))
    · replace h422 := mt (nI_leI (a := 3) (b := k) (by omega) (by omega)).mpr h422
      refine rb_bipush C dL_law_425 (v := 7) (by decide) ?_
      refine rb_iload C dL_law_427 rfl ?_
      refine rq_ishl C (z := (nI (7 * 2 ^ k))) dL_law_429 (shl7 k (by omega)) ?_
      refine rb_goto C 444 dL_law_430 (by decide) ?_
      exact mg422 (7 * 2 ^ k) (shl7_64 k (by omega))
  refine rb_icmp_ge C 411 dL_law_403 (by decide) (fun h403 => ?_) (fun h403 => ?_)
  · replace h403 := (nI_leI (a := 3) (b := k) (by omega) (by omega)).mp h403
    refine rb_iload C dL_law_411 rfl ?_
    refine rb_iconst C dL_law_413 (v := 4) (by decide) ?_
    refine rb_callS C M_L_124 (fun l X => (k_L_low l X G W _ 4 (by decide) (by decide)).m) dL_law_414 rfl rfl rfl (Nat.le_of_ble_eq_true rfl) ⟨(Nat.le_of_ble_eq_true rfl), (Nat.le_of_ble_eq_true rfl)⟩ (by omega) (by omega) (fun v G' hp => ?_) (fun _ _ hp => hp.elim)
    obtain ⟨z1, hz1, rfl, e9⟩ := hp
    rw [e9]
    clear e9 G'
    exact mg403 z1 (by omega)
  · replace h403 := mt (nI_leI (a := 3) (b := k) (by omega) (by omega)).mpr h403
    refine rb_iload C dL_law_406 rfl ?_
    refine rb_goto C 417 dL_law_408 (by decide) ?_
    exact mg403 k (by omega)

theorem em_four {W M : rb_I} {S A R P t d n : Nat} (hn : n < 6) (h : lx W (fo (m_empties_b (nI n)) 6 M) S A R P t d) : lx W (m_empties M (nI n)) S A R P t d := by
  have st : ∀ i s, m_empties_b (nI n) i s = up2 s (14, 27, 0) (10 * n + i) (-1) := fun i s => by unfold m_empties_b; rw [cl_ (by omega)]
  unfold m_empties
  rw [fo_s, fo_s, fo_s, fo_s, st, st, st, st]
  exact lu_bkM (lu_bkM (lu_bkM (lu_bkM h hn (by decide) (by decide)) hn (by decide) (by decide)) hn (by decide) (by decide)) hn (by decide) (by decide)

set_option maxRecDepth 100000 in
set_option maxHeartbeats 4000000 in
theorem law_1d0 {Φ : rb_F} {cells slots : Nat} (C : rb_C Φ RL cL_law 54 15 568 734644 6897897) (hc : cells + 90 ≤ 734644) (hsl : slots + 2600 ≤ 6897897) {G : rb_G} {W M : rb_I} (hL : LI G W M) {S A R P t d : Nat} (hl : lx W M S A R P t d) (v u : Int32) (k n i j : Nat) (hk : k < 140) (hn : n < 6) (hi : i < S ∨ S = 0 ∧ i = 0) (hj : j < S ∨ S = 0 ∧ j = 0) (kk : ∀ G' W' M', lJ G' W' M' → rb_W Φ (cells + 90) (slots + 2600) 3288 (LVE k v u) [] (wI G' W')) : rb_W Φ cells slots 569 [some (rbR (18, 0, 0)), some (rbR (0, 0, 0)), some (rbR (14, 0, 0)), some (rbR (14, 1, 0)), some (rbR (14, 2, 0)), some (rbR (14, 3, 0)), some (rbR (14, 4, 0)), some (rbR (14, 5, 0)), some (rbR (14, 6, 0)), some (rbR (14, 7, 0)), some (rbR (14, 8, 0)), some (rbR (14, 9, 0)), some (rbI (nI k)), some (rbI v), some (rbI u), some (rbI (nI n)), some (rbI (nI i)), some (rbI (nI j)), some (rbI 1), none, none, some (rbI 0), none, none, none, none, none, none, none, none, none, none, none, none, none, none, none, none, none, none, none, none, none, none, none, none, none, none, none, none, none, none, none, none] [] (wI G W) := by
  have hm := hL.1
  obtain ⟨hS6, hA10, hRP, hP58, hP2, hd64, htm⟩ := lr_b hl
  refine rb_aload_n C dL_law_569 rfl ?_
  refine rb_iload C dL_law_570 rfl ?_
  refine rb_iload C dL_law_572 rfl ?_
  refine rb_callSW C M_L_146 (fun l X => c_dead0 l X G W M hL hl hn) dL_law_574 rfl rfl rfl (Nat.le_of_ble_eq_true rfl) ⟨(Nat.le_of_ble_eq_true rfl), (Nat.le_of_ble_eq_true rfl)⟩ (by omega) (by omega) (fun v G' hp => ?_)
  obtain ⟨rfl, G1, W1, e9, hL1, hw1⟩ := hp
  rw [e9]
  clear e9 G'
  have hl1 := lx_lw hl hw1
  have hm := hL1.1
  refine rb_aload_n C dL_law_577 rfl ?_
  refine rb_iconst C dL_law_578 (v := 5) (by decide) ?_
  refine rw_iald C (x := (nI d)) 44 (5) dL_law_579 rfl (hm 0 (by decide)) (show ¬ (((5 : Int32)) < 0 ∨ 44 ≤ (5 : Int32).toNatClampNeg) by decide) rfl ((lr_g5 hl1)) ?_
  refine rb_iload C dL_law_580 rfl ?_
  refine rq_ishr C (z := (nI (d / 2 ^ n))) dL_law_582 (bs_shr (by omega) (by omega)) ?_
  refine rb_iconst C dL_law_583 (v := 1) (by decide) ?_
  refine rq_iand C (z := (nI (d / 2 ^ n % 2))) dL_law_584 (bs_and (Nat.lt_of_le_of_lt (Nat.div_le_self _ _) (by omega)) 1 rfl) ?_
  refine rb_icmp_ne C 592 dL_law_585 (by decide) (fun h9 => absurd (rfl) h9) (fun _ => ?_)
  refine rb_iconst C dL_law_588 (v := 1) (by decide) ?_
  refine rb_goto C 593 dL_law_589 (by decide) ?_
  refine rb_istore C dL_law_593 (Nat.le_of_ble_eq_true rfl) rfl (Lv' := [_, _, _, _, _, _, _, _, _, _, _, _, _, _, _, _, _, _, _, _, _, _, _, _, _, _, _, _, _, _, _, _, _, _, _, _, _, _, _, _, _, _, _, _, _, _, _, _, _, _, _, _, _, _]) rfl ?_
  refine rb_aload_n C dL_law_595 rfl ?_
  refine rb_iconst C dL_law_596 (v := 5) (by decide) ?_
  refine rb_iload C dL_law_597 rfl ?_
  refine rb_if_eq C 613 dL_law_599 (by decide) (fun _ => ?_) (fun h9 => absurd (by decide) h9)
  refine rb_aload_n C dL_law_613 rfl ?_
  refine rb_iconst C dL_law_614 (v := 5) (by decide) ?_
  refine rw_iald C (x := (nI d)) 44 (5) dL_law_615 rfl (hm 0 (by decide)) (show ¬ (((5 : Int32)) < 0 ∨ 44 ≤ (5 : Int32).toNatClampNeg) by decide) rfl ((lr_g5 hl1)) ?_
  refine rb_iconst C dL_law_616 (v := 1) (by decide) ?_
  refine rb_iload C dL_law_617 rfl ?_
  refine rq_ishl C (z := (nI (2 ^ n))) dL_law_619 (shl1 n hn) ?_
  refine rb_iconst C dL_law_620 (v := (-1)) (by decide) ?_
  refine rq_ixor C (z := ((nI (2 ^ n)) ^^^ (-1 : Int32))) dL_law_621 rfl ?_
  refine rq_iand C (z := (nI (dclr d n))) dL_law_622 (dclr_e d hd64 n hn) ?_
  refine rw_iast C 44 (5) dL_law_623 rfl (hm 0 (by decide)) (show ¬ (((5 : Int32)) < 0 ∨ 44 ≤ (5 : Int32).toNatClampNeg) by decide) rfl ?_
  have hl2 := lu_dead (lx_thr hl1 0) (j := n) (d' := dclr d n) (dclr_64 d hd64 n hn).1 (b := 0) (dclr_64 d hd64 n hn).2
  have hL2 := LI_up hL1 0 (5) (nI (dclr d n))
  generalize up2 W1 (14, 0, 0) (5) (nI (dclr d n)) = W2 at hl2 hL2 ⊢
  refine rb_iload C dL_law_624 rfl ?_
  refine rb_if_ne C 632 dL_law_626 (by decide) (fun h9 => absurd (by decide) h9) (fun _ => ?_)
  refine rb_goto C 3288 dL_law_629 (by decide) ?_
  refine rb_W.unset 15 ?_
  refine rb_W.unset 16 ?_
  refine rb_W.unset 17 ?_
  refine rb_W.unset 21 ?_
  exact rb_W.room (kk G1 W2 (up2 (up2 M (16, 0, 0) 0 0) (15, 3, 0) n 0) ⟨hL2, _, _, _, _, _, _, hl2⟩) (by omega) (by omega)

set_option maxRecDepth 100000 in
set_option maxHeartbeats 4000000 in
theorem law_1d1 {Φ : rb_F} {cells slots : Nat} (C : rb_C Φ RL cL_law 54 15 568 734644 6897897) (hc : cells + 90 ≤ 734644) (hsl : slots + 2600 ≤ 6897897) {G : rb_G} {W M : rb_I} (hL : LI G W M) {S A R P t d : Nat} (hl : lx W M S A R P t d) (v u : Int32) (k n i j : Nat) (hk : k < 140) (hn : n < 6) (hi : i < S ∨ S = 0 ∧ i = 0) (hj : j < S ∨ S = 0 ∧ j = 0) (kk : ∀ G' W' M', lJ G' W' M' → rb_W Φ (cells + 90) (slots + 2600) 3288 (LVE k v u) [] (wI G' W')) : rb_W Φ cells slots 569 [some (rbR (18, 0, 0)), some (rbR (0, 0, 0)), some (rbR (14, 0, 0)), some (rbR (14, 1, 0)), some (rbR (14, 2, 0)), some (rbR (14, 3, 0)), some (rbR (14, 4, 0)), some (rbR (14, 5, 0)), some (rbR (14, 6, 0)), some (rbR (14, 7, 0)), some (rbR (14, 8, 0)), some (rbR (14, 9, 0)), some (rbI (nI k)), some (rbI v), some (rbI u), some (rbI (nI n)), some (rbI (nI i)), some (rbI (nI j)), some (rbI 1), none, none, some (rbI 1), none, none, none, none, none, none, none, none, none, none, none, none, none, none, none, none, none, none, none, none, none, none, none, none, none, none, none, none, none, none, none, none] [] (wI G W) := by
  have hm := hL.1
  obtain ⟨hS6, hA10, hRP, hP58, hP2, hd64, htm⟩ := lr_b hl
  refine rb_aload_n C dL_law_569 rfl ?_
  refine rb_iload C dL_law_570 rfl ?_
  refine rb_iload C dL_law_572 rfl ?_
  refine rb_callSW C M_L_146 (fun l X => c_dead1 l X G W M hL hl hn) dL_law_574 rfl rfl rfl (Nat.le_of_ble_eq_true rfl) ⟨(Nat.le_of_ble_eq_true rfl), (Nat.le_of_ble_eq_true rfl)⟩ (by omega) (by omega) (fun v G' hp => ?_)
  obtain ⟨rfl, G1, W1, e9, hL1, hw1⟩ := hp
  rw [e9]
  clear e9 G'
  have hl1 := lx_lw hl hw1
  have hm := hL1.1
  refine rb_aload_n C dL_law_577 rfl ?_
  refine rb_iconst C dL_law_578 (v := 5) (by decide) ?_
  refine rw_iald C (x := (nI d)) 44 (5) dL_law_579 rfl (hm 0 (by decide)) (show ¬ (((5 : Int32)) < 0 ∨ 44 ≤ (5 : Int32).toNatClampNeg) by decide) rfl ((lr_g5 hl1)) ?_
  refine rb_iload C dL_law_580 rfl ?_
  refine rq_ishr C (z := (nI (d / 2 ^ n))) dL_law_582 (bs_shr (by omega) (by omega)) ?_
  refine rb_iconst C dL_law_583 (v := 1) (by decide) ?_
  refine rq_iand C (z := (nI (d / 2 ^ n % 2))) dL_law_584 (bs_and (Nat.lt_of_le_of_lt (Nat.div_le_self _ _) (by omega)) 1 rfl) ?_
  refine rb_icmp_ne C 592 dL_law_585 (by decide) (fun h9 => absurd (rfl) h9) (fun _ => ?_)
  refine rb_iconst C dL_law_588 (v := 1) (by decide) ?_
  refine rb_goto C 593 dL_law_589 (by decide) ?_
  refine rb_istore C dL_law_593 (Nat.le_of_ble_eq_true rfl) rfl (Lv' := [_, _, _, _, _, _, _, _, _, _, _, _, _, _, _, _, _, _, _, _, _, _, _, _, _, _, _, _, _, _, _, _, _, _, _, _, _, _, _, _, _, _, _, _, _, _, _, _, _, _, _, _, _, _]) rfl ?_
  refine rb_aload_n C dL_law_595 rfl ?_
  refine rb_iconst C dL_law_596 (v := 5) (by decide) ?_
  refine rb_iload C dL_law_597 rfl ?_
  refine rb_if_eq C 613 dL_law_599 (by decide) (fun h9 => absurd h9 (by decide)) (fun _ => ?_)
  refine rb_aload_n C dL_law_602 rfl ?_
  refine rb_iconst C dL_law_603 (v := 5) (by decide) ?_
  refine rw_iald C (x := (nI d)) 44 (5) dL_law_604 rfl (hm 0 (by decide)) (show ¬ (((5 : Int32)) < 0 ∨ 44 ≤ (5 : Int32).toNatClampNeg) by decide) rfl ((lr_g5 hl1)) ?_
  refine rb_iconst C dL_law_605 (v := 1) (by decide) ?_
  refine rb_iload C dL_law_606 rfl ?_
  refine rq_ishl C (z := (nI (2 ^ n))) dL_law_608 (shl1 n hn) ?_
  refine rq_ior C (z := (nI (d ||| 2 ^ n))) dL_law_609 (bs_or _ _) ?_
  refine rb_goto C 623 dL_law_610 (by decide) ?_
  refine rw_iast C 44 (5) dL_law_623 rfl (hm 0 (by decide)) (show ¬ (((5 : Int32)) < 0 ∨ 44 ≤ (5 : Int32).toNatClampNeg) by decide) rfl ?_
  have hl2 := lu_dead (lx_thr hl1 0) (j := n) (d' := d ||| 2 ^ n) (dset_64 d hd64 n hn).1 (b := 1) (dset_64 d hd64 n hn).2
  have hL2 := LI_up hL1 0 (5) (nI (d ||| 2 ^ n))
  generalize up2 W1 (14, 0, 0) (5) (nI (d ||| 2 ^ n)) = W2 at hl2 hL2 ⊢
  have hd2 := (dset_64 d hd64 n hn).1
  refine rb_iload C dL_law_624 rfl ?_
  refine rb_if_ne C 632 dL_law_626 (by decide) (fun _ => ?_) (fun h9 => absurd h9 (by decide))
  refine rb_iconst C dL_law_632 (v := 0) (by decide) ?_
  refine rb_istore C dL_law_633 (Nat.le_of_ble_eq_true rfl) rfl (Lv' := [_, _, _, _, _, _, _, _, _, _, _, _, _, _, _, _, _, _, _, _, _, _, _, _, _, _, _, _, _, _, _, _, _, _, _, _, _, _, _, _, _, _, _, _, _, _, _, _, _, _, _, _, _, _]) rfl ?_
  have loop635 : ∀ (dd : Nat) (q : Nat) (W : rb_I), q + dd = 6 → LI G1 W (fo (m_dead_b (nI n)) S (m_empties (up2 (up2 M (16, 0, 0) 0 0) (15, 3, 0) n 1) (nI n))) → lx W (fo (m_empties_b (nI n)) q (up2 (up2 M (16, 0, 0) 0 0) (15, 3, 0) n 1)) S A R P t (d ||| 2 ^ n) → rb_W Φ (cells + 12) (slots + 72) 635 [some (rbR (18, 0, 0)), some (rbR (0, 0, 0)), some (rbR (14, 0, 0)), some (rbR (14, 1, 0)), some (rbR (14, 2, 0)), some (rbR (14, 3, 0)), some (rbR (14, 4, 0)), some (rbR (14, 5, 0)), some (rbR (14, 6, 0)), some (rbR (14, 7, 0)), some (rbR (14, 8, 0)), some (rbR (14, 9, 0)), some (rbI (nI k)), some (rbI v), some (rbI u), some (rbI (nI n)), some (rbI (nI i)), some (rbI (nI j)), some (rbI 1), none, none, some (rbI 1), some (rbI (nI q)), none, none, none, none, none, none, none, none, none, none, none, none, none, none, none, none, none, none, none, none, none, none, none, none, none, none, none, none, none, none, none] [] (wI G1 W) := by
    intro dd
    induction dd with
    | zero =>
      intro q W hq hL hl
      refine rb_iload C dL_law_635 rfl ?_
      refine rb_bipush C dL_law_637 (v := 6) (by decide) ?_
      refine rb_icmp_ge C 660 dL_law_639 (by decide) (fun _ => ?_) (fun h9 => absurd ((nI_le (a := 6) (b := q) (by omega) (by omega))) h9)
      have hlE : lx W (m_empties (up2 (up2 M (16, 0, 0) 0 0) (15, 3, 0) n 1) (nI n)) S A R P t (d ||| 2 ^ n) := em_four hn (by rw [show 6 = q by omega]; exact hl)
      refine rb_iconst C dL_law_660 (v := 0) (by decide) ?_
      refine rb_istore C dL_law_661 (Nat.le_of_ble_eq_true rfl) rfl (Lv' := [_, _, _, _, _, _, _, _, _, _, _, _, _, _, _, _, _, _, _, _, _, _, _, _, _, _, _, _, _, _, _, _, _, _, _, _, _, _, _, _, _, _, _, _, _, _, _, _, _, _, _, _, _, _]) rfl ?_
      have loop663 : ∀ (dd : Nat) (q : Nat) (W : rb_I), q + dd = S → LI G1 W (fo (m_dead_b (nI n)) S (m_empties (up2 (up2 M (16, 0, 0) 0 0) (15, 3, 0) n 1) (nI n))) → lx W (fo (m_dead_b (nI n)) q (m_empties (up2 (up2 M (16, 0, 0) 0 0) (15, 3, 0) n 1) (nI n))) S A R P t (d ||| 2 ^ n) → rb_W Φ (cells + 12) (slots + 72) 663 [some (rbR (18, 0, 0)), some (rbR (0, 0, 0)), some (rbR (14, 0, 0)), some (rbR (14, 1, 0)), some (rbR (14, 2, 0)), some (rbR (14, 3, 0)), some (rbR (14, 4, 0)), some (rbR (14, 5, 0)), some (rbR (14, 6, 0)), some (rbR (14, 7, 0)), some (rbR (14, 8, 0)), some (rbR (14, 9, 0)), some (rbI (nI k)), some (rbI v), some (rbI u), some (rbI (nI n)), some (rbI (nI i)), some (rbI (nI j)), some (rbI 1), none, none, some (rbI 1), some (rbI (nI q)), none, none, none, none, none, none, none, none, none, none, none, none, none, none, none, none, none, none, none, none, none, none, none, none, none, none, none, none, none, none, none] [] (wI G1 W) := by
        intro dd
        induction dd with
        | zero =>
          intro q W hq hL hl
          refine rb_iload C dL_law_663 rfl ?_
          refine rb_aload_n C dL_law_665 rfl ?_
          refine rb_iconst C dL_law_666 (v := 1) (by decide) ?_
          refine rw_iald C (x := (nI S)) 44 (1) dL_law_667 rfl (hm 0 (by decide)) (show ¬ (((1 : Int32)) < 0 ∨ 44 ≤ (1 : Int32).toNatClampNeg) by decide) rfl ((lr_g1 hl)) ?_
          refine rb_icmp_ge C 713 dL_law_668 (by decide) (fun _ => ?_) (fun h9 => absurd ((nI_le (a := S) (b := q) (by omega) (by omega))) h9)
          refine rb_goto C 3288 dL_law_713 (by decide) ?_
          refine rb_W.unset 15 ?_
          refine rb_W.unset 16 ?_
          refine rb_W.unset 17 ?_
          refine rb_W.unset 21 ?_
          refine rb_W.unset 22 ?_
          exact rb_W.room (kk G1 W (fo (m_dead_b (nI n)) S (m_empties (up2 (up2 M (16, 0, 0) 0 0) (15, 3, 0) n 1) (nI n))) ⟨hL, _, _, _, _, _, _, (by rw [show S = q by omega]; exact hl)⟩) (by omega) (by omega)
        | succ dd ih =>
          intro q W hq hL hl
          refine rb_iload C dL_law_663 rfl ?_
          refine rb_aload_n C dL_law_665 rfl ?_
          refine rb_iconst C dL_law_666 (v := 1) (by decide) ?_
          refine rw_iald C (x := (nI S)) 44 (1) dL_law_667 rfl (hm 0 (by decide)) (show ¬ (((1 : Int32)) < 0 ∨ 44 ≤ (1 : Int32).toNatClampNeg) by decide) rfl ((lr_g1 hl)) ?_
          refine rb_icmp_ge C 713 dL_law_668 (by decide) (fun h9 => absurd h9 ((nI_ge (a := q) (b := S) (by omega) (by omega)))) (fun _ => ?_)
          refine rb_aload_n C dL_law_671 rfl ?_
          refine rb_bipush C dL_law_672 (v := 8) (by decide) ?_
          refine rb_iload C dL_law_674 rfl ?_
          refine rq_imul C (z := (nI (8 * q))) dL_law_676 (pk_mul 8 q) ?_
          refine rb_iconst C dL_law_677 (v := 3) (by decide) ?_
          refine rq_iadd C (z := (nI (8 * q + 3))) dL_law_678 (nI_add (8 * q) 3) ?_
          refine rb_aload_n C dL_law_679 rfl ?_
          refine rb_bipush C dL_law_680 (v := 8) (by decide) ?_
          refine rb_iload C dL_law_682 rfl ?_
          refine rq_imul C (z := (nI (8 * q))) dL_law_684 (pk_mul 8 q) ?_
          refine rb_iconst C dL_law_685 (v := 3) (by decide) ?_
          refine rq_iadd C (z := (nI (8 * q + 3))) dL_law_686 (nI_add (8 * q) 3) ?_
          refine rw_iald C (x := ((fo (m_dead_b (nI n)) q (m_empties (up2 (up2 M (16, 0, 0) 0 0) (15, 3, 0) n 1) (nI n))) (14, 19, 0) q)) 48 (8 * q + 3) dL_law_687 rfl (hm 1 (by decide)) (vp_in_nI (show 8 * q + 3 < 48 by omega) (by decide)) (nI_clamp (show 8 * q + 3 < 2 ^ 31 by omega)) ((lr_x3 hl (s := q) (by omega))) ?_
          refine rb_iload C dL_law_688 rfl ?_
          refine rb_icmp_ne C 697 dL_law_690 (by decide) (fun h690 => ?_) (fun h690 => ?_)
          · refine rb_aload_n C dL_law_697 rfl ?_
            refine rb_bipush C dL_law_698 (v := 8) (by decide) ?_
            refine rb_iload C dL_law_700 rfl ?_
            refine rq_imul C (z := (nI (8 * q))) dL_law_702 (pk_mul 8 q) ?_
            refine rb_iconst C dL_law_703 (v := 3) (by decide) ?_
            refine rq_iadd C (z := (nI (8 * q + 3))) dL_law_704 (nI_add (8 * q) 3) ?_
            refine rw_iald C (x := ((fo (m_dead_b (nI n)) q (m_empties (up2 (up2 M (16, 0, 0) 0 0) (15, 3, 0) n 1) (nI n))) (14, 19, 0) q)) 48 (8 * q + 3) dL_law_705 rfl (hm 1 (by decide)) (vp_in_nI (show 8 * q + 3 < 48 by omega) (by decide)) (nI_clamp (show 8 * q + 3 < 2 ^ 31 by omega)) ((lr_x3 hl (s := q) (by omega))) ?_
            refine rw_iast C 48 (8 * q + 3) dL_law_706 rfl (hm 1 (by decide)) (vp_in_nI (show 8 * q + 3 < 48 by omega) (by decide)) (nI_clamp (show 8 * q + 3 < 2 ^ 31 by omega)) ?_
            have hl3 := lu_at hl (j := q) (by omega) (v := (fo (m_dead_b (nI n)) q (m_empties (up2 (up2 M (16, 0, 0) 0 0) (15, 3, 0) n 1) (nI n))) (14, 19, 0) q) (lr_at hl (by omega))
            have hL3 := LI_up hL 1 (8 * q + 3) ((fo (m_dead_b (nI n)) q (m_empties (up2 (up2 M (16, 0, 0) 0 0) (15, 3, 0) n 1) (nI n))) (14, 19, 0) q)
            generalize up2 W (14, 1, 0) (8 * q + 3) ((fo (m_dead_b (nI n)) q (m_empties (up2 (up2 M (16, 0, 0) 0 0) (15, 3, 0) n 1) (nI n))) (14, 19, 0) q) = W3 at hl3 hL3 ⊢
            refine rq_iinc C dL_law_707 rfl (v := (nI (q + 1))) (nI_1 q) rfl (Lv' := [_, _, _, _, _, _, _, _, _, _, _, _, _, _, _, _, _, _, _, _, _, _, _, _, _, _, _, _, _, _, _, _, _, _, _, _, _, _, _, _, _, _, _, _, _, _, _, _, _, _, _, _, _, _]) rfl ?_
            refine rb_goto C 663 dL_law_710 (by decide) ?_
            exact ih (q + 1) W3 (by omega) hL3 (by rw [fo_s, db_e, if_neg h690]; exact hl3)
          · refine rb_iconst C dL_law_693 (v := (-1)) (by decide) ?_
            refine rb_goto C 706 dL_law_694 (by decide) ?_
            refine rw_iast C 48 (8 * q + 3) dL_law_706 rfl (hm 1 (by decide)) (vp_in_nI (show 8 * q + 3 < 48 by omega) (by decide)) (nI_clamp (show 8 * q + 3 < 2 ^ 31 by omega)) ?_
            have hl4 := lu_at hl (j := q) (by omega) (v := -1) (Or.inl rfl)
            have hL4 := LI_up hL 1 (8 * q + 3) (-1)
            generalize up2 W (14, 1, 0) (8 * q + 3) (-1) = W4 at hl4 hL4 ⊢
            refine rq_iinc C dL_law_707 rfl (v := (nI (q + 1))) (nI_1 q) rfl (Lv' := [_, _, _, _, _, _, _, _, _, _, _, _, _, _, _, _, _, _, _, _, _, _, _, _, _, _, _, _, _, _, _, _, _, _, _, _, _, _, _, _, _, _, _, _, _, _, _, _, _, _, _, _, _, _]) rfl ?_
            refine rb_goto C 663 dL_law_710 (by decide) ?_
            exact ih (q + 1) W4 (by omega) hL4 (by rw [fo_s, db_e, if_pos h690]; exact hl4)
      have h0 := loop663 S 0 W (by omega) hL (by rw [fo_0]; exact hlE)
      rw [nI_0] at h0
      exact h0
    | succ dd ih =>
      intro q W hq hL hl
      refine rb_iload C dL_law_635 rfl ?_
      refine rb_bipush C dL_law_637 (v := 6) (by decide) ?_
      refine rb_icmp_ge C 660 dL_law_639 (by decide) (fun h9 => absurd h9 ((nI_ge (a := q) (b := 6) (by omega) (by omega)))) (fun _ => ?_)
      refine rb_aload C dL_law_642 rfl ?_
      refine rb_bipush C dL_law_644 (v := 6) (by decide) ?_
      refine rb_iload C dL_law_646 rfl ?_
      refine rq_imul C (z := (nI (6 * n))) dL_law_648 (pk_mul 6 n) ?_
      refine rb_iload C dL_law_649 rfl ?_
      refine rq_iadd C (z := (nI (6 * n + q))) dL_law_651 (nI_add (6 * n) q) ?_
      refine rb_iconst C dL_law_652 (v := (-1)) (by decide) ?_
      refine rw_iast C 36 (6 * n + q) dL_law_653 rfl (hm 2 (by decide)) (vp_in_nI (show 6 * n + q < 36 by omega) (by decide)) (nI_clamp (show 6 * n + q < 2 ^ 31 by omega)) ?_
      have hl5 := lu_bk hl (n0 := n) (j := q) hn (by omega) (v := -1) (Or.inl rfl)
      have hL5 := LI_up hL 2 (6 * n + q) (-1)
      generalize up2 W (14, 2, 0) (6 * n + q) (-1) = W5 at hl5 hL5 ⊢
      refine rq_iinc C dL_law_654 rfl (v := (nI (q + 1))) (nI_1 q) rfl (Lv' := [_, _, _, _, _, _, _, _, _, _, _, _, _, _, _, _, _, _, _, _, _, _, _, _, _, _, _, _, _, _, _, _, _, _, _, _, _, _, _, _, _, _, _, _, _, _, _, _, _, _, _, _, _, _]) rfl ?_
      refine rb_goto C 635 dL_law_657 (by decide) ?_
      exact ih (q + 1) W5 (by omega) hL5 (by rw [fo_s, eb_e (by omega)]; exact hl5)
  have h0 := loop635 6 0 W2 (by omega) hL2 (by rw [fo_0]; exact hl2)
  rw [nI_0] at h0
  exact h0

set_option maxRecDepth 100000 in
set_option maxHeartbeats 4000000 in
theorem law_1 {Φ : rb_F} {cells slots : Nat} (C : rb_C Φ RL cL_law 54 15 568 734644 6897897) (hc : cells + 90 ≤ 734644) (hsl : slots + 2600 ≤ 6897897) {G : rb_G} {W M : rb_I} (hL : LI G W M) {S A R P t d : Nat} (hl : lx W M S A R P t d) (v u : Int32) (k n i j : Nat) (hk : k < 140) (hn : n < 6) (hi : i < S ∨ S = 0 ∧ i = 0) (hj : j < S ∨ S = 0 ∧ j = 0) (kk : ∀ G' W' M', lJ G' W' M' → rb_W Φ (cells + 90) (slots + 2600) 3288 (LVE k v u) [] (wI G' W')) : rb_W Φ cells slots 554 (LV0 k v u n i j) [] (wI G W) := by
  show rb_W Φ cells slots 554 [some (rbR (18, 0, 0)), some (rbR (0, 0, 0)), some (rbR (14, 0, 0)), some (rbR (14, 1, 0)), some (rbR (14, 2, 0)), some (rbR (14, 3, 0)), some (rbR (14, 4, 0)), some (rbR (14, 5, 0)), some (rbR (14, 6, 0)), some (rbR (14, 7, 0)), some (rbR (14, 8, 0)), some (rbR (14, 9, 0)), some (rbI (nI k)), some (rbI v), some (rbI u), some (rbI (nI n)), some (rbI (nI i)), some (rbI (nI j)), some (rbI 1), none, none, none, none, none, none, none, none, none, none, none, none, none, none, none, none, none, none, none, none, none, none, none, none, none, none, none, none, none, none, none, none, none, none, none] [] (wI G W)
  have hm := hL.1
  obtain ⟨hS6, hA10, hRP, hP58, hP2, hd64, htm⟩ := lr_b hl
  refine rb_iload C dL_law_554 rfl ?_
  refine rb_bipush C dL_law_556 (v := 6) (by decide) ?_
  refine rq_iand C (z := (u &&& (6 : Int32))) dL_law_558 rfl ?_
  have mg559 : ∀ (z : Int32) (hz : z = 0 ∨ z = 1), rb_W Φ cells slots 567 [some (rbR (18, 0, 0)), some (rbR (0, 0, 0)), some (rbR (14, 0, 0)), some (rbR (14, 1, 0)), some (rbR (14, 2, 0)), some (rbR (14, 3, 0)), some (rbR (14, 4, 0)), some (rbR (14, 5, 0)), some (rbR (14, 6, 0)), some (rbR (14, 7, 0)), some (rbR (14, 8, 0)), some (rbR (14, 9, 0)), some (rbI (nI k)), some (rbI v), some (rbI u), some (rbI (nI n)), some (rbI (nI i)), some (rbI (nI j)), some (rbI 1), none, none, none, none, none, none, none, none, none, none, none, none, none, none, none, none, none, none, none, none, none, none, none, none, none, none, none, none, none, none, none, none, none, none, none] [rbI z] (wI G W) := by
    intro z hz
    refine rb_istore C dL_law_567 (Nat.le_of_ble_eq_true rfl) rfl (Lv' := [_, _, _, _, _, _, _, _, _, _, _, _, _, _, _, _, _, _, _, _, _, _, _, _, _, _, _, _, _, _, _, _, _, _, _, _, _, _, _, _, _, _, _, _, _, _, _, _, _, _, _, _, _, _]) rfl ?_
    rcases hz with rfl | rfl
    · exact law_1d0 C hc hsl hL hl v u k n i j hk hn hi hj kk
    · exact law_1d1 C hc hsl hL hl v u k n i j hk hn hi hj kk
  refine rb_if_ne C 566 dL_law_559 (by decide) (fun h559 => ?_) (fun h559 => ?_)
  · refine rb_iconst C dL_law_566 (v := 0) (by decide) ?_
    exact mg559 0 (Or.inl rfl)
  · refine rb_iconst C dL_law_562 (v := 1) (by decide) ?_
    refine rb_goto C 567 dL_law_563 (by decide) ?_
    exact mg559 1 (Or.inr rfl)

theorem up2_same {f : rb_I} {r : rb_R} {k : Nat} {v : Int32} (h : f r k = v) : up2 f r k v = f := by
  rw [← h]
  funext x q
  unfold up2
  split
  · rename_i z
    rw [z.1, z.2]
  · rfl

set_option maxRecDepth 100000 in
set_option maxHeartbeats 4000000 in
theorem law_4x {Φ : rb_F} {cells slots : Nat} (C : rb_C Φ RL cL_law 54 15 568 734644 6897897) (hc : cells + 90 ≤ 734644) (hsl : slots + 2600 ≤ 6897897) {G : rb_G} {W M : rb_I} (hL : LI G W M) {S A R P t d : Nat} (hl : lx W M S A R P t d) (v u : Int32) (k n i j : Nat) (hk : k < 140) (hn : n < 6) (hi : i < S ∨ S = 0 ∧ i = 0) (hj : j < S ∨ S = 0 ∧ j = 0) (h9 : Nat) (bz : Int32) (h93 : h9 < 3) (hbh : bz = nI h9) (kk : ∀ G' W' M', lJ G' W' M' → rb_W Φ (cells + 90) (slots + 2600) 3288 (LVE k v u) [] (wI G' W')) : rb_W Φ cells slots 1033 [some (rbR (18, 0, 0)), some (rbR (0, 0, 0)), some (rbR (14, 0, 0)), some (rbR (14, 1, 0)), some (rbR (14, 2, 0)), some (rbR (14, 3, 0)), some (rbR (14, 4, 0)), some (rbR (14, 5, 0)), some (rbR (14, 6, 0)), some (rbR (14, 7, 0)), some (rbR (14, 8, 0)), some (rbR (14, 9, 0)), some (rbI (nI k)), some (rbI v), some (rbI u), some (rbI (nI n)), some (rbI (nI i)), some (rbI (nI j)), some (rbI 1), none, none, none, none, none, none, none, none, none, none, none, some (rbI (nI h9)), some (rbI bz), none, none, none, none, none, none, none, none, none, none, none, none, none, none, none, none, none, none, none, none, none, none] [] (wI G W) := by
  have hm := hL.1
  obtain ⟨hS6, hA10, hRP, hP58, hP2, hd64, htm⟩ := lr_b hl
  subst hbh
  refine rb_aload_n C dL_law_1033 rfl ?_
  refine rb_iload C dL_law_1034 rfl ?_
  refine rb_iload C dL_law_1036 rfl ?_
  refine rb_callSW C M_L_156 (fun l X => c_steerX l X G W M hL hl (h9 := h9) (by omega)) dL_law_1038 rfl rfl rfl (Nat.le_of_ble_eq_true rfl) ⟨(Nat.le_of_ble_eq_true rfl), (Nat.le_of_ble_eq_true rfl)⟩ (by omega) (by omega) (fun v G' hp => ?_)
  obtain ⟨rfl, G1, W1, e9, hL1, hw1⟩ := hp
  rw [e9]
  clear e9 G'
  have hl1 := lx_lw hl hw1
  have hm := hL1.1
  refine rb_iload C dL_law_1041 rfl ?_
  refine rb_iload C dL_law_1043 rfl ?_
  refine rb_icmp_ne C 1054 dL_law_1045 (by decide) (fun h9 => absurd (rfl) h9) (fun _ => ?_)
  refine rb_sipush C dL_law_1048 (v := (-7200)) (by decide) ?_
  refine rb_goto C 1061 dL_law_1051 (by decide) ?_
  refine rb_icmp_ne C 1068 dL_law_1061 (by decide) (fun h9 => absurd (rfl) h9) (fun _ => ?_)
  refine rb_iconst C dL_law_1064 (v := 1) (by decide) ?_
  refine rb_goto C 1069 dL_law_1065 (by decide) ?_
  refine rb_istore C dL_law_1069 (Nat.le_of_ble_eq_true rfl) rfl (Lv' := [_, _, _, _, _, _, _, _, _, _, _, _, _, _, _, _, _, _, _, _, _, _, _, _, _, _, _, _, _, _, _, _, _, _, _, _, _, _, _, _, _, _, _, _, _, _, _, _, _, _, _, _, _, _]) rfl ?_
  refine rb_aload_n C dL_law_1071 rfl ?_
  refine rb_bipush C dL_law_1072 (v := 6) (by decide) ?_
  refine rb_iload C dL_law_1074 rfl ?_
  refine rq_iadd C (z := (nI (6 + h9))) dL_law_1076 (nI_add 6 h9) ?_
  refine rb_iload C dL_law_1077 rfl ?_
  refine rb_iload C dL_law_1079 rfl ?_
  refine rb_icmp_ne C 1094 dL_law_1081 (by decide) (fun h9 => absurd (rfl) h9) (fun _ => ?_)
  refine rb_aload_n C dL_law_1084 rfl ?_
  refine rb_bipush C dL_law_1085 (v := 6) (by decide) ?_
  refine rb_iload C dL_law_1087 rfl ?_
  refine rq_iadd C (z := (nI (6 + h9))) dL_law_1089 (nI_add 6 h9) ?_
  refine rw_iald C (x := (M (14, 4, 0) h9)) 44 (6 + h9) dL_law_1090 rfl (hm 0 (by decide)) (vp_in_nI (show 6 + h9 < 44 by omega) (by decide)) (nI_clamp (show 6 + h9 < 2 ^ 31 by omega)) ((lr_N hl1 (n := h9) (by omega)).2.1) ?_
  refine rb_goto C 1096 dL_law_1091 (by decide) ?_
  refine rw_iast C 44 (6 + h9) dL_law_1096 rfl (hm 0 (by decide)) (vp_in_nI (show 6 + h9 < 44 by omega) (by decide)) (nI_clamp (show 6 + h9 < 2 ^ 31 by omega)) ?_
  have hl2 := lu_fav (lx_thr hl1 2) (j := h9) (by omega) (v := M (14, 4, 0) h9) (lr_N hl1 (n := h9) (by omega)).2.2.1
  have hL2 := LI_up hL1 0 (6 + h9) (M (14, 4, 0) h9)
  generalize up2 W1 (14, 0, 0) (6 + h9) (M (14, 4, 0) h9) = W2 at hl2 hL2 ⊢
  refine rb_goto C 3288 dL_law_1097 (by decide) ?_
  refine rb_W.unset 15 ?_
  refine rb_W.unset 16 ?_
  refine rb_W.unset 17 ?_
  refine rb_W.unset 30 ?_
  refine rb_W.unset 31 ?_
  exact rb_W.room (kk G1 W2 (up2 M (16, 0, 0) 0 2) ⟨hL2, _, _, _, _, _, _, (by rw [up2_same (by simp [up2])] at hl2; exact hl2)⟩) (by omega) (by omega)

set_option maxRecDepth 100000 in
set_option maxHeartbeats 4000000 in
theorem law_4y {Φ : rb_F} {cells slots : Nat} (C : rb_C Φ RL cL_law 54 15 568 734644 6897897) (hc : cells + 90 ≤ 734644) (hsl : slots + 2600 ≤ 6897897) {G : rb_G} {W M : rb_I} (hL : LI G W M) {S A R P t d : Nat} (hl : lx W M S A R P t d) (v u : Int32) (k n i j : Nat) (hk : k < 140) (hn : n < 6) (hi : i < S ∨ S = 0 ∧ i = 0) (hj : j < S ∨ S = 0 ∧ j = 0) (h9 : Nat) (bz : Int32) (h93 : h9 < 3) (hb6 : at6 bz) (hbh : ¬ bz = nI h9) (kk : ∀ G' W' M', lJ G' W' M' → rb_W Φ (cells + 90) (slots + 2600) 3288 (LVE k v u) [] (wI G' W')) : rb_W Φ cells slots 1033 [some (rbR (18, 0, 0)), some (rbR (0, 0, 0)), some (rbR (14, 0, 0)), some (rbR (14, 1, 0)), some (rbR (14, 2, 0)), some (rbR (14, 3, 0)), some (rbR (14, 4, 0)), some (rbR (14, 5, 0)), some (rbR (14, 6, 0)), some (rbR (14, 7, 0)), some (rbR (14, 8, 0)), some (rbR (14, 9, 0)), some (rbI (nI k)), some (rbI v), some (rbI u), some (rbI (nI n)), some (rbI (nI i)), some (rbI (nI j)), some (rbI 1), none, none, none, none, none, none, none, none, none, none, none, some (rbI (nI h9)), some (rbI bz), none, none, none, none, none, none, none, none, none, none, none, none, none, none, none, none, none, none, none, none, none, none] [] (wI G W) := by
  have hm := hL.1
  obtain ⟨hS6, hA10, hRP, hP58, hP2, hd64, htm⟩ := lr_b hl
  refine rb_aload_n C dL_law_1033 rfl ?_
  refine rb_iload C dL_law_1034 rfl ?_
  refine rb_iload C dL_law_1036 rfl ?_
  refine rb_callSW C M_L_156 (fun l X => c_steer l X G W M hL hl (h9 := h9) (by omega) (b := bz) hb6 hbh) dL_law_1038 rfl rfl rfl (Nat.le_of_ble_eq_true rfl) ⟨(Nat.le_of_ble_eq_true rfl), (Nat.le_of_ble_eq_true rfl)⟩ (by omega) (by omega) (fun v G' hp => ?_)
  obtain ⟨rfl, G1, W1, e9, hL1, hw1⟩ := hp
  rw [e9]
  clear e9 G'
  have hl1 := lx_lw hl hw1
  have hm := hL1.1
  refine rb_iload C dL_law_1041 rfl ?_
  refine rb_iload C dL_law_1043 rfl ?_
  refine rb_icmp_ne C 1054 dL_law_1045 (by decide) (fun _ => ?_) (fun h9 => absurd h9 (hbh))
  refine rb_aload_n C dL_law_1054 rfl ?_
  refine rb_bipush C dL_law_1055 (v := 6) (by decide) ?_
  refine rb_iload C dL_law_1057 rfl ?_
  refine rq_iadd C (z := (nI (6 + h9))) dL_law_1059 (nI_add 6 h9) ?_
  refine rw_iald C (x := (M (14, 4, 0) h9)) 44 (6 + h9) dL_law_1060 rfl (hm 0 (by decide)) (vp_in_nI (show 6 + h9 < 44 by omega) (by decide)) (nI_clamp (show 6 + h9 < 2 ^ 31 by omega)) ((lr_N hl1 (n := h9) (by omega)).2.1) ?_
  refine rb_icmp_ne C 1068 dL_law_1061 (by decide) (fun h9 => absurd (rfl) h9) (fun _ => ?_)
  refine rb_iconst C dL_law_1064 (v := 1) (by decide) ?_
  refine rb_goto C 1069 dL_law_1065 (by decide) ?_
  refine rb_istore C dL_law_1069 (Nat.le_of_ble_eq_true rfl) rfl (Lv' := [_, _, _, _, _, _, _, _, _, _, _, _, _, _, _, _, _, _, _, _, _, _, _, _, _, _, _, _, _, _, _, _, _, _, _, _, _, _, _, _, _, _, _, _, _, _, _, _, _, _, _, _, _, _]) rfl ?_
  refine rb_aload_n C dL_law_1071 rfl ?_
  refine rb_bipush C dL_law_1072 (v := 6) (by decide) ?_
  refine rb_iload C dL_law_1074 rfl ?_
  refine rq_iadd C (z := (nI (6 + h9))) dL_law_1076 (nI_add 6 h9) ?_
  refine rb_iload C dL_law_1077 rfl ?_
  refine rb_iload C dL_law_1079 rfl ?_
  refine rb_icmp_ne C 1094 dL_law_1081 (by decide) (fun _ => ?_) (fun h9 => absurd h9 (hbh))
  refine rb_iload C dL_law_1094 rfl ?_
  refine rw_iast C 44 (6 + h9) dL_law_1096 rfl (hm 0 (by decide)) (vp_in_nI (show 6 + h9 < 44 by omega) (by decide)) (nI_clamp (show 6 + h9 < 2 ^ 31 by omega)) ?_
  have hl2 := lu_fav (lx_thr hl1 0) (j := h9) (by omega) (v := bz) hb6
  have hL2 := LI_up hL1 0 (6 + h9) bz
  generalize up2 W1 (14, 0, 0) (6 + h9) bz = W2 at hl2 hL2 ⊢
  refine rb_goto C 3288 dL_law_1097 (by decide) ?_
  refine rb_W.unset 15 ?_
  refine rb_W.unset 16 ?_
  refine rb_W.unset 17 ?_
  refine rb_W.unset 30 ?_
  refine rb_W.unset 31 ?_
  exact rb_W.room (kk G1 W2 (up2 (up2 M (16, 0, 0) 0 0) (14, 4, 0) h9 bz) ⟨hL2, _, _, _, _, _, _, hl2⟩) (by omega) (by omega)

set_option maxRecDepth 100000 in
set_option maxHeartbeats 4000000 in
theorem law_4 {Φ : rb_F} {cells slots : Nat} (C : rb_C Φ RL cL_law 54 15 568 734644 6897897) (hc : cells + 90 ≤ 734644) (hsl : slots + 2600 ≤ 6897897) {G : rb_G} {W M : rb_I} (hL : LI G W M) {S A R P t d : Nat} (hl : lx W M S A R P t d) (v u : Int32) (k n i j : Nat) (hk : k < 140) (hn : n < 6) (hi : i < S ∨ S = 0 ∧ i = 0) (hj : j < S ∨ S = 0 ∧ j = 0) (kk : ∀ G' W' M', lJ G' W' M' → rb_W Φ (cells + 90) (slots + 2600) 3288 (LVE k v u) [] (wI G' W')) : rb_W Φ cells slots 1008 (LV0 k v u n i j) [] (wI G W) := by
  show rb_W Φ cells slots 1008 [some (rbR (18, 0, 0)), some (rbR (0, 0, 0)), some (rbR (14, 0, 0)), some (rbR (14, 1, 0)), some (rbR (14, 2, 0)), some (rbR (14, 3, 0)), some (rbR (14, 4, 0)), some (rbR (14, 5, 0)), some (rbR (14, 6, 0)), some (rbR (14, 7, 0)), some (rbR (14, 8, 0)), some (rbR (14, 9, 0)), some (rbI (nI k)), some (rbI v), some (rbI u), some (rbI (nI n)), some (rbI (nI i)), some (rbI (nI j)), some (rbI 1), none, none, none, none, none, none, none, none, none, none, none, none, none, none, none, none, none, none, none, none, none, none, none, none, none, none, none, none, none, none, none, none, none, none, none] [] (wI G W)
  have hm := hL.1
  obtain ⟨hS6, hA10, hRP, hP58, hP2, hd64, htm⟩ := lr_b hl
  refine rb_iload C dL_law_1008 rfl ?_
  refine rb_iconst C dL_law_1010 (v := 3) (by decide) ?_
  refine rb_callS C M_L_124 (fun l X => (k_L_low l X G W _ 3 (by decide) (by decide)).m) dL_law_1011 rfl rfl rfl (Nat.le_of_ble_eq_true rfl) ⟨(Nat.le_of_ble_eq_true rfl), (Nat.le_of_ble_eq_true rfl)⟩ (by omega) (by omega) (fun v G' hp => ?_) (fun _ _ hp => hp.elim)
  obtain ⟨h9, hh9, rfl, e9⟩ := hp
  rw [e9]
  clear e9 G'
  refine rb_istore C dL_law_1014 (Nat.le_of_ble_eq_true rfl) rfl (Lv' := [_, _, _, _, _, _, _, _, _, _, _, _, _, _, _, _, _, _, _, _, _, _, _, _, _, _, _, _, _, _, _, _, _, _, _, _, _, _, _, _, _, _, _, _, _, _, _, _, _, _, _, _, _, _]) rfl ?_
  refine rb_iload C dL_law_1016 rfl ?_
  refine rb_iconst C dL_law_1018 (v := 4) (by decide) ?_
  refine rq_ishr C (z := (u >>> ((4 : Int32) &&& 31))) dL_law_1019 rfl ?_
  refine rb_iconst C dL_law_1020 (v := 3) (by decide) ?_
  refine rq_iand C (z := ((u >>> ((4 : Int32) &&& 31)) &&& (3 : Int32))) dL_law_1021 rfl ?_
  have mg1022 : ∀ (bz : Int32) (hbz : bz = -1 ∨ bz = nI n), rb_W Φ (cells + 0) (slots + 0) 1031 [some (rbR (18, 0, 0)), some (rbR (0, 0, 0)), some (rbR (14, 0, 0)), some (rbR (14, 1, 0)), some (rbR (14, 2, 0)), some (rbR (14, 3, 0)), some (rbR (14, 4, 0)), some (rbR (14, 5, 0)), some (rbR (14, 6, 0)), some (rbR (14, 7, 0)), some (rbR (14, 8, 0)), some (rbR (14, 9, 0)), some (rbI (nI k)), some (rbI v), some (rbI u), some (rbI (nI n)), some (rbI (nI i)), some (rbI (nI j)), some (rbI 1), none, none, none, none, none, none, none, none, none, none, none, some (rbI (nI h9)), none, none, none, none, none, none, none, none, none, none, none, none, none, none, none, none, none, none, none, none, none, none, none] [rbI bz] (wI G W) := by
    intro bz hbz
    refine rb_istore C dL_law_1031 (Nat.le_of_ble_eq_true rfl) rfl (Lv' := [_, _, _, _, _, _, _, _, _, _, _, _, _, _, _, _, _, _, _, _, _, _, _, _, _, _, _, _, _, _, _, _, _, _, _, _, _, _, _, _, _, _, _, _, _, _, _, _, _, _, _, _, _, _]) rfl ?_
    rcases Classical.em (bz = nI h9) with hbh | hbh
    · exact law_4x C hc hsl hL hl v u k n i j hk hn hi hj h9 bz (by omega) hbh kk
    · exact law_4y C hc hsl hL hl v u k n i j hk hn hi hj h9 bz (by omega) (hbz.elim Or.inl (fun q => Or.inr (by rw [q]; exact vp_in_nI hn (by decide)))) hbh kk
    
  refine rb_if_ne C 1029 dL_law_1022 (by decide) (fun h1022 => ?_) (fun h1022 => ?_)
  · refine rb_iload C dL_law_1029 rfl ?_
    exact mg1022 (nI n) (Or.inr rfl)
  · refine rb_iconst C dL_law_1025 (v := (-1)) (by decide) ?_
    refine rb_goto C 1031 dL_law_1026 (by decide) ?_
    exact mg1022 (-1) (Or.inl rfl)

