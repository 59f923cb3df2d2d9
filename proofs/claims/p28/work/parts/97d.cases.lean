set_option maxRecDepth 100000 in
set_option maxHeartbeats 4000000 in
theorem law_17w00 {Φ : rb_F} {cells slots : Nat} (C : rb_C Φ RL cL_law 54 15 568 734644 6897897) (hc : cells + 12 ≤ 734644) (hsl : slots + 72 ≤ 6897897) {G : rb_G} {W M M9 : rb_I} (hL : LI G W M9) {S A R P t d Q : Nat} (hl : ly W M S A R P t d Q) (v u m21 : Int32) (k n i j s pay sc it f1 f2 f3 one two ho aa : Nat) (hs : s < S) (hP9 : P ≤ 57) (hp : pay ≤ 15000) (hab : m_isAbroad M (nI s) = 0) (hit : 0 < it ∧ it ≤ 600) (kk : ∀ W', LI G W' M9 → ly W' (m_records (m_pays M (nI s) (nI pay)) (nI s) (nI it)) S A (R + 0) (P + 1) t d Q → rb_W Φ cells slots 2595 [some (rbR (18, 0, 0)), some (rbR (0, 0, 0)), some (rbR (14, 0, 0)), some (rbR (14, 1, 0)), some (rbR (14, 2, 0)), some (rbR (14, 3, 0)), some (rbR (14, 4, 0)), some (rbR (14, 5, 0)), some (rbR (14, 6, 0)), some (rbR (14, 7, 0)), some (rbR (14, 8, 0)), some (rbR (14, 9, 0)), some (rbI (nI k)), some (rbI v), some (rbI u), some (rbI (nI n)), some (rbI (nI i)), some (rbI (nI j)), some (rbI 1), none, none, none, none, none, none, none, none, none, none, none, none, none, none, none, none, none, some (rbI (nI sc)), some (rbI (nI it)), some (rbI m21), some (rbI (nI f1)), some (rbI (nI f2)), some (rbI (nI pay)), some (rbI (nI two)), some (rbI (nI f3)), some (rbI 0), some (rbI (nI s)), some (rbI 0), none, none, none, none, none, none, none] [] (wI G W')) : rb_W Φ cells slots 2463 [some (rbR (18, 0, 0)), some (rbR (0, 0, 0)), some (rbR (14, 0, 0)), some (rbR (14, 1, 0)), some (rbR (14, 2, 0)), some (rbR (14, 3, 0)), some (rbR (14, 4, 0)), some (rbR (14, 5, 0)), some (rbR (14, 6, 0)), some (rbR (14, 7, 0)), some (rbR (14, 8, 0)), some (rbR (14, 9, 0)), some (rbI (nI k)), some (rbI v), some (rbI u), some (rbI (nI n)), some (rbI (nI i)), some (rbI (nI j)), some (rbI 1), none, none, none, none, none, none, none, none, none, none, none, none, none, none, none, none, none, some (rbI (nI sc)), some (rbI (nI it)), some (rbI m21), some (rbI (nI f1)), some (rbI (nI f2)), some (rbI (nI pay)), some (rbI (nI two)), some (rbI (nI f3)), some (rbI 0), some (rbI (nI s)), some (rbI 0), none, none, none, none, none, none, none] [] (wI G W) := by
  have hm := hL.1
  obtain ⟨hS6, hA10, hRP, hP58, hd64, htm⟩ := ly_b hl
  refine rb_aload C dL_law_2463 rfl ?_
  refine rb_aload_n C dL_law_2465 rfl ?_
  refine rb_iconst C dL_law_2466 (v := 4) (by decide) ?_
  refine rw_iald C (x := (nI P)) 44 (4) dL_law_2467 rfl (hm 0 (by decide)) (show ¬ (((4 : Int32)) < 0 ∨ 44 ≤ (4 : Int32).toNatClampNeg) by decide) rfl (hl.1.1.2.2.2.2.1) ?_
  refine rb_iload C dL_law_2468 rfl ?_
  refine rb_iload C dL_law_2470 rfl ?_
  refine rb_if_eq C 2480 dL_law_2472 (by decide) (fun _ => ?_) (fun h9 => absurd (by decide) h9)
  refine rb_iconst C dL_law_2480 (v := 0) (by decide) ?_
  refine rq_ior C (z := (nI (s + 8 * 0))) dL_law_2481 (by rw [or_0]; rfl) ?_
  refine rb_iload C dL_law_2482 rfl ?_
  refine rb_if_ne C 2492 dL_law_2484 (by decide) (fun h9 => absurd (by decide) h9) (fun _ => ?_)
  refine rb_iload C dL_law_2487 rfl ?_
  refine rb_goto C 2494 dL_law_2489 (by decide) ?_
  refine rb_iconst C dL_law_2494 (v := 4) (by decide) ?_
  refine rq_ishl C (z := (nI (pay * 2 ^ 4))) dL_law_2495 (bs_shl (a := pay) (n := 4) (by omega) (by omega)) ?_
  refine rq_ior C (z := (nI (s + 8 * 0 + 16 * pay))) dL_law_2496 (by rw [bs_or, or_pay (by omega)]) ?_
  refine rw_iast C 60 (P) dL_law_2497 rfl (hm 7 (by decide)) (vp_in_nI (show P < 60 by omega) (by decide)) (nI_clamp (show P < 2 ^ 31 by omega)) ?_
  refine rb_aload C dL_law_2498 rfl ?_
  refine rb_aload_n C dL_law_2500 rfl ?_
  refine rb_iconst C dL_law_2501 (v := 4) (by decide) ?_
  refine rb_dup2 C dL_law_2502 rfl rfl ?_
  refine rw_iald C (x := (nI P)) 44 (4) dL_law_2503 rfl (hm 0 (by decide)) (show ¬ (((4 : Int32)) < 0 ∨ 44 ≤ (4 : Int32).toNatClampNeg) by decide) rfl ((up2_n _ _ _ _ (by simp)).trans hl.1.1.2.2.2.2.1) ?_
  refine rb_dup_x2 C dL_law_2504 rfl rfl rfl ?_
  refine rb_iconst C dL_law_2505 (v := 1) (by decide) ?_
  refine rq_iadd C (z := (nI (P + 1))) dL_law_2506 (nI_add P 1) ?_
  refine rw_iast C 44 (4) dL_law_2507 rfl (hm 0 (by decide)) (show ¬ (((4 : Int32)) < 0 ∨ 44 ≤ (4 : Int32).toNatClampNeg) by decide) rfl ?_
  refine rb_aload_n C dL_law_2508 rfl ?_
  refine rb_iconst C dL_law_2509 (v := 0) (by decide) ?_
  refine rw_iald C (x := (nI t)) 44 (0) dL_law_2510 rfl (hm 0 (by decide)) (show ¬ (((0 : Int32)) < 0 ∨ 44 ≤ (0 : Int32).toNatClampNeg) by decide) rfl ((up2_n _ _ _ _ (by simp)).trans ((up2_n _ _ _ _ (by simp)).trans hl.1.1.1)) ?_
  refine rw_iast C 60 (P) dL_law_2511 rfl (hm 8 (by decide)) (vp_in_nI (show P < 60 by omega) (by decide)) (nI_clamp (show P < 2 ^ 31 by omega)) ?_
  have hl2 : ly (up2 (up2 (up2 W (14, 7, 0) (P) (nI (s + 8 * 0 + 16 * pay))) (14, 0, 0) (4) (nI (P + 1))) (14, 8, 0) (P) (nI t)) (m_pays M (nI s) (nI pay)) S A R (P + 1) t d Q := ly_pay0 hl hs hP9 hp hab
  have hL2 := LI_up (LI_up (LI_up hL 7 P (nI (s + 8 * 0 + 16 * pay))) 0 4 (nI (P + 1))) 8 P (nI t)
  clear hl hL
  generalize (up2 (up2 (up2 W (14, 7, 0) (P) (nI (s + 8 * 0 + 16 * pay))) (14, 0, 0) (4) (nI (P + 1))) (14, 8, 0) (P) (nI t)) = W2 at hl2 hL2 ⊢
  refine rb_iload C dL_law_2512 rfl ?_
  refine rb_if_ne C 2520 dL_law_2514 (by decide) (fun h9 => absurd (by decide) h9) (fun _ => ?_)
  refine rb_goto C 2595 dL_law_2517 (by decide) ?_
  exact kk _ hL2 (by rw [rec_0 (by rw [abr_o (fun k => p_o 16 k (by decide)) (fun k => p_o 19 k (by decide))]; exact hab)]; exact hl2)

set_option maxRecDepth 100000 in
set_option maxHeartbeats 4000000 in
theorem law_17w01 {Φ : rb_F} {cells slots : Nat} (C : rb_C Φ RL cL_law 54 15 568 734644 6897897) (hc : cells + 12 ≤ 734644) (hsl : slots + 72 ≤ 6897897) {G : rb_G} {W M M9 : rb_I} (hL : LI G W M9) {S A R P t d Q : Nat} (hl : ly W M S A R P t d Q) (v u m21 : Int32) (k n i j s pay sc it f1 f2 f3 one two ho aa : Nat) (hs : s < S) (hP9 : P ≤ 57) (hp : pay ≤ 15000) (hab : ¬ m_isAbroad M (nI s) = 0) (e16 : M (14, 16, 0) s = nI ho) (e19 : M (14, 19, 0) s = nI aa) (hho : ho < 6) (haa : aa < 6) (hit : 0 < it ∧ it ≤ 600) (kk : ∀ W', LI G W' M9 → ly W' (m_records (m_pays M (nI s) (nI pay)) (nI s) (nI it)) S A (R + 1) (P + 1) t d Q → rb_W Φ cells slots 2595 [some (rbR (18, 0, 0)), some (rbR (0, 0, 0)), some (rbR (14, 0, 0)), some (rbR (14, 1, 0)), some (rbR (14, 2, 0)), some (rbR (14, 3, 0)), some (rbR (14, 4, 0)), some (rbR (14, 5, 0)), some (rbR (14, 6, 0)), some (rbR (14, 7, 0)), some (rbR (14, 8, 0)), some (rbR (14, 9, 0)), some (rbI (nI k)), some (rbI v), some (rbI u), some (rbI (nI n)), some (rbI (nI i)), some (rbI (nI j)), some (rbI 1), none, none, none, none, none, none, none, none, none, none, none, none, none, none, none, none, none, some (rbI (nI sc)), some (rbI (nI it)), some (rbI m21), some (rbI (nI f1)), some (rbI (nI f2)), some (rbI (nI pay)), some (rbI (nI two)), some (rbI (nI f3)), some (rbI 0), some (rbI (nI s)), some (rbI 1), none, none, none, none, none, none, none] [] (wI G W')) : rb_W Φ cells slots 2463 [some (rbR (18, 0, 0)), some (rbR (0, 0, 0)), some (rbR (14, 0, 0)), some (rbR (14, 1, 0)), some (rbR (14, 2, 0)), some (rbR (14, 3, 0)), some (rbR (14, 4, 0)), some (rbR (14, 5, 0)), some (rbR (14, 6, 0)), some (rbR (14, 7, 0)), some (rbR (14, 8, 0)), some (rbR (14, 9, 0)), some (rbI (nI k)), some (rbI v), some (rbI u), some (rbI (nI n)), some (rbI (nI i)), some (rbI (nI j)), some (rbI 1), none, none, none, none, none, none, none, none, none, none, none, none, none, none, none, none, none, some (rbI (nI sc)), some (rbI (nI it)), some (rbI m21), some (rbI (nI f1)), some (rbI (nI f2)), some (rbI (nI pay)), some (rbI (nI two)), some (rbI (nI f3)), some (rbI 0), some (rbI (nI s)), some (rbI 1), none, none, none, none, none, none, none] [] (wI G W) := by
  have hm := hL.1
  obtain ⟨hS6, hA10, hRP, hP58, hd64, htm⟩ := ly_b hl
  refine rb_aload C dL_law_2463 rfl ?_
  refine rb_aload_n C dL_law_2465 rfl ?_
  refine rb_iconst C dL_law_2466 (v := 4) (by decide) ?_
  refine rw_iald C (x := (nI P)) 44 (4) dL_law_2467 rfl (hm 0 (by decide)) (show ¬ (((4 : Int32)) < 0 ∨ 44 ≤ (4 : Int32).toNatClampNeg) by decide) rfl (hl.1.1.2.2.2.2.1) ?_
  refine rb_iload C dL_law_2468 rfl ?_
  refine rb_iload C dL_law_2470 rfl ?_
  refine rb_if_eq C 2480 dL_law_2472 (by decide) (fun h9 => absurd h9 (by decide)) (fun _ => ?_)
  refine rb_bipush C dL_law_2475 (v := 8) (by decide) ?_
  refine rb_goto C 2481 dL_law_2477 (by decide) ?_
  refine rq_ior C (z := (nI (s + 8 * 1))) dL_law_2481 (or_far (by omega)) ?_
  refine rb_iload C dL_law_2482 rfl ?_
  refine rb_if_ne C 2492 dL_law_2484 (by decide) (fun h9 => absurd (by decide) h9) (fun _ => ?_)
  refine rb_iload C dL_law_2487 rfl ?_
  refine rb_goto C 2494 dL_law_2489 (by decide) ?_
  refine rb_iconst C dL_law_2494 (v := 4) (by decide) ?_
  refine rq_ishl C (z := (nI (pay * 2 ^ 4))) dL_law_2495 (bs_shl (a := pay) (n := 4) (by omega) (by omega)) ?_
  refine rq_ior C (z := (nI (s + 8 * 1 + 16 * pay))) dL_law_2496 (by rw [bs_or, or_pay (by omega)]) ?_
  refine rw_iast C 60 (P) dL_law_2497 rfl (hm 7 (by decide)) (vp_in_nI (show P < 60 by omega) (by decide)) (nI_clamp (show P < 2 ^ 31 by omega)) ?_
  refine rb_aload C dL_law_2498 rfl ?_
  refine rb_aload_n C dL_law_2500 rfl ?_
  refine rb_iconst C dL_law_2501 (v := 4) (by decide) ?_
  refine rb_dup2 C dL_law_2502 rfl rfl ?_
  refine rw_iald C (x := (nI P)) 44 (4) dL_law_2503 rfl (hm 0 (by decide)) (show ¬ (((4 : Int32)) < 0 ∨ 44 ≤ (4 : Int32).toNatClampNeg) by decide) rfl ((up2_n _ _ _ _ (by simp)).trans hl.1.1.2.2.2.2.1) ?_
  refine rb_dup_x2 C dL_law_2504 rfl rfl rfl ?_
  refine rb_iconst C dL_law_2505 (v := 1) (by decide) ?_
  refine rq_iadd C (z := (nI (P + 1))) dL_law_2506 (nI_add P 1) ?_
  refine rw_iast C 44 (4) dL_law_2507 rfl (hm 0 (by decide)) (show ¬ (((4 : Int32)) < 0 ∨ 44 ≤ (4 : Int32).toNatClampNeg) by decide) rfl ?_
  refine rb_aload_n C dL_law_2508 rfl ?_
  refine rb_iconst C dL_law_2509 (v := 0) (by decide) ?_
  refine rw_iald C (x := (nI t)) 44 (0) dL_law_2510 rfl (hm 0 (by decide)) (show ¬ (((0 : Int32)) < 0 ∨ 44 ≤ (0 : Int32).toNatClampNeg) by decide) rfl ((up2_n _ _ _ _ (by simp)).trans ((up2_n _ _ _ _ (by simp)).trans hl.1.1.1)) ?_
  refine rw_iast C 60 (P) dL_law_2511 rfl (hm 8 (by decide)) (vp_in_nI (show P < 60 by omega) (by decide)) (nI_clamp (show P < 2 ^ 31 by omega)) ?_
  have hl2 : ly (up2 (up2 (up2 W (14, 7, 0) (P) (nI (s + 8 * 1 + 16 * pay))) (14, 0, 0) (4) (nI (P + 1))) (14, 8, 0) (P) (nI t)) (m_pays M (nI s) (nI pay)) S A R (P + 1) t d Q := ly_pay1 hl hs hP9 hp hab
  have hL2 := LI_up (LI_up (LI_up hL 7 P (nI (s + 8 * 1 + 16 * pay))) 0 4 (nI (P + 1))) 8 P (nI t)
  clear hl hL
  generalize (up2 (up2 (up2 W (14, 7, 0) (P) (nI (s + 8 * 1 + 16 * pay))) (14, 0, 0) (4) (nI (P + 1))) (14, 8, 0) (P) (nI t)) = W2 at hl2 hL2 ⊢
  refine rb_iload C dL_law_2512 rfl ?_
  have x3 := (ly_x3 hl2 hs).trans ((p_o 19 s (by decide)).trans e19)
  have x0 := (ly_x0 hl2 hs).trans ((p_o 16 s (by decide)).trans e16)
  obtain ⟨by1, hby, hag⟩ := agr_v hl2 (nI ho) (nI aa)
  have hm2 := hL2.1
  refine rb_if_ne C 2520 dL_law_2514 (by decide) (fun _ => ?_) (fun h9 => absurd h9 (by decide))
  refine rb_aload C dL_law_2520 rfl ?_
  refine rb_aload_n C dL_law_2522 rfl ?_
  refine rb_iconst C dL_law_2523 (v := 3) (by decide) ?_
  refine rw_iald C (x := (nI R)) 44 (3) dL_law_2524 rfl (hm 0 (by decide)) (show ¬ (((3 : Int32)) < 0 ∨ 44 ≤ (3 : Int32).toNatClampNeg) by decide) rfl (hl2.1.1.2.2.2.1) ?_
  refine rb_aload_n C dL_law_2525 rfl ?_
  refine rb_bipush C dL_law_2526 (v := 8) (by decide) ?_
  refine rb_iload C dL_law_2528 rfl ?_
  refine rq_imul C (z := (nI (8 * s))) dL_law_2530 (pk_mul 8 s) ?_
  refine rb_iconst C dL_law_2531 (v := 3) (by decide) ?_
  refine rq_iadd C (z := (nI (8 * s + 3))) dL_law_2532 (nI_add (8 * s) 3) ?_
  refine rw_iald C (x := (nI aa)) 48 (8 * s + 3) dL_law_2533 rfl (hm 1 (by decide)) (vp_in_nI (show 8 * s + 3 < 48 by omega) (by decide)) (nI_clamp (show 8 * s + 3 < 2 ^ 31 by omega)) (x3) ?_
  refine rb_aload_n C dL_law_2534 rfl ?_
  refine rb_bipush C dL_law_2535 (v := 8) (by decide) ?_
  refine rb_iload C dL_law_2537 rfl ?_
  refine rq_imul C (z := (nI (8 * s))) dL_law_2539 (pk_mul 8 s) ?_
  refine rw_iald C (x := (nI ho)) 48 (8 * s) dL_law_2540 rfl (hm 1 (by decide)) (vp_in_nI (show 8 * s < 48 by omega) (by decide)) (nI_clamp (show 8 * s < 2 ^ 31 by omega)) (x0) ?_
  refine rb_iconst C dL_law_2541 (v := 3) (by decide) ?_
  refine rq_ishl C (z := (nI (ho * 2 ^ 3))) dL_law_2542 (bs_shl (a := ho) (n := 3) (by omega) (by omega)) ?_
  refine rq_ior C (z := (nI (aa + 8 * ho))) dL_law_2543 (or_vh (by omega)) ?_
  refine rb_aload_n C dL_law_2544 rfl ?_
  refine rb_bipush C dL_law_2545 (v := 8) (by decide) ?_
  refine rb_iload C dL_law_2547 rfl ?_
  refine rq_imul C (z := (nI (8 * s))) dL_law_2549 (pk_mul 8 s) ?_
  refine rw_iald C (x := (nI ho)) 48 (8 * s) dL_law_2550 rfl (hm 1 (by decide)) (vp_in_nI (show 8 * s < 48 by omega) (by decide)) (nI_clamp (show 8 * s < 2 ^ 31 by omega)) (x0) ?_
  refine rb_aload_n C dL_law_2551 rfl ?_
  refine rb_bipush C dL_law_2552 (v := 8) (by decide) ?_
  refine rb_iload C dL_law_2554 rfl ?_
  refine rq_imul C (z := (nI (8 * s))) dL_law_2556 (pk_mul 8 s) ?_
  refine rb_iconst C dL_law_2557 (v := 3) (by decide) ?_
  refine rq_iadd C (z := (nI (8 * s + 3))) dL_law_2558 (nI_add (8 * s) 3) ?_
  refine rw_iald C (x := (nI aa)) 48 (8 * s + 3) dL_law_2559 rfl (hm 1 (by decide)) (vp_in_nI (show 8 * s + 3 < 48 by omega) (by decide)) (nI_clamp (show 8 * s + 3 < 2 ^ 31 by omega)) (x3) ?_
  refine rb_aload C dL_law_2560 rfl ?_
  refine rb_aload_n C dL_law_2562 rfl ?_
  refine rb_callS C M_L_101 (fun l X => (k_L_holds2 l X G W2 _ hm2 hl2 ho aa hho haa).m) dL_law_2563 rfl rfl rfl (Nat.le_of_ble_eq_true rfl) ⟨(Nat.le_of_ble_eq_true rfl), (Nat.le_of_ble_eq_true rfl)⟩ (by omega) (by omega) (fun v G' hp => ?_) (fun _ _ hp => hp.elim)
  obtain ⟨rfl, e9⟩ := hp
  rw [e9]
  clear e9 G'
  rw [hag]
  refine rb_iconst C dL_law_2566 (v := 1) (by decide) ?_
  refine rq_iadd C (z := (nI by1)) dL_law_2567 (by_1 by1) ?_
  refine rb_bipush C dL_law_2568 (v := 13) (by decide) ?_
  refine rq_ishl C (z := (nI (by1 * 2 ^ 13))) dL_law_2570 (bs_shl (a := by1) (n := 13) (by omega) (by omega)) ?_
  refine rq_ior C (z := (nI (aa + 8 * ho + 8192 * by1))) dL_law_2571 (by rw [bs_or, or_by (by omega)]) ?_
  refine rw_iast C 60 (R) dL_law_2572 rfl (hm 4 (by decide)) (vp_in_nI (show R < 60 by omega) (by decide)) (nI_clamp (show R < 2 ^ 31 by omega)) ?_
  refine rb_aload C dL_law_2573 rfl ?_
  refine rb_aload_n C dL_law_2575 rfl ?_
  refine rb_iconst C dL_law_2576 (v := 3) (by decide) ?_
  refine rw_iald C (x := (nI R)) 44 (3) dL_law_2577 rfl (hm 0 (by decide)) (show ¬ (((3 : Int32)) < 0 ∨ 44 ≤ (3 : Int32).toNatClampNeg) by decide) rfl ((up2_n _ _ _ _ (by simp)).trans hl2.1.1.2.2.2.1) ?_
  refine rb_iload C dL_law_2578 rfl ?_
  refine rw_iast C 60 (R) dL_law_2580 rfl (hm 5 (by decide)) (vp_in_nI (show R < 60 by omega) (by decide)) (nI_clamp (show R < 2 ^ 31 by omega)) ?_
  refine rb_aload C dL_law_2581 rfl ?_
  refine rb_aload_n C dL_law_2583 rfl ?_
  refine rb_iconst C dL_law_2584 (v := 3) (by decide) ?_
  refine rb_dup2 C dL_law_2585 rfl rfl ?_
  refine rw_iald C (x := (nI R)) 44 (3) dL_law_2586 rfl (hm 0 (by decide)) (show ¬ (((3 : Int32)) < 0 ∨ 44 ≤ (3 : Int32).toNatClampNeg) by decide) rfl ((up2_n _ _ _ _ (by simp)).trans ((up2_n _ _ _ _ (by simp)).trans hl2.1.1.2.2.2.1)) ?_
  refine rb_dup_x2 C dL_law_2587 rfl rfl rfl ?_
  refine rb_iconst C dL_law_2588 (v := 1) (by decide) ?_
  refine rq_iadd C (z := (nI (R + 1))) dL_law_2589 (nI_add R 1) ?_
  refine rw_iast C 44 (3) dL_law_2590 rfl (hm 0 (by decide)) (show ¬ (((3 : Int32)) < 0 ∨ 44 ≤ (3 : Int32).toNatClampNeg) by decide) rfl ?_
  refine rb_aload_n C dL_law_2591 rfl ?_
  refine rb_iconst C dL_law_2592 (v := 0) (by decide) ?_
  refine rw_iald C (x := (nI t)) 44 (0) dL_law_2593 rfl (hm 0 (by decide)) (show ¬ (((0 : Int32)) < 0 ∨ 44 ≤ (0 : Int32).toNatClampNeg) by decide) rfl ((up2_n _ _ _ _ (by simp)).trans ((up2_n _ _ _ _ (by simp)).trans ((up2_n _ _ _ _ (by simp)).trans hl2.1.1.1))) ?_
  refine rw_iast C 60 (R) dL_law_2594 rfl (hm 6 (by decide)) (vp_in_nI (show R < 60 by omega) (by decide)) (nI_clamp (show R < 2 ^ 31 by omega)) ?_
  exact kk _ (LI_up (LI_up (LI_up (LI_up hL2 4 R _) 5 R _) 0 3 _) 6 R _) (ly_rec hl2 hs (by omega) ((p_o 16 s (by decide)).trans e16) ((p_o 19 s (by decide)).trans e19) hho haa (by rw [abr_o (fun k => p_o 16 k (by decide)) (fun k => p_o 19 k (by decide))]; exact hab) hit hby hag)

set_option maxRecDepth 100000 in
set_option maxHeartbeats 4000000 in
theorem law_17w10 {Φ : rb_F} {cells slots : Nat} (C : rb_C Φ RL cL_law 54 15 568 734644 6897897) (hc : cells + 12 ≤ 734644) (hsl : slots + 72 ≤ 6897897) {G : rb_G} {W M M9 : rb_I} (hL : LI G W M9) {S A R P t d Q : Nat} (hl : ly W M S A R P t d Q) (v u m21 : Int32) (k n i j s pay sc it f1 f2 f3 one two ho aa : Nat) (hs : s < S) (hP9 : P ≤ 57) (hp : pay ≤ 15000) (hab : m_isAbroad M (nI s) = 0) (hit : 0 < it ∧ it ≤ 600) (kk : ∀ W', LI G W' M9 → ly W' (m_records (m_pays M (nI s) (nI pay)) (nI s) (nI it)) S A (R + 0) (P + 1) t d Q → rb_W Φ cells slots 2595 [some (rbR (18, 0, 0)), some (rbR (0, 0, 0)), some (rbR (14, 0, 0)), some (rbR (14, 1, 0)), some (rbR (14, 2, 0)), some (rbR (14, 3, 0)), some (rbR (14, 4, 0)), some (rbR (14, 5, 0)), some (rbR (14, 6, 0)), some (rbR (14, 7, 0)), some (rbR (14, 8, 0)), some (rbR (14, 9, 0)), some (rbI (nI k)), some (rbI v), some (rbI u), some (rbI (nI n)), some (rbI (nI i)), some (rbI (nI j)), some (rbI 1), none, none, none, none, none, none, none, none, none, none, none, none, none, none, none, none, none, some (rbI (nI sc)), some (rbI (nI it)), some (rbI m21), some (rbI (nI f1)), some (rbI (nI f2)), some (rbI (nI one)), some (rbI (nI pay)), some (rbI (nI f3)), some (rbI 1), some (rbI (nI s)), some (rbI 0), none, none, none, none, none, none, none] [] (wI G W')) : rb_W Φ cells slots 2463 [some (rbR (18, 0, 0)), some (rbR (0, 0, 0)), some (rbR (14, 0, 0)), some (rbR (14, 1, 0)), some (rbR (14, 2, 0)), some (rbR (14, 3, 0)), some (rbR (14, 4, 0)), some (rbR (14, 5, 0)), some (rbR (14, 6, 0)), some (rbR (14, 7, 0)), some (rbR (14, 8, 0)), some (rbR (14, 9, 0)), some (rbI (nI k)), some (rbI v), some (rbI u), some (rbI (nI n)), some (rbI (nI i)), some (rbI (nI j)), some (rbI 1), none, none, none, none, none, none, none, none, none, none, none, none, none, none, none, none, none, some (rbI (nI sc)), some (rbI (nI it)), some (rbI m21), some (rbI (nI f1)), some (rbI (nI f2)), some (rbI (nI one)), some (rbI (nI pay)), some (rbI (nI f3)), some (rbI 1), some (rbI (nI s)), some (rbI 0), none, none, none, none, none, none, none] [] (wI G W) := by
  have hm := hL.1
  obtain ⟨hS6, hA10, hRP, hP58, hd64, htm⟩ := ly_b hl
  refine rb_aload C dL_law_2463 rfl ?_
  refine rb_aload_n C dL_law_2465 rfl ?_
  refine rb_iconst C dL_law_2466 (v := 4) (by decide) ?_
  refine rw_iald C (x := (nI P)) 44 (4) dL_law_2467 rfl (hm 0 (by decide)) (show ¬ (((4 : Int32)) < 0 ∨ 44 ≤ (4 : Int32).toNatClampNeg) by decide) rfl (hl.1.1.2.2.2.2.1) ?_
  refine rb_iload C dL_law_2468 rfl ?_
  refine rb_iload C dL_law_2470 rfl ?_
  refine rb_if_eq C 2480 dL_law_2472 (by decide) (fun _ => ?_) (fun h9 => absurd (by decide) h9)
  refine rb_iconst C dL_law_2480 (v := 0) (by decide) ?_
  refine rq_ior C (z := (nI (s + 8 * 0))) dL_law_2481 (by rw [or_0]; rfl) ?_
  refine rb_iload C dL_law_2482 rfl ?_
  refine rb_if_ne C 2492 dL_law_2484 (by decide) (fun _ => ?_) (fun h9 => absurd h9 (by decide))
  refine rb_iload C dL_law_2492 rfl ?_
  refine rb_iconst C dL_law_2494 (v := 4) (by decide) ?_
  refine rq_ishl C (z := (nI (pay * 2 ^ 4))) dL_law_2495 (bs_shl (a := pay) (n := 4) (by omega) (by omega)) ?_
  refine rq_ior C (z := (nI (s + 8 * 0 + 16 * pay))) dL_law_2496 (by rw [bs_or, or_pay (by omega)]) ?_
  refine rw_iast C 60 (P) dL_law_2497 rfl (hm 7 (by decide)) (vp_in_nI (show P < 60 by omega) (by decide)) (nI_clamp (show P < 2 ^ 31 by omega)) ?_
  refine rb_aload C dL_law_2498 rfl ?_
  refine rb_aload_n C dL_law_2500 rfl ?_
  refine rb_iconst C dL_law_2501 (v := 4) (by decide) ?_
  refine rb_dup2 C dL_law_2502 rfl rfl ?_
  refine rw_iald C (x := (nI P)) 44 (4) dL_law_2503 rfl (hm 0 (by decide)) (show ¬ (((4 : Int32)) < 0 ∨ 44 ≤ (4 : Int32).toNatClampNeg) by decide) rfl ((up2_n _ _ _ _ (by simp)).trans hl.1.1.2.2.2.2.1) ?_
  refine rb_dup_x2 C dL_law_2504 rfl rfl rfl ?_
  refine rb_iconst C dL_law_2505 (v := 1) (by decide) ?_
  refine rq_iadd C (z := (nI (P + 1))) dL_law_2506 (nI_add P 1) ?_
  refine rw_iast C 44 (4) dL_law_2507 rfl (hm 0 (by decide)) (show ¬ (((4 : Int32)) < 0 ∨ 44 ≤ (4 : Int32).toNatClampNeg) by decide) rfl ?_
  refine rb_aload_n C dL_law_2508 rfl ?_
  refine rb_iconst C dL_law_2509 (v := 0) (by decide) ?_
  refine rw_iald C (x := (nI t)) 44 (0) dL_law_2510 rfl (hm 0 (by decide)) (show ¬ (((0 : Int32)) < 0 ∨ 44 ≤ (0 : Int32).toNatClampNeg) by decide) rfl ((up2_n _ _ _ _ (by simp)).trans ((up2_n _ _ _ _ (by simp)).trans hl.1.1.1)) ?_
  refine rw_iast C 60 (P) dL_law_2511 rfl (hm 8 (by decide)) (vp_in_nI (show P < 60 by omega) (by decide)) (nI_clamp (show P < 2 ^ 31 by omega)) ?_
  have hl2 : ly (up2 (up2 (up2 W (14, 7, 0) (P) (nI (s + 8 * 0 + 16 * pay))) (14, 0, 0) (4) (nI (P + 1))) (14, 8, 0) (P) (nI t)) (m_pays M (nI s) (nI pay)) S A R (P + 1) t d Q := ly_pay0 hl hs hP9 hp hab
  have hL2 := LI_up (LI_up (LI_up hL 7 P (nI (s + 8 * 0 + 16 * pay))) 0 4 (nI (P + 1))) 8 P (nI t)
  clear hl hL
  generalize (up2 (up2 (up2 W (14, 7, 0) (P) (nI (s + 8 * 0 + 16 * pay))) (14, 0, 0) (4) (nI (P + 1))) (14, 8, 0) (P) (nI t)) = W2 at hl2 hL2 ⊢
  refine rb_iload C dL_law_2512 rfl ?_
  refine rb_if_ne C 2520 dL_law_2514 (by decide) (fun h9 => absurd (by decide) h9) (fun _ => ?_)
  refine rb_goto C 2595 dL_law_2517 (by decide) ?_
  exact kk _ hL2 (by rw [rec_0 (by rw [abr_o (fun k => p_o 16 k (by decide)) (fun k => p_o 19 k (by decide))]; exact hab)]; exact hl2)

set_option maxRecDepth 100000 in
set_option maxHeartbeats 4000000 in
theorem law_17w11 {Φ : rb_F} {cells slots : Nat} (C : rb_C Φ RL cL_law 54 15 568 734644 6897897) (hc : cells + 12 ≤ 734644) (hsl : slots + 72 ≤ 6897897) {G : rb_G} {W M M9 : rb_I} (hL : LI G W M9) {S A R P t d Q : Nat} (hl : ly W M S A R P t d Q) (v u m21 : Int32) (k n i j s pay sc it f1 f2 f3 one two ho aa : Nat) (hs : s < S) (hP9 : P ≤ 57) (hp : pay ≤ 15000) (hab : ¬ m_isAbroad M (nI s) = 0) (e16 : M (14, 16, 0) s = nI ho) (e19 : M (14, 19, 0) s = nI aa) (hho : ho < 6) (haa : aa < 6) (hit : 0 < it ∧ it ≤ 600) (kk : ∀ W', LI G W' M9 → ly W' (m_records (m_pays M (nI s) (nI pay)) (nI s) (nI it)) S A (R + 1) (P + 1) t d Q → rb_W Φ cells slots 2595 [some (rbR (18, 0, 0)), some (rbR (0, 0, 0)), some (rbR (14, 0, 0)), some (rbR (14, 1, 0)), some (rbR (14, 2, 0)), some (rbR (14, 3, 0)), some (rbR (14, 4, 0)), some (rbR (14, 5, 0)), some (rbR (14, 6, 0)), some (rbR (14, 7, 0)), some (rbR (14, 8, 0)), some (rbR (14, 9, 0)), some (rbI (nI k)), some (rbI v), some (rbI u), some (rbI (nI n)), some (rbI (nI i)), some (rbI (nI j)), some (rbI 1), none, none, none, none, none, none, none, none, none, none, none, none, none, none, none, none, none, some (rbI (nI sc)), some (rbI (nI it)), some (rbI m21), some (rbI (nI f1)), some (rbI (nI f2)), some (rbI (nI one)), some (rbI (nI pay)), some (rbI (nI f3)), some (rbI 1), some (rbI (nI s)), some (rbI 1), none, none, none, none, none, none, none] [] (wI G W')) : rb_W Φ cells slots 2463 [some (rbR (18, 0, 0)), some (rbR (0, 0, 0)), some (rbR (14, 0, 0)), some (rbR (14, 1, 0)), some (rbR (14, 2, 0)), some (rbR (14, 3, 0)), some (rbR (14, 4, 0)), some (rbR (14, 5, 0)), some (rbR (14, 6, 0)), some (rbR (14, 7, 0)), some (rbR (14, 8, 0)), some (rbR (14, 9, 0)), some (rbI (nI k)), some (rbI v), some (rbI u), some (rbI (nI n)), some (rbI (nI i)), some (rbI (nI j)), some (rbI 1), none, none, none, none, none, none, none, none, none, none, none, none, none, none, none, none, none, some (rbI (nI sc)), some (rbI (nI it)), some (rbI m21), some (rbI (nI f1)), some (rbI (nI f2)), some (rbI (nI one)), some (rbI (nI pay)), some (rbI (nI f3)), some (rbI 1), some (rbI (nI s)), some (rbI 1), none, none, none, none, none, none, none] [] (wI G W) := by
  have hm := hL.1
  obtain ⟨hS6, hA10, hRP, hP58, hd64, htm⟩ := ly_b hl
  refine rb_aload C dL_law_2463 rfl ?_
  refine rb_aload_n C dL_law_2465 rfl ?_
  refine rb_iconst C dL_law_2466 (v := 4) (by decide) ?_
  refine rw_iald C (x := (nI P)) 44 (4) dL_law_2467 rfl (hm 0 (by decide)) (show ¬ (((4 : Int32)) < 0 ∨ 44 ≤ (4 : Int32).toNatClampNeg) by decide) rfl (hl.1.1.2.2.2.2.1) ?_
  refine rb_iload C dL_law_2468 rfl ?_
  refine rb_iload C dL_law_2470 rfl ?_
  refine rb_if_eq C 2480 dL_law_2472 (by decide) (fun h9 => absurd h9 (by decide)) (fun _ => ?_)
  refine rb_bipush C dL_law_2475 (v := 8) (by decide) ?_
  refine rb_goto C 2481 dL_law_2477 (by decide) ?_
  refine rq_ior C (z := (nI (s + 8 * 1))) dL_law_2481 (or_far (by omega)) ?_
  refine rb_iload C dL_law_2482 rfl ?_
  refine rb_if_ne C 2492 dL_law_2484 (by decide) (fun _ => ?_) (fun h9 => absurd h9 (by decide))
  refine rb_iload C dL_law_2492 rfl ?_
  refine rb_iconst C dL_law_2494 (v := 4) (by decide) ?_
  refine rq_ishl C (z := (nI (pay * 2 ^ 4))) dL_law_2495 (bs_shl (a := pay) (n := 4) (by omega) (by omega)) ?_
  refine rq_ior C (z := (nI (s + 8 * 1 + 16 * pay))) dL_law_2496 (by rw [bs_or, or_pay (by omega)]) ?_
  refine rw_iast C 60 (P) dL_law_2497 rfl (hm 7 (by decide)) (vp_in_nI (show P < 60 by omega) (by decide)) (nI_clamp (show P < 2 ^ 31 by omega)) ?_
  refine rb_aload C dL_law_2498 rfl ?_
  refine rb_aload_n C dL_law_2500 rfl ?_
  refine rb_iconst C dL_law_2501 (v := 4) (by decide) ?_
  refine rb_dup2 C dL_law_2502 rfl rfl ?_
  refine rw_iald C (x := (nI P)) 44 (4) dL_law_2503 rfl (hm 0 (by decide)) (show ¬ (((4 : Int32)) < 0 ∨ 44 ≤ (4 : Int32).toNatClampNeg) by decide) rfl ((up2_n _ _ _ _ (by simp)).trans hl.1.1.2.2.2.2.1) ?_
  refine rb_dup_x2 C dL_law_2504 rfl rfl rfl ?_
  refine rb_iconst C dL_law_2505 (v := 1) (by decide) ?_
  refine rq_iadd C (z := (nI (P + 1))) dL_law_2506 (nI_add P 1) ?_
  refine rw_iast C 44 (4) dL_law_2507 rfl (hm 0 (by decide)) (show ¬ (((4 : Int32)) < 0 ∨ 44 ≤ (4 : Int32).toNatClampNeg) by decide) rfl ?_
  refine rb_aload_n C dL_law_2508 rfl ?_
  refine rb_iconst C dL_law_2509 (v := 0) (by decide) ?_
  refine rw_iald C (x := (nI t)) 44 (0) dL_law_2510 rfl (hm 0 (by decide)) (show ¬ (((0 : Int32)) < 0 ∨ 44 ≤ (0 : Int32).toNatClampNeg) by decide) rfl ((up2_n _ _ _ _ (by simp)).trans ((up2_n _ _ _ _ (by simp)).trans hl.1.1.1)) ?_
  refine rw_iast C 60 (P) dL_law_2511 rfl (hm 8 (by decide)) (vp_in_nI (show P < 60 by omega) (by decide)) (nI_clamp (show P < 2 ^ 31 by omega)) ?_
  have hl2 : ly (up2 (up2 (up2 W (14, 7, 0) (P) (nI (s + 8 * 1 + 16 * pay))) (14, 0, 0) (4) (nI (P + 1))) (14, 8, 0) (P) (nI t)) (m_pays M (nI s) (nI pay)) S A R (P + 1) t d Q := ly_pay1 hl hs hP9 hp hab
  have hL2 := LI_up (LI_up (LI_up hL 7 P (nI (s + 8 * 1 + 16 * pay))) 0 4 (nI (P + 1))) 8 P (nI t)
  clear hl hL
  generalize (up2 (up2 (up2 W (14, 7, 0) (P) (nI (s + 8 * 1 + 16 * pay))) (14, 0, 0) (4) (nI (P + 1))) (14, 8, 0) (P) (nI t)) = W2 at hl2 hL2 ⊢
  refine rb_iload C dL_law_2512 rfl ?_
  have x3 := (ly_x3 hl2 hs).trans ((p_o 19 s (by decide)).trans e19)
  have x0 := (ly_x0 hl2 hs).trans ((p_o 16 s (by decide)).trans e16)
  obtain ⟨by1, hby, hag⟩ := agr_v hl2 (nI ho) (nI aa)
  have hm2 := hL2.1
  refine rb_if_ne C 2520 dL_law_2514 (by decide) (fun _ => ?_) (fun h9 => absurd h9 (by decide))
  refine rb_aload C dL_law_2520 rfl ?_
  refine rb_aload_n C dL_law_2522 rfl ?_
  refine rb_iconst C dL_law_2523 (v := 3) (by decide) ?_
  refine rw_iald C (x := (nI R)) 44 (3) dL_law_2524 rfl (hm 0 (by decide)) (show ¬ (((3 : Int32)) < 0 ∨ 44 ≤ (3 : Int32).toNatClampNeg) by decide) rfl (hl2.1.1.2.2.2.1) ?_
  refine rb_aload_n C dL_law_2525 rfl ?_
  refine rb_bipush C dL_law_2526 (v := 8) (by decide) ?_
  refine rb_iload C dL_law_2528 rfl ?_
  refine rq_imul C (z := (nI (8 * s))) dL_law_2530 (pk_mul 8 s) ?_
  refine rb_iconst C dL_law_2531 (v := 3) (by decide) ?_
  refine rq_iadd C (z := (nI (8 * s + 3))) dL_law_2532 (nI_add (8 * s) 3) ?_
  refine rw_iald C (x := (nI aa)) 48 (8 * s + 3) dL_law_2533 rfl (hm 1 (by decide)) (vp_in_nI (show 8 * s + 3 < 48 by omega) (by decide)) (nI_clamp (show 8 * s + 3 < 2 ^ 31 by omega)) (x3) ?_
  refine rb_aload_n C dL_law_2534 rfl ?_
  refine rb_bipush C dL_law_2535 (v := 8) (by decide) ?_
  refine rb_iload C dL_law_2537 rfl ?_
  refine rq_imul C (z := (nI (8 * s))) dL_law_2539 (pk_mul 8 s) ?_
  refine rw_iald C (x := (nI ho)) 48 (8 * s) dL_law_2540 rfl (hm 1 (by decide)) (vp_in_nI (show 8 * s < 48 by omega) (by decide)) (nI_clamp (show 8 * s < 2 ^ 31 by omega)) (x0) ?_
  refine rb_iconst C dL_law_2541 (v := 3) (by decide) ?_
  refine rq_ishl C (z := (nI (ho * 2 ^ 3))) dL_law_2542 (bs_shl (a := ho) (n := 3) (by omega) (by omega)) ?_
  refine rq_ior C (z := (nI (aa + 8 * ho))) dL_law_2543 (or_vh (by omega)) ?_
  refine rb_aload_n C dL_law_2544 rfl ?_
  refine rb_bipush C dL_law_2545 (v := 8) (by decide) ?_
  refine rb_iload C dL_law_2547 rfl ?_
  refine rq_imul C (z := (nI (8 * s))) dL_law_2549 (pk_mul 8 s) ?_
  refine rw_iald C (x := (nI ho)) 48 (8 * s) dL_law_2550 rfl (hm 1 (by decide)) (vp_in_nI (show 8 * s < 48 by omega) (by decide)) (nI_clamp (show 8 * s < 2 ^ 31 by omega)) (x0) ?_
  refine rb_aload_n C dL_law_2551 rfl ?_
  refine rb_bipush C dL_law_2552 (v := 8) (by decide) ?_
  refine rb_iload C dL_law_2554 rfl ?_
  refine rq_imul C (z := (nI (8 * s))) dL_law_2556 (pk_mul 8 s) ?_
  refine rb_iconst C dL_law_2557 (v := 3) (by decide) ?_
  refine rq_iadd C (z := (nI (8 * s + 3))) dL_law_2558 (nI_add (8 * s) 3) ?_
  refine rw_iald C (x := (nI aa)) 48 (8 * s + 3) dL_law_2559 rfl (hm 1 (by decide)) (vp_in_nI (show 8 * s + 3 < 48 by omega) (by decide)) (nI_clamp (show 8 * s + 3 < 2 ^ 31 by omega)) (x3) ?_
  refine rb_aload C dL_law_2560 rfl ?_
  refine rb_aload_n C dL_law_2562 rfl ?_
  refine rb_callS C M_L_101 (fun l X => (k_L_holds2 l X G W2 _ hm2 hl2 ho aa hho haa).m) dL_law_2563 rfl rfl rfl (Nat.le_of_ble_eq_true rfl) ⟨(Nat.le_of_ble_eq_true rfl), (Nat.le_of_ble_eq_true rfl)⟩ (by omega) (by omega) (fun v G' hp => ?_) (fun _ _ hp => hp.elim)
  obtain ⟨rfl, e9⟩ := hp
  rw [e9]
  clear e9 G'
  rw [hag]
  refine rb_iconst C dL_law_2566 (v := 1) (by decide) ?_
  refine rq_iadd C (z := (nI by1)) dL_law_2567 (by_1 by1) ?_
  refine rb_bipush C dL_law_2568 (v := 13) (by decide) ?_
  refine rq_ishl C (z := (nI (by1 * 2 ^ 13))) dL_law_2570 (bs_shl (a := by1) (n := 13) (by omega) (by omega)) ?_
  refine rq_ior C (z := (nI (aa + 8 * ho + 8192 * by1))) dL_law_2571 (by rw [bs_or, or_by (by omega)]) ?_
  refine rw_iast C 60 (R) dL_law_2572 rfl (hm 4 (by decide)) (vp_in_nI (show R < 60 by omega) (by decide)) (nI_clamp (show R < 2 ^ 31 by omega)) ?_
  refine rb_aload C dL_law_2573 rfl ?_
  refine rb_aload_n C dL_law_2575 rfl ?_
  refine rb_iconst C dL_law_2576 (v := 3) (by decide) ?_
  refine rw_iald C (x := (nI R)) 44 (3) dL_law_2577 rfl (hm 0 (by decide)) (show ¬ (((3 : Int32)) < 0 ∨ 44 ≤ (3 : Int32).toNatClampNeg) by decide) rfl ((up2_n _ _ _ _ (by simp)).trans hl2.1.1.2.2.2.1) ?_
  refine rb_iload C dL_law_2578 rfl ?_
  refine rw_iast C 60 (R) dL_law_2580 rfl (hm 5 (by decide)) (vp_in_nI (show R < 60 by omega) (by decide)) (nI_clamp (show R < 2 ^ 31 by omega)) ?_
  refine rb_aload C dL_law_2581 rfl ?_
  refine rb_aload_n C dL_law_2583 rfl ?_
  refine rb_iconst C dL_law_2584 (v := 3) (by decide) ?_
  refine rb_dup2 C dL_law_2585 rfl rfl ?_
  refine rw_iald C (x := (nI R)) 44 (3) dL_law_2586 rfl (hm 0 (by decide)) (show ¬ (((3 : Int32)) < 0 ∨ 44 ≤ (3 : Int32).toNatClampNeg) by decide) rfl ((up2_n _ _ _ _ (by simp)).trans ((up2_n _ _ _ _ (by simp)).trans hl2.1.1.2.2.2.1)) ?_
  refine rb_dup_x2 C dL_law_2587 rfl rfl rfl ?_
  refine rb_iconst C dL_law_2588 (v := 1) (by decide) ?_
  refine rq_iadd C (z := (nI (R + 1))) dL_law_2589 (nI_add R 1) ?_
  refine rw_iast C 44 (3) dL_law_2590 rfl (hm 0 (by decide)) (show ¬ (((3 : Int32)) < 0 ∨ 44 ≤ (3 : Int32).toNatClampNeg) by decide) rfl ?_
  refine rb_aload_n C dL_law_2591 rfl ?_
  refine rb_iconst C dL_law_2592 (v := 0) (by decide) ?_
  refine rw_iald C (x := (nI t)) 44 (0) dL_law_2593 rfl (hm 0 (by decide)) (show ¬ (((0 : Int32)) < 0 ∨ 44 ≤ (0 : Int32).toNatClampNeg) by decide) rfl ((up2_n _ _ _ _ (by simp)).trans ((up2_n _ _ _ _ (by simp)).trans ((up2_n _ _ _ _ (by simp)).trans hl2.1.1.1))) ?_
  refine rw_iast C 60 (R) dL_law_2594 rfl (hm 6 (by decide)) (vp_in_nI (show R < 60 by omega) (by decide)) (nI_clamp (show R < 2 ^ 31 by omega)) ?_
  exact kk _ (LI_up (LI_up (LI_up (LI_up hL2 4 R _) 5 R _) 0 3 _) 6 R _) (ly_rec hl2 hs (by omega) ((p_o 16 s (by decide)).trans e16) ((p_o 19 s (by decide)).trans e19) hho haa (by rw [abr_o (fun k => p_o 16 k (by decide)) (fun k => p_o 19 k (by decide))]; exact hab) hit hby hag)

