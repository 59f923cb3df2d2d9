set_option maxRecDepth 100000 in
set_option maxHeartbeats 4000000 in
theorem k_L_isTold (l : Launch) (X : rb_X) (G : rb_G) (W M : rb_I) (hL : LI G W M) {S A R P t d : Nat} (hl : lx W M S A R P t d) (v : Int32) : rb_N l X yL_isTold (.code yL_isTold cL_isTold 18 (some .boolean)) 10 182 1400 8400 [rbR (0, 0, 0), rbI v, rbR (14, 1, 0), rbR (14, 2, 0), rbR (14, 3, 0), rbR (14, 4, 0), rbR (14, 5, 0), rbR (14, 7, 0), rbR (14, 8, 0), rbR (14, 0, 0)] (wI G W) (fun v9 G9 => v9 = some (rbI 1) ∧ ∃ G1 W1, G9 = wI G1 W1 ∧ LI G1 W1 M ∧ lx W1 M S A R P t d) := by
  refine rb_startN RL rfl (by decide +kernel) rfl (Nat.le_of_ble_eq_true rfl) ?_
  intro Φ C E nm
  show rb_W Φ 0 0 0 [some (rbR (0, 0, 0)), some (rbI v), some (rbR (14, 1, 0)), some (rbR (14, 2, 0)), some (rbR (14, 3, 0)), some (rbR (14, 4, 0)), some (rbR (14, 5, 0)), some (rbR (14, 7, 0)), some (rbR (14, 8, 0)), some (rbR (14, 0, 0)), none, none, none, none, none, none, none, none] [] (wI G W)
  obtain ⟨hS6, hA10, hRP, hP58, -, hd64, htm⟩ := lr_b hl
  have hm := hL.1
  refine rb_iconst C dL_isTold_0 (v := 0) (by decide) ?_
  refine rb_istore C dL_isTold_1 (Nat.le_of_ble_eq_true rfl) rfl (Lv' := [_, _, _, _, _, _, _, _, _, _, _, _, _, _, _, _, _, _]) rfl ?_
  have loop3 : ∀ (dd : Nat) (s : Nat) (G : rb_G) (W : rb_I), s + dd = S → LI G W M → lx W M S A R P t d → rb_W Φ (210 * s) (1300 * s) 3 [some (rbR (0, 0, 0)), some (rbI v), some (rbR (14, 1, 0)), some (rbR (14, 2, 0)), some (rbR (14, 3, 0)), some (rbR (14, 4, 0)), some (rbR (14, 5, 0)), some (rbR (14, 7, 0)), some (rbR (14, 8, 0)), some (rbR (14, 0, 0)), some (rbI (nI s)), none, none, none, none, none, none, none] [] (wI G W) := by
    intro dd
    induction dd with
    | zero =>
      intro s G W hk hL hl
      have hm := hL.1
      refine rb_iload C dL_isTold_3 rfl ?_
      refine rb_aload C dL_isTold_5 rfl ?_
      refine rb_iconst C dL_isTold_7 (v := 1) (by decide) ?_
      refine rw_iald C (x := (nI S)) 44 (1) dL_isTold_8 rfl (hm 0 (by decide)) (show ¬ (((1 : Int32)) < 0 ∨ 44 ≤ (1 : Int32).toNatClampNeg) by decide) rfl ((lr_g1 hl)) ?_
      refine rb_icmp_ge C 419 dL_isTold_9 (by decide) (fun _ => ?_) (fun h9 => absurd ((nI_le (a := S) (b := s) (by omega) (by omega))) h9)
      refine rb_iload_n C dL_isTold_419 rfl ?_
      refine rb_bipush C dL_isTold_420 (v := 6) (by decide) ?_
      refine rb_callS C M_L_124 (fun l X => (k_L_low l X G W v 6 (by decide) (by decide)).m) dL_isTold_422 rfl rfl rfl (Nat.le_of_ble_eq_true rfl) ⟨(Nat.le_of_ble_eq_true rfl), (Nat.le_of_ble_eq_true rfl)⟩ (by omega) (by omega) (fun v G' hp => ?_) (fun _ _ hp => hp.elim)
      obtain ⟨vi, hvi, rfl, e9⟩ := hp
      rw [e9]
      clear e9 G'
      refine rb_istore C dL_isTold_425 (Nat.le_of_ble_eq_true rfl) rfl (Lv' := [_, _, _, _, _, _, _, _, _, _, _, _, _, _, _, _, _, _]) rfl ?_
      refine rb_iload_n C dL_isTold_427 rfl ?_
      refine rb_iconst C dL_isTold_428 (v := 5) (by decide) ?_
      refine rq_ishr C (z := (v >>> ((5 : Int32) &&& 31))) dL_isTold_429 rfl ?_
      refine rb_bipush C dL_isTold_430 (v := 6) (by decide) ?_
      refine rb_callS C M_L_124 (fun l X => (k_L_low l X G W _ 6 (by decide) (by decide)).m) dL_isTold_432 rfl rfl rfl (Nat.le_of_ble_eq_true rfl) ⟨(Nat.le_of_ble_eq_true rfl), (Nat.le_of_ble_eq_true rfl)⟩ (by omega) (by omega) (fun v G' hp => ?_) (fun _ _ hp => hp.elim)
      obtain ⟨ho, hho, rfl, e9⟩ := hp
      rw [e9]
      clear e9 G'
      refine rb_istore C dL_isTold_435 (Nat.le_of_ble_eq_true rfl) rfl (Lv' := [_, _, _, _, _, _, _, _, _, _, _, _, _, _, _, _, _, _]) rfl ?_
      refine rb_iload C dL_isTold_437 rfl ?_
      refine rb_iload C dL_isTold_439 rfl ?_
      refine rb_iconst C dL_isTold_441 (v := 3) (by decide) ?_
      refine rq_ishl C (z := (nI (ho * 2 ^ 3))) dL_isTold_442 (bs_shl (a := ho) (n := 3) (by omega) (by omega)) ?_
      refine rq_ior C (z := (nI (vi + 8 * ho))) dL_isTold_443 (or_vh (by omega)) ?_
      refine rb_istore C dL_isTold_444 (Nat.le_of_ble_eq_true rfl) rfl (Lv' := [_, _, _, _, _, _, _, _, _, _, _, _, _, _, _, _, _, _]) rfl ?_
      refine rb_iconst C dL_isTold_446 (v := 0) (by decide) ?_
      refine rb_istore C dL_isTold_447 (Nat.le_of_ble_eq_true rfl) rfl (Lv' := [_, _, _, _, _, _, _, _, _, _, _, _, _, _, _, _, _, _]) rfl ?_
      have loop449 : ∀ (dd : Nat) (q : Nat) (G : rb_G) (W : rb_I), q + dd = 4 → LI G W M → lx W M S A R P t d → rb_W Φ (1260 + 12 * q) (7800 + 72 * q) 449 [some (rbR (0, 0, 0)), some (rbI v), some (rbR (14, 1, 0)), some (rbR (14, 2, 0)), some (rbR (14, 3, 0)), some (rbR (14, 4, 0)), some (rbR (14, 5, 0)), some (rbR (14, 7, 0)), some (rbR (14, 8, 0)), some (rbR (14, 0, 0)), some (rbI (nI vi)), some (rbI (nI ho)), some (rbI (nI (vi + 8 * ho))), some (rbI (nI q)), none, none, none, none] [] (wI G W) := by
        intro dd
        induction dd with
        | zero =>
          intro q G W hk9 hL hl
          have hm := hL.1
          refine rb_iload C dL_isTold_449 rfl ?_
          refine rb_iconst C dL_isTold_451 (v := 4) (by decide) ?_
          refine rb_icmp_ge C 489 dL_isTold_452 (by decide) (fun _ => ?_) (fun h9 => absurd ((nI_le (a := 4) (b := q) (by omega) (by omega))) h9)
          refine rb_iload C dL_isTold_489 rfl ?_
          refine rb_iconst C dL_isTold_491 (v := 2) (by decide) ?_
          refine rb_aload C dL_isTold_492 rfl ?_
          refine rb_aload C dL_isTold_494 rfl ?_
          refine rb_aload C dL_isTold_496 rfl ?_
          refine rb_callS C M_L_130 (fun l X => (k_L_minutes l X G W M hm hl vi ho 2 hvi hho (by decide)).m) dL_isTold_498 rfl rfl rfl (Nat.le_of_ble_eq_true rfl) ⟨(Nat.le_of_ble_eq_true rfl), (Nat.le_of_ble_eq_true rfl)⟩ (by omega) (by omega) (fun v G' hp => ?_) (fun _ _ hp => hp.elim)
          obtain ⟨rfl, e9⟩ := hp
          rw [e9]
          clear e9 G'
          refine rb_istore C dL_isTold_501 (Nat.le_of_ble_eq_true rfl) rfl (Lv' := [_, _, _, _, _, _, _, _, _, _, _, _, _, _, _, _, _, _]) rfl ?_
          refine rb_iconst C dL_isTold_503 (v := 0) (by decide) ?_
          refine rb_istore C dL_isTold_504 (Nat.le_of_ble_eq_true rfl) rfl (Lv' := [_, _, _, _, _, _, _, _, _, _, _, _, _, _, _, _, _, _]) rfl ?_
          refine rb_iconst C dL_isTold_506 (v := 0) (by decide) ?_
          refine rb_istore C dL_isTold_507 (Nat.le_of_ble_eq_true rfl) rfl (Lv' := [_, _, _, _, _, _, _, _, _, _, _, _, _, _, _, _, _, _]) rfl ?_
          have loop509 : ∀ (dd : Nat) (k : Nat), k + dd = R → rb_W Φ ((1260 + 12 * q) + 0) ((7800 + 72 * q) + 0) 509 [some (rbR (0, 0, 0)), some (rbI v), some (rbR (14, 1, 0)), some (rbR (14, 2, 0)), some (rbR (14, 3, 0)), some (rbR (14, 4, 0)), some (rbR (14, 5, 0)), some (rbR (14, 7, 0)), some (rbR (14, 8, 0)), some (rbR (14, 0, 0)), some (rbI (nI vi)), some (rbI (nI ho)), some (rbI (nI (vi + 8 * ho))), some (rbI (m_minutesOf M (nI vi) (nI ho) (nI 2))), some (rbI (fo (ow_b M (nI vi) (nI ho) (m_minutesOf M (nI vi) (nI ho) (nI 2))) k 0)), some (rbI (nI k)), none, none] [] (wI G W) := by
            intro dd
            induction dd with
            | zero =>
              intro k hk8
              refine rb_iload C dL_isTold_509 rfl ?_
              refine rb_aload C dL_isTold_511 rfl ?_
              refine rb_iconst C dL_isTold_513 (v := 3) (by decide) ?_
              refine rw_iald C (x := (nI R)) 44 (3) dL_isTold_514 rfl (hm 0 (by decide)) (show ¬ (((3 : Int32)) < 0 ∨ 44 ≤ (3 : Int32).toNatClampNeg) by decide) rfl ((lr_g3 hl)) ?_
              refine rb_icmp_ge C 637 dL_isTold_515 (by decide) (fun _ => ?_) (fun h9 => absurd ((nI_le (a := R) (b := k) (by omega) (by omega))) h9)
              refine rb_aload_n C dL_isTold_637 rfl ?_
              refine rb_iload C dL_isTold_638 rfl ?_
              refine rb_iload C dL_isTold_640 rfl ?_
              refine rb_callSW C M_L_134 (fun l X => q_owes l X G W M hL hl hvi hho) dL_isTold_642 rfl rfl rfl (Nat.le_of_ble_eq_true rfl) ⟨(Nat.le_of_ble_eq_true rfl), (Nat.le_of_ble_eq_true rfl)⟩ (by omega) (by omega) (fun v G' hp => ?_)
              obtain ⟨rfl, G4, W4, e9, hL4, hw4⟩ := hp
              rw [e9]
              clear e9 G'
              have hl4 := lx_lw hl hw4
              have hm := hL4.1
              refine rb_iload C dL_isTold_645 rfl ?_
              refine rb_icmp_ne C 682 dL_isTold_647 (by decide) (fun h9 => absurd ((by rw [show k = R by omega]; rfl)) h9) (fun _ => ?_)
              refine rb_aload_n C dL_isTold_650 rfl ?_
              refine rb_iload C dL_isTold_651 rfl ?_
              refine rb_iload C dL_isTold_653 rfl ?_
              refine rb_callSW C M_L_136 (fun l X => q_owesAnew l X G4 W4 M hL4 hl4 hvi hho) dL_isTold_655 rfl rfl rfl (Nat.le_of_ble_eq_true rfl) ⟨(Nat.le_of_ble_eq_true rfl), (Nat.le_of_ble_eq_true rfl)⟩ (by omega) (by omega) (fun v G' hp => ?_)
              obtain ⟨rfl, G5, W5, e9, hL5, hw5⟩ := hp
              rw [e9]
              clear e9 G'
              have hl5 := lx_lw hl4 hw5
              have hm := hL5.1
              refine rb_iload C dL_isTold_658 rfl ?_
              refine rb_icmp_ne C 682 dL_isTold_660 (by decide) (fun h9 => absurd ((by rw [show k = R by omega]; rfl)) h9) (fun _ => ?_)
              refine rb_aload_n C dL_isTold_663 rfl ?_
              refine rb_iconst C dL_isTold_664 (v := 0) (by decide) ?_
              refine rb_aload C dL_isTold_665 rfl ?_
              refine rb_iconst C dL_isTold_667 (v := 1) (by decide) ?_
              refine rw_iald C (x := (nI S)) 44 (1) dL_isTold_668 rfl (hm 0 (by decide)) (show ¬ (((1 : Int32)) < 0 ∨ 44 ≤ (1 : Int32).toNatClampNeg) by decide) rfl ((lr_g1 hl5)) ?_
              refine rb_callSW C M_L_118 (fun l X => q_contactX l X G5 W5 M hL5 hl5) dL_isTold_669 rfl rfl rfl (Nat.le_of_ble_eq_true rfl) ⟨(Nat.le_of_ble_eq_true rfl), (Nat.le_of_ble_eq_true rfl)⟩ (by omega) (by omega) (fun v G' hp => ?_)
              obtain ⟨rfl, G6, W6, e9, hL6, hw6⟩ := hp
              rw [e9]
              clear e9 G'
              have hl6 := lx_lw hl5 hw6
              have hm := hL6.1
              refine rb_sipush C dL_isTold_672 (v := (-7100)) (by decide) ?_
              refine rb_icmp_ne C 682 dL_isTold_675 (by decide) (fun h9 => absurd (by decide) h9) (fun _ => ?_)
              refine rb_iconst C dL_isTold_678 (v := 1) (by decide) ?_
              refine rb_goto C 683 dL_isTold_679 (by decide) ?_
              exact rb_zret C E dL_isTold_683 (rfl) (by omega) (by omega) (⟨rfl, G6, W6, rfl, hL6, hl6⟩)
            | succ dd ih =>
              intro k hk8
              obtain ⟨vi1, ho1, st1, fl, by1, e, mi, ⟨b1, b2, b3, b4, b5, b6, b7, b8⟩, ⟨rr, rm, rt⟩, ⟨m31, m30, m35, m36, m34, m33, m32⟩⟩ := hl.2.2.2.2.2.2.2.1 k (by omega)
              have how := fun s => ow_eq (all := (m_minutesOf M (nI vi) (nI ho) (nI 2))) (show k < 1000 by omega) (show vi < 1000 by omega) (show ho < 1000 by omega) (show vi1 < 1000 by omega) (show ho1 < 1000 by omega) (show st1 < 1000 by omega) m31 m30 m35 m32 s
              refine rb_iload C dL_isTold_509 rfl ?_
              refine rb_aload C dL_isTold_511 rfl ?_
              refine rb_iconst C dL_isTold_513 (v := 3) (by decide) ?_
              refine rw_iald C (x := (nI R)) 44 (3) dL_isTold_514 rfl (hm 0 (by decide)) (show ¬ (((3 : Int32)) < 0 ∨ 44 ≤ (3 : Int32).toNatClampNeg) by decide) rfl ((lr_g3 hl)) ?_
              refine rb_icmp_ge C 637 dL_isTold_515 (by decide) (fun h9 => absurd h9 ((nI_ge (a := k) (b := R) (by omega) (by omega)))) (fun _ => ?_)
              refine rb_aload C dL_isTold_518 rfl ?_
              refine rb_iload C dL_isTold_520 rfl ?_
              refine rw_iald C (x := (nI (vi1 + 8 * ho1 + 64 * st1 + 256 * fl + 8192 * by1))) 60 (k) dL_isTold_522 rfl (hm 4 (by decide)) (vp_in_nI (show k < 60 by omega) (by decide)) (nI_clamp (show k < 2 ^ 31 by omega)) (rr) ?_
              refine rb_bipush C dL_isTold_523 (v := 13) (by decide) ?_
              refine rq_ishr C (z := (nI ((vi1 + 8 * ho1 + 64 * st1 + 256 * fl + 8192 * by1) / 2 ^ 13))) dL_isTold_525 (bs_shr (by omega) (by decide)) ?_
              refine rb_iconst C dL_isTold_526 (v := 1) (by decide) ?_
              refine rq_isub C (z := (nI by1 - 1)) dL_isTold_527 (by rw [show (vi1 + 8 * ho1 + 64 * st1 + 256 * fl + 8192 * by1) / 2 ^ 13 = by1 by omega]) ?_
              refine rb_istore C dL_isTold_528 (Nat.le_of_ble_eq_true rfl) rfl (Lv' := [_, _, _, _, _, _, _, _, _, _, _, _, _, _, _, _, _, _]) rfl ?_
              refine rb_aload C dL_isTold_530 rfl ?_
              refine rb_iload C dL_isTold_532 rfl ?_
              refine rw_iald C (x := (nI (vi1 + 8 * ho1 + 64 * st1 + 256 * fl + 8192 * by1))) 60 (k) dL_isTold_534 rfl (hm 4 (by decide)) (vp_in_nI (show k < 60 by omega) (by decide)) (nI_clamp (show k < 2 ^ 31 by omega)) (rr) ?_
              refine rb_bipush C dL_isTold_535 (v := 63) (by decide) ?_
              refine rq_iand C (z := (nI ((vi1 + 8 * ho1 + 64 * st1 + 256 * fl + 8192 * by1) % 2 ^ 6))) dL_isTold_537 (bs_and (by omega) 6 rfl) ?_
              refine rb_iload C dL_isTold_538 rfl ?_
              refine rb_icmp_ne C 631 dL_isTold_540 (by decide) (fun h540 => ?_) (fun h540 => ?_)
              · replace h540 := mt (nI_eq (a := (vi1 + 8 * ho1 + 64 * st1 + 256 * fl + 8192 * by1) % 2 ^ 6) (b := vi + 8 * ho) (by omega) (by omega)).mpr h540
                rw [show (fo (ow_b M (nI vi) (nI ho) (m_minutesOf M (nI vi) (nI ho) (nI 2))) k 0) = (fo (ow_b M (nI vi) (nI ho) (m_minutesOf M (nI vi) (nI ho) (nI 2))) (k + 1) 0) from (by rw [fo_s, how, if_neg (by omega)]; exact (Int32.add_zero _).symm)]
                refine rq_iinc C dL_isTold_631 rfl (v := (nI (k + 1))) (nI_1 k) rfl (Lv' := [_, _, _, _, _, _, _, _, _, _, _, _, _, _, _, _, _, _]) rfl ?_
                refine rb_goto C 509 dL_isTold_634 (by decide) ?_
                refine rb_W.unset 16 ?_
                exact ih (k + 1) (by omega)
              · replace h540 := (nI_eq (a := (vi1 + 8 * ho1 + 64 * st1 + 256 * fl + 8192 * by1) % 2 ^ 6) (b := vi + 8 * ho) (by omega) (by omega)).mp h540
                refine rb_aload C dL_isTold_543 rfl ?_
                refine rb_iload C dL_isTold_545 rfl ?_
                refine rw_iald C (x := (nI (vi1 + 8 * ho1 + 64 * st1 + 256 * fl + 8192 * by1))) 60 (k) dL_isTold_547 rfl (hm 4 (by decide)) (vp_in_nI (show k < 60 by omega) (by decide)) (nI_clamp (show k < 2 ^ 31 by omega)) (rr) ?_
                refine rb_bipush C dL_isTold_548 (v := 6) (by decide) ?_
                refine rq_ishr C (z := (nI ((vi1 + 8 * ho1 + 64 * st1 + 256 * fl + 8192 * by1) / 2 ^ 6))) dL_isTold_550 (bs_shr (by omega) (by decide)) ?_
                refine rb_iconst C dL_isTold_551 (v := 3) (by decide) ?_
                refine rq_iand C (z := (nI (((vi1 + 8 * ho1 + 64 * st1 + 256 * fl + 8192 * by1) / 2 ^ 6) % 2 ^ 2))) dL_isTold_552 (bs_and (by omega) 2 rfl) ?_
                refine rb_iconst C dL_isTold_553 (v := 2) (by decide) ?_
                refine rb_icmp_ne C 631 dL_isTold_554 (by decide) (fun h554 => ?_) (fun h554 => ?_)
                · replace h554 := mt (nI_eq (a := ((vi1 + 8 * ho1 + 64 * st1 + 256 * fl + 8192 * by1) / 2 ^ 6) % 2 ^ 2) (b := 2) (by omega) (by omega)).mpr h554
                  rw [show (fo (ow_b M (nI vi) (nI ho) (m_minutesOf M (nI vi) (nI ho) (nI 2))) k 0) = (fo (ow_b M (nI vi) (nI ho) (m_minutesOf M (nI vi) (nI ho) (nI 2))) (k + 1) 0) from (by rw [fo_s, how, if_neg (by omega)]; exact (Int32.add_zero _).symm)]
                  refine rq_iinc C dL_isTold_631 rfl (v := (nI (k + 1))) (nI_1 k) rfl (Lv' := [_, _, _, _, _, _, _, _, _, _, _, _, _, _, _, _, _, _]) rfl ?_
                  refine rb_goto C 509 dL_isTold_634 (by decide) ?_
                  refine rb_W.unset 16 ?_
                  exact ih (k + 1) (by omega)
                · replace h554 := (nI_eq (a := ((vi1 + 8 * ho1 + 64 * st1 + 256 * fl + 8192 * by1) / 2 ^ 6) % 2 ^ 2) (b := 2) (by omega) (by omega)).mp h554
                  refine rb_iload C dL_isTold_557 rfl ?_
                  refine rb_iconst C dL_isTold_559 (v := (-1)) (by decide) ?_
                  refine rb_icmp_ne C 566 dL_isTold_560 (by decide) (fun h560 => ?_) (fun h560 => ?_)
                  · have hby : by1 ≠ 0 := fun q => h560 ((pd_z (by omega)).mpr q)
                    obtain ⟨bj, rfl⟩ : ∃ bj, by1 = bj + 1 := ⟨by1 - 1, by omega⟩
                    rw [nI_pred bj]
                    obtain ⟨ho2, vi2, fr2, to2, pr, th, lw2, ⟨c1, c2, c3, c4, c5, c6, c7⟩, ⟨a0, a1, a2, a3, a4, a5⟩, ⟨m8, m9, m10, m11, m12, m13, m14⟩⟩ := hl.2.2.2.2.2.2.1 bj (by omega)
                    have hpz := pz_y (all := (m_minutesOf M (nI vi) (nI ho) (nI 2))) (show bj < 1000 by omega) m12 m13 m14 (by omega)
                    rw [if_neg (Nat.succ_ne_zero bj), Nat.add_sub_cancel] at m34
                    refine rb_aload C dL_isTold_566 rfl ?_
                    refine rb_bipush C dL_isTold_568 (v := 6) (by decide) ?_
                    refine rb_iload C dL_isTold_570 rfl ?_
                    refine rq_imul C (z := (nI (6 * bj))) dL_isTold_572 (pk_mul 6 bj) ?_
                    refine rb_iconst C dL_isTold_573 (v := 4) (by decide) ?_
                    refine rq_iadd C (z := (nI (6 * bj + 4))) dL_isTold_574 (nI_add (6 * bj) 4) ?_
                    refine rw_iald C (x := (nI th)) 60 (6 * bj + 4) dL_isTold_575 rfl (hm 3 (by decide)) (vp_in_nI (show 6 * bj + 4 < 60 by omega) (by decide)) (nI_clamp (show 6 * bj + 4 < 2 ^ 31 by omega)) (a4) ?_
                    refine rb_if_le C 598 dL_isTold_576 (by decide) (fun h576 => ?_) (fun h576 => ?_)
                    · replace h576 := (nI_leI (a := th) (b := 0) (by omega) (by omega)).mp h576
                      refine rb_iconst C dL_isTold_598 (v := 0) (by decide) ?_
                      refine rb_istore C dL_isTold_599 (Nat.le_of_ble_eq_true rfl) rfl (Lv' := [_, _, _, _, _, _, _, _, _, _, _, _, _, _, _, _, _, _]) rfl ?_
                      refine rb_iload C dL_isTold_601 rfl ?_
                      refine rb_aload C dL_isTold_603 rfl ?_
                      refine rb_iload C dL_isTold_605 rfl ?_
                      refine rw_iald C (x := (nI mi)) 60 (k) dL_isTold_607 rfl (hm 5 (by decide)) (vp_in_nI (show k < 60 by omega) (by decide)) (nI_clamp (show k < 2 ^ 31 by omega)) (rm) ?_
                      refine rb_aload C dL_isTold_608 rfl ?_
                      refine rb_bipush C dL_isTold_610 (v := 6) (by decide) ?_
                      refine rb_iload C dL_isTold_612 rfl ?_
                      refine rq_imul C (z := (nI (6 * bj))) dL_isTold_614 (pk_mul 6 bj) ?_
                      refine rb_iload C dL_isTold_615 rfl ?_
                      refine rb_if_eq C 624 dL_isTold_617 (by decide) (fun _ => ?_) (fun h9 => absurd (by decide) h9)
                      refine rb_iconst C dL_isTold_624 (v := 3) (by decide) ?_
                      refine rq_iadd C (z := (nI (6 * bj + 3))) dL_isTold_625 (nI_add (6 * bj) 3) ?_
                      refine rw_iald C (x := (nI pr)) 60 (6 * bj + 3) dL_isTold_626 rfl (hm 3 (by decide)) (vp_in_nI (show 6 * bj + 3 < 60 by omega) (by decide)) (nI_clamp (show 6 * bj + 3 < 2 ^ 31 by omega)) (a3) ?_
                      refine rq_imul C (z := (nI (mi * pr))) dL_isTold_627 (pk_mul mi pr) ?_
                      refine rq_iadd C (z := (fo (ow_b M (nI vi) (nI ho) (m_minutesOf M (nI vi) (nI ho) (nI 2))) (k + 1) 0)) dL_isTold_628 (by rw [fo_s, how, if_pos (by omega), m34, hpz, if_pos (by omega), pk_mul]) ?_
                      refine rb_istore C dL_isTold_629 (Nat.le_of_ble_eq_true rfl) rfl (Lv' := [_, _, _, _, _, _, _, _, _, _, _, _, _, _, _, _, _, _]) rfl ?_
                      refine rq_iinc C dL_isTold_631 rfl (v := (nI (k + 1))) (nI_1 k) rfl (Lv' := [_, _, _, _, _, _, _, _, _, _, _, _, _, _, _, _, _, _]) rfl ?_
                      refine rb_goto C 509 dL_isTold_634 (by decide) ?_
                      refine rb_W.unset 16 ?_
                      refine rb_W.unset 17 ?_
                      exact ih (k + 1) (by omega)
                    · replace h576 := mt (nI_leI (a := th) (b := 0) (by omega) (by omega)).mpr h576
                      refine rb_iload C dL_isTold_579 rfl ?_
                      refine rb_aload C dL_isTold_581 rfl ?_
                      refine rb_bipush C dL_isTold_583 (v := 6) (by decide) ?_
                      refine rb_iload C dL_isTold_585 rfl ?_
                      refine rq_imul C (z := (nI (6 * bj))) dL_isTold_587 (pk_mul 6 bj) ?_
                      refine rb_iconst C dL_isTold_588 (v := 4) (by decide) ?_
                      refine rq_iadd C (z := (nI (6 * bj + 4))) dL_isTold_589 (nI_add (6 * bj) 4) ?_
                      refine rw_iald C (x := (nI th)) 60 (6 * bj + 4) dL_isTold_590 rfl (hm 3 (by decide)) (vp_in_nI (show 6 * bj + 4 < 60 by omega) (by decide)) (nI_clamp (show 6 * bj + 4 < 2 ^ 31 by omega)) (a4) ?_
                      refine rb_icmp_lt C 598 dL_isTold_591 (by decide) (fun h591 => ?_) (fun h591 => ?_)
                      · refine rb_iconst C dL_isTold_598 (v := 0) (by decide) ?_
                        refine rb_istore C dL_isTold_599 (Nat.le_of_ble_eq_true rfl) rfl (Lv' := [_, _, _, _, _, _, _, _, _, _, _, _, _, _, _, _, _, _]) rfl ?_
                        refine rb_iload C dL_isTold_601 rfl ?_
                        refine rb_aload C dL_isTold_603 rfl ?_
                        refine rb_iload C dL_isTold_605 rfl ?_
                        refine rw_iald C (x := (nI mi)) 60 (k) dL_isTold_607 rfl (hm 5 (by decide)) (vp_in_nI (show k < 60 by omega) (by decide)) (nI_clamp (show k < 2 ^ 31 by omega)) (rm) ?_
                        refine rb_aload C dL_isTold_608 rfl ?_
                        refine rb_bipush C dL_isTold_610 (v := 6) (by decide) ?_
                        refine rb_iload C dL_isTold_612 rfl ?_
                        refine rq_imul C (z := (nI (6 * bj))) dL_isTold_614 (pk_mul 6 bj) ?_
                        refine rb_iload C dL_isTold_615 rfl ?_
                        refine rb_if_eq C 624 dL_isTold_617 (by decide) (fun _ => ?_) (fun h9 => absurd (by decide) h9)
                        refine rb_iconst C dL_isTold_624 (v := 3) (by decide) ?_
                        refine rq_iadd C (z := (nI (6 * bj + 3))) dL_isTold_625 (nI_add (6 * bj) 3) ?_
                        refine rw_iald C (x := (nI pr)) 60 (6 * bj + 3) dL_isTold_626 rfl (hm 3 (by decide)) (vp_in_nI (show 6 * bj + 3 < 60 by omega) (by decide)) (nI_clamp (show 6 * bj + 3 < 2 ^ 31 by omega)) (a3) ?_
                        refine rq_imul C (z := (nI (mi * pr))) dL_isTold_627 (pk_mul mi pr) ?_
                        refine rq_iadd C (z := (fo (ow_b M (nI vi) (nI ho) (m_minutesOf M (nI vi) (nI ho) (nI 2))) (k + 1) 0)) dL_isTold_628 (by rw [fo_s, how, if_pos (by omega), m34, hpz, if_neg (by omega), if_pos h591, pk_mul]) ?_
                        refine rb_istore C dL_isTold_629 (Nat.le_of_ble_eq_true rfl) rfl (Lv' := [_, _, _, _, _, _, _, _, _, _, _, _, _, _, _, _, _, _]) rfl ?_
                        refine rq_iinc C dL_isTold_631 rfl (v := (nI (k + 1))) (nI_1 k) rfl (Lv' := [_, _, _, _, _, _, _, _, _, _, _, _, _, _, _, _, _, _]) rfl ?_
                        refine rb_goto C 509 dL_isTold_634 (by decide) ?_
                        refine rb_W.unset 16 ?_
                        refine rb_W.unset 17 ?_
                        exact ih (k + 1) (by omega)
                      · refine rb_iconst C dL_isTold_594 (v := 1) (by decide) ?_
                        refine rb_goto C 599 dL_isTold_595 (by decide) ?_
                        refine rb_istore C dL_isTold_599 (Nat.le_of_ble_eq_true rfl) rfl (Lv' := [_, _, _, _, _, _, _, _, _, _, _, _, _, _, _, _, _, _]) rfl ?_
                        refine rb_iload C dL_isTold_601 rfl ?_
                        refine rb_aload C dL_isTold_603 rfl ?_
                        refine rb_iload C dL_isTold_605 rfl ?_
                        refine rw_iald C (x := (nI mi)) 60 (k) dL_isTold_607 rfl (hm 5 (by decide)) (vp_in_nI (show k < 60 by omega) (by decide)) (nI_clamp (show k < 2 ^ 31 by omega)) (rm) ?_
                        refine rb_aload C dL_isTold_608 rfl ?_
                        refine rb_bipush C dL_isTold_610 (v := 6) (by decide) ?_
                        refine rb_iload C dL_isTold_612 rfl ?_
                        refine rq_imul C (z := (nI (6 * bj))) dL_isTold_614 (pk_mul 6 bj) ?_
                        refine rb_iload C dL_isTold_615 rfl ?_
                        refine rb_if_eq C 624 dL_isTold_617 (by decide) (fun h9 => absurd h9 (by decide)) (fun _ => ?_)
                        refine rb_iconst C dL_isTold_620 (v := 5) (by decide) ?_
                        refine rb_goto C 625 dL_isTold_621 (by decide) ?_
                        refine rq_iadd C (z := (nI (6 * bj + 5))) dL_isTold_625 (nI_add (6 * bj) 5) ?_
                        refine rw_iald C (x := (nI lw2)) 60 (6 * bj + 5) dL_isTold_626 rfl (hm 3 (by decide)) (vp_in_nI (show 6 * bj + 5 < 60 by omega) (by decide)) (nI_clamp (show 6 * bj + 5 < 2 ^ 31 by omega)) (a5) ?_
                        refine rq_imul C (z := (nI (mi * lw2))) dL_isTold_627 (pk_mul mi lw2) ?_
                        refine rq_iadd C (z := (fo (ow_b M (nI vi) (nI ho) (m_minutesOf M (nI vi) (nI ho) (nI 2))) (k + 1) 0)) dL_isTold_628 (by rw [fo_s, how, if_pos (by omega), m34, hpz, if_neg (by omega), if_neg h591, pk_mul]) ?_
                        refine rb_istore C dL_isTold_629 (Nat.le_of_ble_eq_true rfl) rfl (Lv' := [_, _, _, _, _, _, _, _, _, _, _, _, _, _, _, _, _, _]) rfl ?_
                        refine rq_iinc C dL_isTold_631 rfl (v := (nI (k + 1))) (nI_1 k) rfl (Lv' := [_, _, _, _, _, _, _, _, _, _, _, _, _, _, _, _, _, _]) rfl ?_
                        refine rb_goto C 509 dL_isTold_634 (by decide) ?_
                        refine rb_W.unset 16 ?_
                        refine rb_W.unset 17 ?_
                        exact ih (k + 1) (by omega)
                  · refine rb_goto C 631 dL_isTold_563 (by decide) ?_
                    rw [show (fo (ow_b M (nI vi) (nI ho) (m_minutesOf M (nI vi) (nI ho) (nI 2))) k 0) = (fo (ow_b M (nI vi) (nI ho) (m_minutesOf M (nI vi) (nI ho) (nI 2))) (k + 1) 0) from (by rw [fo_s, how, if_pos (by omega), m34, if_pos ((pd_z (by omega)).mp h560), pz_n, Int32.mul_zero]; exact (Int32.add_zero _).symm)]
                    refine rq_iinc C dL_isTold_631 rfl (v := (nI (k + 1))) (nI_1 k) rfl (Lv' := [_, _, _, _, _, _, _, _, _, _, _, _, _, _, _, _, _, _]) rfl ?_
                    refine rb_goto C 509 dL_isTold_634 (by decide) ?_
                    refine rb_W.unset 16 ?_
                    exact ih (k + 1) (by omega)
          have h0 := loop509 R 0 (by omega)
          rw [fo_0, nI_0] at h0
          exact h0
        | succ dd ih =>
          intro q G W hk9 hL hl
          have hm := hL.1
          refine rb_iload C dL_isTold_449 rfl ?_
          refine rb_iconst C dL_isTold_451 (v := 4) (by decide) ?_
          refine rb_icmp_ge C 489 dL_isTold_452 (by decide) (fun h9 => absurd h9 ((nI_ge (a := q) (b := 4) (by omega) (by omega)))) (fun _ => ?_)
          refine rb_aload_n C dL_isTold_455 rfl ?_
          refine rb_iload C dL_isTold_456 rfl ?_
          refine rb_iload C dL_isTold_458 rfl ?_
          refine rb_iload C dL_isTold_460 rfl ?_
          refine rb_callSW C M_L_127 (fun l X => q_recorded l X G W M hL hl hvi hho (st := q) (by omega)) dL_isTold_462 rfl rfl rfl (Nat.le_of_ble_eq_true rfl) ⟨(Nat.le_of_ble_eq_true rfl), (Nat.le_of_ble_eq_true rfl)⟩ (by omega) (by omega) (fun v G' hp => ?_)
          obtain ⟨rfl, G7, W7, e9, hL7, hw7⟩ := hp
          rw [e9]
          clear e9 G'
          have hl7 := lx_lw hl hw7
          have hm := hL7.1
          refine rb_iload C dL_isTold_465 rfl ?_
          refine rb_iload C dL_isTold_467 rfl ?_
          refine rb_aload C dL_isTold_469 rfl ?_
          refine rb_aload C dL_isTold_471 rfl ?_
          refine rb_aload C dL_isTold_473 rfl ?_
          refine rb_callS C M_L_130 (fun l X => (k_L_minutes l X G7 W7 M hm hl7 vi ho q hvi hho (by omega)).m) dL_isTold_475 rfl rfl rfl (Nat.le_of_ble_eq_true rfl) ⟨(Nat.le_of_ble_eq_true rfl), (Nat.le_of_ble_eq_true rfl)⟩ (by omega) (by omega) (fun v G' hp => ?_) (fun _ _ hp => hp.elim)
          obtain ⟨rfl, e9⟩ := hp
          rw [e9]
          clear e9 G'
          refine rb_icmp_eq C 483 dL_isTold_478 (by decide) (fun _ => ?_) (fun h9 => absurd (rfl) h9)
          refine rq_iinc C dL_isTold_483 rfl (v := (nI (q + 1))) (nI_1 q) rfl (Lv' := [_, _, _, _, _, _, _, _, _, _, _, _, _, _, _, _, _, _]) rfl ?_
          refine rb_goto C 449 dL_isTold_486 (by decide) ?_
          exact rb_W.room (ih (q + 1) G7 W7 (by omega) hL7 hl7) (by omega) (by omega)
      have h0 := loop449 4 0 G W (by omega) hL hl
      rw [nI_0] at h0
      exact rb_W.room h0 (by omega) (by omega)
    | succ dd ih =>
      intro s G W hk hL hl
      have hm := hL.1
      have hs : s < S := by omega
      obtain ⟨pl, hpl, e17⟩ := vp_nat (lr_pl hl hs)
      refine rb_iload C dL_isTold_3 rfl ?_
      refine rb_aload C dL_isTold_5 rfl ?_
      refine rb_iconst C dL_isTold_7 (v := 1) (by decide) ?_
      refine rw_iald C (x := (nI S)) 44 (1) dL_isTold_8 rfl (hm 0 (by decide)) (show ¬ (((1 : Int32)) < 0 ∨ 44 ≤ (1 : Int32).toNatClampNeg) by decide) rfl ((lr_g1 hl)) ?_
      refine rb_icmp_ge C 419 dL_isTold_9 (by decide) (fun h9 => absurd h9 ((nI_ge (a := s) (b := S) (by omega) (by omega)))) (fun _ => ?_)
      refine rb_iload C dL_isTold_12 rfl ?_
      refine rb_iconst C dL_isTold_14 (v := 1) (by decide) ?_
      refine rb_aload C dL_isTold_15 rfl ?_
      refine rb_aload C dL_isTold_17 rfl ?_
      refine rb_aload C dL_isTold_19 rfl ?_
      refine rb_callS C M_L_106 (fun l X => (q_month l X G W M hm hl hs).m) dL_isTold_21 rfl rfl rfl (Nat.le_of_ble_eq_true rfl) ⟨(Nat.le_of_ble_eq_true rfl), (Nat.le_of_ble_eq_true rfl)⟩ (by omega) (by omega) (fun v G' hp => ?_) (fun _ _ hp => hp.elim)
      obtain ⟨rfl, e9⟩ := hp
      rw [e9]
      clear e9 G'
      refine rb_istore C dL_isTold_24 (Nat.le_of_ble_eq_true rfl) rfl (Lv' := [_, _, _, _, _, _, _, _, _, _, _, _, _, _, _, _, _, _]) rfl ?_
      refine rb_iload C dL_isTold_26 rfl ?_
      refine rb_iconst C dL_isTold_28 (v := 0) (by decide) ?_
      refine rb_aload C dL_isTold_29 rfl ?_
      refine rb_aload C dL_isTold_31 rfl ?_
      refine rb_aload C dL_isTold_33 rfl ?_
      refine rb_callS C M_L_106 (fun l X => (q_all l X G W M hm hl hs).m) dL_isTold_35 rfl rfl rfl (Nat.le_of_ble_eq_true rfl) ⟨(Nat.le_of_ble_eq_true rfl), (Nat.le_of_ble_eq_true rfl)⟩ (by omega) (by omega) (fun v G' hp => ?_) (fun _ _ hp => hp.elim)
      obtain ⟨rfl, e9⟩ := hp
      rw [e9]
      clear e9 G'
      refine rb_istore C dL_isTold_38 (Nat.le_of_ble_eq_true rfl) rfl (Lv' := [_, _, _, _, _, _, _, _, _, _, _, _, _, _, _, _, _, _]) rfl ?_
      refine rb_aload_n C dL_isTold_40 rfl ?_
      refine rb_bipush C dL_isTold_41 (v := 8) (by decide) ?_
      refine rb_iload C dL_isTold_43 rfl ?_
      refine rq_imul C (z := (nI (8 * s))) dL_isTold_45 (pk_mul 8 s) ?_
      refine rb_iconst C dL_isTold_46 (v := 3) (by decide) ?_
      refine rq_iadd C (z := (nI (8 * s + 3))) dL_isTold_47 (nI_add (8 * s) 3) ?_
      refine rw_iald C (x := (M (14, 19, 0) s)) 48 (8 * s + 3) dL_isTold_48 rfl (hm 1 (by decide)) (vp_in_nI (show 8 * s + 3 < 48 by omega) (by decide)) (nI_clamp (show 8 * s + 3 < 2 ^ 31 by omega)) ((lr_x3 hl (s := s) (by omega))) ?_
      refine rb_istore C dL_isTold_49 (Nat.le_of_ble_eq_true rfl) rfl (Lv' := [_, _, _, _, _, _, _, _, _, _, _, _, _, _, _, _, _, _]) rfl ?_
      refine rb_aload_n C dL_isTold_51 rfl ?_
      refine rb_iload C dL_isTold_52 rfl ?_
      refine rb_iconst C dL_isTold_54 (v := 0) (by decide) ?_
      refine rb_callSW C M_L_110 (fun l X => q_subIs0 l X G W M hL hl hs) dL_isTold_55 rfl rfl rfl (Nat.le_of_ble_eq_true rfl) ⟨(Nat.le_of_ble_eq_true rfl), (Nat.le_of_ble_eq_true rfl)⟩ (by omega) (by omega) (fun v G' hp => ?_)
      obtain ⟨rfl, G11, W11, e9, hL11, hw11⟩ := hp
      rw [e9]
      clear e9 G'
      have hl11 := lx_lw hl hw11
      have hm := hL11.1
      refine rb_iload C dL_isTold_58 rfl ?_
      refine rb_icmp_ne C 209 dL_isTold_60 (by decide) (fun h9 => absurd (rfl) h9) (fun _ => ?_)
      refine rb_aload_n C dL_isTold_63 rfl ?_
      refine rb_iload C dL_isTold_64 rfl ?_
      refine rb_iconst C dL_isTold_66 (v := 1) (by decide) ?_
      refine rb_callSW C M_L_110 (fun l X => q_subIs1 l X G11 W11 M hL11 hl11 hs) dL_isTold_67 rfl rfl rfl (Nat.le_of_ble_eq_true rfl) ⟨(Nat.le_of_ble_eq_true rfl), (Nat.le_of_ble_eq_true rfl)⟩ (by omega) (by omega) (fun v G' hp => ?_)
      obtain ⟨rfl, G12, W12, e9, hL12, hw12⟩ := hp
      rw [e9]
      clear e9 G'
      have hl12 := lx_lw hl11 hw12
      have hm := hL12.1
      refine rb_aload_n C dL_isTold_70 rfl ?_
      refine rb_bipush C dL_isTold_71 (v := 8) (by decide) ?_
      refine rb_iload C dL_isTold_73 rfl ?_
      refine rq_imul C (z := (nI (8 * s))) dL_isTold_75 (pk_mul 8 s) ?_
      refine rb_iconst C dL_isTold_76 (v := 1) (by decide) ?_
      refine rq_iadd C (z := (nI (8 * s + 1))) dL_isTold_77 (nI_add (8 * s) 1) ?_
      refine rw_iald C (x := (M (14, 17, 0) s)) 48 (8 * s + 1) dL_isTold_78 rfl (hm 1 (by decide)) (vp_in_nI (show 8 * s + 1 < 48 by omega) (by decide)) (nI_clamp (show 8 * s + 1 < 2 ^ 31 by omega)) ((lr_x1 hl12 (s := s) (by omega))) ?_
      refine rb_icmp_ne C 209 dL_isTold_79 (by decide) (fun h9 => absurd (rfl) h9) (fun _ => ?_)
      refine rb_aload_n C dL_isTold_82 rfl ?_
      refine rb_iload C dL_isTold_83 rfl ?_
      refine rb_iconst C dL_isTold_85 (v := 2) (by decide) ?_
      refine rb_callSW C M_L_110 (fun l X => q_subIs2 l X G12 W12 M hL12 hl12 hs) dL_isTold_86 rfl rfl rfl (Nat.le_of_ble_eq_true rfl) ⟨(Nat.le_of_ble_eq_true rfl), (Nat.le_of_ble_eq_true rfl)⟩ (by omega) (by omega) (fun v G' hp => ?_)
      obtain ⟨rfl, G13, W13, e9, hL13, hw13⟩ := hp
      rw [e9]
      clear e9 G'
      have hl13 := lx_lw hl12 hw13
      have hm := hL13.1
      refine rb_aload_n C dL_isTold_89 rfl ?_
      refine rb_bipush C dL_isTold_90 (v := 8) (by decide) ?_
      refine rb_iload C dL_isTold_92 rfl ?_
      refine rq_imul C (z := (nI (8 * s))) dL_isTold_94 (pk_mul 8 s) ?_
      refine rb_iconst C dL_isTold_95 (v := 4) (by decide) ?_
      refine rq_iadd C (z := (nI (8 * s + 4))) dL_isTold_96 (nI_add (8 * s) 4) ?_
      refine rw_iald C (x := (M (14, 20, 0) s)) 48 (8 * s + 4) dL_isTold_97 rfl (hm 1 (by decide)) (vp_in_nI (show 8 * s + 4 < 48 by omega) (by decide)) (nI_clamp (show 8 * s + 4 < 2 ^ 31 by omega)) ((lr_x4 hl13 (s := s) (by omega))) ?_
      refine rb_icmp_ne C 209 dL_isTold_98 (by decide) (fun h9 => absurd (rfl) h9) (fun _ => ?_)
      refine rb_aload_n C dL_isTold_101 rfl ?_
      refine rb_iload C dL_isTold_102 rfl ?_
      refine rb_iconst C dL_isTold_104 (v := 3) (by decide) ?_
      refine rb_callSW C M_L_110 (fun l X => q_subIs3 l X G13 W13 M hL13 hl13 hs) dL_isTold_105 rfl rfl rfl (Nat.le_of_ble_eq_true rfl) ⟨(Nat.le_of_ble_eq_true rfl), (Nat.le_of_ble_eq_true rfl)⟩ (by omega) (by omega) (fun v G' hp => ?_)
      obtain ⟨rfl, G14, W14, e9, hL14, hw14⟩ := hp
      rw [e9]
      clear e9 G'
      have hl14 := lx_lw hl13 hw14
      have hm := hL14.1
      refine rb_iload C dL_isTold_108 rfl ?_
      refine rb_icmp_ne C 209 dL_isTold_110 (by decide) (fun h9 => absurd (rfl) h9) (fun _ => ?_)
      refine rb_aload_n C dL_isTold_113 rfl ?_
      refine rb_iload C dL_isTold_114 rfl ?_
      refine rb_callSW C M_L_113 (fun l X => q_paidAnew l X G14 W14 M hL14 hl14 hs) dL_isTold_116 rfl rfl rfl (Nat.le_of_ble_eq_true rfl) ⟨(Nat.le_of_ble_eq_true rfl), (Nat.le_of_ble_eq_true rfl)⟩ (by omega) (by omega) (fun v G' hp => ?_)
      obtain ⟨rfl, G15, W15, e9, hL15, hw15⟩ := hp
      rw [e9]
      clear e9 G'
      have hl15 := lx_lw hl14 hw15
      have hm := hL15.1
      refine rb_iload C dL_isTold_119 rfl ?_
      refine rb_icmp_ne C 209 dL_isTold_121 (by decide) (fun h9 => absurd (rfl) h9) (fun _ => ?_)
      refine rb_aload_n C dL_isTold_124 rfl ?_
      refine rb_iload C dL_isTold_125 rfl ?_
      refine rb_iconst C dL_isTold_127 (v := 4) (by decide) ?_
      refine rb_callSW C M_L_110 (fun l X => q_subIs4 l X G15 W15 M hL15 hl15 hs) dL_isTold_128 rfl rfl rfl (Nat.le_of_ble_eq_true rfl) ⟨(Nat.le_of_ble_eq_true rfl), (Nat.le_of_ble_eq_true rfl)⟩ (by omega) (by omega) (fun v G' hp => ?_)
      obtain ⟨rfl, G16, W16, e9, hL16, hw16⟩ := hp
      rw [e9]
      clear e9 G'
      have hl16 := lx_lw hl15 hw16
      have hm := hL16.1
      refine rb_iload C dL_isTold_131 rfl ?_
      refine rb_icmp_ne C 209 dL_isTold_133 (by decide) (fun h9 => absurd (rfl) h9) (fun _ => ?_)
      refine rb_aload_n C dL_isTold_136 rfl ?_
      refine rb_iload C dL_isTold_137 rfl ?_
      refine rb_iconst C dL_isTold_139 (v := 5) (by decide) ?_
      refine rb_callSW C M_L_110 (fun l X => q_subIs5 l X G16 W16 M hL16 hl16 hs) dL_isTold_140 rfl rfl rfl (Nat.le_of_ble_eq_true rfl) ⟨(Nat.le_of_ble_eq_true rfl), (Nat.le_of_ble_eq_true rfl)⟩ (by omega) (by omega) (fun v G' hp => ?_)
      obtain ⟨rfl, G17, W17, e9, hL17, hw17⟩ := hp
      rw [e9]
      clear e9 G'
      have hl17 := lx_lw hl16 hw17
      have hm := hL17.1
      refine rb_iconst C dL_isTold_143 (v := 5) (by decide) ?_
      refine rb_iload C dL_isTold_144 rfl ?_
      refine rq_imul C (z := ((5 : Int32) * (m_abroadOf M (nI s)))) dL_isTold_146 rfl ?_
      refine rb_iconst C dL_isTold_147 (v := 4) (by decide) ?_
      refine rb_aload_n C dL_isTold_148 rfl ?_
      refine rb_bipush C dL_isTold_149 (v := 8) (by decide) ?_
      refine rb_iload C dL_isTold_151 rfl ?_
      refine rq_imul C (z := (nI (8 * s))) dL_isTold_153 (pk_mul 8 s) ?_
      refine rb_bipush C dL_isTold_154 (v := 6) (by decide) ?_
      refine rq_iadd C (z := (nI (8 * s + 6))) dL_isTold_156 (nI_add (8 * s) 6) ?_
      refine rw_iald C (x := (M (14, 22, 0) s)) 48 (8 * s + 6) dL_isTold_157 rfl (hm 1 (by decide)) (vp_in_nI (show 8 * s + 6 < 48 by omega) (by decide)) (nI_clamp (show 8 * s + 6 < 2 ^ 31 by omega)) ((lr_x6 hl17 (s := s) (by omega))) ?_
      refine rq_imul C (z := ((4 : Int32) * (M (14, 22, 0) s))) dL_isTold_158 rfl ?_
      have mg159 : ∀ (z : Int32) (hz : z = (if (5 : Int32) * m_abroadOf M (nI s) < 4 * M (14, 22, 0) s then 0 else 1)), rb_W Φ ((((((((((210 * s) + 0) + 0) + 12) + 12) + 12) + 12) + 12) + 12) + 12) ((((((((((1300 * s) + 0) + 0) + 72) + 72) + 72) + 72) + 72) + 72) + 72) 167 [some (rbR (0, 0, 0)), some (rbI v), some (rbR (14, 1, 0)), some (rbR (14, 2, 0)), some (rbR (14, 3, 0)), some (rbR (14, 4, 0)), some (rbR (14, 5, 0)), some (rbR (14, 7, 0)), some (rbR (14, 8, 0)), some (rbR (14, 0, 0)), some (rbI (nI s)), some (rbI (m_abroadOf M (nI s))), some (rbI (M (14, 24, 0) s)), some (rbI (M (14, 19, 0) s)), none, none, none, none] [rbI z, rbI (if (5 : Int32) * m_abroadOf M (nI s) < 4 * M (14, 22, 0) s then 0 else 1)] (wI G17 W17) := by
        intro z hz
        refine rb_icmp_ne C 209 dL_isTold_167 (by decide) (fun h9 => absurd (hz.symm) h9) (fun _ => ?_)
        refine rb_aload_n C dL_isTold_170 rfl ?_
        refine rb_iload C dL_isTold_171 rfl ?_
        refine rb_bipush C dL_isTold_173 (v := 6) (by decide) ?_
        refine rb_callSW C M_L_110 (fun l X => q_subIs6 l X G17 W17 M hL17 hl17 hs) dL_isTold_175 rfl rfl rfl (Nat.le_of_ble_eq_true rfl) ⟨(Nat.le_of_ble_eq_true rfl), (Nat.le_of_ble_eq_true rfl)⟩ (by omega) (by omega) (fun v G' hp => ?_)
        obtain ⟨rfl, G18, W18, e9, hL18, hw18⟩ := hp
        rw [e9]
        clear e9 G'
        have hl18 := lx_lw hl17 hw18
        have hm := hL18.1
        refine rb_aload_n C dL_isTold_178 rfl ?_
        refine rb_bipush C dL_isTold_179 (v := 8) (by decide) ?_
        refine rb_iload C dL_isTold_181 rfl ?_
        refine rq_imul C (z := (nI (8 * s))) dL_isTold_183 (pk_mul 8 s) ?_
        refine rb_bipush C dL_isTold_184 (v := 6) (by decide) ?_
        refine rq_iadd C (z := (nI (8 * s + 6))) dL_isTold_186 (nI_add (8 * s) 6) ?_
        refine rw_iald C (x := (M (14, 22, 0) s)) 48 (8 * s + 6) dL_isTold_187 rfl (hm 1 (by decide)) (vp_in_nI (show 8 * s + 6 < 48 by omega) (by decide)) (nI_clamp (show 8 * s + 6 < 2 ^ 31 by omega)) ((lr_x6 hl18 (s := s) (by omega))) ?_
        refine rb_icmp_ne C 209 dL_isTold_188 (by decide) (fun h9 => absurd (rfl) h9) (fun _ => ?_)
        refine rb_aload_n C dL_isTold_191 rfl ?_
        refine rb_iload C dL_isTold_192 rfl ?_
        refine rb_callSW C M_L_116 (fun l X => q_where l X G18 W18 M hL18 hl18 hs) dL_isTold_194 rfl rfl rfl (Nat.le_of_ble_eq_true rfl) ⟨(Nat.le_of_ble_eq_true rfl), (Nat.le_of_ble_eq_true rfl)⟩ (by omega) (by omega) (fun v G' hp => ?_)
        obtain ⟨rfl, G19, W19, e9, hL19, hw19⟩ := hp
        rw [e9]
        clear e9 G'
        have hl19 := lx_lw hl18 hw19
        have hm := hL19.1
        refine rb_aload_n C dL_isTold_197 rfl ?_
        refine rb_bipush C dL_isTold_198 (v := 8) (by decide) ?_
        refine rb_iload C dL_isTold_200 rfl ?_
        refine rq_imul C (z := (nI (8 * s))) dL_isTold_202 (pk_mul 8 s) ?_
        refine rb_iconst C dL_isTold_203 (v := 5) (by decide) ?_
        refine rq_iadd C (z := (nI (8 * s + 5))) dL_isTold_204 (nI_add (8 * s) 5) ?_
        refine rw_iald C (x := (M (14, 21, 0) s)) 48 (8 * s + 5) dL_isTold_205 rfl (hm 1 (by decide)) (vp_in_nI (show 8 * s + 5 < 48 by omega) (by decide)) (nI_clamp (show 8 * s + 5 < 2 ^ 31 by omega)) ((lr_x5 hl19 (s := s) (by omega))) ?_
        refine rb_icmp_eq C 211 dL_isTold_206 (by decide) (fun _ => ?_) (fun h9 => absurd (rfl) h9)
        refine rb_iconst C dL_isTold_211 (v := 0) (by decide) ?_
        refine rb_istore C dL_isTold_212 (Nat.le_of_ble_eq_true rfl) rfl (Lv' := [_, _, _, _, _, _, _, _, _, _, _, _, _, _, _, _, _, _]) rfl ?_
        refine rb_iconst C dL_isTold_214 (v := (-1)) (by decide) ?_
        refine rb_istore C dL_isTold_215 (Nat.le_of_ble_eq_true rfl) rfl (Lv' := [_, _, _, _, _, _, _, _, _, _, _, _, _, _, _, _, _, _]) rfl ?_
        refine rb_iconst C dL_isTold_217 (v := 5) (by decide) ?_
        refine rb_istore C dL_isTold_218 (Nat.le_of_ble_eq_true rfl) rfl (Lv' := [_, _, _, _, _, _, _, _, _, _, _, _, _, _, _, _, _, _]) rfl ?_
        have loop220 : ∀ (dd : Nat) (G : rb_G) (W : rb_I) (B : Nat) (Lo : Int32), dd ≤ 6 → LI G W M → lx W M S A R P t d → bkP M s dd B → loP M pl dd Lo → rb_W Φ (210 * s + 110 + 12 * (6 - dd)) (1300 * s + 660 + 72 * (6 - dd)) 220 [some (rbR (0, 0, 0)), some (rbI v), some (rbR (14, 1, 0)), some (rbR (14, 2, 0)), some (rbR (14, 3, 0)), some (rbR (14, 4, 0)), some (rbR (14, 5, 0)), some (rbR (14, 7, 0)), some (rbR (14, 8, 0)), some (rbR (14, 0, 0)), some (rbI (nI s)), some (rbI (m_abroadOf M (nI s))), some (rbI (M (14, 24, 0) s)), some (rbI (M (14, 19, 0) s)), some (rbI (nI B)), some (rbI Lo), some (rbI (nI dd - 1)), none] [] (wI G W) := by
          intro dd
          induction dd with
          | zero =>
            intro G W B Lo hd hL hl hB hLo
            have hm := hL.1
            have hB6 := hB.1
            rw [show nI 0 - 1 = (-1 : Int32) by decide]
            refine rb_iload C dL_isTold_220 rfl ?_
            refine rb_if_lt C 321 dL_isTold_222 (by decide) (fun _ => ?_) (fun h9 => absurd (by decide) h9)
            refine rb_iload C dL_isTold_321 rfl ?_
            refine rb_iconst C dL_isTold_323 (v := (-1)) (by decide) ?_
            have mg324 : ∀ (z : Int32) (hz : (z = 1 ∧ agQ M s) ∨ (z = 0 ∧ ¬ agQ M s)), rb_W Φ (210 * s + 110 + 12 * (6 - 0)) (1300 * s + 660 + 72 * (6 - 0)) 368 [some (rbR (0, 0, 0)), some (rbI v), some (rbR (14, 1, 0)), some (rbR (14, 2, 0)), some (rbR (14, 3, 0)), some (rbR (14, 4, 0)), some (rbR (14, 5, 0)), some (rbR (14, 7, 0)), some (rbR (14, 8, 0)), some (rbR (14, 0, 0)), some (rbI (nI s)), some (rbI (m_abroadOf M (nI s))), some (rbI (M (14, 24, 0) s)), some (rbI (M (14, 19, 0) s)), some (rbI (nI B)), some (rbI Lo), some (rbI (-1)), none] [rbI z] (wI G W) := by
              intro z hz
              refine rb_istore C dL_isTold_368 (Nat.le_of_ble_eq_true rfl) rfl (Lv' := [_, _, _, _, _, _, _, _, _, _, _, _, _, _, _, _, _, _]) rfl ?_
              refine rb_aload_n C dL_isTold_370 rfl ?_
              refine rb_iload C dL_isTold_371 rfl ?_
              refine rb_callSW C M_L_120 (fun l X => q_agrees l X G W M hL hl hs hz) dL_isTold_373 rfl rfl rfl (Nat.le_of_ble_eq_true rfl) ⟨(Nat.le_of_ble_eq_true rfl), (Nat.le_of_ble_eq_true rfl)⟩ (by omega) (by omega) (fun v G' hp => ?_)
              obtain ⟨rfl, G20, W20, e9, hL20, hw20⟩ := hp
              rw [e9]
              clear e9 G'
              have hl20 := lx_lw hl hw20
              have hm := hL20.1
              refine rb_iload C dL_isTold_376 rfl ?_
              refine rb_if_eq C 385 dL_isTold_378 (by decide) (fun h378 => ?_) (fun h378 => ?_)
              · refine rb_iconst C dL_isTold_385 (v := 0) (by decide) ?_
                refine rb_icmp_ne C 411 dL_isTold_386 (by decide) (fun h9 => absurd (h378) h9) (fun _ => ?_)
                refine rb_aload_n C dL_isTold_389 rfl ?_
                refine rb_iload C dL_isTold_390 rfl ?_
                refine rb_callSW C M_L_122 (fun l X => q_emergency l X G20 W20 M hL20 hl20 hs) dL_isTold_392 rfl rfl rfl (Nat.le_of_ble_eq_true rfl) ⟨(Nat.le_of_ble_eq_true rfl), (Nat.le_of_ble_eq_true rfl)⟩ (by omega) (by omega) (fun v G' hp => ?_)
                obtain ⟨rfl, G21, W21, e9, hL21, hw21⟩ := hp
                rw [e9]
                clear e9 G'
                have hl21 := lx_lw hl20 hw21
                have hm := hL21.1
                refine rb_iload C dL_isTold_395 rfl ?_
                refine rb_iconst C dL_isTold_397 (v := (-1)) (by decide) ?_
                refine rb_icmp_ne C 406 dL_isTold_398 (by decide) (fun h398 => ?_) (fun h398 => ?_)
                · refine rb_iload C dL_isTold_406 rfl ?_
                  refine rb_icmp_eq C 413 dL_isTold_408 (by decide) (fun _ => ?_) (fun h9 => absurd (em_at h398) h9)
                  refine rq_iinc C dL_isTold_413 rfl (v := (nI (s + 1))) (nI_1 s) rfl (Lv' := [_, _, _, _, _, _, _, _, _, _, _, _, _, _, _, _, _, _]) rfl ?_
                  refine rb_goto C 3 dL_isTold_416 (by decide) ?_
                  refine rb_W.unset 11 ?_
                  refine rb_W.unset 12 ?_
                  refine rb_W.unset 13 ?_
                  refine rb_W.unset 14 ?_
                  refine rb_W.unset 15 ?_
                  refine rb_W.unset 16 ?_
                  exact rb_W.room (ih (s + 1) G21 W21 (by omega) hL21 hl21) (by omega) (by omega)
                · refine rb_iload C dL_isTold_401 rfl ?_
                  refine rb_goto C 408 dL_isTold_403 (by decide) ?_
                  refine rb_icmp_eq C 413 dL_isTold_408 (by decide) (fun _ => ?_) (fun h9 => absurd (em_fo (by omega) (by omega) e17 h398 hLo) h9)
                  refine rq_iinc C dL_isTold_413 rfl (v := (nI (s + 1))) (nI_1 s) rfl (Lv' := [_, _, _, _, _, _, _, _, _, _, _, _, _, _, _, _, _, _]) rfl ?_
                  refine rb_goto C 3 dL_isTold_416 (by decide) ?_
                  refine rb_W.unset 11 ?_
                  refine rb_W.unset 12 ?_
                  refine rb_W.unset 13 ?_
                  refine rb_W.unset 14 ?_
                  refine rb_W.unset 15 ?_
                  refine rb_W.unset 16 ?_
                  exact rb_W.room (ih (s + 1) G21 W21 (by omega) hL21 hl21) (by omega) (by omega)
              · refine rb_iconst C dL_isTold_381 (v := 1) (by decide) ?_
                refine rb_goto C 386 dL_isTold_382 (by decide) ?_
                refine rb_icmp_ne C 411 dL_isTold_386 (by decide) (fun h9 => absurd ((hz.resolve_right (fun q => h378 q.1)).1) h9) (fun _ => ?_)
                refine rb_aload_n C dL_isTold_389 rfl ?_
                refine rb_iload C dL_isTold_390 rfl ?_
                refine rb_callSW C M_L_122 (fun l X => q_emergency l X G20 W20 M hL20 hl20 hs) dL_isTold_392 rfl rfl rfl (Nat.le_of_ble_eq_true rfl) ⟨(Nat.le_of_ble_eq_true rfl), (Nat.le_of_ble_eq_true rfl)⟩ (by omega) (by omega) (fun v G' hp => ?_)
                obtain ⟨rfl, G22, W22, e9, hL22, hw22⟩ := hp
                rw [e9]
                clear e9 G'
                have hl22 := lx_lw hl20 hw22
                have hm := hL22.1
                refine rb_iload C dL_isTold_395 rfl ?_
                refine rb_iconst C dL_isTold_397 (v := (-1)) (by decide) ?_
                refine rb_icmp_ne C 406 dL_isTold_398 (by decide) (fun h398 => ?_) (fun h398 => ?_)
                · refine rb_iload C dL_isTold_406 rfl ?_
                  refine rb_icmp_eq C 413 dL_isTold_408 (by decide) (fun _ => ?_) (fun h9 => absurd (em_at h398) h9)
                  refine rq_iinc C dL_isTold_413 rfl (v := (nI (s + 1))) (nI_1 s) rfl (Lv' := [_, _, _, _, _, _, _, _, _, _, _, _, _, _, _, _, _, _]) rfl ?_
                  refine rb_goto C 3 dL_isTold_416 (by decide) ?_
                  refine rb_W.unset 11 ?_
                  refine rb_W.unset 12 ?_
                  refine rb_W.unset 13 ?_
                  refine rb_W.unset 14 ?_
                  refine rb_W.unset 15 ?_
                  refine rb_W.unset 16 ?_
                  exact rb_W.room (ih (s + 1) G22 W22 (by omega) hL22 hl22) (by omega) (by omega)
                · refine rb_iload C dL_isTold_401 rfl ?_
                  refine rb_goto C 408 dL_isTold_403 (by decide) ?_
                  refine rb_icmp_eq C 413 dL_isTold_408 (by decide) (fun _ => ?_) (fun h9 => absurd (em_fo (by omega) (by omega) e17 h398 hLo) h9)
                  refine rq_iinc C dL_isTold_413 rfl (v := (nI (s + 1))) (nI_1 s) rfl (Lv' := [_, _, _, _, _, _, _, _, _, _, _, _, _, _, _, _, _, _]) rfl ?_
                  refine rb_goto C 3 dL_isTold_416 (by decide) ?_
                  refine rb_W.unset 11 ?_
                  refine rb_W.unset 12 ?_
                  refine rb_W.unset 13 ?_
                  refine rb_W.unset 14 ?_
                  refine rb_W.unset 15 ?_
                  refine rb_W.unset 16 ?_
                  exact rb_W.room (ih (s + 1) G22 W22 (by omega) hL22 hl22) (by omega) (by omega)
            refine rb_icmp_ne C 340 dL_isTold_324 (by decide) (fun h324 => ?_) (fun h324 => ?_)
            · obtain ⟨an, han, ean⟩ := at6_nat (lr_at hl hs) h324
              refine rb_iload C dL_isTold_340 rfl ?_
              refine rb_iconst C dL_isTold_342 (v := 1) (by decide) ?_
              refine rb_iload C dL_isTold_343 rfl ?_
              refine rq_ishl C (z := (nI (2 ^ an))) dL_isTold_345 (by rw [ean]; exact shl1 an han) ?_
              refine rb_icmp_ne C 367 dL_isTold_346 (by decide) (fun h346 => ?_) (fun h346 => ?_)
              · replace h346 := mt (nI_eq (show B < 2 ^ 31 by omega) (p2_ an han)).mpr h346
                refine rb_iconst C dL_isTold_367 (v := 0) (by decide) ?_
                exact mg324 0 (Or.inr ⟨rfl, fun q => h346 ((ag_b ean han hB).mpr q).1⟩)
              · replace h346 := (nI_eq (show B < 2 ^ 31 by omega) (p2_ an han)).mp h346
                refine rb_aload_n C dL_isTold_349 rfl ?_
                refine rb_bipush C dL_isTold_350 (v := 8) (by decide) ?_
                refine rb_iload C dL_isTold_352 rfl ?_
                refine rq_imul C (z := (nI (8 * s))) dL_isTold_354 (pk_mul 8 s) ?_
                refine rb_iconst C dL_isTold_355 (v := 5) (by decide) ?_
                refine rq_iadd C (z := (nI (8 * s + 5))) dL_isTold_356 (nI_add (8 * s) 5) ?_
                refine rw_iald C (x := (M (14, 21, 0) s)) 48 (8 * s + 5) dL_isTold_357 rfl (hm 1 (by decide)) (vp_in_nI (show 8 * s + 5 < 48 by omega) (by decide)) (nI_clamp (show 8 * s + 5 < 2 ^ 31 by omega)) ((lr_x5 hl (s := s) (by omega))) ?_
                refine rb_iload C dL_isTold_358 rfl ?_
                refine rb_icmp_ne C 367 dL_isTold_360 (by decide) (fun h360 => ?_) (fun h360 => ?_)
                · refine rb_iconst C dL_isTold_367 (v := 0) (by decide) ?_
                  exact mg324 0 (Or.inr ⟨rfl, fun q => h360 ((ag_b ean han hB).mpr q).2⟩)
                · refine rb_iconst C dL_isTold_363 (v := 1) (by decide) ?_
                  refine rb_goto C 368 dL_isTold_364 (by decide) ?_
                  exact mg324 1 (Or.inl ⟨rfl, (ag_b ean han hB).mp ⟨h346, h360⟩⟩)
            · refine rb_iload C dL_isTold_327 rfl ?_
              refine rb_if_ne C 336 dL_isTold_329 (by decide) (fun h329 => ?_) (fun h329 => ?_)
              · replace h329 := mt (nI_eq (a := B) (b := 0) (by omega) (by omega)).mpr h329
                refine rb_iconst C dL_isTold_336 (v := 0) (by decide) ?_
                refine rb_goto C 368 dL_isTold_337 (by decide) ?_
                exact mg324 0 (Or.inr ⟨rfl, fun q => h329 ((ag_a h324 hB).mpr q)⟩)
              · replace h329 := (nI_eq (a := B) (b := 0) (by omega) (by omega)).mp h329
                refine rb_iconst C dL_isTold_332 (v := 1) (by decide) ?_
                refine rb_goto C 368 dL_isTold_333 (by decide) ?_
                exact mg324 1 (Or.inl ⟨rfl, (ag_a h324 hB).mp h329⟩)
          | succ dd ih =>
            intro G W B Lo hd hL hl hB hLo
            have hm := hL.1
            rw [nI_pred dd]
            have hB6 := hB.1
            refine rb_iload C dL_isTold_220 rfl ?_
            refine rb_if_lt C 321 dL_isTold_222 (by decide) (fun h9 => absurd h9 (nI_pos (show dd < 2 ^ 31 by omega))) (fun _ => ?_)
            refine rb_aload_n C dL_isTold_225 rfl ?_
            refine rb_iload C dL_isTold_226 rfl ?_
            refine rb_iload C dL_isTold_228 rfl ?_
            refine rb_callSW C M_L_118 (fun l X => q_contact l X G W M hL hl (n := dd) (s := s) (by omega) hs) dL_isTold_230 rfl rfl rfl (Nat.le_of_ble_eq_true rfl) ⟨(Nat.le_of_ble_eq_true rfl), (Nat.le_of_ble_eq_true rfl)⟩ (by omega) (by omega) (fun v G' hp => ?_)
            obtain ⟨rfl, G23, W23, e9, hL23, hw23⟩ := hp
            rw [e9]
            clear e9 G'
            have hl23 := lx_lw hl hw23
            have hm := hL23.1
            refine rb_aload_n C dL_isTold_233 rfl ?_
            refine rb_bipush C dL_isTold_234 (v := 6) (by decide) ?_
            refine rb_iload C dL_isTold_236 rfl ?_
            refine rq_imul C (z := (nI (6 * dd))) dL_isTold_238 (pk_mul 6 dd) ?_
            refine rb_iload C dL_isTold_239 rfl ?_
            refine rq_iadd C (z := (nI (6 * dd + s))) dL_isTold_241 (nI_add (6 * dd) s) ?_
            refine rw_iald C (x := (M (14, 27, 0) (10 * dd + s))) 36 (6 * dd + s) dL_isTold_242 rfl (hm 2 (by decide)) (vp_in_nI (show 6 * dd + s < 36 by omega) (by decide)) (nI_clamp (show 6 * dd + s < 2 ^ 31 by omega)) ((lr_bk hl23 (n := dd) (s := s) (by omega) (by omega))) ?_
            refine rb_icmp_eq C 248 dL_isTold_243 (by decide) (fun _ => ?_) (fun h9 => absurd (rfl) h9)
            refine rb_iload C dL_isTold_248 rfl ?_
            refine rb_aload_n C dL_isTold_250 rfl ?_
            refine rb_bipush C dL_isTold_251 (v := 6) (by decide) ?_
            refine rb_iload C dL_isTold_253 rfl ?_
            refine rq_imul C (z := (nI (6 * dd))) dL_isTold_255 (pk_mul 6 dd) ?_
            refine rb_iload C dL_isTold_256 rfl ?_
            refine rq_iadd C (z := (nI (6 * dd + s))) dL_isTold_258 (nI_add (6 * dd) s) ?_
            refine rw_iald C (x := (M (14, 27, 0) (10 * dd + s))) 36 (6 * dd + s) dL_isTold_259 rfl (hm 2 (by decide)) (vp_in_nI (show 6 * dd + s < 36 by omega) (by decide)) (nI_clamp (show 6 * dd + s < 2 ^ 31 by omega)) ((lr_bk hl23 (n := dd) (s := s) (by omega) (by omega))) ?_
            refine rb_iconst C dL_isTold_260 (v := (-1)) (by decide) ?_
            refine rb_icmp_ne C 268 dL_isTold_261 (by decide) (fun h261 => ?_) (fun h261 => ?_)
            · refine rb_iconst C dL_isTold_268 (v := 1) (by decide) ?_
              refine rb_iload C dL_isTold_269 rfl ?_
              refine rq_ishl C (z := (nI (2 ^ dd))) dL_isTold_271 (shl1 dd (by omega)) ?_
              refine rq_ior C (z := (nI (B ||| 2 ^ dd))) dL_isTold_272 (bs_or _ _) ?_
              refine rb_istore C dL_isTold_273 (Nat.le_of_ble_eq_true rfl) rfl (Lv' := [_, _, _, _, _, _, _, _, _, _, _, _, _, _, _, _, _, _]) rfl ?_
              refine rb_aload C dL_isTold_275 rfl ?_
              refine rb_bipush C dL_isTold_277 (v := 18) (by decide) ?_
              refine rb_aload_n C dL_isTold_279 rfl ?_
              refine rb_bipush C dL_isTold_280 (v := 8) (by decide) ?_
              refine rb_iload C dL_isTold_282 rfl ?_
              refine rq_imul C (z := (nI (8 * s))) dL_isTold_284 (pk_mul 8 s) ?_
              refine rb_iconst C dL_isTold_285 (v := 1) (by decide) ?_
              refine rq_iadd C (z := (nI (8 * s + 1))) dL_isTold_286 (nI_add (8 * s) 1) ?_
              refine rw_iald C (x := (nI pl)) 48 (8 * s + 1) dL_isTold_287 rfl (hm 1 (by decide)) (vp_in_nI (show 8 * s + 1 < 48 by omega) (by decide)) (nI_clamp (show 8 * s + 1 < 2 ^ 31 by omega)) ((lr_x1 hl23 hs).trans e17) ?_
              refine rq_iadd C (z := (nI (18 + pl))) dL_isTold_288 (nI_add 18 pl) ?_
              refine rw_iald C (x := (M (14, 2, 0) pl)) 44 (18 + pl) dL_isTold_289 rfl (hm 0 (by decide)) (vp_in_nI (show 18 + pl < 44 by omega) (by decide)) (nI_clamp (show 18 + pl < 2 ^ 31 by omega)) ((lr_R hl23 (p := pl) (by omega)).1) ?_
              refine rb_iload C dL_isTold_290 rfl ?_
              refine rq_ishr C (z := ((M (14, 2, 0) pl) >>> ((nI dd) &&& 31))) dL_isTold_292 rfl ?_
              refine rb_iconst C dL_isTold_293 (v := 1) (by decide) ?_
              refine rq_iand C (z := (((M (14, 2, 0) pl) >>> ((nI dd) &&& 31)) &&& (1 : Int32))) dL_isTold_294 rfl ?_
              refine rb_iconst C dL_isTold_295 (v := 1) (by decide) ?_
              refine rb_icmp_ne C 315 dL_isTold_296 (by decide) (fun h296 => ?_) (fun h296 => ?_)
              · refine rq_iinc C dL_isTold_315 rfl (v := (nI dd - 1)) (nI_dec dd) rfl (Lv' := [_, _, _, _, _, _, _, _, _, _, _, _, _, _, _, _, _, _]) rfl ?_
                refine rb_goto C 220 dL_isTold_318 (by decide) ?_
                exact rb_W.room (ih G23 W23 (B ||| 2 ^ dd) Lo (by omega) hL23 hl23 (bkP_y hB (by omega) h261) (loP_n hLo (fun q => q.1 (isIn_n h296)))) (by omega) (by omega)
              · refine rb_aload C dL_isTold_299 rfl ?_
                refine rb_iconst C dL_isTold_301 (v := 5) (by decide) ?_
                refine rw_iald C (x := (nI d)) 44 (5) dL_isTold_302 rfl (hm 0 (by decide)) (show ¬ (((5 : Int32)) < 0 ∨ 44 ≤ (5 : Int32).toNatClampNeg) by decide) rfl ((lr_g5 hl23)) ?_
                refine rb_iload C dL_isTold_303 rfl ?_
                refine rq_ishr C (z := (nI (d / 2 ^ dd))) dL_isTold_305 (bs_shr (by omega) (by omega)) ?_
                refine rb_iconst C dL_isTold_306 (v := 1) (by decide) ?_
                refine rq_iand C (z := (nI (d / 2 ^ dd % 2))) dL_isTold_307 (bs_and (Nat.lt_of_le_of_lt (Nat.div_le_self _ _) (by omega)) 1 rfl) ?_
                refine rb_if_ne C 315 dL_isTold_308 (by decide) (fun h308 => ?_) (fun h308 => ?_)
                · replace h308 := mt (nI_eq (a := d / 2 ^ dd % 2) (b := 0) (by omega) (by omega)).mpr h308
                  refine rq_iinc C dL_isTold_315 rfl (v := (nI dd - 1)) (nI_dec dd) rfl (Lv' := [_, _, _, _, _, _, _, _, _, _, _, _, _, _, _, _, _, _]) rfl ?_
                  refine rb_goto C 220 dL_isTold_318 (by decide) ?_
                  exact rb_W.room (ih G23 W23 (B ||| 2 ^ dd) Lo (by omega) hL23 hl23 (bkP_y hB (by omega) h261) (loP_n hLo (fun q => h308 ((nI_eq (b := 0) (by omega) (by decide)).mp ((lr_N hl23 (n := dd) (by omega)).1.symm.trans q.2))))) (by omega) (by omega)
                · replace h308 := (nI_eq (a := d / 2 ^ dd % 2) (b := 0) (by omega) (by omega)).mp h308
                  refine rb_iload C dL_isTold_311 rfl ?_
                  refine rb_istore C dL_isTold_313 (Nat.le_of_ble_eq_true rfl) rfl (Lv' := [_, _, _, _, _, _, _, _, _, _, _, _, _, _, _, _, _, _]) rfl ?_
                  refine rq_iinc C dL_isTold_315 rfl (v := (nI dd - 1)) (nI_dec dd) rfl (Lv' := [_, _, _, _, _, _, _, _, _, _, _, _, _, _, _, _, _, _]) rfl ?_
                  refine rb_goto C 220 dL_isTold_318 (by decide) ?_
                  exact rb_W.room (ih G23 W23 (B ||| 2 ^ dd) (nI dd) (by omega) hL23 hl23 (bkP_y hB (by omega) h261) (loP_y (by omega) ⟨isIn_y h296, by rw [(lr_N hl23 (n := dd) (by omega)).1, show d / 2 ^ dd % 2 = 0 from h308]; rfl⟩)) (by omega) (by omega)
            · refine rb_iconst C dL_isTold_264 (v := 0) (by decide) ?_
              refine rb_goto C 272 dL_isTold_265 (by decide) ?_
              refine rq_ior C (z := (nI B)) dL_isTold_272 (or_0 B) ?_
              refine rb_istore C dL_isTold_273 (Nat.le_of_ble_eq_true rfl) rfl (Lv' := [_, _, _, _, _, _, _, _, _, _, _, _, _, _, _, _, _, _]) rfl ?_
              refine rb_aload C dL_isTold_275 rfl ?_
              refine rb_bipush C dL_isTold_277 (v := 18) (by decide) ?_
              refine rb_aload_n C dL_isTold_279 rfl ?_
              refine rb_bipush C dL_isTold_280 (v := 8) (by decide) ?_
              refine rb_iload C dL_isTold_282 rfl ?_
              refine rq_imul C (z := (nI (8 * s))) dL_isTold_284 (pk_mul 8 s) ?_
              refine rb_iconst C dL_isTold_285 (v := 1) (by decide) ?_
              refine rq_iadd C (z := (nI (8 * s + 1))) dL_isTold_286 (nI_add (8 * s) 1) ?_
              refine rw_iald C (x := (nI pl)) 48 (8 * s + 1) dL_isTold_287 rfl (hm 1 (by decide)) (vp_in_nI (show 8 * s + 1 < 48 by omega) (by decide)) (nI_clamp (show 8 * s + 1 < 2 ^ 31 by omega)) ((lr_x1 hl23 hs).trans e17) ?_
              refine rq_iadd C (z := (nI (18 + pl))) dL_isTold_288 (nI_add 18 pl) ?_
              refine rw_iald C (x := (M (14, 2, 0) pl)) 44 (18 + pl) dL_isTold_289 rfl (hm 0 (by decide)) (vp_in_nI (show 18 + pl < 44 by omega) (by decide)) (nI_clamp (show 18 + pl < 2 ^ 31 by omega)) ((lr_R hl23 (p := pl) (by omega)).1) ?_
              refine rb_iload C dL_isTold_290 rfl ?_
              refine rq_ishr C (z := ((M (14, 2, 0) pl) >>> ((nI dd) &&& 31))) dL_isTold_292 rfl ?_
              refine rb_iconst C dL_isTold_293 (v := 1) (by decide) ?_
              refine rq_iand C (z := (((M (14, 2, 0) pl) >>> ((nI dd) &&& 31)) &&& (1 : Int32))) dL_isTold_294 rfl ?_
              refine rb_iconst C dL_isTold_295 (v := 1) (by decide) ?_
              refine rb_icmp_ne C 315 dL_isTold_296 (by decide) (fun h296 => ?_) (fun h296 => ?_)
              · refine rq_iinc C dL_isTold_315 rfl (v := (nI dd - 1)) (nI_dec dd) rfl (Lv' := [_, _, _, _, _, _, _, _, _, _, _, _, _, _, _, _, _, _]) rfl ?_
                refine rb_goto C 220 dL_isTold_318 (by decide) ?_
                exact rb_W.room (ih G23 W23 B Lo (by omega) hL23 hl23 (bkP_n hB (by omega) h261) (loP_n hLo (fun q => q.1 (isIn_n h296)))) (by omega) (by omega)
              · refine rb_aload C dL_isTold_299 rfl ?_
                refine rb_iconst C dL_isTold_301 (v := 5) (by decide) ?_
                refine rw_iald C (x := (nI d)) 44 (5) dL_isTold_302 rfl (hm 0 (by decide)) (show ¬ (((5 : Int32)) < 0 ∨ 44 ≤ (5 : Int32).toNatClampNeg) by decide) rfl ((lr_g5 hl23)) ?_
                refine rb_iload C dL_isTold_303 rfl ?_
                refine rq_ishr C (z := (nI (d / 2 ^ dd))) dL_isTold_305 (bs_shr (by omega) (by omega)) ?_
                refine rb_iconst C dL_isTold_306 (v := 1) (by decide) ?_
                refine rq_iand C (z := (nI (d / 2 ^ dd % 2))) dL_isTold_307 (bs_and (Nat.lt_of_le_of_lt (Nat.div_le_self _ _) (by omega)) 1 rfl) ?_
                refine rb_if_ne C 315 dL_isTold_308 (by decide) (fun h308 => ?_) (fun h308 => ?_)
                · replace h308 := mt (nI_eq (a := d / 2 ^ dd % 2) (b := 0) (by omega) (by omega)).mpr h308
                  refine rq_iinc C dL_isTold_315 rfl (v := (nI dd - 1)) (nI_dec dd) rfl (Lv' := [_, _, _, _, _, _, _, _, _, _, _, _, _, _, _, _, _, _]) rfl ?_
                  refine rb_goto C 220 dL_isTold_318 (by decide) ?_
                  exact rb_W.room (ih G23 W23 B Lo (by omega) hL23 hl23 (bkP_n hB (by omega) h261) (loP_n hLo (fun q => h308 ((nI_eq (b := 0) (by omega) (by decide)).mp ((lr_N hl23 (n := dd) (by omega)).1.symm.trans q.2))))) (by omega) (by omega)
                · replace h308 := (nI_eq (a := d / 2 ^ dd % 2) (b := 0) (by omega) (by omega)).mp h308
                  refine rb_iload C dL_isTold_311 rfl ?_
                  refine rb_istore C dL_isTold_313 (Nat.le_of_ble_eq_true rfl) rfl (Lv' := [_, _, _, _, _, _, _, _, _, _, _, _, _, _, _, _, _, _]) rfl ?_
                  refine rq_iinc C dL_isTold_315 rfl (v := (nI dd - 1)) (nI_dec dd) rfl (Lv' := [_, _, _, _, _, _, _, _, _, _, _, _, _, _, _, _, _, _]) rfl ?_
                  refine rb_goto C 220 dL_isTold_318 (by decide) ?_
                  exact rb_W.room (ih G23 W23 B (nI dd) (by omega) hL23 hl23 (bkP_n hB (by omega) h261) (loP_y (by omega) ⟨isIn_y h296, by rw [(lr_N hl23 (n := dd) (by omega)).1, show d / 2 ^ dd % 2 = 0 from h308]; rfl⟩)) (by omega) (by omega)
        exact rb_W.room (loop220 6 G19 W19 0 (-1) (by omega) hL19 hl19 (bkP_6 M s) (loP_6 M pl)) (by omega) (by omega)
      refine rb_icmp_lt C 166 dL_isTold_159 (by decide) (fun h159 => ?_) (fun h159 => ?_)
      · refine rb_iconst C dL_isTold_166 (v := 0) (by decide) ?_
        exact mg159 0 (if_pos h159).symm
      · refine rb_iconst C dL_isTold_162 (v := 1) (by decide) ?_
        refine rb_goto C 167 dL_isTold_163 (by decide) ?_
        exact mg159 1 (if_neg h159).symm
  have h0 := loop3 S 0 G W (by omega) hL hl
  rw [nI_0] at h0
  exact h0

