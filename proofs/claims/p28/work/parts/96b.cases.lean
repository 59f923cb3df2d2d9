set_option maxRecDepth 100000 in
set_option maxHeartbeats 4000000 in
theorem law_2 {Φ : rb_F} {cells slots : Nat} (C : rb_C Φ RL cL_law 54 15 568 734644 6897897) (hc : cells + 90 ≤ 734644) (hsl : slots + 2600 ≤ 6897897) {G : rb_G} {W M : rb_I} (hL : LI G W M) {S A R P t d : Nat} (hl : lx W M S A R P t d) (v u : Int32) (k n i j : Nat) (hk : k < 140) (hn : n < 6) (hi : i < S ∨ S = 0 ∧ i = 0) (hj : j < S ∨ S = 0 ∧ j = 0) (kk : ∀ G' W' M', lJ G' W' M' → rb_W Φ (cells + 90) (slots + 2600) 3288 (LVE k v u) [] (wI G' W')) : rb_W Φ cells slots 716 (LV0 k v u n i j) [] (wI G W) := by
  show rb_W Φ cells slots 716 [some (rbR (18, 0, 0)), some (rbR (0, 0, 0)), some (rbR (14, 0, 0)), some (rbR (14, 1, 0)), some (rbR (14, 2, 0)), some (rbR (14, 3, 0)), some (rbR (14, 4, 0)), some (rbR (14, 5, 0)), some (rbR (14, 6, 0)), some (rbR (14, 7, 0)), some (rbR (14, 8, 0)), some (rbR (14, 9, 0)), some (rbI (nI k)), some (rbI v), some (rbI u), some (rbI (nI n)), some (rbI (nI i)), some (rbI (nI j)), some (rbI 1), none, none, none, none, none, none, none, none, none, none, none, none, none, none, none, none, none, none, none, none, none, none, none, none, none, none, none, none, none, none, none, none, none, none, none] [] (wI G W)
  have hm := hL.1
  obtain ⟨hS6, hA10, hRP, hP58, hP2, hd64, htm⟩ := lr_b hl
  refine rb_aload_n C dL_law_716 rfl ?_
  refine rb_iconst C dL_law_717 (v := 2) (by decide) ?_
  refine rw_iald C (x := (nI A)) 44 (2) dL_law_718 rfl (hm 0 (by decide)) (show ¬ (((2 : Int32)) < 0 ∨ 44 ≤ (2 : Int32).toNatClampNeg) by decide) rfl ((lr_g2 hl)) ?_
  refine rb_bipush C dL_law_719 (v := 10) (by decide) ?_
  refine rb_icmp_ne C 727 dL_law_721 (by decide) (fun h721 => ?_) (fun h721 => ?_)
  · replace h721 := mt (nI_eq (a := A) (b := 10) (by omega) (by omega)).mpr h721
    have hA9 : A < 10 := by omega
    refine rb_iload C dL_law_727 rfl ?_
    refine rb_iconst C dL_law_729 (v := 3) (by decide) ?_
    refine rb_callS C M_L_124 (fun l X => (k_L_low l X G W _ 3 (by decide) (by decide)).m) dL_law_730 rfl rfl rfl (Nat.le_of_ble_eq_true rfl) ⟨(Nat.le_of_ble_eq_true rfl), (Nat.le_of_ble_eq_true rfl)⟩ (by omega) (by omega) (fun v G' hp => ?_) (fun _ _ hp => hp.elim)
    obtain ⟨h9, hh9, rfl, e9⟩ := hp
    rw [e9]
    clear e9 G'
    refine rb_istore C dL_law_733 (Nat.le_of_ble_eq_true rfl) rfl (Lv' := [_, _, _, _, _, _, _, _, _, _, _, _, _, _, _, _, _, _, _, _, _, _, _, _, _, _, _, _, _, _, _, _, _, _, _, _, _, _, _, _, _, _, _, _, _, _, _, _, _, _, _, _, _, _]) rfl ?_
    refine rb_bipush C dL_law_735 (v := 6) (by decide) ?_
    refine rb_aload_n C dL_law_737 rfl ?_
    refine rb_iconst C dL_law_738 (v := 2) (by decide) ?_
    refine rw_iald C (x := (nI A)) 44 (2) dL_law_739 rfl (hm 0 (by decide)) (show ¬ (((2 : Int32)) < 0 ∨ 44 ≤ (2 : Int32).toNatClampNeg) by decide) rfl ((lr_g2 hl)) ?_
    refine rq_imul C (z := (nI (6 * A))) dL_law_740 (pk_mul 6 A) ?_
    refine rb_istore C dL_law_741 (Nat.le_of_ble_eq_true rfl) rfl (Lv' := [_, _, _, _, _, _, _, _, _, _, _, _, _, _, _, _, _, _, _, _, _, _, _, _, _, _, _, _, _, _, _, _, _, _, _, _, _, _, _, _, _, _, _, _, _, _, _, _, _, _, _, _, _, _]) rfl ?_
    refine rb_iload C dL_law_743 rfl ?_
    refine rb_ldc C dL_law_745 N_L_149 ?_
    refine rq_iand C (z := (u &&& (1048576 : Int32))) dL_law_747 rfl ?_
    have mg748 : ∀ (fr : Nat) (hfr : fr ≤ 600000), rb_W Φ (cells + 0) (slots + 0) 771 [some (rbR (18, 0, 0)), some (rbR (0, 0, 0)), some (rbR (14, 0, 0)), some (rbR (14, 1, 0)), some (rbR (14, 2, 0)), some (rbR (14, 3, 0)), some (rbR (14, 4, 0)), some (rbR (14, 5, 0)), some (rbR (14, 6, 0)), some (rbR (14, 7, 0)), some (rbR (14, 8, 0)), some (rbR (14, 9, 0)), some (rbI (nI k)), some (rbI v), some (rbI u), some (rbI (nI n)), some (rbI (nI i)), some (rbI (nI j)), some (rbI 1), none, none, none, some (rbI (nI h9)), some (rbI (nI (6 * A))), none, none, none, none, none, none, none, none, none, none, none, none, none, none, none, none, none, none, none, none, none, none, none, none, none, none, none, none, none, none] [rbI (nI fr)] (wI G W) := by
      intro fr hfr
      refine rb_istore C dL_law_771 (Nat.le_of_ble_eq_true rfl) rfl (Lv' := [_, _, _, _, _, _, _, _, _, _, _, _, _, _, _, _, _, _, _, _, _, _, _, _, _, _, _, _, _, _, _, _, _, _, _, _, _, _, _, _, _, _, _, _, _, _, _, _, _, _, _, _, _, _]) rfl ?_
      refine rb_iload C dL_law_773 rfl ?_
      refine rb_iconst C dL_law_775 (v := 1) (by decide) ?_
      refine rq_iadd C (z := (nI (fr + 1))) dL_law_776 (nI_add fr 1) ?_
      refine rb_iload C dL_law_777 rfl ?_
      refine rb_bipush C dL_law_779 (v := 7) (by decide) ?_
      refine rq_ishr C (z := (u >>> ((7 : Int32) &&& 31))) dL_law_781 rfl ?_
      refine rb_iload C dL_law_782 rfl ?_
      refine rb_ldc C dL_law_784 N_L_150 ?_
      refine rq_iand C (z := (u &&& (2097152 : Int32))) dL_law_786 rfl ?_
      have mg787 : ∀ (bz : Nat) (hbz : bz = 900000 ∨ bz = 3000), rb_W Φ (cells + 0) (slots + 0) 798 [some (rbR (18, 0, 0)), some (rbR (0, 0, 0)), some (rbR (14, 0, 0)), some (rbR (14, 1, 0)), some (rbR (14, 2, 0)), some (rbR (14, 3, 0)), some (rbR (14, 4, 0)), some (rbR (14, 5, 0)), some (rbR (14, 6, 0)), some (rbR (14, 7, 0)), some (rbR (14, 8, 0)), some (rbR (14, 9, 0)), some (rbI (nI k)), some (rbI v), some (rbI u), some (rbI (nI n)), some (rbI (nI i)), some (rbI (nI j)), some (rbI 1), none, none, none, some (rbI (nI h9)), some (rbI (nI (6 * A))), some (rbI (nI fr)), none, none, none, none, none, none, none, none, none, none, none, none, none, none, none, none, none, none, none, none, none, none, none, none, none, none, none, none, none] [rbI (nI bz), rbI (u >>> ((7 : Int32) &&& 31)), rbI (nI (fr + 1))] (wI G W) := by
        intro bz hbz
        refine rb_callS C M_L_124 (fun l X => (k_L_low l X G W _ bz (by omega) (by omega)).m) dL_law_798 rfl rfl rfl (Nat.le_of_ble_eq_true rfl) ⟨(Nat.le_of_ble_eq_true rfl), (Nat.le_of_ble_eq_true rfl)⟩ (by omega) (by omega) (fun v G' hp => ?_) (fun _ _ hp => hp.elim)
        obtain ⟨z5, hz5, rfl, e9⟩ := hp
        rw [e9]
        clear e9 G'
        refine rq_iadd C (z := (nI (fr + 1 + z5))) dL_law_801 (nI_add (fr + 1) z5) ?_
        refine rb_istore C dL_law_802 (Nat.le_of_ble_eq_true rfl) rfl (Lv' := [_, _, _, _, _, _, _, _, _, _, _, _, _, _, _, _, _, _, _, _, _, _, _, _, _, _, _, _, _, _, _, _, _, _, _, _, _, _, _, _, _, _, _, _, _, _, _, _, _, _, _, _, _, _]) rfl ?_
        refine rb_iload C dL_law_804 rfl ?_
        refine rb_ldc C dL_law_806 N_L_152 ?_
        have mg808 : ∀ (to1 : Nat) (hto : fr + 1 ≤ to1 ∧ to1 ≤ 1000000), rb_W Φ ((cells + 0) + 0) ((slots + 0) + 0) 818 [some (rbR (18, 0, 0)), some (rbR (0, 0, 0)), some (rbR (14, 0, 0)), some (rbR (14, 1, 0)), some (rbR (14, 2, 0)), some (rbR (14, 3, 0)), some (rbR (14, 4, 0)), some (rbR (14, 5, 0)), some (rbR (14, 6, 0)), some (rbR (14, 7, 0)), some (rbR (14, 8, 0)), some (rbR (14, 9, 0)), some (rbI (nI k)), some (rbI v), some (rbI u), some (rbI (nI n)), some (rbI (nI i)), some (rbI (nI j)), some (rbI 1), none, none, none, some (rbI (nI h9)), some (rbI (nI (6 * A))), some (rbI (nI fr)), some (rbI (nI (fr + 1 + z5))), none, none, none, none, none, none, none, none, none, none, none, none, none, none, none, none, none, none, none, none, none, none, none, none, none, none, none, none] [rbI (nI to1)] (wI G W) := by
          intro to1 hto
          refine rb_istore C dL_law_818 (Nat.le_of_ble_eq_true rfl) rfl (Lv' := [_, _, _, _, _, _, _, _, _, _, _, _, _, _, _, _, _, _, _, _, _, _, _, _, _, _, _, _, _, _, _, _, _, _, _, _, _, _, _, _, _, _, _, _, _, _, _, _, _, _, _, _, _, _]) rfl ?_
          refine rb_iload C dL_law_820 rfl ?_
          refine rb_bipush C dL_law_822 (v := 9) (by decide) ?_
          refine rq_ishr C (z := (u >>> ((9 : Int32) &&& 31))) dL_law_824 rfl ?_
          refine rb_bipush C dL_law_825 (v := 100) (by decide) ?_
          refine rb_callS C M_L_124 (fun l X => (k_L_low l X G W _ 100 (by decide) (by decide)).m) dL_law_827 rfl rfl rfl (Nat.le_of_ble_eq_true rfl) ⟨(Nat.le_of_ble_eq_true rfl), (Nat.le_of_ble_eq_true rfl)⟩ (by omega) (by omega) (fun v G' hp => ?_) (fun _ _ hp => hp.elim)
          obtain ⟨pr, hpr, rfl, e9⟩ := hp
          rw [e9]
          clear e9 G'
          refine rb_istore C dL_law_830 (Nat.le_of_ble_eq_true rfl) rfl (Lv' := [_, _, _, _, _, _, _, _, _, _, _, _, _, _, _, _, _, _, _, _, _, _, _, _, _, _, _, _, _, _, _, _, _, _, _, _, _, _, _, _, _, _, _, _, _, _, _, _, _, _, _, _, _, _]) rfl ?_
          refine rb_iload C dL_law_832 rfl ?_
          refine rb_bipush C dL_law_834 (v := 13) (by decide) ?_
          refine rq_ishr C (z := (u >>> ((13 : Int32) &&& 31))) dL_law_836 rfl ?_
          refine rb_iconst C dL_law_837 (v := 3) (by decide) ?_
          refine rb_callS C M_L_124 (fun l X => (k_L_low l X G W _ 3 (by decide) (by decide)).m) dL_law_838 rfl rfl rfl (Nat.le_of_ble_eq_true rfl) ⟨(Nat.le_of_ble_eq_true rfl), (Nat.le_of_ble_eq_true rfl)⟩ (by omega) (by omega) (fun v G' hp => ?_) (fun _ _ hp => hp.elim)
          obtain ⟨z6, hz6, rfl, e9⟩ := hp
          rw [e9]
          clear e9 G'
          have mg841 : ∀ (th : Nat) (hth : th < 60), rb_W Φ ((((cells + 0) + 0) + 0) + 0) ((((slots + 0) + 0) + 0) + 0) 858 [some (rbR (18, 0, 0)), some (rbR (0, 0, 0)), some (rbR (14, 0, 0)), some (rbR (14, 1, 0)), some (rbR (14, 2, 0)), some (rbR (14, 3, 0)), some (rbR (14, 4, 0)), some (rbR (14, 5, 0)), some (rbR (14, 6, 0)), some (rbR (14, 7, 0)), some (rbR (14, 8, 0)), some (rbR (14, 9, 0)), some (rbI (nI k)), some (rbI v), some (rbI u), some (rbI (nI n)), some (rbI (nI i)), some (rbI (nI j)), some (rbI 1), none, none, none, some (rbI (nI h9)), some (rbI (nI (6 * A))), some (rbI (nI fr)), some (rbI (nI to1)), some (rbI (nI pr)), none, none, none, none, none, none, none, none, none, none, none, none, none, none, none, none, none, none, none, none, none, none, none, none, none, none, none] [rbI (nI th)] (wI G W) := by
            intro th hth
            refine rb_istore C dL_law_858 (Nat.le_of_ble_eq_true rfl) rfl (Lv' := [_, _, _, _, _, _, _, _, _, _, _, _, _, _, _, _, _, _, _, _, _, _, _, _, _, _, _, _, _, _, _, _, _, _, _, _, _, _, _, _, _, _, _, _, _, _, _, _, _, _, _, _, _, _]) rfl ?_
            refine rb_iload C dL_law_860 rfl ?_
            refine rb_bipush C dL_law_862 (v := 16) (by decide) ?_
            refine rq_ishr C (z := (u >>> ((16 : Int32) &&& 31))) dL_law_864 rfl ?_
            refine rb_iload C dL_law_865 rfl ?_
            refine rb_iconst C dL_law_867 (v := 1) (by decide) ?_
            refine rq_iadd C (z := (nI (pr + 1))) dL_law_868 (nI_add pr 1) ?_
            refine rb_callS C M_L_124 (fun l X => (k_L_low l X G W _ (pr + 1) (by omega) (by omega)).m) dL_law_869 rfl rfl rfl (Nat.le_of_ble_eq_true rfl) ⟨(Nat.le_of_ble_eq_true rfl), (Nat.le_of_ble_eq_true rfl)⟩ (by omega) (by omega) (fun v G' hp => ?_) (fun _ _ hp => hp.elim)
            obtain ⟨lw1, hlw1, rfl, e9⟩ := hp
            rw [e9]
            clear e9 G'
            refine rb_istore C dL_law_872 (Nat.le_of_ble_eq_true rfl) rfl (Lv' := [_, _, _, _, _, _, _, _, _, _, _, _, _, _, _, _, _, _, _, _, _, _, _, _, _, _, _, _, _, _, _, _, _, _, _, _, _, _, _, _, _, _, _, _, _, _, _, _, _, _, _, _, _, _]) rfl ?_
            refine rb_iload C dL_law_874 rfl ?_
            refine rb_iload C dL_law_876 rfl ?_
            refine rb_icmp_eq C 885 dL_law_878 (by decide) (fun h878 => ?_) (fun h878 => ?_)
            · replace h878 := (nI_eq (a := h9) (b := n) (by omega) (by omega)).mp h878
              refine rb_iconst C dL_law_885 (v := 0) (by decide) ?_
              refine rb_istore C dL_law_886 (Nat.le_of_ble_eq_true rfl) rfl (Lv' := [_, _, _, _, _, _, _, _, _, _, _, _, _, _, _, _, _, _, _, _, _, _, _, _, _, _, _, _, _, _, _, _, _, _, _, _, _, _, _, _, _, _, _, _, _, _, _, _, _, _, _, _, _, _]) rfl ?_
              refine rb_aload_n C dL_law_888 rfl ?_
              refine rb_iload C dL_law_889 rfl ?_
              refine rb_iload C dL_law_891 rfl ?_
              refine rb_iload C dL_law_893 rfl ?_
              refine rb_iload C dL_law_895 rfl ?_
              refine rb_iload C dL_law_897 rfl ?_
              refine rb_iload C dL_law_899 rfl ?_
              refine rb_iload C dL_law_901 rfl ?_
              subst h878
              refine rb_callSW C M_L_153 (fun l X => c_agreeX l X G W M hL hl (ho := h9) (by omega)) dL_law_903 rfl rfl rfl (Nat.le_of_ble_eq_true rfl) ⟨(Nat.le_of_ble_eq_true rfl), (Nat.le_of_ble_eq_true rfl)⟩ (by omega) (by omega) (fun v G' hp => ?_)
              obtain ⟨rfl, G6, W6, e9, hL6, hw6⟩ := hp
              rw [e9]
              clear e9 G'
              have hl6 := lx_lw hl hw6
              have hm := hL6.1
              refine rb_iload C dL_law_906 rfl ?_
              refine rb_if_eq C 919 dL_law_908 (by decide) (fun _ => ?_) (fun h9 => absurd (by decide) h9)
              refine rb_sipush C dL_law_919 (v := (-7200)) (by decide) ?_
              refine rb_icmp_ne C 929 dL_law_922 (by decide) (fun h9 => absurd (by decide) h9) (fun _ => ?_)
              refine rb_iconst C dL_law_925 (v := 1) (by decide) ?_
              refine rb_goto C 930 dL_law_926 (by decide) ?_
              refine rb_istore C dL_law_930 (Nat.le_of_ble_eq_true rfl) rfl (Lv' := [_, _, _, _, _, _, _, _, _, _, _, _, _, _, _, _, _, _, _, _, _, _, _, _, _, _, _, _, _, _, _, _, _, _, _, _, _, _, _, _, _, _, _, _, _, _, _, _, _, _, _, _, _, _]) rfl ?_
              refine rb_iload C dL_law_932 rfl ?_
              refine rb_if_ne C 940 dL_law_934 (by decide) (fun h9 => absurd (by decide) h9) (fun _ => ?_)
              refine rb_goto C 3288 dL_law_937 (by decide) ?_
              refine rb_W.unset 15 ?_
              refine rb_W.unset 16 ?_
              refine rb_W.unset 17 ?_
              refine rb_W.unset 22 ?_
              refine rb_W.unset 23 ?_
              refine rb_W.unset 24 ?_
              refine rb_W.unset 25 ?_
              refine rb_W.unset 26 ?_
              refine rb_W.unset 27 ?_
              refine rb_W.unset 28 ?_
              refine rb_W.unset 29 ?_
              exact rb_W.room (kk G6 W6 (up2 M (16, 0, 0) 0 2) ⟨hL6, _, _, _, _, _, _, (lx_thr hl6 2)⟩) (by omega) (by omega)
            · replace h878 := mt (nI_eq (a := h9) (b := n) (by omega) (by omega)).mpr h878
              refine rb_iconst C dL_law_881 (v := 1) (by decide) ?_
              refine rb_goto C 886 dL_law_882 (by decide) ?_
              refine rb_istore C dL_law_886 (Nat.le_of_ble_eq_true rfl) rfl (Lv' := [_, _, _, _, _, _, _, _, _, _, _, _, _, _, _, _, _, _, _, _, _, _, _, _, _, _, _, _, _, _, _, _, _, _, _, _, _, _, _, _, _, _, _, _, _, _, _, _, _, _, _, _, _, _]) rfl ?_
              refine rb_aload_n C dL_law_888 rfl ?_
              refine rb_iload C dL_law_889 rfl ?_
              refine rb_iload C dL_law_891 rfl ?_
              refine rb_iload C dL_law_893 rfl ?_
              refine rb_iload C dL_law_895 rfl ?_
              refine rb_iload C dL_law_897 rfl ?_
              refine rb_iload C dL_law_899 rfl ?_
              refine rb_iload C dL_law_901 rfl ?_
              refine rb_callSW C M_L_153 (fun l X => c_agree l X G W M hL hl (ho := h9) (vi := n) (fr := fr) (to1 := to1) (pr := pr) (th := th) (lw1 := lw1) (by omega) (by omega) hn h878 (by omega) hto.1 hto.2 (by omega) (by omega) (by omega)) dL_law_903 rfl rfl rfl (Nat.le_of_ble_eq_true rfl) ⟨(Nat.le_of_ble_eq_true rfl), (Nat.le_of_ble_eq_true rfl)⟩ (by omega) (by omega) (fun v G' hp => ?_)
              obtain ⟨rfl, G7, W7, e9, hL7, hw7⟩ := hp
              rw [e9]
              clear e9 G'
              have hl7 := lx_lw hl hw7
              have hm := hL7.1
              refine rb_iload C dL_law_906 rfl ?_
              refine rb_if_eq C 919 dL_law_908 (by decide) (fun h9 => absurd h9 (by decide)) (fun _ => ?_)
              refine rb_aload_n C dL_law_911 rfl ?_
              refine rb_iconst C dL_law_912 (v := 2) (by decide) ?_
              refine rw_iald C (x := (nI A)) 44 (2) dL_law_913 rfl (hm 0 (by decide)) (show ¬ (((2 : Int32)) < 0 ∨ 44 ≤ (2 : Int32).toNatClampNeg) by decide) rfl ((lr_g2 hl7)) ?_
              refine rb_iconst C dL_law_914 (v := 1) (by decide) ?_
              refine rq_iadd C (z := (nI (A + 1))) dL_law_915 (nI_add A 1) ?_
              refine rb_goto C 922 dL_law_916 (by decide) ?_
              refine rb_icmp_ne C 929 dL_law_922 (by decide) (fun h9 => absurd (rfl) h9) (fun _ => ?_)
              refine rb_iconst C dL_law_925 (v := 1) (by decide) ?_
              refine rb_goto C 930 dL_law_926 (by decide) ?_
              refine rb_istore C dL_law_930 (Nat.le_of_ble_eq_true rfl) rfl (Lv' := [_, _, _, _, _, _, _, _, _, _, _, _, _, _, _, _, _, _, _, _, _, _, _, _, _, _, _, _, _, _, _, _, _, _, _, _, _, _, _, _, _, _, _, _, _, _, _, _, _, _, _, _, _, _]) rfl ?_
              refine rb_iload C dL_law_932 rfl ?_
              refine rb_if_ne C 940 dL_law_934 (by decide) (fun _ => ?_) (fun h9 => absurd h9 (by decide))
              refine rb_aload C dL_law_940 rfl ?_
              refine rb_iload C dL_law_942 rfl ?_
              refine rb_bipush C dL_law_944 (v := 8) (by decide) ?_
              refine rb_iload C dL_law_946 rfl ?_
              refine rq_imul C (z := (nI (8 * h9))) dL_law_948 (pk_mul 8 h9) ?_
              refine rb_iload C dL_law_949 rfl ?_
              refine rq_iadd C (z := (nI (8 * h9 + n))) dL_law_951 (nI_add (8 * h9) n) ?_
              refine rw_iast C 60 (6 * A) dL_law_952 rfl (hm 3 (by decide)) (vp_in_nI (show 6 * A < 60 by omega) (by decide)) (nI_clamp (show 6 * A < 2 ^ 31 by omega)) ?_
              have hl8 := lu_aN hl7 (q := 6 * A) (by omega) (v := (nI (8 * h9 + n)))
              have hL8 := LI_up hL7 3 (6 * A) (nI (8 * h9 + n))
              have fz8_8 : up2 W7 (14, 3, 0) (6 * A) (nI (8 * h9 + n)) (14, 3, 0) (6 * A) = (nI (8 * h9 + n)) := up2_s _ _ _ _
              generalize up2 W7 (14, 3, 0) (6 * A) (nI (8 * h9 + n)) = W8 at hl8 hL8 fz8_8 ⊢
              refine rb_aload C dL_law_953 rfl ?_
              refine rb_iload C dL_law_955 rfl ?_
              refine rb_iconst C dL_law_957 (v := 1) (by decide) ?_
              refine rq_iadd C (z := (nI (6 * A + 1))) dL_law_958 (nI_add (6 * A) 1) ?_
              refine rb_iload C dL_law_959 rfl ?_
              refine rw_iast C 60 (6 * A + 1) dL_law_961 rfl (hm 3 (by decide)) (vp_in_nI (show 6 * A + 1 < 60 by omega) (by decide)) (nI_clamp (show 6 * A + 1 < 2 ^ 31 by omega)) ?_
              have hl9 := lu_aN hl8 (q := 6 * A + 1) (by omega) (v := (nI fr))
              have hL9 := LI_up hL8 3 (6 * A + 1) (nI fr)
              have fz8_9 : up2 W8 (14, 3, 0) (6 * A + 1) (nI fr) (14, 3, 0) (6 * A) = (nI (8 * h9 + n)) := (up2_n _ _ _ _ (by first | (intro z; have z9 := z.2; omega) | simp)).trans fz8_8
              have fz9_9 : up2 W8 (14, 3, 0) (6 * A + 1) (nI fr) (14, 3, 0) (6 * A + 1) = (nI fr) := up2_s _ _ _ _
              generalize up2 W8 (14, 3, 0) (6 * A + 1) (nI fr) = W9 at hl9 hL9 fz8_9 fz9_9 ⊢
              refine rb_aload C dL_law_962 rfl ?_
              refine rb_iload C dL_law_964 rfl ?_
              refine rb_iconst C dL_law_966 (v := 2) (by decide) ?_
              refine rq_iadd C (z := (nI (6 * A + 2))) dL_law_967 (nI_add (6 * A) 2) ?_
              refine rb_iload C dL_law_968 rfl ?_
              refine rw_iast C 60 (6 * A + 2) dL_law_970 rfl (hm 3 (by decide)) (vp_in_nI (show 6 * A + 2 < 60 by omega) (by decide)) (nI_clamp (show 6 * A + 2 < 2 ^ 31 by omega)) ?_
              have hl10 := lu_aN hl9 (q := 6 * A + 2) (by omega) (v := (nI to1))
              have hL10 := LI_up hL9 3 (6 * A + 2) (nI to1)
              have fz8_10 : up2 W9 (14, 3, 0) (6 * A + 2) (nI to1) (14, 3, 0) (6 * A) = (nI (8 * h9 + n)) := (up2_n _ _ _ _ (by first | (intro z; have z9 := z.2; omega) | simp)).trans fz8_9
              have fz9_10 : up2 W9 (14, 3, 0) (6 * A + 2) (nI to1) (14, 3, 0) (6 * A + 1) = (nI fr) := (up2_n _ _ _ _ (by first | (intro z; have z9 := z.2; omega) | simp)).trans fz9_9
              have fz10_10 : up2 W9 (14, 3, 0) (6 * A + 2) (nI to1) (14, 3, 0) (6 * A + 2) = (nI to1) := up2_s _ _ _ _
              generalize up2 W9 (14, 3, 0) (6 * A + 2) (nI to1) = W10 at hl10 hL10 fz8_10 fz9_10 fz10_10 ⊢
              refine rb_aload C dL_law_971 rfl ?_
              refine rb_iload C dL_law_973 rfl ?_
              refine rb_iconst C dL_law_975 (v := 3) (by decide) ?_
              refine rq_iadd C (z := (nI (6 * A + 3))) dL_law_976 (nI_add (6 * A) 3) ?_
              refine rb_iload C dL_law_977 rfl ?_
              refine rw_iast C 60 (6 * A + 3) dL_law_979 rfl (hm 3 (by decide)) (vp_in_nI (show 6 * A + 3 < 60 by omega) (by decide)) (nI_clamp (show 6 * A + 3 < 2 ^ 31 by omega)) ?_
              have hl11 := lu_aN hl10 (q := 6 * A + 3) (by omega) (v := (nI pr))
              have hL11 := LI_up hL10 3 (6 * A + 3) (nI pr)
              have fz8_11 : up2 W10 (14, 3, 0) (6 * A + 3) (nI pr) (14, 3, 0) (6 * A) = (nI (8 * h9 + n)) := (up2_n _ _ _ _ (by first | (intro z; have z9 := z.2; omega) | simp)).trans fz8_10
              have fz9_11 : up2 W10 (14, 3, 0) (6 * A + 3) (nI pr) (14, 3, 0) (6 * A + 1) = (nI fr) := (up2_n _ _ _ _ (by first | (intro z; have z9 := z.2; omega) | simp)).trans fz9_10
              have fz10_11 : up2 W10 (14, 3, 0) (6 * A + 3) (nI pr) (14, 3, 0) (6 * A + 2) = (nI to1) := (up2_n _ _ _ _ (by first | (intro z; have z9 := z.2; omega) | simp)).trans fz10_10
              have fz11_11 : up2 W10 (14, 3, 0) (6 * A + 3) (nI pr) (14, 3, 0) (6 * A + 3) = (nI pr) := up2_s _ _ _ _
              generalize up2 W10 (14, 3, 0) (6 * A + 3) (nI pr) = W11 at hl11 hL11 fz8_11 fz9_11 fz10_11 fz11_11 ⊢
              refine rb_aload C dL_law_980 rfl ?_
              refine rb_iload C dL_law_982 rfl ?_
              refine rb_iconst C dL_law_984 (v := 4) (by decide) ?_
              refine rq_iadd C (z := (nI (6 * A + 4))) dL_law_985 (nI_add (6 * A) 4) ?_
              refine rb_iload C dL_law_986 rfl ?_
              refine rw_iast C 60 (6 * A + 4) dL_law_988 rfl (hm 3 (by decide)) (vp_in_nI (show 6 * A + 4 < 60 by omega) (by decide)) (nI_clamp (show 6 * A + 4 < 2 ^ 31 by omega)) ?_
              have hl12 := lu_aN hl11 (q := 6 * A + 4) (by omega) (v := (nI th))
              have hL12 := LI_up hL11 3 (6 * A + 4) (nI th)
              have fz8_12 : up2 W11 (14, 3, 0) (6 * A + 4) (nI th) (14, 3, 0) (6 * A) = (nI (8 * h9 + n)) := (up2_n _ _ _ _ (by first | (intro z; have z9 := z.2; omega) | simp)).trans fz8_11
              have fz9_12 : up2 W11 (14, 3, 0) (6 * A + 4) (nI th) (14, 3, 0) (6 * A + 1) = (nI fr) := (up2_n _ _ _ _ (by first | (intro z; have z9 := z.2; omega) | simp)).trans fz9_11
              have fz10_12 : up2 W11 (14, 3, 0) (6 * A + 4) (nI th) (14, 3, 0) (6 * A + 2) = (nI to1) := (up2_n _ _ _ _ (by first | (intro z; have z9 := z.2; omega) | simp)).trans fz10_11
              have fz11_12 : up2 W11 (14, 3, 0) (6 * A + 4) (nI th) (14, 3, 0) (6 * A + 3) = (nI pr) := (up2_n _ _ _ _ (by first | (intro z; have z9 := z.2; omega) | simp)).trans fz11_11
              have fz12_12 : up2 W11 (14, 3, 0) (6 * A + 4) (nI th) (14, 3, 0) (6 * A + 4) = (nI th) := up2_s _ _ _ _
              generalize up2 W11 (14, 3, 0) (6 * A + 4) (nI th) = W12 at hl12 hL12 fz8_12 fz9_12 fz10_12 fz11_12 fz12_12 ⊢
              refine rb_aload C dL_law_989 rfl ?_
              refine rb_iload C dL_law_991 rfl ?_
              refine rb_iconst C dL_law_993 (v := 5) (by decide) ?_
              refine rq_iadd C (z := (nI (6 * A + 5))) dL_law_994 (nI_add (6 * A) 5) ?_
              refine rb_iload C dL_law_995 rfl ?_
              refine rw_iast C 60 (6 * A + 5) dL_law_997 rfl (hm 3 (by decide)) (vp_in_nI (show 6 * A + 5 < 60 by omega) (by decide)) (nI_clamp (show 6 * A + 5 < 2 ^ 31 by omega)) ?_
              have hl13 := lu_aN hl12 (q := 6 * A + 5) (by omega) (v := (nI lw1))
              have hL13 := LI_up hL12 3 (6 * A + 5) (nI lw1)
              have fz8_13 : up2 W12 (14, 3, 0) (6 * A + 5) (nI lw1) (14, 3, 0) (6 * A) = (nI (8 * h9 + n)) := (up2_n _ _ _ _ (by first | (intro z; have z9 := z.2; omega) | simp)).trans fz8_12
              have fz9_13 : up2 W12 (14, 3, 0) (6 * A + 5) (nI lw1) (14, 3, 0) (6 * A + 1) = (nI fr) := (up2_n _ _ _ _ (by first | (intro z; have z9 := z.2; omega) | simp)).trans fz9_12
              have fz10_13 : up2 W12 (14, 3, 0) (6 * A + 5) (nI lw1) (14, 3, 0) (6 * A + 2) = (nI to1) := (up2_n _ _ _ _ (by first | (intro z; have z9 := z.2; omega) | simp)).trans fz10_12
              have fz11_13 : up2 W12 (14, 3, 0) (6 * A + 5) (nI lw1) (14, 3, 0) (6 * A + 3) = (nI pr) := (up2_n _ _ _ _ (by first | (intro z; have z9 := z.2; omega) | simp)).trans fz11_12
              have fz12_13 : up2 W12 (14, 3, 0) (6 * A + 5) (nI lw1) (14, 3, 0) (6 * A + 4) = (nI th) := (up2_n _ _ _ _ (by first | (intro z; have z9 := z.2; omega) | simp)).trans fz12_12
              have fz13_13 : up2 W12 (14, 3, 0) (6 * A + 5) (nI lw1) (14, 3, 0) (6 * A + 5) = (nI lw1) := up2_s _ _ _ _
              generalize up2 W12 (14, 3, 0) (6 * A + 5) (nI lw1) = W13 at hl13 hL13 fz8_13 fz9_13 fz10_13 fz11_13 fz12_13 fz13_13 ⊢
              refine rb_aload_n C dL_law_998 rfl ?_
              refine rb_iconst C dL_law_999 (v := 2) (by decide) ?_
              refine rb_dup2 C dL_law_1000 rfl rfl ?_
              refine rw_iald C (x := (nI A)) 44 (2) dL_law_1001 rfl (hm 0 (by decide)) (show ¬ (((2 : Int32)) < 0 ∨ 44 ≤ (2 : Int32).toNatClampNeg) by decide) rfl ((lr_g2 hl13)) ?_
              refine rb_iconst C dL_law_1002 (v := 1) (by decide) ?_
              refine rq_iadd C (z := (nI (A + 1))) dL_law_1003 (nI_add A 1) ?_
              refine rw_iast C 44 (2) dL_law_1004 rfl (hm 0 (by decide)) (show ¬ (((2 : Int32)) < 0 ∨ 44 ≤ (2 : Int32).toNatClampNeg) by decide) rfl ?_
              have hl14 := lu_agr hl13 (ho := h9) (vi := n) (fr := fr) (to1 := to1) (pr := pr) (th := th) (lw1 := lw1) hA9 (by omega) fz8_13 fz9_13 fz10_13 fz11_13 fz12_13 fz13_13
              have hL14 := LI_up hL13 0 (2) (nI (A + 1))
              
              have fz8_14 : up2 W13 (14, 0, 0) (2) (nI (A + 1)) (14, 3, 0) (6 * A) = (nI (8 * h9 + n)) := (up2_n _ _ _ _ (by first | (intro z; have z9 := z.2; omega) | simp)).trans fz8_13
              have fz9_14 : up2 W13 (14, 0, 0) (2) (nI (A + 1)) (14, 3, 0) (6 * A + 1) = (nI fr) := (up2_n _ _ _ _ (by first | (intro z; have z9 := z.2; omega) | simp)).trans fz9_13
              have fz10_14 : up2 W13 (14, 0, 0) (2) (nI (A + 1)) (14, 3, 0) (6 * A + 2) = (nI to1) := (up2_n _ _ _ _ (by first | (intro z; have z9 := z.2; omega) | simp)).trans fz10_13
              have fz11_14 : up2 W13 (14, 0, 0) (2) (nI (A + 1)) (14, 3, 0) (6 * A + 3) = (nI pr) := (up2_n _ _ _ _ (by first | (intro z; have z9 := z.2; omega) | simp)).trans fz11_13
              have fz12_14 : up2 W13 (14, 0, 0) (2) (nI (A + 1)) (14, 3, 0) (6 * A + 4) = (nI th) := (up2_n _ _ _ _ (by first | (intro z; have z9 := z.2; omega) | simp)).trans fz12_13
              have fz13_14 : up2 W13 (14, 0, 0) (2) (nI (A + 1)) (14, 3, 0) (6 * A + 5) = (nI lw1) := (up2_n _ _ _ _ (by first | (intro z; have z9 := z.2; omega) | simp)).trans fz13_13
              have fz14_14 : up2 W13 (14, 0, 0) (2) (nI (A + 1)) (14, 0, 0) (2) = (nI (A + 1)) := up2_s _ _ _ _
              generalize up2 W13 (14, 0, 0) (2) (nI (A + 1)) = W14 at hl14 hL14 fz8_14 fz9_14 fz10_14 fz11_14 fz12_14 fz13_14 fz14_14 ⊢
              refine rb_goto C 3288 dL_law_1005 (by decide) ?_
              refine rb_W.unset 15 ?_
              refine rb_W.unset 16 ?_
              refine rb_W.unset 17 ?_
              refine rb_W.unset 22 ?_
              refine rb_W.unset 23 ?_
              refine rb_W.unset 24 ?_
              refine rb_W.unset 25 ?_
              refine rb_W.unset 26 ?_
              refine rb_W.unset 27 ?_
              refine rb_W.unset 28 ?_
              refine rb_W.unset 29 ?_
              exact rb_W.room (kk G7 W14 (up2 (up2 (up2 (up2 (up2 (up2 (up2 (up2 (up2 M (16, 0, 0) 0 0) (14, 8, 0) A (nI h9)) (14, 9, 0) A (nI n)) (14, 10, 0) A (nI fr)) (14, 11, 0) A (nI to1)) (14, 12, 0) A (nI pr)) (14, 13, 0) A (nI th)) (14, 14, 0) A (nI lw1)) (16, 0, 0) 7 (nI (A + 1))) ⟨hL14, _, _, _, _, _, _, hl14⟩) (by omega) (by omega)
          refine rb_if_ne C 848 dL_law_841 (by decide) (fun h841 => ?_) (fun h841 => ?_)
          · replace h841 := mt (nI_eq (a := z6) (b := 0) (by omega) (by omega)).mpr h841
            refine rb_iload C dL_law_848 rfl ?_
            refine rb_bipush C dL_law_850 (v := 14) (by decide) ?_
            refine rq_ishr C (z := (u >>> ((14 : Int32) &&& 31))) dL_law_852 rfl ?_
            refine rb_bipush C dL_law_853 (v := 60) (by decide) ?_
            refine rb_callS C M_L_124 (fun l X => (k_L_low l X G W _ 60 (by decide) (by decide)).m) dL_law_855 rfl rfl rfl (Nat.le_of_ble_eq_true rfl) ⟨(Nat.le_of_ble_eq_true rfl), (Nat.le_of_ble_eq_true rfl)⟩ (by omega) (by omega) (fun v G' hp => ?_) (fun _ _ hp => hp.elim)
            obtain ⟨z7, hz7, rfl, e9⟩ := hp
            rw [e9]
            clear e9 G'
            exact mg841 z7 (by omega)
          · replace h841 := (nI_eq (a := z6) (b := 0) (by omega) (by omega)).mp h841
            refine rb_iconst C dL_law_844 (v := 0) (by decide) ?_
            refine rb_goto C 858 dL_law_845 (by decide) ?_
            exact mg841 0 (by omega)
        refine rb_icmp_le C 816 dL_law_808 (by decide) (fun h808 => ?_) (fun h808 => ?_)
        · replace h808 := (nI_leI (a := fr + 1 + z5) (b := 1000000) (by omega) (by omega)).mp h808
          refine rb_iload C dL_law_816 rfl ?_
          exact mg808 (fr + 1 + z5) (by omega)
        · replace h808 := mt (nI_leI (a := fr + 1 + z5) (b := 1000000) (by omega) (by omega)).mpr h808
          refine rb_ldc C dL_law_811 N_L_152 ?_
          refine rb_goto C 818 dL_law_813 (by decide) ?_
          exact mg808 1000000 (by omega)
      refine rb_if_ne C 795 dL_law_787 (by decide) (fun h787 => ?_) (fun h787 => ?_)
      · refine rb_sipush C dL_law_795 (v := 3000) (by decide) ?_
        exact mg787 3000 (by omega)
      · refine rb_ldc C dL_law_790 N_L_151 ?_
        refine rb_goto C 798 dL_law_792 (by decide) ?_
        exact mg787 900000 (by omega)
    refine rb_if_ne C 755 dL_law_748 (by decide) (fun h748 => ?_) (fun h748 => ?_)
    · refine rb_aload_n C dL_law_755 rfl ?_
      refine rb_iconst C dL_law_756 (v := 0) (by decide) ?_
      refine rw_iald C (x := (nI t)) 44 (0) dL_law_757 rfl (hm 0 (by decide)) (show ¬ (((0 : Int32)) < 0 ∨ 44 ≤ (0 : Int32).toNatClampNeg) by decide) rfl ((lr_g0 hl)) ?_
      refine rb_iconst C dL_law_758 (v := 2) (by decide) ?_
      refine rq_idiv C (z := (nI (t / 2))) dL_law_759 (by decide) (pk_div (by omega) (by decide) (by decide)) ?_
      refine rb_iload C dL_law_760 rfl ?_
      refine rb_iconst C dL_law_762 (v := 4) (by decide) ?_
      refine rq_ishr C (z := (u >>> ((4 : Int32) &&& 31))) dL_law_763 rfl ?_
      refine rb_sipush C dL_law_764 (v := 500) (by decide) ?_
      refine rb_callS C M_L_124 (fun l X => (k_L_low l X G W _ 500 (by decide) (by decide)).m) dL_law_767 rfl rfl rfl (Nat.le_of_ble_eq_true rfl) ⟨(Nat.le_of_ble_eq_true rfl), (Nat.le_of_ble_eq_true rfl)⟩ (by omega) (by omega) (fun v G' hp => ?_) (fun _ _ hp => hp.elim)
      obtain ⟨z4, hz4, rfl, e9⟩ := hp
      rw [e9]
      clear e9 G'
      refine rq_iadd C (z := (nI (t / 2 + z4))) dL_law_770 (nI_add (t / 2) z4) ?_
      exact mg748 (t / 2 + z4) (by omega)
    · refine rb_iconst C dL_law_751 (v := 0) (by decide) ?_
      refine rb_goto C 771 dL_law_752 (by decide) ?_
      exact mg748 0 (by omega)
  · replace h721 := (nI_eq (a := A) (b := 10) (by omega) (by omega)).mp h721
    refine rb_goto C 3288 dL_law_724 (by decide) ?_
    refine rb_W.unset 15 ?_
    refine rb_W.unset 16 ?_
    refine rb_W.unset 17 ?_
    exact rb_W.room (kk G W M ⟨hL, _, _, _, _, _, _, hl⟩) (by omega) (by omega)

set_option maxRecDepth 100000 in
set_option maxHeartbeats 4000000 in
theorem law_7 {Φ : rb_F} {cells slots : Nat} (C : rb_C Φ RL cL_law 54 15 568 734644 6897897) (hc : cells + 90 ≤ 734644) (hsl : slots + 2600 ≤ 6897897) {G : rb_G} {W M : rb_I} (hL : LI G W M) {S A R P t d : Nat} (hl : lx W M S A R P t d) (v u : Int32) (k n i j : Nat) (hk : k < 140) (hn : n < 6) (hi : i < S ∨ S = 0 ∧ i = 0) (hj : j < S ∨ S = 0 ∧ j = 0) (kk : ∀ G' W' M', lJ G' W' M' → rb_W Φ (cells + 90) (slots + 2600) 3288 (LVE k v u) [] (wI G' W')) : rb_W Φ cells slots 1234 (LV0 k v u n i j) [] (wI G W) := by
  show rb_W Φ cells slots 1234 [some (rbR (18, 0, 0)), some (rbR (0, 0, 0)), some (rbR (14, 0, 0)), some (rbR (14, 1, 0)), some (rbR (14, 2, 0)), some (rbR (14, 3, 0)), some (rbR (14, 4, 0)), some (rbR (14, 5, 0)), some (rbR (14, 6, 0)), some (rbR (14, 7, 0)), some (rbR (14, 8, 0)), some (rbR (14, 9, 0)), some (rbI (nI k)), some (rbI v), some (rbI u), some (rbI (nI n)), some (rbI (nI i)), some (rbI (nI j)), some (rbI 1), none, none, none, none, none, none, none, none, none, none, none, none, none, none, none, none, none, none, none, none, none, none, none, none, none, none, none, none, none, none, none, none, none, none, none] [] (wI G W)
  have hm := hL.1
  obtain ⟨hS6, hA10, hRP, hP58, hP2, hd64, htm⟩ := lr_b hl
  refine rb_aload_n C dL_law_1234 rfl ?_
  refine rb_iconst C dL_law_1235 (v := 1) (by decide) ?_
  refine rw_iald C (x := (nI S)) 44 (1) dL_law_1236 rfl (hm 0 (by decide)) (show ¬ (((1 : Int32)) < 0 ∨ 44 ≤ (1 : Int32).toNatClampNeg) by decide) rfl ((lr_g1 hl)) ?_
  refine rb_bipush C dL_law_1237 (v := 6) (by decide) ?_
  refine rb_icmp_ne C 1245 dL_law_1239 (by decide) (fun h1239 => ?_) (fun h1239 => ?_)
  · replace h1239 := mt (nI_eq (a := S) (b := 6) (by omega) (by omega)).mpr h1239
    have hS9 : S < 6 := by omega
    refine rb_bipush C dL_law_1245 (v := 8) (by decide) ?_
    refine rb_aload_n C dL_law_1247 rfl ?_
    refine rb_iconst C dL_law_1248 (v := 1) (by decide) ?_
    refine rw_iald C (x := (nI S)) 44 (1) dL_law_1249 rfl (hm 0 (by decide)) (show ¬ (((1 : Int32)) < 0 ∨ 44 ≤ (1 : Int32).toNatClampNeg) by decide) rfl ((lr_g1 hl)) ?_
    refine rq_imul C (z := (nI (8 * S))) dL_law_1250 (pk_mul 8 S) ?_
    refine rb_istore C dL_law_1251 (Nat.le_of_ble_eq_true rfl) rfl (Lv' := [_, _, _, _, _, _, _, _, _, _, _, _, _, _, _, _, _, _, _, _, _, _, _, _, _, _, _, _, _, _, _, _, _, _, _, _, _, _, _, _, _, _, _, _, _, _, _, _, _, _, _, _, _, _]) rfl ?_
    refine rb_aload_n C dL_law_1253 rfl ?_
    refine rb_iload C dL_law_1254 rfl ?_
    refine rb_iload C dL_law_1256 rfl ?_
    refine rb_iconst C dL_law_1258 (v := 3) (by decide) ?_
    refine rb_callS C M_L_124 (fun l X => (k_L_low l X G W _ 3 (by decide) (by decide)).m) dL_law_1259 rfl rfl rfl (Nat.le_of_ble_eq_true rfl) ⟨(Nat.le_of_ble_eq_true rfl), (Nat.le_of_ble_eq_true rfl)⟩ (by omega) (by omega) (fun v G' hp => ?_) (fun _ _ hp => hp.elim)
    obtain ⟨ho, hho, rfl, e9⟩ := hp
    rw [e9]
    clear e9 G'
    refine rw_iast C 48 (8 * S) dL_law_1262 rfl (hm 1 (by decide)) (vp_in_nI (show 8 * S < 48 by omega) (by decide)) (nI_clamp (show 8 * S < 2 ^ 31 by omega)) ?_
    have hl2 := (show lx (up2 W (14, 1, 0) (8 * S) (nI ho)) M S A R P t d from lu_xN hl (c := 0) (by decide) (by decide) (by decide))
    have hL2 := LI_up hL 1 (8 * S) (nI ho)
    have fz2_2 : up2 W (14, 1, 0) (8 * S) (nI ho) (14, 1, 0) (8 * S) = (nI ho) := up2_s _ _ _ _
    generalize up2 W (14, 1, 0) (8 * S) (nI ho) = W2 at hl2 hL2 fz2_2 ⊢
    refine rb_aload_n C dL_law_1263 rfl ?_
    refine rb_iload C dL_law_1264 rfl ?_
    refine rb_iconst C dL_law_1266 (v := 1) (by decide) ?_
    refine rq_iadd C (z := (nI (8 * S + 1))) dL_law_1267 (nI_add (8 * S) 1) ?_
    refine rb_iload C dL_law_1268 rfl ?_
    refine rb_iconst C dL_law_1270 (v := 3) (by decide) ?_
    refine rq_ishr C (z := (u >>> ((3 : Int32) &&& 31))) dL_law_1271 rfl ?_
    refine rb_iconst C dL_law_1272 (v := 4) (by decide) ?_
    refine rb_callS C M_L_124 (fun l X => (k_L_low l X G W2 _ 4 (by decide) (by decide)).m) dL_law_1273 rfl rfl rfl (Nat.le_of_ble_eq_true rfl) ⟨(Nat.le_of_ble_eq_true rfl), (Nat.le_of_ble_eq_true rfl)⟩ (by omega) (by omega) (fun v G' hp => ?_) (fun _ _ hp => hp.elim)
    obtain ⟨pl, hpl, rfl, e9⟩ := hp
    rw [e9]
    clear e9 G'
    refine rw_iast C 48 (8 * S + 1) dL_law_1276 rfl (hm 1 (by decide)) (vp_in_nI (show 8 * S + 1 < 48 by omega) (by decide)) (nI_clamp (show 8 * S + 1 < 2 ^ 31 by omega)) ?_
    have hl4 := lu_xN hl2 (c := 1) (by decide) (by decide) (by decide) (v := (nI pl))
    have hL4 := LI_up hL2 1 (8 * S + 1) (nI pl)
    have fz2_4 : up2 W2 (14, 1, 0) (8 * S + 1) (nI pl) (14, 1, 0) (8 * S) = (nI ho) := (up2_n _ _ _ _ (by first | (intro z; have z9 := z.2; omega) | simp)).trans fz2_2
    have fz4_4 : up2 W2 (14, 1, 0) (8 * S + 1) (nI pl) (14, 1, 0) (8 * S + 1) = (nI pl) := up2_s _ _ _ _
    generalize up2 W2 (14, 1, 0) (8 * S + 1) (nI pl) = W4 at hl4 hL4 fz2_4 fz4_4 ⊢
    refine rb_aload_n C dL_law_1277 rfl ?_
    refine rb_iload C dL_law_1278 rfl ?_
    refine rb_iconst C dL_law_1280 (v := 2) (by decide) ?_
    refine rq_iadd C (z := (nI (8 * S + 2))) dL_law_1281 (nI_add (8 * S) 2) ?_
    refine rb_iload C dL_law_1282 rfl ?_
    refine rb_bipush C dL_law_1284 (v := 96) (by decide) ?_
    refine rq_iand C (z := (u &&& (96 : Int32))) dL_law_1286 rfl ?_
    have mg1287 : ∀ (fb : Nat) (hfb : fb < 64), rb_W Φ ((cells + 0) + 0) ((slots + 0) + 0) 1304 [some (rbR (18, 0, 0)), some (rbR (0, 0, 0)), some (rbR (14, 0, 0)), some (rbR (14, 1, 0)), some (rbR (14, 2, 0)), some (rbR (14, 3, 0)), some (rbR (14, 4, 0)), some (rbR (14, 5, 0)), some (rbR (14, 6, 0)), some (rbR (14, 7, 0)), some (rbR (14, 8, 0)), some (rbR (14, 9, 0)), some (rbI (nI k)), some (rbI v), some (rbI u), some (rbI (nI n)), some (rbI (nI i)), some (rbI (nI j)), some (rbI 1), none, none, none, none, none, none, none, none, none, none, none, none, none, none, none, some (rbI (nI (8 * S))), none, none, none, none, none, none, none, none, none, none, none, none, none, none, none, none, none, none, none] [rbI (nI fb), rbI (nI (8 * S + 2)), rbR (14, 1, 0)] (wI G W4) := by
      intro fb hfb
      refine rw_iast C 48 (8 * S + 2) dL_law_1304 rfl (hm 1 (by decide)) (vp_in_nI (show 8 * S + 2 < 48 by omega) (by decide)) (nI_clamp (show 8 * S + 2 < 2 ^ 31 by omega)) ?_
      have hl5 := lu_xN hl4 (c := 2) (by decide) (by decide) (by decide) (v := (nI fb))
      have hL5 := LI_up hL4 1 (8 * S + 2) (nI fb)
      have fz2_5 : up2 W4 (14, 1, 0) (8 * S + 2) (nI fb) (14, 1, 0) (8 * S) = (nI ho) := (up2_n _ _ _ _ (by first | (intro z; have z9 := z.2; omega) | simp)).trans fz2_4
      have fz4_5 : up2 W4 (14, 1, 0) (8 * S + 2) (nI fb) (14, 1, 0) (8 * S + 1) = (nI pl) := (up2_n _ _ _ _ (by first | (intro z; have z9 := z.2; omega) | simp)).trans fz4_4
      have fz5_5 : up2 W4 (14, 1, 0) (8 * S + 2) (nI fb) (14, 1, 0) (8 * S + 2) = (nI fb) := up2_s _ _ _ _
      generalize up2 W4 (14, 1, 0) (8 * S + 2) (nI fb) = W5 at hl5 hL5 fz2_5 fz4_5 fz5_5 ⊢
      refine rb_aload_n C dL_law_1305 rfl ?_
      refine rb_iload C dL_law_1306 rfl ?_
      refine rb_iconst C dL_law_1308 (v := 3) (by decide) ?_
      refine rq_iadd C (z := (nI (8 * S + 3))) dL_law_1309 (nI_add (8 * S) 3) ?_
      refine rb_iconst C dL_law_1310 (v := (-1)) (by decide) ?_
      refine rw_iast C 48 (8 * S + 3) dL_law_1311 rfl (hm 1 (by decide)) (vp_in_nI (show 8 * S + 3 < 48 by omega) (by decide)) (nI_clamp (show 8 * S + 3 < 2 ^ 31 by omega)) ?_
      have hl6 := lu_xN hl5 (c := 3) (by decide) (by decide) (by decide) (v := (-1))
      have hL6 := LI_up hL5 1 (8 * S + 3) (-1)
      have fz2_6 : up2 W5 (14, 1, 0) (8 * S + 3) (-1) (14, 1, 0) (8 * S) = (nI ho) := (up2_n _ _ _ _ (by first | (intro z; have z9 := z.2; omega) | simp)).trans fz2_5
      have fz4_6 : up2 W5 (14, 1, 0) (8 * S + 3) (-1) (14, 1, 0) (8 * S + 1) = (nI pl) := (up2_n _ _ _ _ (by first | (intro z; have z9 := z.2; omega) | simp)).trans fz4_5
      have fz5_6 : up2 W5 (14, 1, 0) (8 * S + 3) (-1) (14, 1, 0) (8 * S + 2) = (nI fb) := (up2_n _ _ _ _ (by first | (intro z; have z9 := z.2; omega) | simp)).trans fz5_5
      have fz6_6 : up2 W5 (14, 1, 0) (8 * S + 3) (-1) (14, 1, 0) (8 * S + 3) = (-1 : Int32) := up2_s _ _ _ _
      generalize up2 W5 (14, 1, 0) (8 * S + 3) (-1) = W6 at hl6 hL6 fz2_6 fz4_6 fz5_6 fz6_6 ⊢
      refine rb_aload_n C dL_law_1312 rfl ?_
      refine rb_iload C dL_law_1313 rfl ?_
      refine rb_iconst C dL_law_1315 (v := 5) (by decide) ?_
      refine rq_iadd C (z := (nI (8 * S + 5))) dL_law_1316 (nI_add (8 * S) 5) ?_
      refine rb_iconst C dL_law_1317 (v := (-1)) (by decide) ?_
      refine rw_iast C 48 (8 * S + 5) dL_law_1318 rfl (hm 1 (by decide)) (vp_in_nI (show 8 * S + 5 < 48 by omega) (by decide)) (nI_clamp (show 8 * S + 5 < 2 ^ 31 by omega)) ?_
      have hl7 := lu_xN hl6 (c := 5) (by decide) (by decide) (by decide) (v := (-1))
      have hL7 := LI_up hL6 1 (8 * S + 5) (-1)
      have fz2_7 : up2 W6 (14, 1, 0) (8 * S + 5) (-1) (14, 1, 0) (8 * S) = (nI ho) := (up2_n _ _ _ _ (by first | (intro z; have z9 := z.2; omega) | simp)).trans fz2_6
      have fz4_7 : up2 W6 (14, 1, 0) (8 * S + 5) (-1) (14, 1, 0) (8 * S + 1) = (nI pl) := (up2_n _ _ _ _ (by first | (intro z; have z9 := z.2; omega) | simp)).trans fz4_6
      have fz5_7 : up2 W6 (14, 1, 0) (8 * S + 5) (-1) (14, 1, 0) (8 * S + 2) = (nI fb) := (up2_n _ _ _ _ (by first | (intro z; have z9 := z.2; omega) | simp)).trans fz5_6
      have fz6_7 : up2 W6 (14, 1, 0) (8 * S + 5) (-1) (14, 1, 0) (8 * S + 3) = (-1 : Int32) := (up2_n _ _ _ _ (by first | (intro z; have z9 := z.2; omega) | simp)).trans fz6_6
      have fz7_7 : up2 W6 (14, 1, 0) (8 * S + 5) (-1) (14, 1, 0) (8 * S + 5) = (-1 : Int32) := up2_s _ _ _ _
      generalize up2 W6 (14, 1, 0) (8 * S + 5) (-1) = W7 at hl7 hL7 fz2_7 fz4_7 fz5_7 fz6_7 fz7_7 ⊢
      refine rb_aload_n C dL_law_1319 rfl ?_
      refine rb_iload C dL_law_1320 rfl ?_
      refine rb_bipush C dL_law_1322 (v := 6) (by decide) ?_
      refine rq_iadd C (z := (nI (8 * S + 6))) dL_law_1324 (nI_add (8 * S) 6) ?_
      refine rb_sipush C dL_law_1325 (v := 5000) (by decide) ?_
      refine rw_iast C 48 (8 * S + 6) dL_law_1328 rfl (hm 1 (by decide)) (vp_in_nI (show 8 * S + 6 < 48 by omega) (by decide)) (nI_clamp (show 8 * S + 6 < 2 ^ 31 by omega)) ?_
      have hl8 := lu_xN hl7 (c := 6) (by decide) (by decide) (by decide) (v := 5000)
      have hL8 := LI_up hL7 1 (8 * S + 6) 5000
      have fz2_8 : up2 W7 (14, 1, 0) (8 * S + 6) 5000 (14, 1, 0) (8 * S) = (nI ho) := (up2_n _ _ _ _ (by first | (intro z; have z9 := z.2; omega) | simp)).trans fz2_7
      have fz4_8 : up2 W7 (14, 1, 0) (8 * S + 6) 5000 (14, 1, 0) (8 * S + 1) = (nI pl) := (up2_n _ _ _ _ (by first | (intro z; have z9 := z.2; omega) | simp)).trans fz4_7
      have fz5_8 : up2 W7 (14, 1, 0) (8 * S + 6) 5000 (14, 1, 0) (8 * S + 2) = (nI fb) := (up2_n _ _ _ _ (by first | (intro z; have z9 := z.2; omega) | simp)).trans fz5_7
      have fz6_8 : up2 W7 (14, 1, 0) (8 * S + 6) 5000 (14, 1, 0) (8 * S + 3) = (-1 : Int32) := (up2_n _ _ _ _ (by first | (intro z; have z9 := z.2; omega) | simp)).trans fz6_7
      have fz7_8 : up2 W7 (14, 1, 0) (8 * S + 6) 5000 (14, 1, 0) (8 * S + 5) = (-1 : Int32) := (up2_n _ _ _ _ (by first | (intro z; have z9 := z.2; omega) | simp)).trans fz7_7
      have fz8_8 : up2 W7 (14, 1, 0) (8 * S + 6) 5000 (14, 1, 0) (8 * S + 6) = (5000 : Int32) := up2_s _ _ _ _
      generalize up2 W7 (14, 1, 0) (8 * S + 6) 5000 = W8 at hl8 hL8 fz2_8 fz4_8 fz5_8 fz6_8 fz7_8 fz8_8 ⊢
      refine rb_aload_n C dL_law_1329 rfl ?_
      refine rb_aload_n C dL_law_1330 rfl ?_
      refine rb_iload C dL_law_1331 rfl ?_
      refine rw_iald C (x := (nI ho)) 48 (8 * S) dL_law_1333 rfl (hm 1 (by decide)) (vp_in_nI (show 8 * S < 48 by omega) (by decide)) (nI_clamp (show 8 * S < 2 ^ 31 by omega)) (fz2_8) ?_
      refine rb_aload_n C dL_law_1334 rfl ?_
      refine rb_iload C dL_law_1335 rfl ?_
      refine rb_iconst C dL_law_1337 (v := 1) (by decide) ?_
      refine rq_iadd C (z := (nI (8 * S + 1))) dL_law_1338 (nI_add (8 * S) 1) ?_
      refine rw_iald C (x := (nI pl)) 48 (8 * S + 1) dL_law_1339 rfl (hm 1 (by decide)) (vp_in_nI (show 8 * S + 1 < 48 by omega) (by decide)) (nI_clamp (show 8 * S + 1 < 2 ^ 31 by omega)) (fz4_8) ?_
      refine rb_aload_n C dL_law_1340 rfl ?_
      refine rb_iload C dL_law_1341 rfl ?_
      refine rb_iconst C dL_law_1343 (v := 2) (by decide) ?_
      refine rq_iadd C (z := (nI (8 * S + 2))) dL_law_1344 (nI_add (8 * S) 2) ?_
      refine rw_iald C (x := (nI fb)) 48 (8 * S + 2) dL_law_1345 rfl (hm 1 (by decide)) (vp_in_nI (show 8 * S + 2 < 48 by omega) (by decide)) (nI_clamp (show 8 * S + 2 < 2 ^ 31 by omega)) (fz5_8) ?_
      refine rb_callSW C M_L_163 (fun l X => c_subscriber l X G W8 M hL8 hl (ho := ho) (pl := pl) (fb := fb) (by omega) (by omega) hfb) dL_law_1346 rfl rfl rfl (Nat.le_of_ble_eq_true rfl) ⟨(Nat.le_of_ble_eq_true rfl), (Nat.le_of_ble_eq_true rfl)⟩ (by omega) (by omega) (fun v G' hp => ?_)
      obtain ⟨rfl, G9, W9, e9, hL9, hw9⟩ := hp
      rw [e9]
      clear e9 G'
      have hl9 := lx_lw hl8 hw9
      have hm := hL9.1
      have fz2_9 : W9 (14, 1, 0) (8 * S) = (nI ho) := (hw9 _ _).trans fz2_8
      have fz4_9 : W9 (14, 1, 0) (8 * S + 1) = (nI pl) := (hw9 _ _).trans fz4_8
      have fz5_9 : W9 (14, 1, 0) (8 * S + 2) = (nI fb) := (hw9 _ _).trans fz5_8
      have fz6_9 : W9 (14, 1, 0) (8 * S + 3) = (-1 : Int32) := (hw9 _ _).trans fz6_8
      have fz7_9 : W9 (14, 1, 0) (8 * S + 5) = (-1 : Int32) := (hw9 _ _).trans fz7_8
      have fz8_9 : W9 (14, 1, 0) (8 * S + 6) = (5000 : Int32) := (hw9 _ _).trans fz8_8
      refine rb_aload_n C dL_law_1349 rfl ?_
      refine rb_iconst C dL_law_1350 (v := 1) (by decide) ?_
      refine rw_iald C (x := (nI S)) 44 (1) dL_law_1351 rfl (hm 0 (by decide)) (show ¬ (((1 : Int32)) < 0 ∨ 44 ≤ (1 : Int32).toNatClampNeg) by decide) rfl ((lr_g1 hl9)) ?_
      refine rb_icmp_ne C 1359 dL_law_1352 (by decide) (fun h9 => absurd (rfl) h9) (fun _ => ?_)
      refine rb_iconst C dL_law_1355 (v := 1) (by decide) ?_
      refine rb_goto C 1360 dL_law_1356 (by decide) ?_
      refine rb_istore C dL_law_1360 (Nat.le_of_ble_eq_true rfl) rfl (Lv' := [_, _, _, _, _, _, _, _, _, _, _, _, _, _, _, _, _, _, _, _, _, _, _, _, _, _, _, _, _, _, _, _, _, _, _, _, _, _, _, _, _, _, _, _, _, _, _, _, _, _, _, _, _, _]) rfl ?_
      refine rb_aload_n C dL_law_1362 rfl ?_
      refine rb_iconst C dL_law_1363 (v := 1) (by decide) ?_
      refine rb_dup2 C dL_law_1364 rfl rfl ?_
      refine rw_iald C (x := (nI S)) 44 (1) dL_law_1365 rfl (hm 0 (by decide)) (show ¬ (((1 : Int32)) < 0 ∨ 44 ≤ (1 : Int32).toNatClampNeg) by decide) rfl ((lr_g1 hl9)) ?_
      refine rb_iconst C dL_law_1366 (v := 1) (by decide) ?_
      refine rq_iadd C (z := (nI (S + 1))) dL_law_1367 (nI_add S 1) ?_
      refine rw_iast C 44 (1) dL_law_1368 rfl (hm 0 (by decide)) (show ¬ (((1 : Int32)) < 0 ∨ 44 ≤ (1 : Int32).toNatClampNeg) by decide) rfl ?_
      have hl10 := lu_sub hl9 (ho := ho) (pl := pl) (fb := fb) hS9 ⟨hho, hpl, hfb⟩ fz2_9 fz4_9 fz5_9 fz6_9 fz7_9 fz8_9
      have hL10 := LI_up hL9 0 (1) (nI (S + 1))
      have fz2_10 : up2 W9 (14, 0, 0) (1) (nI (S + 1)) (14, 1, 0) (8 * S) = (nI ho) := (up2_n _ _ _ _ (by first | (intro z; have z9 := z.2; omega) | simp)).trans fz2_9
      have fz4_10 : up2 W9 (14, 0, 0) (1) (nI (S + 1)) (14, 1, 0) (8 * S + 1) = (nI pl) := (up2_n _ _ _ _ (by first | (intro z; have z9 := z.2; omega) | simp)).trans fz4_9
      have fz5_10 : up2 W9 (14, 0, 0) (1) (nI (S + 1)) (14, 1, 0) (8 * S + 2) = (nI fb) := (up2_n _ _ _ _ (by first | (intro z; have z9 := z.2; omega) | simp)).trans fz5_9
      have fz6_10 : up2 W9 (14, 0, 0) (1) (nI (S + 1)) (14, 1, 0) (8 * S + 3) = (-1 : Int32) := (up2_n _ _ _ _ (by first | (intro z; have z9 := z.2; omega) | simp)).trans fz6_9
      have fz7_10 : up2 W9 (14, 0, 0) (1) (nI (S + 1)) (14, 1, 0) (8 * S + 5) = (-1 : Int32) := (up2_n _ _ _ _ (by first | (intro z; have z9 := z.2; omega) | simp)).trans fz7_9
      have fz8_10 : up2 W9 (14, 0, 0) (1) (nI (S + 1)) (14, 1, 0) (8 * S + 6) = (5000 : Int32) := (up2_n _ _ _ _ (by first | (intro z; have z9 := z.2; omega) | simp)).trans fz8_9
      have fz10_10 : up2 W9 (14, 0, 0) (1) (nI (S + 1)) (14, 0, 0) (1) = (nI (S + 1)) := up2_s _ _ _ _
      generalize up2 W9 (14, 0, 0) (1) (nI (S + 1)) = W10 at hl10 hL10 fz2_10 fz4_10 fz5_10 fz6_10 fz7_10 fz8_10 fz10_10 ⊢
      refine rb_goto C 3288 dL_law_1369 (by decide) ?_
      refine rb_W.unset 15 ?_
      refine rb_W.unset 16 ?_
      refine rb_W.unset 17 ?_
      refine rb_W.unset 34 ?_
      exact rb_W.room (kk G9 W10 (up2 (up2 (up2 (up2 (up2 (up2 (up2 (up2 M (16, 0, 0) 0 0) (14, 16, 0) S (nI ho)) (14, 17, 0) S (nI pl)) (14, 18, 0) S (nI fb)) (14, 19, 0) S (-1)) (14, 21, 0) S (-1)) (14, 22, 0) S 5000) (16, 0, 0) 15 (nI (S + 1))) ⟨hL10, _, _, _, _, _, _, hl10⟩) (by omega) (by omega)
    refine rb_if_ne C 1303 dL_law_1287 (by decide) (fun h1287 => ?_) (fun h1287 => ?_)
    · refine rb_iconst C dL_law_1303 (v := 0) (by decide) ?_
      exact mg1287 0 (by omega)
    · refine rb_iload C dL_law_1290 rfl ?_
      refine rb_bipush C dL_law_1292 (v := 8) (by decide) ?_
      refine rq_ishr C (z := (u >>> ((8 : Int32) &&& 31))) dL_law_1294 rfl ?_
      refine rb_bipush C dL_law_1295 (v := 64) (by decide) ?_
      refine rb_callS C M_L_124 (fun l X => (k_L_low l X G W4 _ 64 (by decide) (by decide)).m) dL_law_1297 rfl rfl rfl (Nat.le_of_ble_eq_true rfl) ⟨(Nat.le_of_ble_eq_true rfl), (Nat.le_of_ble_eq_true rfl)⟩ (by omega) (by omega) (fun v G' hp => ?_) (fun _ _ hp => hp.elim)
      obtain ⟨z3, hz3, rfl, e9⟩ := hp
      rw [e9]
      clear e9 G'
      refine rb_goto C 1304 dL_law_1300 (by decide) ?_
      exact mg1287 z3 (by omega)
  · replace h1239 := (nI_eq (a := S) (b := 6) (by omega) (by omega)).mp h1239
    refine rb_goto C 3288 dL_law_1242 (by decide) ?_
    refine rb_W.unset 15 ?_
    refine rb_W.unset 16 ?_
    refine rb_W.unset 17 ?_
    exact rb_W.room (kk G W M ⟨hL, _, _, _, _, _, _, hl⟩) (by omega) (by omega)

set_option maxRecDepth 100000 in
set_option maxHeartbeats 4000000 in
theorem law_12 {Φ : rb_F} {cells slots : Nat} (C : rb_C Φ RL cL_law 54 15 568 734644 6897897) (hc : cells + 90 ≤ 734644) (hsl : slots + 2600 ≤ 6897897) {G : rb_G} {W M : rb_I} (hL : LI G W M) {S A R P t d : Nat} (hl : lx W M S A R P t d) (v u : Int32) (k n i j : Nat) (hk : k < 140) (hn : n < 6) (hi : i < S ∨ S = 0 ∧ i = 0) (hj : j < S ∨ S = 0 ∧ j = 0) (kk : ∀ G' W' M', lJ G' W' M' → rb_W Φ (cells + 90) (slots + 2600) 3288 (LVE k v u) [] (wI G' W')) : rb_W Φ cells slots 1643 (LV0 k v u n i j) [] (wI G W) := by
  show rb_W Φ cells slots 1643 [some (rbR (18, 0, 0)), some (rbR (0, 0, 0)), some (rbR (14, 0, 0)), some (rbR (14, 1, 0)), some (rbR (14, 2, 0)), some (rbR (14, 3, 0)), some (rbR (14, 4, 0)), some (rbR (14, 5, 0)), some (rbR (14, 6, 0)), some (rbR (14, 7, 0)), some (rbR (14, 8, 0)), some (rbR (14, 9, 0)), some (rbI (nI k)), some (rbI v), some (rbI u), some (rbI (nI n)), some (rbI (nI i)), some (rbI (nI j)), some (rbI 1), none, none, none, none, none, none, none, none, none, none, none, none, none, none, none, none, none, none, none, none, none, none, none, none, none, none, none, none, none, none, none, none, none, none, none] [] (wI G W)
  have hm := hL.1
  obtain ⟨hS6, hA10, hRP, hP58, hP2, hd64, htm⟩ := lr_b hl
  refine rb_aload_n C dL_law_1643 rfl ?_
  refine rb_iconst C dL_law_1644 (v := 1) (by decide) ?_
  refine rw_iald C (x := (nI S)) 44 (1) dL_law_1645 rfl (hm 0 (by decide)) (show ¬ (((1 : Int32)) < 0 ∨ 44 ≤ (1 : Int32).toNatClampNeg) by decide) rfl ((lr_g1 hl)) ?_
  refine rb_if_ne C 1652 dL_law_1646 (by decide) (fun h1646 => ?_) (fun h1646 => ?_)
  · replace h1646 := mt (nI_eq (a := S) (b := 0) (by omega) (by omega)).mpr h1646
    have hi9 : i < S := by omega
    refine rb_iconst C dL_law_1652 (v := 0) (by decide) ?_
    refine rb_istore C dL_law_1653 (Nat.le_of_ble_eq_true rfl) rfl (Lv' := [_, _, _, _, _, _, _, _, _, _, _, _, _, _, _, _, _, _, _, _, _, _, _, _, _, _, _, _, _, _, _, _, _, _, _, _, _, _, _, _, _, _, _, _, _, _, _, _, _, _, _, _, _, _]) rfl ?_
    have loop1655 : ∀ (dd : Nat) (q : Nat) (G : rb_G) (W M : rb_I), q + dd = 4 → LI G W M → lx W M S A R P t d → rb_W Φ (cells + 12 * q) (slots + 72 * q) 1655 [some (rbR (18, 0, 0)), some (rbR (0, 0, 0)), some (rbR (14, 0, 0)), some (rbR (14, 1, 0)), some (rbR (14, 2, 0)), some (rbR (14, 3, 0)), some (rbR (14, 4, 0)), some (rbR (14, 5, 0)), some (rbR (14, 6, 0)), some (rbR (14, 7, 0)), some (rbR (14, 8, 0)), some (rbR (14, 9, 0)), some (rbI (nI k)), some (rbI v), some (rbI u), some (rbI (nI n)), some (rbI (nI i)), some (rbI (nI j)), some (rbI 1), none, none, none, none, none, none, none, none, none, none, none, none, none, none, none, none, none, some (rbI (nI q)), none, none, none, none, none, none, none, none, none, none, none, none, none, none, none, none, none] [] (wI G W) := by
      intro dd
      induction dd with
      | zero =>
        intro q G W M hq hL hl
        have hm := hL.1
        refine rb_iload C dL_law_1655 rfl ?_
        refine rb_iconst C dL_law_1657 (v := 4) (by decide) ?_
        refine rb_icmp_ge C 1894 dL_law_1658 (by decide) (fun _ => ?_) (fun h9 => absurd ((nI_le (a := 4) (b := q) (by omega) (by omega))) h9)
        refine rb_goto C 3288 dL_law_1894 (by decide) ?_
        refine rb_W.unset 15 ?_
        refine rb_W.unset 16 ?_
        refine rb_W.unset 17 ?_
        refine rb_W.unset 36 ?_
        exact rb_W.room (kk G W M ⟨hL, _, _, _, _, _, _, hl⟩) (by omega) (by omega)
      | succ dd ih =>
        intro q G W M hq hL hl
        have hm := hL.1
        obtain ⟨ho, hho, e16⟩ := vp_nat (lr_ho hl hi9)
        refine rb_iload C dL_law_1655 rfl ?_
        refine rb_iconst C dL_law_1657 (v := 4) (by decide) ?_
        refine rb_icmp_ge C 1894 dL_law_1658 (by decide) (fun h9 => absurd h9 ((nI_ge (a := q) (b := 4) (by omega) (by omega)))) (fun _ => ?_)
        refine rb_iload C dL_law_1661 rfl ?_
        refine rb_iload C dL_law_1663 rfl ?_
        refine rq_iadd C (z := (nI (n + q))) dL_law_1665 (nI_add n q) ?_
        refine rb_bipush C dL_law_1666 (v := 6) (by decide) ?_
        refine rq_irem C (z := (nI ((n + q) % 6))) dL_law_1668 (by decide) (pk_rem (by omega) (by decide) (by decide)) ?_
        obtain ⟨nx, hnx, enx⟩ : ∃ nx, nx < 6 ∧ (n + q) % 6 = nx := ⟨_, Nat.mod_lt _ (by decide), rfl⟩
        rw [enx]
        refine rb_istore C dL_law_1669 (Nat.le_of_ble_eq_true rfl) rfl (Lv' := [_, _, _, _, _, _, _, _, _, _, _, _, _, _, _, _, _, _, _, _, _, _, _, _, _, _, _, _, _, _, _, _, _, _, _, _, _, _, _, _, _, _, _, _, _, _, _, _, _, _, _, _, _, _]) rfl ?_
        refine rb_aload_n C dL_law_1671 rfl ?_
        refine rb_bipush C dL_law_1672 (v := 8) (by decide) ?_
        refine rb_iload C dL_law_1674 rfl ?_
        refine rq_imul C (z := (nI (8 * i))) dL_law_1676 (pk_mul 8 i) ?_
        refine rb_iconst C dL_law_1677 (v := 3) (by decide) ?_
        refine rq_iadd C (z := (nI (8 * i + 3))) dL_law_1678 (nI_add (8 * i) 3) ?_
        refine rw_iald C (x := (M (14, 19, 0) i)) 48 (8 * i + 3) dL_law_1679 rfl (hm 1 (by decide)) (vp_in_nI (show 8 * i + 3 < 48 by omega) (by decide)) (nI_clamp (show 8 * i + 3 < 2 ^ 31 by omega)) ((lr_x3 hl (s := i) (by omega))) ?_
        refine rb_iload C dL_law_1680 rfl ?_
        refine rb_icmp_ne C 1712 dL_law_1682 (by decide) (fun h1682 => ?_) (fun h1682 => ?_)
        · refine rb_iload C dL_law_1712 rfl ?_
          refine rb_iload C dL_law_1714 rfl ?_
          refine rb_aload_n C dL_law_1716 rfl ?_
          refine rb_aload C dL_law_1717 rfl ?_
          refine rb_aload_n C dL_law_1719 rfl ?_
          refine rb_callS C M_L_173 (fun l X => (k_L_reason l X G W M hm hl i nx hi9 hnx).m) dL_law_1720 rfl rfl rfl (Nat.le_of_ble_eq_true rfl) ⟨(Nat.le_of_ble_eq_true rfl), (Nat.le_of_ble_eq_true rfl)⟩ (by omega) (by omega) (fun v G' hp => ?_) (fun _ _ hp => hp.elim)
          obtain ⟨rfl, e9⟩ := hp
          rw [e9]
          clear e9 G'
          refine rb_istore C dL_law_1723 (Nat.le_of_ble_eq_true rfl) rfl (Lv' := [_, _, _, _, _, _, _, _, _, _, _, _, _, _, _, _, _, _, _, _, _, _, _, _, _, _, _, _, _, _, _, _, _, _, _, _, _, _, _, _, _, _, _, _, _, _, _, _, _, _, _, _, _, _]) rfl ?_
          refine rb_aload_n C dL_law_1725 rfl ?_
          refine rb_bipush C dL_law_1726 (v := 6) (by decide) ?_
          refine rb_aload_n C dL_law_1728 rfl ?_
          refine rb_bipush C dL_law_1729 (v := 8) (by decide) ?_
          refine rb_iload C dL_law_1731 rfl ?_
          refine rq_imul C (z := (nI (8 * i))) dL_law_1733 (pk_mul 8 i) ?_
          refine rw_iald C (x := (nI ho)) 48 (8 * i) dL_law_1734 rfl (hm 1 (by decide)) (vp_in_nI (show 8 * i < 48 by omega) (by decide)) (nI_clamp (show 8 * i < 2 ^ 31 by omega)) ((lr_x0 hl hi9).trans e16) ?_
          refine rq_iadd C (z := (nI (6 + ho))) dL_law_1735 (nI_add 6 ho) ?_
          refine rw_iald C (x := (M (14, 4, 0) ho)) 44 (6 + ho) dL_law_1736 rfl (hm 0 (by decide)) (vp_in_nI (show 6 + ho < 44 by omega) (by decide)) (nI_clamp (show 6 + ho < 2 ^ 31 by omega)) ((lr_N hl (n := ho) (by omega)).2.1) ?_
          refine rb_istore C dL_law_1737 (Nat.le_of_ble_eq_true rfl) rfl (Lv' := [_, _, _, _, _, _, _, _, _, _, _, _, _, _, _, _, _, _, _, _, _, _, _, _, _, _, _, _, _, _, _, _, _, _, _, _, _, _, _, _, _, _, _, _, _, _, _, _, _, _, _, _, _, _]) rfl ?_
          refine rb_iload C dL_law_1739 rfl ?_
          refine rb_if_ne C 1787 dL_law_1741 (by decide) (fun h1741 => ?_) (fun h1741 => ?_)
          · refine rb_iload C dL_law_1787 rfl ?_
            refine rb_aload_n C dL_law_1789 rfl ?_
            refine rb_iload C dL_law_1790 rfl ?_
            refine rb_iload C dL_law_1792 rfl ?_
            refine rb_callSW C M_L_171 (fun l X => c_attachA l X G W M hL hl (s := i) (n := nx) hi9 hnx h1682 h1741) dL_law_1794 rfl rfl rfl (Nat.le_of_ble_eq_true rfl) ⟨(Nat.le_of_ble_eq_true rfl), (Nat.le_of_ble_eq_true rfl)⟩ (by omega) (by omega) (fun v G' hp => ?_)
            obtain ⟨rfl, G2, W2, e9, hL2, hw2⟩ := hp
            rw [e9]
            clear e9 G'
            have hl2 := lx_lw hl hw2
            have hm := hL2.1
            refine rb_iload C dL_law_1797 rfl ?_
            refine rb_icmp_ne C 1806 dL_law_1799 (by decide) (fun h9 => absurd (rfl) h9) (fun _ => ?_)
            refine rb_iconst C dL_law_1802 (v := 1) (by decide) ?_
            refine rb_goto C 1807 dL_law_1803 (by decide) ?_
            refine rq_iand C (z := (1 : Int32)) dL_law_1807 (by decide) ?_
            refine rb_istore C dL_law_1808 (Nat.le_of_ble_eq_true rfl) rfl (Lv' := [_, _, _, _, _, _, _, _, _, _, _, _, _, _, _, _, _, _, _, _, _, _, _, _, _, _, _, _, _, _, _, _, _, _, _, _, _, _, _, _, _, _, _, _, _, _, _, _, _, _, _, _, _, _]) rfl ?_
            refine rb_aload_n C dL_law_1810 rfl ?_
            refine rb_bipush C dL_law_1811 (v := 8) (by decide) ?_
            refine rb_iload C dL_law_1813 rfl ?_
            refine rq_imul C (z := (nI (8 * i))) dL_law_1815 (pk_mul 8 i) ?_
            refine rb_iconst C dL_law_1816 (v := 4) (by decide) ?_
            refine rq_iadd C (z := (nI (8 * i + 4))) dL_law_1817 (nI_add (8 * i) 4) ?_
            refine rb_iload C dL_law_1818 rfl ?_
            refine rb_iconst C dL_law_1820 (v := 5) (by decide) ?_
            refine rb_icmp_ne C 1838 dL_law_1821 (by decide) (fun _ => ?_) (fun h9 => absurd h9 (rs_5 _ _ _))
            refine rb_iload C dL_law_1838 rfl ?_
            refine rb_if_ne C 1847 dL_law_1840 (by decide) (fun _ => ?_) (fun h9 => absurd h9 (h1741))
            refine rb_aload_n C dL_law_1847 rfl ?_
            refine rb_bipush C dL_law_1848 (v := 8) (by decide) ?_
            refine rb_iload C dL_law_1850 rfl ?_
            refine rq_imul C (z := (nI (8 * i))) dL_law_1852 (pk_mul 8 i) ?_
            refine rb_iconst C dL_law_1853 (v := 4) (by decide) ?_
            refine rq_iadd C (z := (nI (8 * i + 4))) dL_law_1854 (nI_add (8 * i) 4) ?_
            refine rw_iald C (x := (M (14, 20, 0) i)) 48 (8 * i + 4) dL_law_1855 rfl (hm 1 (by decide)) (vp_in_nI (show 8 * i + 4 < 48 by omega) (by decide)) (nI_clamp (show 8 * i + 4 < 2 ^ 31 by omega)) (lr_x4 hl2 hi9) ?_
            refine rw_iast C 48 (8 * i + 4) dL_law_1856 rfl (hm 1 (by decide)) (vp_in_nI (show 8 * i + 4 < 48 by omega) (by decide)) (nI_clamp (show 8 * i + 4 < 2 ^ 31 by omega)) ?_
            have hl3 := lu_st (lx_thr hl2 0) (j := i) hi9 (v := (M (14, 20, 0) i))
            have hL3 := LI_up hL2 1 (8 * i + 4) (M (14, 20, 0) i)
            generalize up2 W2 (14, 1, 0) (8 * i + 4) (M (14, 20, 0) i) = W3 at hl3 hL3 ⊢
            refine rb_iload C dL_law_1857 rfl ?_
            refine rb_if_le C 1865 dL_law_1859 (by decide) (fun h9 => absurd h9 (rs_p _ _ _ h1741)) (fun _ => ?_)
            refine rb_goto C 1888 dL_law_1862 (by decide) ?_
            refine rq_iinc C dL_law_1888 rfl (v := (nI (q + 1))) (nI_1 q) rfl (Lv' := [_, _, _, _, _, _, _, _, _, _, _, _, _, _, _, _, _, _, _, _, _, _, _, _, _, _, _, _, _, _, _, _, _, _, _, _, _, _, _, _, _, _, _, _, _, _, _, _, _, _, _, _, _, _]) rfl ?_
            refine rb_goto C 1655 dL_law_1891 (by decide) ?_
            refine rb_W.unset 37 ?_
            refine rb_W.unset 38 ?_
            refine rb_W.unset 39 ?_
            exact rb_W.room (ih (q + 1) G2 W3 (up2 M (16, 0, 0) 0 0) (by omega) hL3 (by have z := hl3; rw [up2_same (by simp [up2])] at z; exact z)) (by omega) (by omega)
          · refine rb_iload C dL_law_1744 rfl ?_
            refine rb_iconst C dL_law_1746 (v := (-1)) (by decide) ?_
            refine rb_icmp_eq C 1787 dL_law_1747 (by decide) (fun h1747 => ?_) (fun h1747 => ?_)
            · refine rb_iload C dL_law_1787 rfl ?_
              refine rb_aload_n C dL_law_1789 rfl ?_
              refine rb_iload C dL_law_1790 rfl ?_
              refine rb_iload C dL_law_1792 rfl ?_
              refine rb_callSW C M_L_171 (fun l X => c_attachB l X G W M hL hl (s := i) (n := nx) hi9 hnx h1682 h1741 (by rw [st_eq (by omega) (by omega) e16, if_pos h1747])) dL_law_1794 rfl rfl rfl (Nat.le_of_ble_eq_true rfl) ⟨(Nat.le_of_ble_eq_true rfl), (Nat.le_of_ble_eq_true rfl)⟩ (by omega) (by omega) (fun v G' hp => ?_)
              obtain ⟨rfl, G4, W4, e9, hL4, hw4⟩ := hp
              rw [e9]
              clear e9 G'
              have hl4 := lx_lw hl hw4
              have hm := hL4.1
              refine rb_iload C dL_law_1797 rfl ?_
              refine rb_icmp_ne C 1806 dL_law_1799 (by decide) (fun h9 => absurd (rfl) h9) (fun _ => ?_)
              refine rb_iconst C dL_law_1802 (v := 1) (by decide) ?_
              refine rb_goto C 1807 dL_law_1803 (by decide) ?_
              refine rq_iand C (z := (1 : Int32)) dL_law_1807 (by decide) ?_
              refine rb_istore C dL_law_1808 (Nat.le_of_ble_eq_true rfl) rfl (Lv' := [_, _, _, _, _, _, _, _, _, _, _, _, _, _, _, _, _, _, _, _, _, _, _, _, _, _, _, _, _, _, _, _, _, _, _, _, _, _, _, _, _, _, _, _, _, _, _, _, _, _, _, _, _, _]) rfl ?_
              refine rb_aload_n C dL_law_1810 rfl ?_
              refine rb_bipush C dL_law_1811 (v := 8) (by decide) ?_
              refine rb_iload C dL_law_1813 rfl ?_
              refine rq_imul C (z := (nI (8 * i))) dL_law_1815 (pk_mul 8 i) ?_
              refine rb_iconst C dL_law_1816 (v := 4) (by decide) ?_
              refine rq_iadd C (z := (nI (8 * i + 4))) dL_law_1817 (nI_add (8 * i) 4) ?_
              refine rb_iload C dL_law_1818 rfl ?_
              refine rb_iconst C dL_law_1820 (v := 5) (by decide) ?_
              refine rb_icmp_ne C 1838 dL_law_1821 (by decide) (fun _ => ?_) (fun h9 => absurd h9 (rs_5 _ _ _))
              refine rb_iload C dL_law_1838 rfl ?_
              refine rb_if_ne C 1847 dL_law_1840 (by decide) (fun h9 => absurd (h1741) h9) (fun _ => ?_)
              refine rb_iconst C dL_law_1843 (v := 0) (by decide) ?_
              refine rb_goto C 1856 dL_law_1844 (by decide) ?_
              refine rw_iast C 48 (8 * i + 4) dL_law_1856 rfl (hm 1 (by decide)) (vp_in_nI (show 8 * i + 4 < 48 by omega) (by decide)) (nI_clamp (show 8 * i + 4 < 2 ^ 31 by omega)) ?_
              have hl5 := lu_st (lx_thr hl4 0) (j := i) hi9 (v := 0)
              have hL5 := LI_up hL4 1 (8 * i + 4) 0
              generalize up2 W4 (14, 1, 0) (8 * i + 4) 0 = W5 at hl5 hL5 ⊢
              refine rb_iload C dL_law_1857 rfl ?_
              refine rb_if_le C 1865 dL_law_1859 (by decide) (fun _ => ?_) (fun h9 => absurd ((by rw [h1741]; decide)) h9)
              refine rb_aload_n C dL_law_1865 rfl ?_
              refine rb_bipush C dL_law_1866 (v := 8) (by decide) ?_
              refine rb_iload C dL_law_1868 rfl ?_
              refine rq_imul C (z := (nI (8 * i))) dL_law_1870 (pk_mul 8 i) ?_
              refine rb_iconst C dL_law_1871 (v := 3) (by decide) ?_
              refine rq_iadd C (z := (nI (8 * i + 3))) dL_law_1872 (nI_add (8 * i) 3) ?_
              refine rb_iload C dL_law_1873 rfl ?_
              refine rw_iast C 48 (8 * i + 3) dL_law_1875 rfl (hm 1 (by decide)) (vp_in_nI (show 8 * i + 3 < 48 by omega) (by decide)) (nI_clamp (show 8 * i + 3 < 2 ^ 31 by omega)) ?_
              have hl6 := lu_at hl5 (j := i) hi9 (v := nI nx) (at6_nI hnx)
              have hL6 := LI_up hL5 1 (8 * i + 3) (nI nx)
              generalize up2 W5 (14, 1, 0) (8 * i + 3) (nI nx) = W6 at hl6 hL6 ⊢
              refine rb_iload C dL_law_1876 rfl ?_
              refine rb_aload_n C dL_law_1878 rfl ?_
              refine rb_aload C dL_law_1879 rfl ?_
              refine rb_aload_n C dL_law_1881 rfl ?_
              refine rb_callS C M_L_176 (fun l X => (k_L_meets l X G4 W6 (up2 (up2 (up2 M (16, 0, 0) 0 0) (14, 20, 0) i 0) (14, 19, 0) i (nI nx)) hm hl6 i nx hi9 hnx (up2_s _ _ _ _)).m) dL_law_1882 rfl rfl rfl (Nat.le_of_ble_eq_true rfl) ⟨(Nat.le_of_ble_eq_true rfl), (Nat.le_of_ble_eq_true rfl)⟩ (by omega) (by omega) (fun v G' hp => ?_) (fun _ _ hp => hp.elim)
              obtain ⟨rfl, W7, e9, hl7, hf7⟩ := hp
              rw [e9]
              clear e9 G'
              have hL7 := LI_cf hL6 hf7
              refine rb_goto C 1894 dL_law_1885 (by decide) ?_
              refine rb_goto C 3288 dL_law_1894 (by decide) ?_
              refine rb_W.unset 15 ?_
              refine rb_W.unset 16 ?_
              refine rb_W.unset 17 ?_
              refine rb_W.unset 36 ?_
              refine rb_W.unset 37 ?_
              refine rb_W.unset 38 ?_
              refine rb_W.unset 39 ?_
              exact rb_W.room (kk G4 W7 (m_makesContact (up2 (up2 (up2 M (16, 0, 0) 0 0) (14, 19, 0) i (nI nx)) (14, 20, 0) i 0) (nI i)) ⟨hL7, _, _, _, _, _, _, (by have z := hl7; rw [up2_cm (by simp)] at z; exact z)⟩) (by omega) (by omega)
            · obtain ⟨fa, hfa, efa⟩ := at6_nat (lr_N hl (n := ho) (by omega)).2.2.1 h1747
              rw [efa]
              refine rb_iload C dL_law_1750 rfl ?_
              refine rb_iload C dL_law_1752 rfl ?_
              refine rb_icmp_eq C 1787 dL_law_1754 (by decide) (fun h1754 => ?_) (fun h1754 => ?_)
              · replace h1754 := (nI_eq (a := fa) (b := nx) (by omega) (by omega)).mp h1754
                refine rb_iload C dL_law_1787 rfl ?_
                refine rb_aload_n C dL_law_1789 rfl ?_
                refine rb_iload C dL_law_1790 rfl ?_
                refine rb_iload C dL_law_1792 rfl ?_
                refine rb_callSW C M_L_171 (fun l X => c_attachB l X G W M hL hl (s := i) (n := nx) hi9 hnx h1682 h1741 (by rw [st_eq (by omega) (by omega) e16, if_neg h1747, if_pos (by rw [efa, h1754])])) dL_law_1794 rfl rfl rfl (Nat.le_of_ble_eq_true rfl) ⟨(Nat.le_of_ble_eq_true rfl), (Nat.le_of_ble_eq_true rfl)⟩ (by omega) (by omega) (fun v G' hp => ?_)
                obtain ⟨rfl, G8, W8, e9, hL8, hw8⟩ := hp
                rw [e9]
                clear e9 G'
                have hl8 := lx_lw hl hw8
                have hm := hL8.1
                refine rb_iload C dL_law_1797 rfl ?_
                refine rb_icmp_ne C 1806 dL_law_1799 (by decide) (fun h9 => absurd (rfl) h9) (fun _ => ?_)
                refine rb_iconst C dL_law_1802 (v := 1) (by decide) ?_
                refine rb_goto C 1807 dL_law_1803 (by decide) ?_
                refine rq_iand C (z := (1 : Int32)) dL_law_1807 (by decide) ?_
                refine rb_istore C dL_law_1808 (Nat.le_of_ble_eq_true rfl) rfl (Lv' := [_, _, _, _, _, _, _, _, _, _, _, _, _, _, _, _, _, _, _, _, _, _, _, _, _, _, _, _, _, _, _, _, _, _, _, _, _, _, _, _, _, _, _, _, _, _, _, _, _, _, _, _, _, _]) rfl ?_
                refine rb_aload_n C dL_law_1810 rfl ?_
                refine rb_bipush C dL_law_1811 (v := 8) (by decide) ?_
                refine rb_iload C dL_law_1813 rfl ?_
                refine rq_imul C (z := (nI (8 * i))) dL_law_1815 (pk_mul 8 i) ?_
                refine rb_iconst C dL_law_1816 (v := 4) (by decide) ?_
                refine rq_iadd C (z := (nI (8 * i + 4))) dL_law_1817 (nI_add (8 * i) 4) ?_
                refine rb_iload C dL_law_1818 rfl ?_
                refine rb_iconst C dL_law_1820 (v := 5) (by decide) ?_
                refine rb_icmp_ne C 1838 dL_law_1821 (by decide) (fun _ => ?_) (fun h9 => absurd h9 (rs_5 _ _ _))
                refine rb_iload C dL_law_1838 rfl ?_
                refine rb_if_ne C 1847 dL_law_1840 (by decide) (fun h9 => absurd (h1741) h9) (fun _ => ?_)
                refine rb_iconst C dL_law_1843 (v := 0) (by decide) ?_
                refine rb_goto C 1856 dL_law_1844 (by decide) ?_
                refine rw_iast C 48 (8 * i + 4) dL_law_1856 rfl (hm 1 (by decide)) (vp_in_nI (show 8 * i + 4 < 48 by omega) (by decide)) (nI_clamp (show 8 * i + 4 < 2 ^ 31 by omega)) ?_
                have hl9 := lu_st (lx_thr hl8 0) (j := i) hi9 (v := 0)
                have hL9 := LI_up hL8 1 (8 * i + 4) 0
                generalize up2 W8 (14, 1, 0) (8 * i + 4) 0 = W9 at hl9 hL9 ⊢
                refine rb_iload C dL_law_1857 rfl ?_
                refine rb_if_le C 1865 dL_law_1859 (by decide) (fun _ => ?_) (fun h9 => absurd ((by rw [h1741]; decide)) h9)
                refine rb_aload_n C dL_law_1865 rfl ?_
                refine rb_bipush C dL_law_1866 (v := 8) (by decide) ?_
                refine rb_iload C dL_law_1868 rfl ?_
                refine rq_imul C (z := (nI (8 * i))) dL_law_1870 (pk_mul 8 i) ?_
                refine rb_iconst C dL_law_1871 (v := 3) (by decide) ?_
                refine rq_iadd C (z := (nI (8 * i + 3))) dL_law_1872 (nI_add (8 * i) 3) ?_
                refine rb_iload C dL_law_1873 rfl ?_
                refine rw_iast C 48 (8 * i + 3) dL_law_1875 rfl (hm 1 (by decide)) (vp_in_nI (show 8 * i + 3 < 48 by omega) (by decide)) (nI_clamp (show 8 * i + 3 < 2 ^ 31 by omega)) ?_
                have hl10 := lu_at hl9 (j := i) hi9 (v := nI nx) (at6_nI hnx)
                have hL10 := LI_up hL9 1 (8 * i + 3) (nI nx)
                generalize up2 W9 (14, 1, 0) (8 * i + 3) (nI nx) = W10 at hl10 hL10 ⊢
                refine rb_iload C dL_law_1876 rfl ?_
                refine rb_aload_n C dL_law_1878 rfl ?_
                refine rb_aload C dL_law_1879 rfl ?_
                refine rb_aload_n C dL_law_1881 rfl ?_
                refine rb_callS C M_L_176 (fun l X => (k_L_meets l X G8 W10 (up2 (up2 (up2 M (16, 0, 0) 0 0) (14, 20, 0) i 0) (14, 19, 0) i (nI nx)) hm hl10 i nx hi9 hnx (up2_s _ _ _ _)).m) dL_law_1882 rfl rfl rfl (Nat.le_of_ble_eq_true rfl) ⟨(Nat.le_of_ble_eq_true rfl), (Nat.le_of_ble_eq_true rfl)⟩ (by omega) (by omega) (fun v G' hp => ?_) (fun _ _ hp => hp.elim)
                obtain ⟨rfl, W11, e9, hl11, hf11⟩ := hp
                rw [e9]
                clear e9 G'
                have hL11 := LI_cf hL10 hf11
                refine rb_goto C 1894 dL_law_1885 (by decide) ?_
                refine rb_goto C 3288 dL_law_1894 (by decide) ?_
                refine rb_W.unset 15 ?_
                refine rb_W.unset 16 ?_
                refine rb_W.unset 17 ?_
                refine rb_W.unset 36 ?_
                refine rb_W.unset 37 ?_
                refine rb_W.unset 38 ?_
                refine rb_W.unset 39 ?_
                exact rb_W.room (kk G8 W11 (m_makesContact (up2 (up2 (up2 M (16, 0, 0) 0 0) (14, 19, 0) i (nI nx)) (14, 20, 0) i 0) (nI i)) ⟨hL11, _, _, _, _, _, _, (by have z := hl11; rw [up2_cm (by simp)] at z; exact z)⟩) (by omega) (by omega)
              · replace h1754 := mt (nI_eq (a := fa) (b := nx) (by omega) (by omega)).mpr h1754
                have hfn : ¬ M (14, 4, 0) ho = nI nx := by rw [efa]; exact fun z => h1754 ((nI_eq (by omega) (by omega)).mp z)
                refine rb_aload_n C dL_law_1757 rfl ?_
                refine rb_bipush C dL_law_1758 (v := 8) (by decide) ?_
                refine rb_iload C dL_law_1760 rfl ?_
                refine rq_imul C (z := (nI (8 * i))) dL_law_1762 (pk_mul 8 i) ?_
                refine rb_iconst C dL_law_1763 (v := 4) (by decide) ?_
                refine rq_iadd C (z := (nI (8 * i + 4))) dL_law_1764 (nI_add (8 * i) 4) ?_
                refine rw_iald C (x := (M (14, 20, 0) i)) 48 (8 * i + 4) dL_law_1765 rfl (hm 1 (by decide)) (vp_in_nI (show 8 * i + 4 < 48 by omega) (by decide)) (nI_clamp (show 8 * i + 4 < 2 ^ 31 by omega)) ((lr_x4 hl (s := i) (by omega))) ?_
                refine rb_iconst C dL_law_1766 (v := 2) (by decide) ?_
                refine rb_icmp_ge C 1787 dL_law_1767 (by decide) (fun h1767 => ?_) (fun h1767 => ?_)
                · refine rb_iload C dL_law_1787 rfl ?_
                  refine rb_aload_n C dL_law_1789 rfl ?_
                  refine rb_iload C dL_law_1790 rfl ?_
                  refine rb_iload C dL_law_1792 rfl ?_
                  refine rb_callSW C M_L_171 (fun l X => c_attachB l X G W M hL hl (s := i) (n := nx) hi9 hnx h1682 h1741 (by rw [st_eq (by omega) (by omega) e16, if_neg h1747, if_neg hfn, if_pos h1767, ite_self])) dL_law_1794 rfl rfl rfl (Nat.le_of_ble_eq_true rfl) ⟨(Nat.le_of_ble_eq_true rfl), (Nat.le_of_ble_eq_true rfl)⟩ (by omega) (by omega) (fun v G' hp => ?_)
                  obtain ⟨rfl, G12, W12, e9, hL12, hw12⟩ := hp
                  rw [e9]
                  clear e9 G'
                  have hl12 := lx_lw hl hw12
                  have hm := hL12.1
                  refine rb_iload C dL_law_1797 rfl ?_
                  refine rb_icmp_ne C 1806 dL_law_1799 (by decide) (fun h9 => absurd (rfl) h9) (fun _ => ?_)
                  refine rb_iconst C dL_law_1802 (v := 1) (by decide) ?_
                  refine rb_goto C 1807 dL_law_1803 (by decide) ?_
                  refine rq_iand C (z := (1 : Int32)) dL_law_1807 (by decide) ?_
                  refine rb_istore C dL_law_1808 (Nat.le_of_ble_eq_true rfl) rfl (Lv' := [_, _, _, _, _, _, _, _, _, _, _, _, _, _, _, _, _, _, _, _, _, _, _, _, _, _, _, _, _, _, _, _, _, _, _, _, _, _, _, _, _, _, _, _, _, _, _, _, _, _, _, _, _, _]) rfl ?_
                  refine rb_aload_n C dL_law_1810 rfl ?_
                  refine rb_bipush C dL_law_1811 (v := 8) (by decide) ?_
                  refine rb_iload C dL_law_1813 rfl ?_
                  refine rq_imul C (z := (nI (8 * i))) dL_law_1815 (pk_mul 8 i) ?_
                  refine rb_iconst C dL_law_1816 (v := 4) (by decide) ?_
                  refine rq_iadd C (z := (nI (8 * i + 4))) dL_law_1817 (nI_add (8 * i) 4) ?_
                  refine rb_iload C dL_law_1818 rfl ?_
                  refine rb_iconst C dL_law_1820 (v := 5) (by decide) ?_
                  refine rb_icmp_ne C 1838 dL_law_1821 (by decide) (fun _ => ?_) (fun h9 => absurd h9 (rs_5 _ _ _))
                  refine rb_iload C dL_law_1838 rfl ?_
                  refine rb_if_ne C 1847 dL_law_1840 (by decide) (fun h9 => absurd (h1741) h9) (fun _ => ?_)
                  refine rb_iconst C dL_law_1843 (v := 0) (by decide) ?_
                  refine rb_goto C 1856 dL_law_1844 (by decide) ?_
                  refine rw_iast C 48 (8 * i + 4) dL_law_1856 rfl (hm 1 (by decide)) (vp_in_nI (show 8 * i + 4 < 48 by omega) (by decide)) (nI_clamp (show 8 * i + 4 < 2 ^ 31 by omega)) ?_
                  have hl13 := lu_st (lx_thr hl12 0) (j := i) hi9 (v := 0)
                  have hL13 := LI_up hL12 1 (8 * i + 4) 0
                  generalize up2 W12 (14, 1, 0) (8 * i + 4) 0 = W13 at hl13 hL13 ⊢
                  refine rb_iload C dL_law_1857 rfl ?_
                  refine rb_if_le C 1865 dL_law_1859 (by decide) (fun _ => ?_) (fun h9 => absurd ((by rw [h1741]; decide)) h9)
                  refine rb_aload_n C dL_law_1865 rfl ?_
                  refine rb_bipush C dL_law_1866 (v := 8) (by decide) ?_
                  refine rb_iload C dL_law_1868 rfl ?_
                  refine rq_imul C (z := (nI (8 * i))) dL_law_1870 (pk_mul 8 i) ?_
                  refine rb_iconst C dL_law_1871 (v := 3) (by decide) ?_
                  refine rq_iadd C (z := (nI (8 * i + 3))) dL_law_1872 (nI_add (8 * i) 3) ?_
                  refine rb_iload C dL_law_1873 rfl ?_
                  refine rw_iast C 48 (8 * i + 3) dL_law_1875 rfl (hm 1 (by decide)) (vp_in_nI (show 8 * i + 3 < 48 by omega) (by decide)) (nI_clamp (show 8 * i + 3 < 2 ^ 31 by omega)) ?_
                  have hl14 := lu_at hl13 (j := i) hi9 (v := nI nx) (at6_nI hnx)
                  have hL14 := LI_up hL13 1 (8 * i + 3) (nI nx)
                  generalize up2 W13 (14, 1, 0) (8 * i + 3) (nI nx) = W14 at hl14 hL14 ⊢
                  refine rb_iload C dL_law_1876 rfl ?_
                  refine rb_aload_n C dL_law_1878 rfl ?_
                  refine rb_aload C dL_law_1879 rfl ?_
                  refine rb_aload_n C dL_law_1881 rfl ?_
                  refine rb_callS C M_L_176 (fun l X => (k_L_meets l X G12 W14 (up2 (up2 (up2 M (16, 0, 0) 0 0) (14, 20, 0) i 0) (14, 19, 0) i (nI nx)) hm hl14 i nx hi9 hnx (up2_s _ _ _ _)).m) dL_law_1882 rfl rfl rfl (Nat.le_of_ble_eq_true rfl) ⟨(Nat.le_of_ble_eq_true rfl), (Nat.le_of_ble_eq_true rfl)⟩ (by omega) (by omega) (fun v G' hp => ?_) (fun _ _ hp => hp.elim)
                  obtain ⟨rfl, W15, e9, hl15, hf15⟩ := hp
                  rw [e9]
                  clear e9 G'
                  have hL15 := LI_cf hL14 hf15
                  refine rb_goto C 1894 dL_law_1885 (by decide) ?_
                  refine rb_goto C 3288 dL_law_1894 (by decide) ?_
                  refine rb_W.unset 15 ?_
                  refine rb_W.unset 16 ?_
                  refine rb_W.unset 17 ?_
                  refine rb_W.unset 36 ?_
                  refine rb_W.unset 37 ?_
                  refine rb_W.unset 38 ?_
                  refine rb_W.unset 39 ?_
                  exact rb_W.room (kk G12 W15 (m_makesContact (up2 (up2 (up2 M (16, 0, 0) 0 0) (14, 19, 0) i (nI nx)) (14, 20, 0) i 0) (nI i)) ⟨hL15, _, _, _, _, _, _, (by have z := hl15; rw [up2_cm (by simp)] at z; exact z)⟩) (by omega) (by omega)
                · refine rb_iload C dL_law_1770 rfl ?_
                  refine rb_iload C dL_law_1772 rfl ?_
                  refine rb_aload_n C dL_law_1774 rfl ?_
                  refine rb_aload C dL_law_1775 rfl ?_
                  refine rb_aload_n C dL_law_1777 rfl ?_
                  refine rb_callS C M_L_173 (fun l X => (k_L_reason l X G W M hm hl i fa hi9 hfa).m) dL_law_1778 rfl rfl rfl (Nat.le_of_ble_eq_true rfl) ⟨(Nat.le_of_ble_eq_true rfl), (Nat.le_of_ble_eq_true rfl)⟩ (by omega) (by omega) (fun v G' hp => ?_) (fun _ _ hp => hp.elim)
                  obtain ⟨rfl, e9⟩ := hp
                  rw [e9]
                  clear e9 G'
                  refine rb_if_ne C 1787 dL_law_1781 (by decide) (fun h1781 => ?_) (fun h1781 => ?_)
                  · refine rb_iload C dL_law_1787 rfl ?_
                    refine rb_aload_n C dL_law_1789 rfl ?_
                    refine rb_iload C dL_law_1790 rfl ?_
                    refine rb_iload C dL_law_1792 rfl ?_
                    refine rb_callSW C M_L_171 (fun l X => c_attachB l X G W M hL hl (s := i) (n := nx) hi9 hnx h1682 h1741 (by rw [st_eq (by omega) (by omega) e16, if_neg h1747, if_neg hfn, efa, if_neg h1781])) dL_law_1794 rfl rfl rfl (Nat.le_of_ble_eq_true rfl) ⟨(Nat.le_of_ble_eq_true rfl), (Nat.le_of_ble_eq_true rfl)⟩ (by omega) (by omega) (fun v G' hp => ?_)
                    obtain ⟨rfl, G17, W17, e9, hL17, hw17⟩ := hp
                    rw [e9]
                    clear e9 G'
                    have hl17 := lx_lw hl hw17
                    have hm := hL17.1
                    refine rb_iload C dL_law_1797 rfl ?_
                    refine rb_icmp_ne C 1806 dL_law_1799 (by decide) (fun h9 => absurd (rfl) h9) (fun _ => ?_)
                    refine rb_iconst C dL_law_1802 (v := 1) (by decide) ?_
                    refine rb_goto C 1807 dL_law_1803 (by decide) ?_
                    refine rq_iand C (z := (1 : Int32)) dL_law_1807 (by decide) ?_
                    refine rb_istore C dL_law_1808 (Nat.le_of_ble_eq_true rfl) rfl (Lv' := [_, _, _, _, _, _, _, _, _, _, _, _, _, _, _, _, _, _, _, _, _, _, _, _, _, _, _, _, _, _, _, _, _, _, _, _, _, _, _, _, _, _, _, _, _, _, _, _, _, _, _, _, _, _]) rfl ?_
                    refine rb_aload_n C dL_law_1810 rfl ?_
                    refine rb_bipush C dL_law_1811 (v := 8) (by decide) ?_
                    refine rb_iload C dL_law_1813 rfl ?_
                    refine rq_imul C (z := (nI (8 * i))) dL_law_1815 (pk_mul 8 i) ?_
                    refine rb_iconst C dL_law_1816 (v := 4) (by decide) ?_
                    refine rq_iadd C (z := (nI (8 * i + 4))) dL_law_1817 (nI_add (8 * i) 4) ?_
                    refine rb_iload C dL_law_1818 rfl ?_
                    refine rb_iconst C dL_law_1820 (v := 5) (by decide) ?_
                    refine rb_icmp_ne C 1838 dL_law_1821 (by decide) (fun _ => ?_) (fun h9 => absurd h9 (rs_5 _ _ _))
                    refine rb_iload C dL_law_1838 rfl ?_
                    refine rb_if_ne C 1847 dL_law_1840 (by decide) (fun h9 => absurd (h1741) h9) (fun _ => ?_)
                    refine rb_iconst C dL_law_1843 (v := 0) (by decide) ?_
                    refine rb_goto C 1856 dL_law_1844 (by decide) ?_
                    refine rw_iast C 48 (8 * i + 4) dL_law_1856 rfl (hm 1 (by decide)) (vp_in_nI (show 8 * i + 4 < 48 by omega) (by decide)) (nI_clamp (show 8 * i + 4 < 2 ^ 31 by omega)) ?_
                    have hl18 := lu_st (lx_thr hl17 0) (j := i) hi9 (v := 0)
                    have hL18 := LI_up hL17 1 (8 * i + 4) 0
                    generalize up2 W17 (14, 1, 0) (8 * i + 4) 0 = W18 at hl18 hL18 ⊢
                    refine rb_iload C dL_law_1857 rfl ?_
                    refine rb_if_le C 1865 dL_law_1859 (by decide) (fun _ => ?_) (fun h9 => absurd ((by rw [h1741]; decide)) h9)
                    refine rb_aload_n C dL_law_1865 rfl ?_
                    refine rb_bipush C dL_law_1866 (v := 8) (by decide) ?_
                    refine rb_iload C dL_law_1868 rfl ?_
                    refine rq_imul C (z := (nI (8 * i))) dL_law_1870 (pk_mul 8 i) ?_
                    refine rb_iconst C dL_law_1871 (v := 3) (by decide) ?_
                    refine rq_iadd C (z := (nI (8 * i + 3))) dL_law_1872 (nI_add (8 * i) 3) ?_
                    refine rb_iload C dL_law_1873 rfl ?_
                    refine rw_iast C 48 (8 * i + 3) dL_law_1875 rfl (hm 1 (by decide)) (vp_in_nI (show 8 * i + 3 < 48 by omega) (by decide)) (nI_clamp (show 8 * i + 3 < 2 ^ 31 by omega)) ?_
                    have hl19 := lu_at hl18 (j := i) hi9 (v := nI nx) (at6_nI hnx)
                    have hL19 := LI_up hL18 1 (8 * i + 3) (nI nx)
                    generalize up2 W18 (14, 1, 0) (8 * i + 3) (nI nx) = W19 at hl19 hL19 ⊢
                    refine rb_iload C dL_law_1876 rfl ?_
                    refine rb_aload_n C dL_law_1878 rfl ?_
                    refine rb_aload C dL_law_1879 rfl ?_
                    refine rb_aload_n C dL_law_1881 rfl ?_
                    refine rb_callS C M_L_176 (fun l X => (k_L_meets l X G17 W19 (up2 (up2 (up2 M (16, 0, 0) 0 0) (14, 20, 0) i 0) (14, 19, 0) i (nI nx)) hm hl19 i nx hi9 hnx (up2_s _ _ _ _)).m) dL_law_1882 rfl rfl rfl (Nat.le_of_ble_eq_true rfl) ⟨(Nat.le_of_ble_eq_true rfl), (Nat.le_of_ble_eq_true rfl)⟩ (by omega) (by omega) (fun v G' hp => ?_) (fun _ _ hp => hp.elim)
                    obtain ⟨rfl, W20, e9, hl20, hf20⟩ := hp
                    rw [e9]
                    clear e9 G'
                    have hL20 := LI_cf hL19 hf20
                    refine rb_goto C 1894 dL_law_1885 (by decide) ?_
                    refine rb_goto C 3288 dL_law_1894 (by decide) ?_
                    refine rb_W.unset 15 ?_
                    refine rb_W.unset 16 ?_
                    refine rb_W.unset 17 ?_
                    refine rb_W.unset 36 ?_
                    refine rb_W.unset 37 ?_
                    refine rb_W.unset 38 ?_
                    refine rb_W.unset 39 ?_
                    exact rb_W.room (kk G17 W20 (m_makesContact (up2 (up2 (up2 M (16, 0, 0) 0 0) (14, 19, 0) i (nI nx)) (14, 20, 0) i 0) (nI i)) ⟨hL20, _, _, _, _, _, _, (by have z := hl20; rw [up2_cm (by simp)] at z; exact z)⟩) (by omega) (by omega)
                  · refine rb_iconst C dL_law_1784 (v := 5) (by decide) ?_
                    refine rb_istore C dL_law_1785 (Nat.le_of_ble_eq_true rfl) rfl (Lv' := [_, _, _, _, _, _, _, _, _, _, _, _, _, _, _, _, _, _, _, _, _, _, _, _, _, _, _, _, _, _, _, _, _, _, _, _, _, _, _, _, _, _, _, _, _, _, _, _, _, _, _, _, _, _]) rfl ?_
                    refine rb_iload C dL_law_1787 rfl ?_
                    refine rb_aload_n C dL_law_1789 rfl ?_
                    refine rb_iload C dL_law_1790 rfl ?_
                    refine rb_iload C dL_law_1792 rfl ?_
                    refine rb_callSW C M_L_171 (fun l X => c_attachC l X G W M hL hl (s := i) (n := nx) hi9 hnx h1682 h1741 (by rw [st_eq (by omega) (by omega) e16, if_neg h1747, if_neg hfn, efa, if_pos h1781, if_neg h1767]; decide)) dL_law_1794 rfl rfl rfl (Nat.le_of_ble_eq_true rfl) ⟨(Nat.le_of_ble_eq_true rfl), (Nat.le_of_ble_eq_true rfl)⟩ (by omega) (by omega) (fun v G' hp => ?_)
                    obtain ⟨rfl, G21, W21, e9, hL21, hw21⟩ := hp
                    rw [e9]
                    clear e9 G'
                    have hl21 := lx_lw hl hw21
                    have hm := hL21.1
                    refine rb_iload C dL_law_1797 rfl ?_
                    refine rb_icmp_ne C 1806 dL_law_1799 (by decide) (fun h9 => absurd (by decide) h9) (fun _ => ?_)
                    refine rb_iconst C dL_law_1802 (v := 1) (by decide) ?_
                    refine rb_goto C 1807 dL_law_1803 (by decide) ?_
                    refine rq_iand C (z := (1 : Int32)) dL_law_1807 (by decide) ?_
                    refine rb_istore C dL_law_1808 (Nat.le_of_ble_eq_true rfl) rfl (Lv' := [_, _, _, _, _, _, _, _, _, _, _, _, _, _, _, _, _, _, _, _, _, _, _, _, _, _, _, _, _, _, _, _, _, _, _, _, _, _, _, _, _, _, _, _, _, _, _, _, _, _, _, _, _, _]) rfl ?_
                    refine rb_aload_n C dL_law_1810 rfl ?_
                    refine rb_bipush C dL_law_1811 (v := 8) (by decide) ?_
                    refine rb_iload C dL_law_1813 rfl ?_
                    refine rq_imul C (z := (nI (8 * i))) dL_law_1815 (pk_mul 8 i) ?_
                    refine rb_iconst C dL_law_1816 (v := 4) (by decide) ?_
                    refine rq_iadd C (z := (nI (8 * i + 4))) dL_law_1817 (nI_add (8 * i) 4) ?_
                    refine rb_iload C dL_law_1818 rfl ?_
                    refine rb_iconst C dL_law_1820 (v := 5) (by decide) ?_
                    refine rb_icmp_ne C 1838 dL_law_1821 (by decide) (fun h9 => absurd (by decide) h9) (fun _ => ?_)
                    refine rb_aload_n C dL_law_1824 rfl ?_
                    refine rb_bipush C dL_law_1825 (v := 8) (by decide) ?_
                    refine rb_iload C dL_law_1827 rfl ?_
                    refine rq_imul C (z := (nI (8 * i))) dL_law_1829 (pk_mul 8 i) ?_
                    refine rb_iconst C dL_law_1830 (v := 4) (by decide) ?_
                    refine rq_iadd C (z := (nI (8 * i + 4))) dL_law_1831 (nI_add (8 * i) 4) ?_
                    refine rw_iald C (x := (M (14, 20, 0) i)) 48 (8 * i + 4) dL_law_1832 rfl (hm 1 (by decide)) (vp_in_nI (show 8 * i + 4 < 48 by omega) (by decide)) (nI_clamp (show 8 * i + 4 < 2 ^ 31 by omega)) (lr_x4 hl21 hi9) ?_
                    refine rb_iconst C dL_law_1833 (v := 1) (by decide) ?_
                    refine rq_iadd C (z := ((M (14, 20, 0) i) + (1 : Int32))) dL_law_1834 rfl ?_
                    refine rb_goto C 1856 dL_law_1835 (by decide) ?_
                    refine rw_iast C 48 (8 * i + 4) dL_law_1856 rfl (hm 1 (by decide)) (vp_in_nI (show 8 * i + 4 < 48 by omega) (by decide)) (nI_clamp (show 8 * i + 4 < 2 ^ 31 by omega)) ?_
                    have hl22 := lu_st (lx_thr hl21 0) (j := i) hi9 (v := ((M (14, 20, 0) i) + (1 : Int32)))
                    have hL22 := LI_up hL21 1 (8 * i + 4) ((M (14, 20, 0) i) + (1 : Int32))
                    generalize up2 W21 (14, 1, 0) (8 * i + 4) ((M (14, 20, 0) i) + (1 : Int32)) = W22 at hl22 hL22 ⊢
                    refine rb_iload C dL_law_1857 rfl ?_
                    refine rb_if_le C 1865 dL_law_1859 (by decide) (fun h9 => absurd h9 (by decide)) (fun _ => ?_)
                    refine rb_goto C 1888 dL_law_1862 (by decide) ?_
                    refine rq_iinc C dL_law_1888 rfl (v := (nI (q + 1))) (nI_1 q) rfl (Lv' := [_, _, _, _, _, _, _, _, _, _, _, _, _, _, _, _, _, _, _, _, _, _, _, _, _, _, _, _, _, _, _, _, _, _, _, _, _, _, _, _, _, _, _, _, _, _, _, _, _, _, _, _, _, _]) rfl ?_
                    refine rb_goto C 1655 dL_law_1891 (by decide) ?_
                    refine rb_W.unset 37 ?_
                    refine rb_W.unset 38 ?_
                    refine rb_W.unset 39 ?_
                    exact rb_W.room (ih (q + 1) G21 W22 (up2 (up2 M (16, 0, 0) 0 0) (14, 20, 0) i ((M (14, 20, 0) i) + (1 : Int32))) (by omega) hL22 hl22) (by omega) (by omega)
        · refine rb_iload C dL_law_1685 rfl ?_
          refine rb_aload_n C dL_law_1687 rfl ?_
          refine rb_iload C dL_law_1688 rfl ?_
          refine rb_iload C dL_law_1690 rfl ?_
          refine rb_callSW C M_L_171 (fun l X => c_attachX l X G W M hL hl (s := i) (n := nx) hi9 hnx h1682) dL_law_1692 rfl rfl rfl (Nat.le_of_ble_eq_true rfl) ⟨(Nat.le_of_ble_eq_true rfl), (Nat.le_of_ble_eq_true rfl)⟩ (by omega) (by omega) (fun v G' hp => ?_)
          obtain ⟨rfl, G23, W23, e9, hL23, hw23⟩ := hp
          rw [e9]
          clear e9 G'
          have hl23 := lx_lw hl hw23
          have hm := hL23.1
          refine rb_sipush C dL_law_1695 (v := (-7300)) (by decide) ?_
          refine rb_icmp_ne C 1705 dL_law_1698 (by decide) (fun h9 => absurd (by decide) h9) (fun _ => ?_)
          refine rb_iconst C dL_law_1701 (v := 1) (by decide) ?_
          refine rb_goto C 1706 dL_law_1702 (by decide) ?_
          refine rq_iand C (z := (1 : Int32)) dL_law_1706 (by decide) ?_
          refine rb_istore C dL_law_1707 (Nat.le_of_ble_eq_true rfl) rfl (Lv' := [_, _, _, _, _, _, _, _, _, _, _, _, _, _, _, _, _, _, _, _, _, _, _, _, _, _, _, _, _, _, _, _, _, _, _, _, _, _, _, _, _, _, _, _, _, _, _, _, _, _, _, _, _, _]) rfl ?_
          refine rb_goto C 1894 dL_law_1709 (by decide) ?_
          refine rb_goto C 3288 dL_law_1894 (by decide) ?_
          refine rb_W.unset 15 ?_
          refine rb_W.unset 16 ?_
          refine rb_W.unset 17 ?_
          refine rb_W.unset 36 ?_
          refine rb_W.unset 37 ?_
          exact rb_W.room (kk G23 W23 (up2 M (16, 0, 0) 0 2) ⟨hL23, _, _, _, _, _, _, (lx_thr hl23 2)⟩) (by omega) (by omega)
    have h0 := loop1655 4 0 G W M (by omega) hL hl
    rw [nI_0] at h0
    exact rb_W.room h0 (by omega) (by omega)
  · replace h1646 := (nI_eq (a := S) (b := 0) (by omega) (by omega)).mp h1646
    refine rb_goto C 3288 dL_law_1649 (by decide) ?_
    refine rb_W.unset 15 ?_
    refine rb_W.unset 16 ?_
    refine rb_W.unset 17 ?_
    exact rb_W.room (kk G W M ⟨hL, _, _, _, _, _, _, hl⟩) (by omega) (by omega)

