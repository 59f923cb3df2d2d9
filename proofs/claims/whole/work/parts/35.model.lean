def m_file_b (W : rb_I) (vi : Int32) (ho : Int32) (i : Nat) (s : rb_I) : rb_I := (if (m_isOf s (nI i) vi ho) = 0 then s else (if (s (14, 35, 0) i) = 0 then (up2 (up2 s (14, 35, 0) i 1) (14, 36, 0) i (W (14, 37, 0) (6 * vi.toNatClampNeg + ho.toNatClampNeg))) else s))
def m_file (W : rb_I) (vi : Int32) (ho : Int32) : Int32 × rb_I := (if (m_isNetwork vi) = 0 then (0, (up2 W (16, 0, 0) 0 1)) else (if (m_isNetwork ho) = 0 then (0, (up2 W (16, 0, 0) 0 1)) else (if (m_minutesOf (up2 W (16, 0, 0) 0 0) vi ho (0 : Int32)) = 0 then (0, (up2 (up2 W (16, 0, 0) 0 0) (16, 0, 0) 0 2)) else (if (W (14, 37, 0) (6 * vi.toNatClampNeg + ho.toNatClampNeg)) = 20 then (0, (up2 (up2 W (16, 0, 0) 0 0) (16, 0, 0) 0 2)) else ((W (14, 37, 0) (6 * vi.toNatClampNeg + ho.toNatClampNeg)), (up2 (fo (m_file_b W vi ho) (W (16, 0, 0) 29).toNatClampNeg (up2 (up2 W (16, 0, 0) 0 0) (16, 0, 0) 0 0)) (14, 37, 0) (6 * vi.toNatClampNeg + ho.toNatClampNeg) (((fo (m_file_b W vi ho) (W (16, 0, 0) 29).toNatClampNeg (up2 (up2 W (16, 0, 0) 0 0) (16, 0, 0) 0 0)) (14, 37, 0) (6 * vi.toNatClampNeg + ho.toNatClampNeg)) + 1)))))))
set_option maxRecDepth 100000 in
set_option maxHeartbeats 4000000 in
theorem k_X8_file (l : Launch) (X : rb_X) (G : rb_G) (W : rb_I) (vi : Int32) (ho : Int32) (hm : MS G) (hM : MI W) : rb_N l X yX8_file (.code yX8_file cX8_file 5 (some .int)) 3 60 0 0 [rbR (16, 0, 0), rbI vi, rbI ho] (wI G W) (fun v9 G9 => v9 = some (rbI (m_file W vi ho).1) ∧ G9 = wI G (m_file W vi ho).2) := by
  refine rb_startN RX8 rfl (by decide +kernel) rfl (Nat.le_of_ble_eq_true rfl) ?_
  intro Φ C E nm
  show rb_W Φ 0 0 0 [some (rbR (16, 0, 0)), some (rbI vi), some (rbI ho), none, none] [] (wI G W)
  refine rb_aload_n C dX8_file_0 rfl ?_
  refine rb_iload_n C dX8_file_1 rfl ?_
  refine rb_callS C M_X8_129 (fun l X => (k_X8_isNetwork l X G W vi).m) dX8_file_2 rfl rfl rfl (Nat.le_of_ble_eq_true rfl) ⟨(Nat.le_of_ble_eq_true rfl), (Nat.le_of_ble_eq_true rfl)⟩ (Nat.le_of_ble_eq_true rfl) (Nat.le_of_ble_eq_true rfl) (fun v G' hp => ?_) (fun _ _ hp => hp.elim)
  obtain ⟨rfl, e9⟩ := hp
  rw [e9]
  clear e9 G'
  refine rb_if_eq C 19 dX8_file_5 (by decide) (fun h5 => ?_) (fun h5 => ?_)
  · refine rb_iconst C dX8_file_19 (v := 1) (by decide) ?_
    refine rw_putI C F_X8_110 dX8_file_20 rfl ⟨rfl, rfl⟩ ?_
    refine rb_aload_n C dX8_file_23 rfl ?_
    refine rw_getI C FR_X8_110 dX8_file_24 rfl (x := 1) (up2_s _ _ _ _) ?_
    refine rb_if_ne C 65 dX8_file_27 (by decide) (fun _ => ?_) (fun h9 => absurd h9 (by decide))
    refine rb_aload_n C dX8_file_65 rfl ?_
    refine rw_getI C FR_X8_110 dX8_file_66 rfl (x := 1) (up2_s _ _ _ _) ?_
    refine rb_if_le C 74 dX8_file_69 (by decide) (fun h9 => absurd h9 (by decide)) (fun _ => ?_)
    refine rb_iconst C dX8_file_72 (v := 0) (by decide) ?_
    exact rb_iret C E dX8_file_73 (Nat.le_of_ble_eq_true rfl) (Nat.le_of_ble_eq_true rfl) (pp_ ((if_pos h5).trans (rfl)))
  · refine rb_iload_n C dX8_file_8 rfl ?_
    refine rb_callS C M_X8_129 (fun l X => (k_X8_isNetwork l X G W ho).m) dX8_file_9 rfl rfl rfl (Nat.le_of_ble_eq_true rfl) ⟨(Nat.le_of_ble_eq_true rfl), (Nat.le_of_ble_eq_true rfl)⟩ (Nat.le_of_ble_eq_true rfl) (Nat.le_of_ble_eq_true rfl) (fun v G' hp => ?_) (fun _ _ hp => hp.elim)
    obtain ⟨rfl, e9⟩ := hp
    rw [e9]
    clear e9 G'
    refine rb_if_eq C 19 dX8_file_12 (by decide) (fun h12 => ?_) (fun h12 => ?_)
    · refine rb_iconst C dX8_file_19 (v := 1) (by decide) ?_
      refine rw_putI C F_X8_110 dX8_file_20 rfl ⟨rfl, rfl⟩ ?_
      refine rb_aload_n C dX8_file_23 rfl ?_
      refine rw_getI C FR_X8_110 dX8_file_24 rfl (x := 1) (up2_s _ _ _ _) ?_
      refine rb_if_ne C 65 dX8_file_27 (by decide) (fun _ => ?_) (fun h9 => absurd h9 (by decide))
      refine rb_aload_n C dX8_file_65 rfl ?_
      refine rw_getI C FR_X8_110 dX8_file_66 rfl (x := 1) (up2_s _ _ _ _) ?_
      refine rb_if_le C 74 dX8_file_69 (by decide) (fun h9 => absurd h9 (by decide)) (fun _ => ?_)
      refine rb_iconst C dX8_file_72 (v := 0) (by decide) ?_
      exact rb_iret C E dX8_file_73 (Nat.le_of_ble_eq_true rfl) (Nat.le_of_ble_eq_true rfl) (pp_ ((if_neg h5).trans ((if_pos h12).trans (rfl))))
    · refine rb_iconst C dX8_file_15 (v := 0) (by decide) ?_
      refine rb_goto C 20 dX8_file_16 (by decide) ?_
      refine rw_putI C F_X8_110 dX8_file_20 rfl ⟨rfl, rfl⟩ ?_
      refine rb_aload_n C dX8_file_23 rfl ?_
      refine rw_getI C FR_X8_110 dX8_file_24 rfl (x := 0) (up2_s _ _ _ _) ?_
      refine rb_if_ne C 65 dX8_file_27 (by decide) (fun h9 => absurd (by decide) h9) (fun _ => ?_)
      have hv := isNetwork_in h5
      have hh := isNetwork_in h12
      refine rb_aload_n C dX8_file_30 rfl ?_
      refine rb_aload_n C dX8_file_31 rfl ?_
      refine rb_iload_n C dX8_file_32 rfl ?_
      refine rb_iload_n C dX8_file_33 rfl ?_
      refine rb_iconst C dX8_file_34 (v := 0) (by decide) ?_
      refine rb_callV C M_X8_191 (fun l X => (k_X8_minutesOf l X G (up2 W (16, 0, 0) 0 0) vi ho (0 : Int32) hm (mi_thr 0 hM)).m) rfl (Nat.le_of_ble_eq_true rfl) rfl dX8_file_35 rfl rfl rfl (Nat.le_of_ble_eq_true rfl) ⟨(Nat.le_of_ble_eq_true rfl), (Nat.le_of_ble_eq_true rfl)⟩ (Nat.le_of_ble_eq_true rfl) (Nat.le_of_ble_eq_true rfl) (fun v G' hp => ?_) (fun _ _ hp => hp.elim)
      obtain ⟨rfl, e9⟩ := hp
      rw [e9]
      clear e9 G'
      refine rb_if_eq C 57 dX8_file_38 (by decide) (fun h38 => ?_) (fun h38 => ?_)
      · refine rb_iconst C dX8_file_57 (v := 2) (by decide) ?_
        refine rb_goto C 62 dX8_file_58 (by decide) ?_
        refine rw_putI C F_X8_110 dX8_file_62 rfl ⟨rfl, rfl⟩ ?_
        refine rb_aload_n C dX8_file_65 rfl ?_
        refine rw_getI C FR_X8_110 dX8_file_66 rfl (x := 2) (up2_s _ _ _ _) ?_
        refine rb_if_le C 74 dX8_file_69 (by decide) (fun h9 => absurd h9 (by decide)) (fun _ => ?_)
        refine rb_iconst C dX8_file_72 (v := 0) (by decide) ?_
        exact rb_iret C E dX8_file_73 (Nat.le_of_ble_eq_true rfl) (Nat.le_of_ble_eq_true rfl) (pp_ ((if_neg h5).trans ((if_neg h12).trans ((if_pos h38).trans (rfl)))))
      · refine rb_aload_n C dX8_file_41 rfl ?_
        refine rw_getP C FR_X8_104 dX8_file_42 rfl (o := some (14, 37, 0)) (hm.1 37 (by decide)) ?_
        refine rb_bipush C dX8_file_45 (v := 6) (by decide) ?_
        refine rb_iload_n C dX8_file_47 rfl ?_
        refine rb_imul C dX8_file_48 ?_
        refine rb_iload_n C dX8_file_49 rfl ?_
        refine rb_iadd C dX8_file_50 ?_
        refine rw_iald C (x := (W (14, 37, 0) (6 * vi.toNatClampNeg + ho.toNatClampNeg))) 36 (6 * vi.toNatClampNeg + ho.toNatClampNeg) dX8_file_51 rfl (hm.2 37 (by decide)) (ix_lin (N := 36) 6 6 rfl hv hh (by decide) (by decide) (by decide)).1 ((ix_lin (N := 36) 6 6 rfl hv hh (by decide) (by decide) (by decide)).2.trans (by rw [(show (vi).toNatClampNeg = vi.toNatClampNeg from rfl), (show (ho).toNatClampNeg = ho.toNatClampNeg from rfl)])) ((up2_n _ _ _ _ (fun q => absurd (congrArg Prod.fst q.1) (show ¬ ((14 : Nat) = 16) by decide))).trans (rfl)) ?_
        refine rb_bipush C dX8_file_52 (v := 20) (by decide) ?_
        refine rb_icmp_ne C 61 dX8_file_54 (by decide) (fun h54 => ?_) (fun h54 => ?_)
        · refine rb_iconst C dX8_file_61 (v := 0) (by decide) ?_
          refine rw_putI C F_X8_110 dX8_file_62 rfl ⟨rfl, rfl⟩ ?_
          refine rb_aload_n C dX8_file_65 rfl ?_
          refine rw_getI C FR_X8_110 dX8_file_66 rfl (x := 0) (up2_s _ _ _ _) ?_
          refine rb_if_le C 74 dX8_file_69 (by decide) (fun _ => ?_) (fun h9 => absurd (by decide) h9)
          refine rb_aload_n C dX8_file_74 rfl ?_
          refine rw_getP C FR_X8_104 dX8_file_75 rfl (o := some (14, 37, 0)) (hm.1 37 (by decide)) ?_
          refine rb_bipush C dX8_file_78 (v := 6) (by decide) ?_
          refine rb_iload_n C dX8_file_80 rfl ?_
          refine rb_imul C dX8_file_81 ?_
          refine rb_iload_n C dX8_file_82 rfl ?_
          refine rb_iadd C dX8_file_83 ?_
          refine rw_iald C (x := (W (14, 37, 0) (6 * vi.toNatClampNeg + ho.toNatClampNeg))) 36 (6 * vi.toNatClampNeg + ho.toNatClampNeg) dX8_file_84 rfl (hm.2 37 (by decide)) (ix_lin (N := 36) 6 6 rfl hv hh (by decide) (by decide) (by decide)).1 ((ix_lin (N := 36) 6 6 rfl hv hh (by decide) (by decide) (by decide)).2.trans (by rw [(show (vi).toNatClampNeg = vi.toNatClampNeg from rfl), (show (ho).toNatClampNeg = ho.toNatClampNeg from rfl)])) ((up2_n _ _ _ _ (fun q => absurd (congrArg Prod.fst q.1) (show ¬ ((14 : Nat) = 16) by decide))).trans ((up2_n _ _ _ _ (fun q => absurd (congrArg Prod.fst q.1) (show ¬ ((14 : Nat) = 16) by decide))).trans (rfl))) ?_
          refine rb_istore_n C dX8_file_85 (Nat.le_of_ble_eq_true rfl) rfl (Lv' := [_, _, _, _, _]) rfl ?_
          refine rb_iconst C dX8_file_86 (v := 0) (by decide) ?_
          refine rb_istore C dX8_file_87 (Nat.le_of_ble_eq_true rfl) rfl (Lv' := [_, _, _, _, _]) rfl ?_
          have loop : ∀ (d i : Nat) (s : rb_I), i + d = (W (16, 0, 0) 29).toNatClampNeg → s = fo (m_file_b W vi ho) i (up2 (up2 W (16, 0, 0) 0 0) (16, 0, 0) 0 0) → rb_W Φ 0 0 89 [some (rbR (16, 0, 0)), some (rbI vi), some (rbI ho), some (rbI (W (14, 37, 0) (6 * vi.toNatClampNeg + ho.toNatClampNeg))), some (rbI (nI i))] [] (wI G s) := by
            intro d
            induction d with
            | zero =>
              intro i s hi hs
              obtain rfl : i = (W (16, 0, 0) 29).toNatClampNeg := by omega
              have hc9 : s (16, 0, 0) 29 = W (16, 0, 0) 29 := by
                rw [hs]
                refine fo_inv (f := (m_file_b W vi ho)) (a := (up2 (up2 W (16, 0, 0) 0 0) (16, 0, 0) 0 0)) (P := fun w : rb_I => w (16, 0, 0) 29 = W (16, 0, 0) 29) (by simp [up2]) (fun i a h => ?_) _
                unfold m_file_b; (repeat (any_goals split)) <;> simpa [up2] using h
              subst hs
              refine rb_iload C dX8_file_89 rfl ?_
              refine rb_aload_n C dX8_file_91 rfl ?_
              refine rw_getI C FR_X8_169 dX8_file_92 rfl (x := (W (16, 0, 0) 29)) (hc9) ?_
              refine rb_icmp_ge C 141 dX8_file_95 (by decide) (fun _ => ?_) (fun h9 => absurd ((cnt_le hM.2.2.2.2.2.2.2.2.2.1)) h9)
              refine rb_aload_n C dX8_file_141 rfl ?_
              refine rw_getP C FR_X8_104 dX8_file_142 rfl (o := some (14, 37, 0)) (hm.1 37 (by decide)) ?_
              refine rb_bipush C dX8_file_145 (v := 6) (by decide) ?_
              refine rb_iload_n C dX8_file_147 rfl ?_
              refine rb_imul C dX8_file_148 ?_
              refine rb_iload_n C dX8_file_149 rfl ?_
              refine rb_iadd C dX8_file_150 ?_
              refine rb_dup2 C dX8_file_151 rfl rfl ?_
              refine rw_iald C (x := ((fo (m_file_b W vi ho) (W (16, 0, 0) 29).toNatClampNeg (up2 (up2 W (16, 0, 0) 0 0) (16, 0, 0) 0 0)) (14, 37, 0) (6 * vi.toNatClampNeg + ho.toNatClampNeg))) 36 (6 * vi.toNatClampNeg + ho.toNatClampNeg) dX8_file_152 rfl (hm.2 37 (by decide)) (ix_lin (N := 36) 6 6 rfl hv hh (by decide) (by decide) (by decide)).1 ((ix_lin (N := 36) 6 6 rfl hv hh (by decide) (by decide) (by decide)).2.trans (by rw [(show (vi).toNatClampNeg = vi.toNatClampNeg from rfl), (show (ho).toNatClampNeg = ho.toNatClampNeg from rfl)])) (rfl) ?_
              refine rb_iconst C dX8_file_153 (v := 1) (by decide) ?_
              refine rb_iadd C dX8_file_154 ?_
              refine rw_iast C 36 (6 * vi.toNatClampNeg + ho.toNatClampNeg) dX8_file_155 rfl (hm.2 37 (by decide)) (ix_lin (N := 36) 6 6 rfl hv hh (by decide) (by decide) (by decide)).1 ((ix_lin (N := 36) 6 6 rfl hv hh (by decide) (by decide) (by decide)).2.trans (by rw [(show (vi).toNatClampNeg = vi.toNatClampNeg from rfl), (show (ho).toNatClampNeg = ho.toNatClampNeg from rfl)])) ?_
              refine rb_iload_n C dX8_file_156 rfl ?_
              exact rb_iret C E dX8_file_157 (Nat.le_of_ble_eq_true rfl) (Nat.le_of_ble_eq_true rfl) (pp_ ((if_neg h5).trans ((if_neg h12).trans ((if_neg h38).trans ((if_neg h54).trans (rfl))))))
            | succ d ih =>
              intro i s hi hs
              have hi9 : i < (W (16, 0, 0) 29).toNatClampNeg := by omega
              have hc9 : s (16, 0, 0) 29 = W (16, 0, 0) 29 := by
                rw [hs]
                refine fo_inv (f := (m_file_b W vi ho)) (a := (up2 (up2 W (16, 0, 0) 0 0) (16, 0, 0) 0 0)) (P := fun w : rb_I => w (16, 0, 0) 29 = W (16, 0, 0) 29) (by simp [up2]) (fun i a h => ?_) _
                unfold m_file_b; (repeat (any_goals split)) <;> simpa [up2] using h
              refine rb_iload C dX8_file_89 rfl ?_
              refine rb_aload_n C dX8_file_91 rfl ?_
              refine rw_getI C FR_X8_169 dX8_file_92 rfl (x := (W (16, 0, 0) 29)) (hc9) ?_
              refine rb_icmp_ge C 141 dX8_file_95 (by decide) (fun h9 => absurd h9 ((cnt_nle hM.2.2.2.2.2.2.2.2.2.1 (by decide) hi9))) (fun _ => ?_)
              refine rb_aload_n C dX8_file_98 rfl ?_
              refine rb_iload C dX8_file_99 rfl ?_
              refine rb_iload_n C dX8_file_101 rfl ?_
              refine rb_iload_n C dX8_file_102 rfl ?_
              refine rb_callV C M_X8_188 (fun l X => (k_X8_isOf l X G s (nI i) vi ho hm (vp_in_nI (show i < 400 by have hc8 := vp_in_lt hM.2.2.2.2.2.2.2.2.2.1; omega) (by decide))).m) rfl (Nat.le_of_ble_eq_true rfl) rfl dX8_file_103 rfl rfl rfl (Nat.le_of_ble_eq_true rfl) ⟨(Nat.le_of_ble_eq_true rfl), (Nat.le_of_ble_eq_true rfl)⟩ (Nat.le_of_ble_eq_true rfl) (Nat.le_of_ble_eq_true rfl) (fun v G' hp => ?_) (fun _ _ hp => hp.elim)
              obtain ⟨rfl, e9⟩ := hp
              rw [e9]
              clear e9 G'
              refine rb_if_eq C 135 dX8_file_106 (by decide) (fun h106 => ?_) (fun h106 => ?_)
              · refine rb_iinc C dX8_file_135 rfl (v := _ + 1) rfl rfl (Lv' := [_, _, _, _, _]) rfl ?_
                refine rb_goto C 89 dX8_file_138 (by decide) ?_
                rw [nI_1 i]
                exact ih (i + 1) s (by omega) (by rw [fo_s, ← hs]; exact Eq.symm ((if_pos h106).trans (rfl)))
              · refine rb_aload_n C dX8_file_109 rfl ?_
                refine rw_getP C FR_X8_98 dX8_file_110 rfl (o := some (14, 35, 0)) (hm.1 35 (by decide)) ?_
                refine rb_iload C dX8_file_113 rfl ?_
                refine rw_iald C (x := (s (14, 35, 0) i)) 400 i dX8_file_115 rfl (hm.2 35 (by decide)) (vp_in_nI (show i < 400 by have hc8 := vp_in_lt hM.2.2.2.2.2.2.2.2.2.1; omega) (by decide)) (nI_clamp (show i < 2 ^ 31 by have hc8 := vp_in_lt hM.2.2.2.2.2.2.2.2.2.1; omega)) (rfl) ?_
                refine rb_if_ne C 135 dX8_file_116 (by decide) (fun h116 => ?_) (fun h116 => ?_)
                · refine rb_iinc C dX8_file_135 rfl (v := _ + 1) rfl rfl (Lv' := [_, _, _, _, _]) rfl ?_
                  refine rb_goto C 89 dX8_file_138 (by decide) ?_
                  rw [nI_1 i]
                  exact ih (i + 1) s (by omega) (by rw [fo_s, ← hs]; exact Eq.symm ((if_neg h106).trans ((if_neg h116).trans (rfl))))
                · refine rb_aload_n C dX8_file_119 rfl ?_
                  refine rw_getP C FR_X8_98 dX8_file_120 rfl (o := some (14, 35, 0)) (hm.1 35 (by decide)) ?_
                  refine rb_iload C dX8_file_123 rfl ?_
                  refine rb_iconst C dX8_file_125 (v := 1) (by decide) ?_
                  refine rw_iast C 400 i dX8_file_126 rfl (hm.2 35 (by decide)) (vp_in_nI (show i < 400 by have hc8 := vp_in_lt hM.2.2.2.2.2.2.2.2.2.1; omega) (by decide)) (nI_clamp (show i < 2 ^ 31 by have hc8 := vp_in_lt hM.2.2.2.2.2.2.2.2.2.1; omega)) ?_
                  refine rb_aload_n C dX8_file_127 rfl ?_
                  refine rw_getP C FR_X8_101 dX8_file_128 rfl (o := some (14, 36, 0)) (hm.1 36 (by decide)) ?_
                  refine rb_iload C dX8_file_131 rfl ?_
                  refine rb_iload_n C dX8_file_133 rfl ?_
                  refine rw_iast C 400 i dX8_file_134 rfl (hm.2 36 (by decide)) (vp_in_nI (show i < 400 by have hc8 := vp_in_lt hM.2.2.2.2.2.2.2.2.2.1; omega) (by decide)) (nI_clamp (show i < 2 ^ 31 by have hc8 := vp_in_lt hM.2.2.2.2.2.2.2.2.2.1; omega)) ?_
                  refine rb_iinc C dX8_file_135 rfl (v := _ + 1) rfl rfl (Lv' := [_, _, _, _, _]) rfl ?_
                  refine rb_goto C 89 dX8_file_138 (by decide) ?_
                  rw [nI_1 i]
                  exact ih (i + 1) (up2 (up2 s (14, 35, 0) i 1) (14, 36, 0) i (W (14, 37, 0) (6 * vi.toNatClampNeg + ho.toNatClampNeg))) (by omega) (by rw [fo_s, ← hs]; exact Eq.symm ((if_neg h106).trans ((if_pos h116).trans (rfl))))
          exact loop (W (16, 0, 0) 29).toNatClampNeg 0 (up2 (up2 W (16, 0, 0) 0 0) (16, 0, 0) 0 0) (Nat.zero_add _) (fo_0 _ _).symm
        · refine rb_iconst C dX8_file_57 (v := 2) (by decide) ?_
          refine rb_goto C 62 dX8_file_58 (by decide) ?_
          refine rw_putI C F_X8_110 dX8_file_62 rfl ⟨rfl, rfl⟩ ?_
          refine rb_aload_n C dX8_file_65 rfl ?_
          refine rw_getI C FR_X8_110 dX8_file_66 rfl (x := 2) (up2_s _ _ _ _) ?_
          refine rb_if_le C 74 dX8_file_69 (by decide) (fun h9 => absurd h9 (by decide)) (fun _ => ?_)
          refine rb_iconst C dX8_file_72 (v := 0) (by decide) ?_
          exact rb_iret C E dX8_file_73 (Nat.le_of_ble_eq_true rfl) (Nat.le_of_ble_eq_true rfl) (pp_ ((if_neg h5).trans ((if_neg h12).trans ((if_neg h38).trans ((if_pos h54).trans (rfl))))))

def m_deliver_b (vi : Int32) (ho : Int32) (fl : Int32) (i : Nat) (s : Int32 × rb_I) : Int32 × rb_I := (if (m_isOf s.2 (nI i) vi ho) = 0 then (s.1, s.2) else (if (s.2 (14, 35, 0) i) = 1 then (if (s.2 (14, 36, 0) i) = fl then (if ((s.2 (16, 0, 0) 1) - (s.2 (14, 33, 0) i)) < (43200) then ((s.1 + 0), (up2 s.2 (14, 35, 0) i 2)) else ((s.1 + 1), (up2 s.2 (14, 35, 0) i 3))) else (s.1, s.2)) else (s.1, s.2)))
def m_deliver (W : rb_I) (vi : Int32) (ho : Int32) (fl : Int32) : Int32 × rb_I := (if (m_isNetwork vi) = 0 then (0, (up2 W (16, 0, 0) 0 1)) else (if (m_isNetwork ho) = 0 then (0, (up2 W (16, 0, 0) 0 1)) else (if (m_in fl (0 : Int32) ((W (14, 37, 0) (6 * vi.toNatClampNeg + ho.toNatClampNeg)) - 1)) = 0 then (0, (up2 W (16, 0, 0) 0 1)) else (if fl = (W (14, 38, 0) (6 * vi.toNatClampNeg + ho.toNatClampNeg)) then ((fo (m_deliver_b vi ho fl) (W (16, 0, 0) 29).toNatClampNeg ((0 : Int32), (up2 (up2 W (16, 0, 0) 0 0) (14, 38, 0) (6 * vi.toNatClampNeg + ho.toNatClampNeg) ((W (14, 38, 0) (6 * vi.toNatClampNeg + ho.toNatClampNeg)) + 1)))).1, (fo (m_deliver_b vi ho fl) (W (16, 0, 0) 29).toNatClampNeg ((0 : Int32), (up2 (up2 W (16, 0, 0) 0 0) (14, 38, 0) (6 * vi.toNatClampNeg + ho.toNatClampNeg) ((W (14, 38, 0) (6 * vi.toNatClampNeg + ho.toNatClampNeg)) + 1)))).2) else (if (W (14, 38, 0) (6 * vi.toNatClampNeg + ho.toNatClampNeg)) ≤ fl then ((-2), (up2 W (16, 0, 0) 0 0)) else ((-1), (up2 W (16, 0, 0) 0 0)))))))
set_option maxRecDepth 100000 in
set_option maxHeartbeats 4000000 in
theorem k_X8_deliver (l : Launch) (X : rb_X) (G : rb_G) (W : rb_I) (vi : Int32) (ho : Int32) (fl : Int32) (hm : MS G) (hM : MI W) : rb_N l X yX8_deliver (.code yX8_deliver cX8_deliver 9 (some .int)) 3 54 0 0 [rbR (16, 0, 0), rbI vi, rbI ho, rbI fl] (wI G W) (fun v9 G9 => v9 = some (rbI (m_deliver W vi ho fl).1) ∧ G9 = wI G (m_deliver W vi ho fl).2) := by
  refine rb_startN RX8 rfl (by decide +kernel) rfl (Nat.le_of_ble_eq_true rfl) ?_
  intro Φ C E nm
  show rb_W Φ 0 0 0 [some (rbR (16, 0, 0)), some (rbI vi), some (rbI ho), some (rbI fl), none, none, none, none, none] [] (wI G W)
  refine rb_iload_n C dX8_deliver_0 rfl ?_
  refine rb_callS C M_X8_129 (fun l X => (k_X8_isNetwork l X G W vi).m) dX8_deliver_1 rfl rfl rfl (Nat.le_of_ble_eq_true rfl) ⟨(Nat.le_of_ble_eq_true rfl), (Nat.le_of_ble_eq_true rfl)⟩ (Nat.le_of_ble_eq_true rfl) (Nat.le_of_ble_eq_true rfl) (fun v G' hp => ?_) (fun _ _ hp => hp.elim)
  obtain ⟨rfl, e9⟩ := hp
  rw [e9]
  clear e9 G'
  refine rb_if_eq C 18 dX8_deliver_4 (by decide) (fun h4 => ?_) (fun h4 => ?_)
  · refine rb_iconst C dX8_deliver_18 (v := 0) (by decide) ?_
    refine rb_istore C dX8_deliver_19 (Nat.le_of_ble_eq_true rfl) rfl (Lv' := [_, _, _, _, _, _, _, _, _]) rfl ?_
    refine rb_aload_n C dX8_deliver_21 rfl ?_
    refine rb_iload C dX8_deliver_22 rfl ?_
    refine rb_if_eq C 52 dX8_deliver_24 (by decide) (fun _ => ?_) (fun h9 => absurd (by decide) h9)
    refine rb_iconst C dX8_deliver_52 (v := 1) (by decide) ?_
    refine rw_putI C F_X8_110 dX8_deliver_53 rfl ⟨rfl, rfl⟩ ?_
    refine rb_aload_n C dX8_deliver_56 rfl ?_
    refine rw_getI C FR_X8_110 dX8_deliver_57 rfl (x := 1) (up2_s _ _ _ _) ?_
    refine rb_if_le C 65 dX8_deliver_60 (by decide) (fun h9 => absurd h9 (by decide)) (fun _ => ?_)
    refine rb_iconst C dX8_deliver_63 (v := 0) (by decide) ?_
    exact rb_iret C E dX8_deliver_64 (Nat.le_of_ble_eq_true rfl) (Nat.le_of_ble_eq_true rfl) (pp_ ((if_pos h4).trans (rfl)))
  · refine rb_iload_n C dX8_deliver_7 rfl ?_
    refine rb_callS C M_X8_129 (fun l X => (k_X8_isNetwork l X G W ho).m) dX8_deliver_8 rfl rfl rfl (Nat.le_of_ble_eq_true rfl) ⟨(Nat.le_of_ble_eq_true rfl), (Nat.le_of_ble_eq_true rfl)⟩ (Nat.le_of_ble_eq_true rfl) (Nat.le_of_ble_eq_true rfl) (fun v G' hp => ?_) (fun _ _ hp => hp.elim)
    obtain ⟨rfl, e9⟩ := hp
    rw [e9]
    clear e9 G'
    refine rb_if_eq C 18 dX8_deliver_11 (by decide) (fun h11 => ?_) (fun h11 => ?_)
    · refine rb_iconst C dX8_deliver_18 (v := 0) (by decide) ?_
      refine rb_istore C dX8_deliver_19 (Nat.le_of_ble_eq_true rfl) rfl (Lv' := [_, _, _, _, _, _, _, _, _]) rfl ?_
      refine rb_aload_n C dX8_deliver_21 rfl ?_
      refine rb_iload C dX8_deliver_22 rfl ?_
      refine rb_if_eq C 52 dX8_deliver_24 (by decide) (fun _ => ?_) (fun h9 => absurd (by decide) h9)
      refine rb_iconst C dX8_deliver_52 (v := 1) (by decide) ?_
      refine rw_putI C F_X8_110 dX8_deliver_53 rfl ⟨rfl, rfl⟩ ?_
      refine rb_aload_n C dX8_deliver_56 rfl ?_
      refine rw_getI C FR_X8_110 dX8_deliver_57 rfl (x := 1) (up2_s _ _ _ _) ?_
      refine rb_if_le C 65 dX8_deliver_60 (by decide) (fun h9 => absurd h9 (by decide)) (fun _ => ?_)
      refine rb_iconst C dX8_deliver_63 (v := 0) (by decide) ?_
      exact rb_iret C E dX8_deliver_64 (Nat.le_of_ble_eq_true rfl) (Nat.le_of_ble_eq_true rfl) (pp_ ((if_neg h4).trans ((if_pos h11).trans (rfl))))
    · refine rb_iconst C dX8_deliver_14 (v := 1) (by decide) ?_
      refine rb_goto C 19 dX8_deliver_15 (by decide) ?_
      refine rb_istore C dX8_deliver_19 (Nat.le_of_ble_eq_true rfl) rfl (Lv' := [_, _, _, _, _, _, _, _, _]) rfl ?_
      refine rb_aload_n C dX8_deliver_21 rfl ?_
      refine rb_iload C dX8_deliver_22 rfl ?_
      refine rb_if_eq C 52 dX8_deliver_24 (by decide) (fun h9 => absurd h9 (by decide)) (fun _ => ?_)
      have hv := isNetwork_in h4
      have hh := isNetwork_in h11
      refine rb_iload_n C dX8_deliver_27 rfl ?_
      refine rb_iconst C dX8_deliver_28 (v := 0) (by decide) ?_
      refine rb_aload_n C dX8_deliver_29 rfl ?_
      refine rw_getP C FR_X8_104 dX8_deliver_30 rfl (o := some (14, 37, 0)) (hm.1 37 (by decide)) ?_
      refine rb_bipush C dX8_deliver_33 (v := 6) (by decide) ?_
      refine rb_iload_n C dX8_deliver_35 rfl ?_
      refine rb_imul C dX8_deliver_36 ?_
      refine rb_iload_n C dX8_deliver_37 rfl ?_
      refine rb_iadd C dX8_deliver_38 ?_
      refine rw_iald C (x := (W (14, 37, 0) (6 * vi.toNatClampNeg + ho.toNatClampNeg))) 36 (6 * vi.toNatClampNeg + ho.toNatClampNeg) dX8_deliver_39 rfl (hm.2 37 (by decide)) (ix_lin (N := 36) 6 6 rfl hv hh (by decide) (by decide) (by decide)).1 ((ix_lin (N := 36) 6 6 rfl hv hh (by decide) (by decide) (by decide)).2.trans (by rw [(show (vi).toNatClampNeg = vi.toNatClampNeg from rfl), (show (ho).toNatClampNeg = ho.toNatClampNeg from rfl)])) (rfl) ?_
      refine rb_iconst C dX8_deliver_40 (v := 1) (by decide) ?_
      refine rb_isub C dX8_deliver_41 ?_
      refine rb_callS C M_X8_114 (fun l X => (k_X8_in l X G W fl (0 : Int32) ((W (14, 37, 0) (6 * vi.toNatClampNeg + ho.toNatClampNeg)) - 1)).m) dX8_deliver_42 rfl rfl rfl (Nat.le_of_ble_eq_true rfl) ⟨(Nat.le_of_ble_eq_true rfl), (Nat.le_of_ble_eq_true rfl)⟩ (Nat.le_of_ble_eq_true rfl) (Nat.le_of_ble_eq_true rfl) (fun v G' hp => ?_) (fun _ _ hp => hp.elim)
      obtain ⟨rfl, e9⟩ := hp
      rw [e9]
      clear e9 G'
      refine rb_if_eq C 52 dX8_deliver_45 (by decide) (fun h45 => ?_) (fun h45 => ?_)
      · refine rb_iconst C dX8_deliver_52 (v := 1) (by decide) ?_
        refine rw_putI C F_X8_110 dX8_deliver_53 rfl ⟨rfl, rfl⟩ ?_
        refine rb_aload_n C dX8_deliver_56 rfl ?_
        refine rw_getI C FR_X8_110 dX8_deliver_57 rfl (x := 1) (up2_s _ _ _ _) ?_
        refine rb_if_le C 65 dX8_deliver_60 (by decide) (fun h9 => absurd h9 (by decide)) (fun _ => ?_)
        refine rb_iconst C dX8_deliver_63 (v := 0) (by decide) ?_
        exact rb_iret C E dX8_deliver_64 (Nat.le_of_ble_eq_true rfl) (Nat.le_of_ble_eq_true rfl) (pp_ ((if_neg h4).trans ((if_neg h11).trans ((if_pos h45).trans (rfl)))))
      · refine rb_iconst C dX8_deliver_48 (v := 0) (by decide) ?_
        refine rb_goto C 53 dX8_deliver_49 (by decide) ?_
        refine rw_putI C F_X8_110 dX8_deliver_53 rfl ⟨rfl, rfl⟩ ?_
        refine rb_aload_n C dX8_deliver_56 rfl ?_
        refine rw_getI C FR_X8_110 dX8_deliver_57 rfl (x := 0) (up2_s _ _ _ _) ?_
        refine rb_if_le C 65 dX8_deliver_60 (by decide) (fun _ => ?_) (fun h9 => absurd (by decide) h9)
        refine rb_aload_n C dX8_deliver_65 rfl ?_
        refine rw_getP C FR_X8_107 dX8_deliver_66 rfl (o := some (14, 38, 0)) (hm.1 38 (by decide)) ?_
        refine rb_bipush C dX8_deliver_69 (v := 6) (by decide) ?_
        refine rb_iload_n C dX8_deliver_71 rfl ?_
        refine rb_imul C dX8_deliver_72 ?_
        refine rb_iload_n C dX8_deliver_73 rfl ?_
        refine rb_iadd C dX8_deliver_74 ?_
        refine rw_iald C (x := (W (14, 38, 0) (6 * vi.toNatClampNeg + ho.toNatClampNeg))) 36 (6 * vi.toNatClampNeg + ho.toNatClampNeg) dX8_deliver_75 rfl (hm.2 38 (by decide)) (ix_lin (N := 36) 6 6 rfl hv hh (by decide) (by decide) (by decide)).1 ((ix_lin (N := 36) 6 6 rfl hv hh (by decide) (by decide) (by decide)).2.trans (by rw [(show (vi).toNatClampNeg = vi.toNatClampNeg from rfl), (show (ho).toNatClampNeg = ho.toNatClampNeg from rfl)])) ((up2_n _ _ _ _ (fun q => absurd (congrArg Prod.fst q.1) (show ¬ ((14 : Nat) = 16) by decide))).trans (rfl)) ?_
        refine rb_istore C dX8_deliver_76 (Nat.le_of_ble_eq_true rfl) rfl (Lv' := [_, _, _, _, _, _, _, _, _]) rfl ?_
        refine rb_iload_n C dX8_deliver_78 rfl ?_
        refine rb_iload C dX8_deliver_79 rfl ?_
        refine rb_icmp_eq C 97 dX8_deliver_81 (by decide) (fun h81 => ?_) (fun h81 => ?_)
        · refine rb_aload_n C dX8_deliver_97 rfl ?_
          refine rw_getP C FR_X8_107 dX8_deliver_98 rfl (o := some (14, 38, 0)) (hm.1 38 (by decide)) ?_
          refine rb_bipush C dX8_deliver_101 (v := 6) (by decide) ?_
          refine rb_iload_n C dX8_deliver_103 rfl ?_
          refine rb_imul C dX8_deliver_104 ?_
          refine rb_iload_n C dX8_deliver_105 rfl ?_
          refine rb_iadd C dX8_deliver_106 ?_
          refine rb_dup2 C dX8_deliver_107 rfl rfl ?_
          refine rw_iald C (x := (W (14, 38, 0) (6 * vi.toNatClampNeg + ho.toNatClampNeg))) 36 (6 * vi.toNatClampNeg + ho.toNatClampNeg) dX8_deliver_108 rfl (hm.2 38 (by decide)) (ix_lin (N := 36) 6 6 rfl hv hh (by decide) (by decide) (by decide)).1 ((ix_lin (N := 36) 6 6 rfl hv hh (by decide) (by decide) (by decide)).2.trans (by rw [(show (vi).toNatClampNeg = vi.toNatClampNeg from rfl), (show (ho).toNatClampNeg = ho.toNatClampNeg from rfl)])) ((up2_n _ _ _ _ (fun q => absurd (congrArg Prod.fst q.1) (show ¬ ((14 : Nat) = 16) by decide))).trans (rfl)) ?_
          refine rb_iconst C dX8_deliver_109 (v := 1) (by decide) ?_
          refine rb_iadd C dX8_deliver_110 ?_
          refine rw_iast C 36 (6 * vi.toNatClampNeg + ho.toNatClampNeg) dX8_deliver_111 rfl (hm.2 38 (by decide)) (ix_lin (N := 36) 6 6 rfl hv hh (by decide) (by decide) (by decide)).1 ((ix_lin (N := 36) 6 6 rfl hv hh (by decide) (by decide) (by decide)).2.trans (by rw [(show (vi).toNatClampNeg = vi.toNatClampNeg from rfl), (show (ho).toNatClampNeg = ho.toNatClampNeg from rfl)])) ?_
          refine rb_iconst C dX8_deliver_112 (v := 0) (by decide) ?_
          refine rb_istore C dX8_deliver_113 (Nat.le_of_ble_eq_true rfl) rfl (Lv' := [_, _, _, _, _, _, _, _, _]) rfl ?_
          refine rb_iconst C dX8_deliver_115 (v := 0) (by decide) ?_
          refine rb_istore C dX8_deliver_116 (Nat.le_of_ble_eq_true rfl) rfl (Lv' := [_, _, _, _, _, _, _, _, _]) rfl ?_
          have loop : ∀ (d i : Nat) (s : Int32 × rb_I), i + d = (W (16, 0, 0) 29).toNatClampNeg → s = fo (m_deliver_b vi ho fl) i ((0 : Int32), (up2 (up2 W (16, 0, 0) 0 0) (14, 38, 0) (6 * vi.toNatClampNeg + ho.toNatClampNeg) ((W (14, 38, 0) (6 * vi.toNatClampNeg + ho.toNatClampNeg)) + 1))) → rb_W Φ 0 0 118 [some (rbR (16, 0, 0)), some (rbI vi), some (rbI ho), some (rbI fl), some (rbI 1), some (rbI (W (14, 38, 0) (6 * vi.toNatClampNeg + ho.toNatClampNeg))), some (rbI s.1), some (rbI (nI i)), none] [] (wI G s.2) := by
            intro d
            induction d with
            | zero =>
              intro i s hi hs
              obtain rfl : i = (W (16, 0, 0) 29).toNatClampNeg := by omega
              have hc9 : s.2 (16, 0, 0) 29 = W (16, 0, 0) 29 := by
                rw [hs]
                refine fo_inv (f := (m_deliver_b vi ho fl)) (a := ((0 : Int32), (up2 (up2 W (16, 0, 0) 0 0) (14, 38, 0) (6 * vi.toNatClampNeg + ho.toNatClampNeg) ((W (14, 38, 0) (6 * vi.toNatClampNeg + ho.toNatClampNeg)) + 1)))) (P := fun w : Int32 × rb_I => w.2 (16, 0, 0) 29 = W (16, 0, 0) 29) (by simp [up2]) (fun i a h => ?_) _
                unfold m_deliver_b; (repeat (any_goals split)) <;> simpa [up2] using h
              subst hs
              refine rb_iload C dX8_deliver_118 rfl ?_
              refine rb_aload_n C dX8_deliver_120 rfl ?_
              refine rw_getI C FR_X8_169 dX8_deliver_121 rfl (x := (W (16, 0, 0) 29)) (hc9) ?_
              refine rb_icmp_ge C 222 dX8_deliver_124 (by decide) (fun _ => ?_) (fun h9 => absurd ((cnt_le hM.2.2.2.2.2.2.2.2.2.1)) h9)
              refine rb_iload C dX8_deliver_222 rfl ?_
              exact rb_iret C E dX8_deliver_224 (Nat.le_of_ble_eq_true rfl) (Nat.le_of_ble_eq_true rfl) (pp_ ((if_neg h4).trans ((if_neg h11).trans ((if_neg h45).trans ((if_pos h81).trans (rfl))))))
            | succ d ih =>
              intro i s hi hs
              have hi9 : i < (W (16, 0, 0) 29).toNatClampNeg := by omega
              have hc9 : s.2 (16, 0, 0) 29 = W (16, 0, 0) 29 := by
                rw [hs]
                refine fo_inv (f := (m_deliver_b vi ho fl)) (a := ((0 : Int32), (up2 (up2 W (16, 0, 0) 0 0) (14, 38, 0) (6 * vi.toNatClampNeg + ho.toNatClampNeg) ((W (14, 38, 0) (6 * vi.toNatClampNeg + ho.toNatClampNeg)) + 1)))) (P := fun w : Int32 × rb_I => w.2 (16, 0, 0) 29 = W (16, 0, 0) 29) (by simp [up2]) (fun i a h => ?_) _
                unfold m_deliver_b; (repeat (any_goals split)) <;> simpa [up2] using h
              refine rb_iload C dX8_deliver_118 rfl ?_
              refine rb_aload_n C dX8_deliver_120 rfl ?_
              refine rw_getI C FR_X8_169 dX8_deliver_121 rfl (x := (W (16, 0, 0) 29)) (hc9) ?_
              refine rb_icmp_ge C 222 dX8_deliver_124 (by decide) (fun h9 => absurd h9 ((cnt_nle hM.2.2.2.2.2.2.2.2.2.1 (by decide) hi9))) (fun _ => ?_)
              refine rb_aload_n C dX8_deliver_127 rfl ?_
              refine rb_iload C dX8_deliver_128 rfl ?_
              refine rb_iload_n C dX8_deliver_130 rfl ?_
              refine rb_iload_n C dX8_deliver_131 rfl ?_
              refine rb_callV C M_X8_188 (fun l X => (k_X8_isOf l X G s.2 (nI i) vi ho hm (vp_in_nI (show i < 400 by have hc8 := vp_in_lt hM.2.2.2.2.2.2.2.2.2.1; omega) (by decide))).m) rfl (Nat.le_of_ble_eq_true rfl) rfl dX8_deliver_132 rfl rfl rfl (Nat.le_of_ble_eq_true rfl) ⟨(Nat.le_of_ble_eq_true rfl), (Nat.le_of_ble_eq_true rfl)⟩ (Nat.le_of_ble_eq_true rfl) (Nat.le_of_ble_eq_true rfl) (fun v G' hp => ?_) (fun _ _ hp => hp.elim)
              obtain ⟨rfl, e9⟩ := hp
              rw [e9]
              clear e9 G'
              refine rb_if_eq C 216 dX8_deliver_135 (by decide) (fun h135 => ?_) (fun h135 => ?_)
              · refine rb_iinc C dX8_deliver_216 rfl (v := _ + 1) rfl rfl (Lv' := [_, _, _, _, _, _, _, _, _]) rfl ?_
                refine rb_goto C 118 dX8_deliver_219 (by decide) ?_
                rw [nI_1 i]
                exact ih (i + 1) (s.1, s.2) (by omega) (by rw [fo_s, ← hs]; exact Eq.symm ((if_pos h135).trans (rfl)))
              · refine rb_aload_n C dX8_deliver_138 rfl ?_
                refine rw_getP C FR_X8_98 dX8_deliver_139 rfl (o := some (14, 35, 0)) (hm.1 35 (by decide)) ?_
                refine rb_iload C dX8_deliver_142 rfl ?_
                refine rw_iald C (x := (s.2 (14, 35, 0) i)) 400 i dX8_deliver_144 rfl (hm.2 35 (by decide)) (vp_in_nI (show i < 400 by have hc8 := vp_in_lt hM.2.2.2.2.2.2.2.2.2.1; omega) (by decide)) (nI_clamp (show i < 2 ^ 31 by have hc8 := vp_in_lt hM.2.2.2.2.2.2.2.2.2.1; omega)) (rfl) ?_
                refine rb_iconst C dX8_deliver_145 (v := 1) (by decide) ?_
                refine rb_icmp_ne C 216 dX8_deliver_146 (by decide) (fun h146 => ?_) (fun h146 => ?_)
                · refine rb_iinc C dX8_deliver_216 rfl (v := _ + 1) rfl rfl (Lv' := [_, _, _, _, _, _, _, _, _]) rfl ?_
                  refine rb_goto C 118 dX8_deliver_219 (by decide) ?_
                  rw [nI_1 i]
                  exact ih (i + 1) (s.1, s.2) (by omega) (by rw [fo_s, ← hs]; exact Eq.symm ((if_neg h135).trans ((if_neg h146).trans (rfl))))
                · refine rb_aload_n C dX8_deliver_149 rfl ?_
                  refine rw_getP C FR_X8_101 dX8_deliver_150 rfl (o := some (14, 36, 0)) (hm.1 36 (by decide)) ?_
                  refine rb_iload C dX8_deliver_153 rfl ?_
                  refine rw_iald C (x := (s.2 (14, 36, 0) i)) 400 i dX8_deliver_155 rfl (hm.2 36 (by decide)) (vp_in_nI (show i < 400 by have hc8 := vp_in_lt hM.2.2.2.2.2.2.2.2.2.1; omega) (by decide)) (nI_clamp (show i < 2 ^ 31 by have hc8 := vp_in_lt hM.2.2.2.2.2.2.2.2.2.1; omega)) (rfl) ?_
                  refine rb_iload_n C dX8_deliver_156 rfl ?_
                  refine rb_icmp_ne C 216 dX8_deliver_157 (by decide) (fun h157 => ?_) (fun h157 => ?_)
                  · refine rb_iinc C dX8_deliver_216 rfl (v := _ + 1) rfl rfl (Lv' := [_, _, _, _, _, _, _, _, _]) rfl ?_
                    refine rb_goto C 118 dX8_deliver_219 (by decide) ?_
                    rw [nI_1 i]
                    exact ih (i + 1) (s.1, s.2) (by omega) (by rw [fo_s, ← hs]; exact Eq.symm ((if_neg h135).trans ((if_pos h146).trans ((if_neg h157).trans (rfl)))))
                  · refine rb_aload_n C dX8_deliver_160 rfl ?_
                    refine rw_getI C FR_X8_141 dX8_deliver_161 rfl (x := (s.2 (16, 0, 0) 1)) (rfl) ?_
                    refine rb_aload_n C dX8_deliver_164 rfl ?_
                    refine rw_getP C FR_X8_92 dX8_deliver_165 rfl (o := some (14, 33, 0)) (hm.1 33 (by decide)) ?_
                    refine rb_iload C dX8_deliver_168 rfl ?_
                    refine rw_iald C (x := (s.2 (14, 33, 0) i)) 400 i dX8_deliver_170 rfl (hm.2 33 (by decide)) (vp_in_nI (show i < 400 by have hc8 := vp_in_lt hM.2.2.2.2.2.2.2.2.2.1; omega) (by decide)) (nI_clamp (show i < 2 ^ 31 by have hc8 := vp_in_lt hM.2.2.2.2.2.2.2.2.2.1; omega)) (rfl) ?_
                    refine rb_isub C dX8_deliver_171 ?_
                    refine rb_ldc C dX8_deliver_172 N_X8_160 ?_
                    refine rb_icmp_lt C 181 dX8_deliver_174 (by decide) (fun h174 => ?_) (fun h174 => ?_)
                    · refine rb_iconst C dX8_deliver_181 (v := 0) (by decide) ?_
                      refine rb_istore C dX8_deliver_182 (Nat.le_of_ble_eq_true rfl) rfl (Lv' := [_, _, _, _, _, _, _, _, _]) rfl ?_
                      refine rb_aload_n C dX8_deliver_184 rfl ?_
                      refine rw_getP C FR_X8_98 dX8_deliver_185 rfl (o := some (14, 35, 0)) (hm.1 35 (by decide)) ?_
                      refine rb_iload C dX8_deliver_188 rfl ?_
                      refine rb_iload C dX8_deliver_190 rfl ?_
                      refine rb_if_eq C 199 dX8_deliver_192 (by decide) (fun _ => ?_) (fun h9 => absurd (by decide) h9)
                      refine rb_iconst C dX8_deliver_199 (v := 2) (by decide) ?_
                      refine rw_iast C 400 i dX8_deliver_200 rfl (hm.2 35 (by decide)) (vp_in_nI (show i < 400 by have hc8 := vp_in_lt hM.2.2.2.2.2.2.2.2.2.1; omega) (by decide)) (nI_clamp (show i < 2 ^ 31 by have hc8 := vp_in_lt hM.2.2.2.2.2.2.2.2.2.1; omega)) ?_
                      refine rb_iload C dX8_deliver_201 rfl ?_
                      refine rb_iload C dX8_deliver_203 rfl ?_
                      refine rb_if_eq C 212 dX8_deliver_205 (by decide) (fun _ => ?_) (fun h9 => absurd (by decide) h9)
                      refine rb_iconst C dX8_deliver_212 (v := 0) (by decide) ?_
                      refine rb_iadd C dX8_deliver_213 ?_
                      refine rb_istore C dX8_deliver_214 (Nat.le_of_ble_eq_true rfl) rfl (Lv' := [_, _, _, _, _, _, _, _, _]) rfl ?_
                      refine rb_iinc C dX8_deliver_216 rfl (v := _ + 1) rfl rfl (Lv' := [_, _, _, _, _, _, _, _, _]) rfl ?_
                      refine rb_goto C 118 dX8_deliver_219 (by decide) ?_
                      refine rb_W.unset 8 ?_
                      rw [nI_1 i]
                      exact ih (i + 1) ((s.1 + 0), (up2 s.2 (14, 35, 0) i 2)) (by omega) (by rw [fo_s, ← hs]; exact Eq.symm ((if_neg h135).trans ((if_pos h146).trans ((if_pos h157).trans ((if_pos h174).trans (rfl))))))
                    · refine rb_iconst C dX8_deliver_177 (v := 1) (by decide) ?_
                      refine rb_goto C 182 dX8_deliver_178 (by decide) ?_
                      refine rb_istore C dX8_deliver_182 (Nat.le_of_ble_eq_true rfl) rfl (Lv' := [_, _, _, _, _, _, _, _, _]) rfl ?_
                      refine rb_aload_n C dX8_deliver_184 rfl ?_
                      refine rw_getP C FR_X8_98 dX8_deliver_185 rfl (o := some (14, 35, 0)) (hm.1 35 (by decide)) ?_
                      refine rb_iload C dX8_deliver_188 rfl ?_
                      refine rb_iload C dX8_deliver_190 rfl ?_
                      refine rb_if_eq C 199 dX8_deliver_192 (by decide) (fun h9 => absurd h9 (by decide)) (fun _ => ?_)
                      refine rb_iconst C dX8_deliver_195 (v := 3) (by decide) ?_
                      refine rb_goto C 200 dX8_deliver_196 (by decide) ?_
                      refine rw_iast C 400 i dX8_deliver_200 rfl (hm.2 35 (by decide)) (vp_in_nI (show i < 400 by have hc8 := vp_in_lt hM.2.2.2.2.2.2.2.2.2.1; omega) (by decide)) (nI_clamp (show i < 2 ^ 31 by have hc8 := vp_in_lt hM.2.2.2.2.2.2.2.2.2.1; omega)) ?_
                      refine rb_iload C dX8_deliver_201 rfl ?_
                      refine rb_iload C dX8_deliver_203 rfl ?_
                      refine rb_if_eq C 212 dX8_deliver_205 (by decide) (fun h9 => absurd h9 (by decide)) (fun _ => ?_)
                      refine rb_iconst C dX8_deliver_208 (v := 1) (by decide) ?_
                      refine rb_goto C 213 dX8_deliver_209 (by decide) ?_
                      refine rb_iadd C dX8_deliver_213 ?_
                      refine rb_istore C dX8_deliver_214 (Nat.le_of_ble_eq_true rfl) rfl (Lv' := [_, _, _, _, _, _, _, _, _]) rfl ?_
                      refine rb_iinc C dX8_deliver_216 rfl (v := _ + 1) rfl rfl (Lv' := [_, _, _, _, _, _, _, _, _]) rfl ?_
                      refine rb_goto C 118 dX8_deliver_219 (by decide) ?_
                      refine rb_W.unset 8 ?_
                      rw [nI_1 i]
                      exact ih (i + 1) ((s.1 + 1), (up2 s.2 (14, 35, 0) i 3)) (by omega) (by rw [fo_s, ← hs]; exact Eq.symm ((if_neg h135).trans ((if_pos h146).trans ((if_pos h157).trans ((if_neg h174).trans (rfl))))))
          exact loop (W (16, 0, 0) 29).toNatClampNeg 0 ((0 : Int32), (up2 (up2 W (16, 0, 0) 0 0) (14, 38, 0) (6 * vi.toNatClampNeg + ho.toNatClampNeg) ((W (14, 38, 0) (6 * vi.toNatClampNeg + ho.toNatClampNeg)) + 1))) (Nat.zero_add _) (fo_0 _ _).symm
        · refine rb_iload_n C dX8_deliver_84 rfl ?_
          refine rb_iload C dX8_deliver_85 rfl ?_
          refine rb_icmp_ge C 94 dX8_deliver_87 (by decide) (fun h87 => ?_) (fun h87 => ?_)
          · refine rb_bipush C dX8_deliver_94 (v := (-2)) (by decide) ?_
            exact rb_iret C E dX8_deliver_96 (Nat.le_of_ble_eq_true rfl) (Nat.le_of_ble_eq_true rfl) (pp_ ((if_neg h4).trans ((if_neg h11).trans ((if_neg h45).trans ((if_neg h81).trans ((if_pos h87).trans (rfl)))))))
          · refine rb_iconst C dX8_deliver_90 (v := (-1)) (by decide) ?_
            refine rb_goto C 96 dX8_deliver_91 (by decide) ?_
            exact rb_iret C E dX8_deliver_96 (Nat.le_of_ble_eq_true rfl) (Nat.le_of_ble_eq_true rfl) (pp_ ((if_neg h4).trans ((if_neg h11).trans ((if_neg h45).trans ((if_neg h81).trans ((if_neg h87).trans (rfl)))))))

def m_owes_b (W : rb_I) (ho : Int32) (vi : Int32) (i : Nat) (s : Int32) : Int32 := (if (m_isOf (up2 W (16, 0, 0) 0 0) (nI i) vi ho) = 0 then (s + 0) else (if (W (14, 35, 0) i) = 2 then (s + ((W (14, 32, 0) i) * (m_priceOf (up2 W (16, 0, 0) 0 0) (W (14, 34, 0) i) (m_minutesOf (up2 W (16, 0, 0) 0 0) vi ho (2 : Int32))))) else (s + 0)))
def m_owes (W : rb_I) (ho : Int32) (vi : Int32) : Int32 × rb_I := (if (m_isNetwork ho) = 0 then (if (W (16, 0, 0) 29) ≤ 0 then (0, (up2 W (16, 0, 0) 0 1)) else (0, (up2 W (16, 0, 0) 0 1))) else (if (m_isNetwork vi) = 0 then (if (W (16, 0, 0) 29) ≤ 0 then (0, (up2 W (16, 0, 0) 0 1)) else (0, (up2 W (16, 0, 0) 0 1))) else ((fo (m_owes_b W ho vi) (W (16, 0, 0) 29).toNatClampNeg (0 : Int32)), (up2 W (16, 0, 0) 0 0))))
set_option maxRecDepth 100000 in
set_option maxHeartbeats 4000000 in
theorem k_X8_owes (l : Launch) (X : rb_X) (G : rb_G) (W : rb_I) (ho : Int32) (vi : Int32) (hm : MS G) (hM : MI W) : rb_N l X yX8_owes (.code yX8_owes cX8_owes 6 (some .int)) 3 60 0 0 [rbR (16, 0, 0), rbI ho, rbI vi] (wI G W) (fun v9 G9 => v9 = some (rbI (m_owes W ho vi).1) ∧ G9 = wI G (m_owes W ho vi).2) := by
  refine rb_startN RX8 rfl (by decide +kernel) rfl (Nat.le_of_ble_eq_true rfl) ?_
  intro Φ C E nm
  show rb_W Φ 0 0 0 [some (rbR (16, 0, 0)), some (rbI ho), some (rbI vi), none, none, none] [] (wI G W)
  refine rb_aload_n C dX8_owes_0 rfl ?_
  refine rb_iload_n C dX8_owes_1 rfl ?_
  refine rb_callS C M_X8_129 (fun l X => (k_X8_isNetwork l X G W ho).m) dX8_owes_2 rfl rfl rfl (Nat.le_of_ble_eq_true rfl) ⟨(Nat.le_of_ble_eq_true rfl), (Nat.le_of_ble_eq_true rfl)⟩ (Nat.le_of_ble_eq_true rfl) (Nat.le_of_ble_eq_true rfl) (fun v G' hp => ?_) (fun _ _ hp => hp.elim)
  obtain ⟨rfl, e9⟩ := hp
  rw [e9]
  clear e9 G'
  refine rb_if_eq C 19 dX8_owes_5 (by decide) (fun h5 => ?_) (fun h5 => ?_)
  · refine rb_iconst C dX8_owes_19 (v := 1) (by decide) ?_
    refine rw_putI C F_X8_110 dX8_owes_20 rfl ⟨rfl, rfl⟩ ?_
    refine rb_iconst C dX8_owes_23 (v := 0) (by decide) ?_
    refine rb_istore_n C dX8_owes_24 (Nat.le_of_ble_eq_true rfl) rfl (Lv' := [_, _, _, _, _, _]) rfl ?_
    refine rb_aload_n C dX8_owes_25 rfl ?_
    refine rw_getI C FR_X8_110 dX8_owes_26 rfl (x := 1) (up2_s _ _ _ _) ?_
    refine rb_if_le C 36 dX8_owes_29 (by decide) (fun h9 => absurd h9 (by decide)) (fun _ => ?_)
    refine rb_iconst C dX8_owes_32 (v := 0) (by decide) ?_
    refine rb_goto C 43 dX8_owes_33 (by decide) ?_
    refine rb_istore C dX8_owes_43 (Nat.le_of_ble_eq_true rfl) rfl (Lv' := [_, _, _, _, _, _]) rfl ?_
    refine rb_iconst C dX8_owes_45 (v := 0) (by decide) ?_
    refine rb_istore C dX8_owes_46 (Nat.le_of_ble_eq_true rfl) rfl (Lv' := [_, _, _, _, _, _]) rfl ?_
    refine rb_iload C dX8_owes_48 rfl ?_
    refine rb_aload_n C dX8_owes_50 rfl ?_
    refine rw_getI C FR_X8_169 dX8_owes_51 rfl (x := (W (16, 0, 0) 29)) ((up2_n _ _ _ _ (fun q => absurd q.2 (show ¬ ((29 : Nat) = 0) by decide))).trans (rfl)) ?_
    refine rb_icmp_ge C 120 dX8_owes_54 (by decide) (fun h54 => ?_) (fun h54 => ?_)
    · refine rb_iload_n C dX8_owes_120 rfl ?_
      exact rb_iret C E dX8_owes_121 (Nat.le_of_ble_eq_true rfl) (Nat.le_of_ble_eq_true rfl) (pp_ ((if_pos h5).trans ((if_pos h54).trans (rfl))))
    · refine rb_aload_n C dX8_owes_57 rfl ?_
      refine rw_getI C FR_X8_110 dX8_owes_58 rfl (x := 1) (up2_s _ _ _ _) ?_
      refine rb_if_ne C 120 dX8_owes_61 (by decide) (fun _ => ?_) (fun h9 => absurd h9 (by decide))
      refine rb_iload_n C dX8_owes_120 rfl ?_
      exact rb_iret C E dX8_owes_121 (Nat.le_of_ble_eq_true rfl) (Nat.le_of_ble_eq_true rfl) (pp_ ((if_pos h5).trans ((if_neg h54).trans (rfl))))
  · refine rb_iload_n C dX8_owes_8 rfl ?_
    refine rb_callS C M_X8_129 (fun l X => (k_X8_isNetwork l X G W vi).m) dX8_owes_9 rfl rfl rfl (Nat.le_of_ble_eq_true rfl) ⟨(Nat.le_of_ble_eq_true rfl), (Nat.le_of_ble_eq_true rfl)⟩ (Nat.le_of_ble_eq_true rfl) (Nat.le_of_ble_eq_true rfl) (fun v G' hp => ?_) (fun _ _ hp => hp.elim)
    obtain ⟨rfl, e9⟩ := hp
    rw [e9]
    clear e9 G'
    refine rb_if_eq C 19 dX8_owes_12 (by decide) (fun h12 => ?_) (fun h12 => ?_)
    · refine rb_iconst C dX8_owes_19 (v := 1) (by decide) ?_
      refine rw_putI C F_X8_110 dX8_owes_20 rfl ⟨rfl, rfl⟩ ?_
      refine rb_iconst C dX8_owes_23 (v := 0) (by decide) ?_
      refine rb_istore_n C dX8_owes_24 (Nat.le_of_ble_eq_true rfl) rfl (Lv' := [_, _, _, _, _, _]) rfl ?_
      refine rb_aload_n C dX8_owes_25 rfl ?_
      refine rw_getI C FR_X8_110 dX8_owes_26 rfl (x := 1) (up2_s _ _ _ _) ?_
      refine rb_if_le C 36 dX8_owes_29 (by decide) (fun h9 => absurd h9 (by decide)) (fun _ => ?_)
      refine rb_iconst C dX8_owes_32 (v := 0) (by decide) ?_
      refine rb_goto C 43 dX8_owes_33 (by decide) ?_
      refine rb_istore C dX8_owes_43 (Nat.le_of_ble_eq_true rfl) rfl (Lv' := [_, _, _, _, _, _]) rfl ?_
      refine rb_iconst C dX8_owes_45 (v := 0) (by decide) ?_
      refine rb_istore C dX8_owes_46 (Nat.le_of_ble_eq_true rfl) rfl (Lv' := [_, _, _, _, _, _]) rfl ?_
      refine rb_iload C dX8_owes_48 rfl ?_
      refine rb_aload_n C dX8_owes_50 rfl ?_
      refine rw_getI C FR_X8_169 dX8_owes_51 rfl (x := (W (16, 0, 0) 29)) ((up2_n _ _ _ _ (fun q => absurd q.2 (show ¬ ((29 : Nat) = 0) by decide))).trans (rfl)) ?_
      refine rb_icmp_ge C 120 dX8_owes_54 (by decide) (fun h54 => ?_) (fun h54 => ?_)
      · refine rb_iload_n C dX8_owes_120 rfl ?_
        exact rb_iret C E dX8_owes_121 (Nat.le_of_ble_eq_true rfl) (Nat.le_of_ble_eq_true rfl) (pp_ ((if_neg h5).trans ((if_pos h12).trans ((if_pos h54).trans (rfl)))))
      · refine rb_aload_n C dX8_owes_57 rfl ?_
        refine rw_getI C FR_X8_110 dX8_owes_58 rfl (x := 1) (up2_s _ _ _ _) ?_
        refine rb_if_ne C 120 dX8_owes_61 (by decide) (fun _ => ?_) (fun h9 => absurd h9 (by decide))
        refine rb_iload_n C dX8_owes_120 rfl ?_
        exact rb_iret C E dX8_owes_121 (Nat.le_of_ble_eq_true rfl) (Nat.le_of_ble_eq_true rfl) (pp_ ((if_neg h5).trans ((if_pos h12).trans ((if_neg h54).trans (rfl)))))
    · refine rb_iconst C dX8_owes_15 (v := 0) (by decide) ?_
      refine rb_goto C 20 dX8_owes_16 (by decide) ?_
      refine rw_putI C F_X8_110 dX8_owes_20 rfl ⟨rfl, rfl⟩ ?_
      refine rb_iconst C dX8_owes_23 (v := 0) (by decide) ?_
      refine rb_istore_n C dX8_owes_24 (Nat.le_of_ble_eq_true rfl) rfl (Lv' := [_, _, _, _, _, _]) rfl ?_
      refine rb_aload_n C dX8_owes_25 rfl ?_
      refine rw_getI C FR_X8_110 dX8_owes_26 rfl (x := 0) (up2_s _ _ _ _) ?_
      refine rb_if_le C 36 dX8_owes_29 (by decide) (fun _ => ?_) (fun h9 => absurd (by decide) h9)
      have hh := isNetwork_in h5
      have hv := isNetwork_in h12
      refine rb_aload_n C dX8_owes_36 rfl ?_
      refine rb_iload_n C dX8_owes_37 rfl ?_
      refine rb_iload_n C dX8_owes_38 rfl ?_
      refine rb_iconst C dX8_owes_39 (v := 2) (by decide) ?_
      refine rb_callV C M_X8_191 (fun l X => (k_X8_minutesOf l X G (up2 W (16, 0, 0) 0 0) vi ho (2 : Int32) hm (mi_thr 0 hM)).m) rfl (Nat.le_of_ble_eq_true rfl) rfl dX8_owes_40 rfl rfl rfl (Nat.le_of_ble_eq_true rfl) ⟨(Nat.le_of_ble_eq_true rfl), (Nat.le_of_ble_eq_true rfl)⟩ (Nat.le_of_ble_eq_true rfl) (Nat.le_of_ble_eq_true rfl) (fun v G' hp => ?_) (fun _ _ hp => hp.elim)
      obtain ⟨rfl, e9⟩ := hp
      rw [e9]
      clear e9 G'
      refine rb_istore C dX8_owes_43 (Nat.le_of_ble_eq_true rfl) rfl (Lv' := [_, _, _, _, _, _]) rfl ?_
      refine rb_iconst C dX8_owes_45 (v := 0) (by decide) ?_
      refine rb_istore C dX8_owes_46 (Nat.le_of_ble_eq_true rfl) rfl (Lv' := [_, _, _, _, _, _]) rfl ?_
      have loop : ∀ (d i : Nat) (s : Int32), i + d = (W (16, 0, 0) 29).toNatClampNeg → s = fo (m_owes_b W ho vi) i (0 : Int32) → rb_W Φ 0 0 48 [some (rbR (16, 0, 0)), some (rbI ho), some (rbI vi), some (rbI s), some (rbI (m_minutesOf (up2 W (16, 0, 0) 0 0) vi ho (2 : Int32))), some (rbI (nI i))] [] (wI G (up2 W (16, 0, 0) 0 0)) := by
        intro d
        induction d with
        | zero =>
          intro i s hi hs
          obtain rfl : i = (W (16, 0, 0) 29).toNatClampNeg := by omega
          subst hs
          refine rb_iload C dX8_owes_48 rfl ?_
          refine rb_aload_n C dX8_owes_50 rfl ?_
          refine rw_getI C FR_X8_169 dX8_owes_51 rfl (x := (W (16, 0, 0) 29)) ((up2_n _ _ _ _ (fun q => absurd q.2 (show ¬ ((29 : Nat) = 0) by decide))).trans (rfl)) ?_
          refine rb_icmp_ge C 120 dX8_owes_54 (by decide) (fun _ => ?_) (fun h9 => absurd ((cnt_le hM.2.2.2.2.2.2.2.2.2.1)) h9)
          refine rb_iload_n C dX8_owes_120 rfl ?_
          exact rb_iret C E dX8_owes_121 (Nat.le_of_ble_eq_true rfl) (Nat.le_of_ble_eq_true rfl) (pp_ ((if_neg h5).trans ((if_neg h12).trans (rfl))))
        | succ d ih =>
          intro i s hi hs
          have hi9 : i < (W (16, 0, 0) 29).toNatClampNeg := by omega
          refine rb_iload C dX8_owes_48 rfl ?_
          refine rb_aload_n C dX8_owes_50 rfl ?_
          refine rw_getI C FR_X8_169 dX8_owes_51 rfl (x := (W (16, 0, 0) 29)) ((up2_n _ _ _ _ (fun q => absurd q.2 (show ¬ ((29 : Nat) = 0) by decide))).trans (rfl)) ?_
          refine rb_icmp_ge C 120 dX8_owes_54 (by decide) (fun h9 => absurd h9 ((cnt_nle hM.2.2.2.2.2.2.2.2.2.1 (by decide) hi9))) (fun _ => ?_)
          refine rb_aload_n C dX8_owes_57 rfl ?_
          refine rw_getI C FR_X8_110 dX8_owes_58 rfl (x := 0) (up2_s _ _ _ _) ?_
          refine rb_if_ne C 120 dX8_owes_61 (by decide) (fun h9 => absurd (by decide) h9) (fun _ => ?_)
          refine rb_iload_n C dX8_owes_64 rfl ?_
          refine rb_aload_n C dX8_owes_65 rfl ?_
          refine rb_iload C dX8_owes_66 rfl ?_
          refine rb_iload_n C dX8_owes_68 rfl ?_
          refine rb_iload_n C dX8_owes_69 rfl ?_
          refine rb_callV C M_X8_188 (fun l X => (k_X8_isOf l X G (up2 W (16, 0, 0) 0 0) (nI i) vi ho hm (vp_in_nI (show i < 400 by have hc8 := vp_in_lt hM.2.2.2.2.2.2.2.2.2.1; omega) (by decide))).m) rfl (Nat.le_of_ble_eq_true rfl) rfl dX8_owes_70 rfl rfl rfl (Nat.le_of_ble_eq_true rfl) ⟨(Nat.le_of_ble_eq_true rfl), (Nat.le_of_ble_eq_true rfl)⟩ (Nat.le_of_ble_eq_true rfl) (Nat.le_of_ble_eq_true rfl) (fun v G' hp => ?_) (fun _ _ hp => hp.elim)
          obtain ⟨rfl, e9⟩ := hp
          rw [e9]
          clear e9 G'
          refine rb_if_eq C 111 dX8_owes_73 (by decide) (fun h73 => ?_) (fun h73 => ?_)
          · refine rb_iconst C dX8_owes_111 (v := 0) (by decide) ?_
            refine rb_iadd C dX8_owes_112 ?_
            refine rb_istore_n C dX8_owes_113 (Nat.le_of_ble_eq_true rfl) rfl (Lv' := [_, _, _, _, _, _]) rfl ?_
            refine rb_iinc C dX8_owes_114 rfl (v := _ + 1) rfl rfl (Lv' := [_, _, _, _, _, _]) rfl ?_
            refine rb_goto C 48 dX8_owes_117 (by decide) ?_
            rw [nI_1 i]
            exact ih (i + 1) (s + 0) (by omega) (by rw [fo_s, ← hs]; exact Eq.symm ((if_pos h73).trans (rfl)))
          · refine rb_aload_n C dX8_owes_76 rfl ?_
            refine rw_getP C FR_X8_98 dX8_owes_77 rfl (o := some (14, 35, 0)) (hm.1 35 (by decide)) ?_
            refine rb_iload C dX8_owes_80 rfl ?_
            refine rw_iald C (x := (W (14, 35, 0) i)) 400 i dX8_owes_82 rfl (hm.2 35 (by decide)) (vp_in_nI (show i < 400 by have hc8 := vp_in_lt hM.2.2.2.2.2.2.2.2.2.1; omega) (by decide)) (nI_clamp (show i < 2 ^ 31 by have hc8 := vp_in_lt hM.2.2.2.2.2.2.2.2.2.1; omega)) ((up2_n _ _ _ _ (fun q => absurd (congrArg Prod.fst q.1) (show ¬ ((14 : Nat) = 16) by decide))).trans (rfl)) ?_
            refine rb_iconst C dX8_owes_83 (v := 2) (by decide) ?_
            refine rb_icmp_ne C 111 dX8_owes_84 (by decide) (fun h84 => ?_) (fun h84 => ?_)
            · refine rb_iconst C dX8_owes_111 (v := 0) (by decide) ?_
              refine rb_iadd C dX8_owes_112 ?_
              refine rb_istore_n C dX8_owes_113 (Nat.le_of_ble_eq_true rfl) rfl (Lv' := [_, _, _, _, _, _]) rfl ?_
              refine rb_iinc C dX8_owes_114 rfl (v := _ + 1) rfl rfl (Lv' := [_, _, _, _, _, _]) rfl ?_
              refine rb_goto C 48 dX8_owes_117 (by decide) ?_
              rw [nI_1 i]
              exact ih (i + 1) (s + 0) (by omega) (by rw [fo_s, ← hs]; exact Eq.symm ((if_neg h73).trans ((if_neg h84).trans (rfl))))
            · refine rb_aload_n C dX8_owes_87 rfl ?_
              refine rw_getP C FR_X8_89 dX8_owes_88 rfl (o := some (14, 32, 0)) (hm.1 32 (by decide)) ?_
              refine rb_iload C dX8_owes_91 rfl ?_
              refine rw_iald C (x := (W (14, 32, 0) i)) 400 i dX8_owes_93 rfl (hm.2 32 (by decide)) (vp_in_nI (show i < 400 by have hc8 := vp_in_lt hM.2.2.2.2.2.2.2.2.2.1; omega) (by decide)) (nI_clamp (show i < 2 ^ 31 by have hc8 := vp_in_lt hM.2.2.2.2.2.2.2.2.2.1; omega)) ((up2_n _ _ _ _ (fun q => absurd (congrArg Prod.fst q.1) (show ¬ ((14 : Nat) = 16) by decide))).trans (rfl)) ?_
              refine rb_aload_n C dX8_owes_94 rfl ?_
              refine rb_aload_n C dX8_owes_95 rfl ?_
              refine rw_getP C FR_X8_95 dX8_owes_96 rfl (o := some (14, 34, 0)) (hm.1 34 (by decide)) ?_
              refine rb_iload C dX8_owes_99 rfl ?_
              refine rw_iald C (x := (W (14, 34, 0) i)) 400 i dX8_owes_101 rfl (hm.2 34 (by decide)) (vp_in_nI (show i < 400 by have hc8 := vp_in_lt hM.2.2.2.2.2.2.2.2.2.1; omega) (by decide)) (nI_clamp (show i < 2 ^ 31 by have hc8 := vp_in_lt hM.2.2.2.2.2.2.2.2.2.1; omega)) ((up2_n _ _ _ _ (fun q => absurd (congrArg Prod.fst q.1) (show ¬ ((14 : Nat) = 16) by decide))).trans (rfl)) ?_
              refine rb_iload C dX8_owes_102 rfl ?_
              refine rb_callV C M_X8_195 (fun l X => (k_X8_priceOf l X G (up2 W (16, 0, 0) 0 0) (W (14, 34, 0) i) (m_minutesOf (up2 W (16, 0, 0) 0 0) vi ho (2 : Int32)) hm (hM.2.2.2.2.2.1 _)).m) rfl (Nat.le_of_ble_eq_true rfl) rfl dX8_owes_104 rfl rfl rfl (Nat.le_of_ble_eq_true rfl) ⟨(Nat.le_of_ble_eq_true rfl), (Nat.le_of_ble_eq_true rfl)⟩ (Nat.le_of_ble_eq_true rfl) (Nat.le_of_ble_eq_true rfl) (fun v G' hp => ?_) (fun _ _ hp => hp.elim)
              obtain ⟨rfl, e9⟩ := hp
              rw [e9]
              clear e9 G'
              refine rb_imul C dX8_owes_107 ?_
              refine rb_goto C 112 dX8_owes_108 (by decide) ?_
              refine rb_iadd C dX8_owes_112 ?_
              refine rb_istore_n C dX8_owes_113 (Nat.le_of_ble_eq_true rfl) rfl (Lv' := [_, _, _, _, _, _]) rfl ?_
              refine rb_iinc C dX8_owes_114 rfl (v := _ + 1) rfl rfl (Lv' := [_, _, _, _, _, _]) rfl ?_
              refine rb_goto C 48 dX8_owes_117 (by decide) ?_
              rw [nI_1 i]
              exact ih (i + 1) (s + ((W (14, 32, 0) i) * (m_priceOf (up2 W (16, 0, 0) 0 0) (W (14, 34, 0) i) (m_minutesOf (up2 W (16, 0, 0) 0 0) vi ho (2 : Int32))))) (by omega) (by rw [fo_s, ← hs]; exact Eq.symm ((if_neg h73).trans ((if_pos h84).trans (rfl))))
      exact loop (W (16, 0, 0) 29).toNatClampNeg 0 (0 : Int32) (Nat.zero_add _) (fo_0 _ _).symm

def m_owesAnew (W : rb_I) (ho : Int32) (vi : Int32) : Int32 × rb_I := ((m_owes W ho vi).1, (m_owes W ho vi).2)
set_option maxRecDepth 100000 in
set_option maxHeartbeats 4000000 in
theorem k_X8_owesAnew (l : Launch) (X : rb_X) (G : rb_G) (W : rb_I) (ho : Int32) (vi : Int32) (hm : MS G) (hM : MI W) : rb_N l X yX8_owesAnew (.code yX8_owesAnew cX8_owesAnew 3 (some .int)) 4 85 0 0 [rbR (16, 0, 0), rbI ho, rbI vi] (wI G W) (fun v9 G9 => v9 = some (rbI (m_owesAnew W ho vi).1) ∧ G9 = wI G (m_owesAnew W ho vi).2) := by
  refine rb_startN RX8 rfl (by decide +kernel) rfl (Nat.le_of_ble_eq_true rfl) ?_
  intro Φ C E nm
  show rb_W Φ 0 0 0 [some (rbR (16, 0, 0)), some (rbI ho), some (rbI vi)] [] (wI G W)
  refine rb_aload_n C dX8_owesAnew_0 rfl ?_
  refine rb_iload_n C dX8_owesAnew_1 rfl ?_
  refine rb_iload_n C dX8_owesAnew_2 rfl ?_
  refine rb_callV C M_X8_198 (fun l X => (k_X8_owes l X G W ho vi hm hM).m) rfl (Nat.le_of_ble_eq_true rfl) rfl dX8_owesAnew_3 rfl rfl rfl (Nat.le_of_ble_eq_true rfl) ⟨(Nat.le_of_ble_eq_true rfl), (Nat.le_of_ble_eq_true rfl)⟩ (Nat.le_of_ble_eq_true rfl) (Nat.le_of_ble_eq_true rfl) (fun v G' hp => ?_) (fun _ _ hp => hp.elim)
  obtain ⟨rfl, e9⟩ := hp
  rw [e9]
  clear e9 G'
  exact rb_iret C E dX8_owesAnew_6 (Nat.le_of_ble_eq_true rfl) (Nat.le_of_ble_eq_true rfl) (pp_ (rfl))

def m_recorded (W : rb_I) (vi : Int32) (ho : Int32) (what : Int32) : Int32 × rb_I := (if (m_isNetwork vi) = 0 then (0, (up2 W (16, 0, 0) 0 1)) else (if (m_isNetwork ho) = 0 then (0, (up2 W (16, 0, 0) 0 1)) else (if (m_in what (0 : Int32) (3 : Int32)) = 0 then (0, (up2 W (16, 0, 0) 0 2)) else ((m_minutesOf (up2 W (16, 0, 0) 0 0) vi ho what), (up2 W (16, 0, 0) 0 0)))))
set_option maxRecDepth 100000 in
set_option maxHeartbeats 4000000 in
theorem k_X8_recorded (l : Launch) (X : rb_X) (G : rb_G) (W : rb_I) (vi : Int32) (ho : Int32) (what : Int32) (hm : MS G) (hM : MI W) : rb_N l X yX8_recorded (.code yX8_recorded cX8_recorded 4 (some .int)) 3 60 0 0 [rbR (16, 0, 0), rbI vi, rbI ho, rbI what] (wI G W) (fun v9 G9 => v9 = some (rbI (m_recorded W vi ho what).1) ∧ G9 = wI G (m_recorded W vi ho what).2) := by
  refine rb_startN RX8 rfl (by decide +kernel) rfl (Nat.le_of_ble_eq_true rfl) ?_
  intro Φ C E nm
  show rb_W Φ 0 0 0 [some (rbR (16, 0, 0)), some (rbI vi), some (rbI ho), some (rbI what)] [] (wI G W)
  refine rb_aload_n C dX8_recorded_0 rfl ?_
  refine rb_iload_n C dX8_recorded_1 rfl ?_
  refine rb_callS C M_X8_129 (fun l X => (k_X8_isNetwork l X G W vi).m) dX8_recorded_2 rfl rfl rfl (Nat.le_of_ble_eq_true rfl) ⟨(Nat.le_of_ble_eq_true rfl), (Nat.le_of_ble_eq_true rfl)⟩ (Nat.le_of_ble_eq_true rfl) (Nat.le_of_ble_eq_true rfl) (fun v G' hp => ?_) (fun _ _ hp => hp.elim)
  obtain ⟨rfl, e9⟩ := hp
  rw [e9]
  clear e9 G'
  refine rb_if_eq C 15 dX8_recorded_5 (by decide) (fun h5 => ?_) (fun h5 => ?_)
  · refine rb_iconst C dX8_recorded_15 (v := 1) (by decide) ?_
    refine rb_goto C 33 dX8_recorded_16 (by decide) ?_
    refine rw_putI C F_X8_110 dX8_recorded_33 rfl ⟨rfl, rfl⟩ ?_
    refine rb_aload_n C dX8_recorded_36 rfl ?_
    refine rw_getI C FR_X8_110 dX8_recorded_37 rfl (x := 1) (up2_s _ _ _ _) ?_
    refine rb_if_le C 47 dX8_recorded_40 (by decide) (fun h9 => absurd h9 (by decide)) (fun _ => ?_)
    refine rb_iconst C dX8_recorded_43 (v := 0) (by decide) ?_
    refine rb_goto C 54 dX8_recorded_44 (by decide) ?_
    exact rb_iret C E dX8_recorded_54 (Nat.le_of_ble_eq_true rfl) (Nat.le_of_ble_eq_true rfl) (pp_ ((if_pos h5).trans (rfl)))
  · refine rb_iload_n C dX8_recorded_8 rfl ?_
    refine rb_callS C M_X8_129 (fun l X => (k_X8_isNetwork l X G W ho).m) dX8_recorded_9 rfl rfl rfl (Nat.le_of_ble_eq_true rfl) ⟨(Nat.le_of_ble_eq_true rfl), (Nat.le_of_ble_eq_true rfl)⟩ (Nat.le_of_ble_eq_true rfl) (Nat.le_of_ble_eq_true rfl) (fun v G' hp => ?_) (fun _ _ hp => hp.elim)
    obtain ⟨rfl, e9⟩ := hp
    rw [e9]
    clear e9 G'
    refine rb_if_ne C 19 dX8_recorded_12 (by decide) (fun h12 => ?_) (fun h12 => ?_)
    · refine rb_iload_n C dX8_recorded_19 rfl ?_
      refine rb_iconst C dX8_recorded_20 (v := 0) (by decide) ?_
      refine rb_iconst C dX8_recorded_21 (v := 3) (by decide) ?_
      refine rb_callS C M_X8_114 (fun l X => (k_X8_in l X G W what (0 : Int32) (3 : Int32)).m) dX8_recorded_22 rfl rfl rfl (Nat.le_of_ble_eq_true rfl) ⟨(Nat.le_of_ble_eq_true rfl), (Nat.le_of_ble_eq_true rfl)⟩ (Nat.le_of_ble_eq_true rfl) (Nat.le_of_ble_eq_true rfl) (fun v G' hp => ?_) (fun _ _ hp => hp.elim)
      obtain ⟨rfl, e9⟩ := hp
      rw [e9]
      clear e9 G'
      refine rb_if_eq C 32 dX8_recorded_25 (by decide) (fun h25 => ?_) (fun h25 => ?_)
      · refine rb_iconst C dX8_recorded_32 (v := 2) (by decide) ?_
        refine rw_putI C F_X8_110 dX8_recorded_33 rfl ⟨rfl, rfl⟩ ?_
        refine rb_aload_n C dX8_recorded_36 rfl ?_
        refine rw_getI C FR_X8_110 dX8_recorded_37 rfl (x := 2) (up2_s _ _ _ _) ?_
        refine rb_if_le C 47 dX8_recorded_40 (by decide) (fun h9 => absurd h9 (by decide)) (fun _ => ?_)
        refine rb_iconst C dX8_recorded_43 (v := 0) (by decide) ?_
        refine rb_goto C 54 dX8_recorded_44 (by decide) ?_
        exact rb_iret C E dX8_recorded_54 (Nat.le_of_ble_eq_true rfl) (Nat.le_of_ble_eq_true rfl) (pp_ ((if_neg h5).trans ((if_neg h12).trans ((if_pos h25).trans (rfl)))))
      · refine rb_iconst C dX8_recorded_28 (v := 0) (by decide) ?_
        refine rb_goto C 33 dX8_recorded_29 (by decide) ?_
        refine rw_putI C F_X8_110 dX8_recorded_33 rfl ⟨rfl, rfl⟩ ?_
        refine rb_aload_n C dX8_recorded_36 rfl ?_
        refine rw_getI C FR_X8_110 dX8_recorded_37 rfl (x := 0) (up2_s _ _ _ _) ?_
        refine rb_if_le C 47 dX8_recorded_40 (by decide) (fun _ => ?_) (fun h9 => absurd (by decide) h9)
        refine rb_aload_n C dX8_recorded_47 rfl ?_
        refine rb_iload_n C dX8_recorded_48 rfl ?_
        refine rb_iload_n C dX8_recorded_49 rfl ?_
        refine rb_iload_n C dX8_recorded_50 rfl ?_
        refine rb_callV C M_X8_191 (fun l X => (k_X8_minutesOf l X G (up2 W (16, 0, 0) 0 0) vi ho what hm (mi_thr 0 hM)).m) rfl (Nat.le_of_ble_eq_true rfl) rfl dX8_recorded_51 rfl rfl rfl (Nat.le_of_ble_eq_true rfl) ⟨(Nat.le_of_ble_eq_true rfl), (Nat.le_of_ble_eq_true rfl)⟩ (Nat.le_of_ble_eq_true rfl) (Nat.le_of_ble_eq_true rfl) (fun v G' hp => ?_) (fun _ _ hp => hp.elim)
        obtain ⟨rfl, e9⟩ := hp
        rw [e9]
        clear e9 G'
        exact rb_iret C E dX8_recorded_54 (Nat.le_of_ble_eq_true rfl) (Nat.le_of_ble_eq_true rfl) (pp_ ((if_neg h5).trans ((if_neg h12).trans ((if_neg h25).trans (rfl)))))
    · refine rb_iconst C dX8_recorded_15 (v := 1) (by decide) ?_
      refine rb_goto C 33 dX8_recorded_16 (by decide) ?_
      refine rw_putI C F_X8_110 dX8_recorded_33 rfl ⟨rfl, rfl⟩ ?_
      refine rb_aload_n C dX8_recorded_36 rfl ?_
      refine rw_getI C FR_X8_110 dX8_recorded_37 rfl (x := 1) (up2_s _ _ _ _) ?_
      refine rb_if_le C 47 dX8_recorded_40 (by decide) (fun h9 => absurd h9 (by decide)) (fun _ => ?_)
      refine rb_iconst C dX8_recorded_43 (v := 0) (by decide) ?_
      refine rb_goto C 54 dX8_recorded_44 (by decide) ?_
      exact rb_iret C E dX8_recorded_54 (Nat.le_of_ble_eq_true rfl) (Nat.le_of_ble_eq_true rfl) (pp_ ((if_neg h5).trans ((if_pos h12).trans (rfl))))

def m_begins_c  (i : Nat) (s : rb_I) : rb_I := (if (s (14, 27, 0) i) = (-1) then (up2 s (14, 27, 0) i (s (14, 27, 0) i)) else (if ((s (16, 0, 0) 1) - (s (14, 27, 0) i)) < 180 then (up2 s (14, 27, 0) i (s (14, 27, 0) i)) else (up2 s (14, 27, 0) i (-1))))
def m_begins_b  (i : Nat) (s : rb_I) : rb_I := (if (s (14, 19, 0) i) = (-1) then s else (m_makesContact s (nI i)))
def m_begins (W : rb_I)  : rb_I := (fo m_begins_c 60 (fo m_begins_b (W (16, 0, 0) 15).toNatClampNeg W))
set_option maxRecDepth 100000 in
set_option maxHeartbeats 4000000 in
theorem k_X8_begins (l : Launch) (X : rb_X) (G : rb_G) (W : rb_I)  (hm : MS G) (hM : MI W) : rb_N l X yX8_begins (.code yX8_begins cX8_begins 2 none) 2 34 0 0 [rbR (16, 0, 0)] (wI G W) (fun v9 G9 => v9 = none ∧ G9 = wI G (m_begins W)) := by
  refine rb_startN RX8 rfl (by decide +kernel) rfl (Nat.le_of_ble_eq_true rfl) ?_
  intro Φ C E nm
  show rb_W Φ 0 0 0 [some (rbR (16, 0, 0)), none] [] (wI G W)
  refine rb_iconst C dX8_begins_0 (v := 0) (by decide) ?_
  refine rb_istore_n C dX8_begins_1 (Nat.le_of_ble_eq_true rfl) rfl (Lv' := [_, _]) rfl ?_
  have loop : ∀ (d i : Nat) (s : rb_I), i + d = (W (16, 0, 0) 15).toNatClampNeg → s = fo m_begins_b i W → rb_W Φ 0 0 2 [some (rbR (16, 0, 0)), some (rbI (nI i))] [] (wI G s) := by
    intro d
    induction d with
    | zero =>
      intro i s hi hs
      obtain rfl : i = (W (16, 0, 0) 15).toNatClampNeg := by omega
      have hc9 : s (16, 0, 0) 15 = W (16, 0, 0) 15 := by
        rw [hs]
        refine fo_inv (f := m_begins_b) (a := W) (P := fun w : rb_I => w (16, 0, 0) 15 = W (16, 0, 0) 15) (by simp [up2]) (fun i a h => ?_) _
        unfold m_begins_b; split; exact h; rw [m_makesContact_o (by simp) (by simp) (by simp)]; exact h
      have hMs : MI s := by
        rw [hs]
        exact fo_inv (f := m_begins_b) (a := W) (P := MI) hM (fun i a h => by unfold m_begins_b; split; exact h; exact mi_makesContact _ h) _
      subst hs
      refine rb_iload_n C dX8_begins_2 rfl ?_
      refine rb_aload_n C dX8_begins_3 rfl ?_
      refine rw_getI C FR_X8_118 dX8_begins_4 rfl (x := (W (16, 0, 0) 15)) (hc9) ?_
      refine rb_icmp_ge C 31 dX8_begins_7 (by decide) (fun _ => ?_) (fun h9 => absurd ((cnt_le hM.2.2.2.2.2.2.2.1)) h9)
      refine rb_iconst C dX8_begins_31 (v := 0) (by decide) ?_
      refine rb_istore_n C dX8_begins_32 (Nat.le_of_ble_eq_true rfl) rfl (Lv' := [_, _]) rfl ?_
      have loop : ∀ (d i : Nat) (s : rb_I), i + d = 60 → s = fo m_begins_c i (fo m_begins_b (W (16, 0, 0) 15).toNatClampNeg W) → rb_W Φ 0 0 33 [some (rbR (16, 0, 0)), some (rbI (nI i))] [] (wI G s) := by
        intro d
        induction d with
        | zero =>
          intro i s hi hs
          obtain rfl : i = 60 := by omega
          subst hs
          refine rb_iload_n C dX8_begins_33 rfl ?_
          refine rb_bipush C dX8_begins_34 (v := 60) (by decide) ?_
          refine rb_icmp_ge C 88 dX8_begins_36 (by decide) (fun _ => ?_) (fun h9 => absurd ((nI_le (a := 60) (b := 60) (Nat.le_refl _) (by decide))) h9)
          exact rb_vret C E dX8_begins_88 (Nat.le_of_ble_eq_true rfl) (Nat.le_of_ble_eq_true rfl) (pw_ (rfl))
        | succ d ih =>
          intro i s hi hs
          have hi9 : i < 60 := by omega
          refine rb_iload_n C dX8_begins_33 rfl ?_
          refine rb_bipush C dX8_begins_34 (v := 60) (by decide) ?_
          refine rb_icmp_ge C 88 dX8_begins_36 (by decide) (fun h9 => absurd h9 ((nI_ge (a := i) (b := 60) hi9 (by decide)))) (fun _ => ?_)
          refine rb_aload_n C dX8_begins_39 rfl ?_
          refine rw_getP C FR_X8_80 dX8_begins_40 rfl (o := some (14, 27, 0)) (hm.1 27 (by decide)) ?_
          refine rb_iload_n C dX8_begins_43 rfl ?_
          refine rb_aload_n C dX8_begins_44 rfl ?_
          refine rw_getP C FR_X8_80 dX8_begins_45 rfl (o := some (14, 27, 0)) (hm.1 27 (by decide)) ?_
          refine rb_iload_n C dX8_begins_48 rfl ?_
          refine rw_iald C (x := (s (14, 27, 0) i)) 60 i dX8_begins_49 rfl (hm.2 27 (by decide)) (vp_in_nI (show i < 60 by omega) (by decide)) (nI_clamp (show i < 2 ^ 31 by omega)) (rfl) ?_
          refine rb_iconst C dX8_begins_50 (v := (-1)) (by decide) ?_
          refine rb_icmp_eq C 75 dX8_begins_51 (by decide) (fun h51 => ?_) (fun h51 => ?_)
          · refine rb_aload_n C dX8_begins_75 rfl ?_
            refine rw_getP C FR_X8_80 dX8_begins_76 rfl (o := some (14, 27, 0)) (hm.1 27 (by decide)) ?_
            refine rb_iload_n C dX8_begins_79 rfl ?_
            refine rw_iald C (x := (s (14, 27, 0) i)) 60 i dX8_begins_80 rfl (hm.2 27 (by decide)) (vp_in_nI (show i < 60 by omega) (by decide)) (nI_clamp (show i < 2 ^ 31 by omega)) (rfl) ?_
            refine rw_iast C 60 i dX8_begins_81 rfl (hm.2 27 (by decide)) (vp_in_nI (show i < 60 by omega) (by decide)) (nI_clamp (show i < 2 ^ 31 by omega)) ?_
            refine rb_iinc C dX8_begins_82 rfl (v := _ + 1) rfl rfl (Lv' := [_, _]) rfl ?_
            refine rb_goto C 33 dX8_begins_85 (by decide) ?_
            rw [nI_1 i]
            exact ih (i + 1) (up2 s (14, 27, 0) i (s (14, 27, 0) i)) (by omega) (by rw [fo_s, ← hs]; exact Eq.symm ((if_pos h51).trans (rfl)))
          · refine rb_aload_n C dX8_begins_54 rfl ?_
            refine rw_getI C FR_X8_141 dX8_begins_55 rfl (x := (s (16, 0, 0) 1)) (rfl) ?_
            refine rb_aload_n C dX8_begins_58 rfl ?_
            refine rw_getP C FR_X8_80 dX8_begins_59 rfl (o := some (14, 27, 0)) (hm.1 27 (by decide)) ?_
            refine rb_iload_n C dX8_begins_62 rfl ?_
            refine rw_iald C (x := (s (14, 27, 0) i)) 60 i dX8_begins_63 rfl (hm.2 27 (by decide)) (vp_in_nI (show i < 60 by omega) (by decide)) (nI_clamp (show i < 2 ^ 31 by omega)) (rfl) ?_
            refine rb_isub C dX8_begins_64 ?_
            refine rb_sipush C dX8_begins_65 (v := 180) (by decide) ?_
            refine rb_icmp_lt C 75 dX8_begins_68 (by decide) (fun h68 => ?_) (fun h68 => ?_)
            · refine rb_aload_n C dX8_begins_75 rfl ?_
              refine rw_getP C FR_X8_80 dX8_begins_76 rfl (o := some (14, 27, 0)) (hm.1 27 (by decide)) ?_
              refine rb_iload_n C dX8_begins_79 rfl ?_
              refine rw_iald C (x := (s (14, 27, 0) i)) 60 i dX8_begins_80 rfl (hm.2 27 (by decide)) (vp_in_nI (show i < 60 by omega) (by decide)) (nI_clamp (show i < 2 ^ 31 by omega)) (rfl) ?_
              refine rw_iast C 60 i dX8_begins_81 rfl (hm.2 27 (by decide)) (vp_in_nI (show i < 60 by omega) (by decide)) (nI_clamp (show i < 2 ^ 31 by omega)) ?_
              refine rb_iinc C dX8_begins_82 rfl (v := _ + 1) rfl rfl (Lv' := [_, _]) rfl ?_
              refine rb_goto C 33 dX8_begins_85 (by decide) ?_
              rw [nI_1 i]
              exact ih (i + 1) (up2 s (14, 27, 0) i (s (14, 27, 0) i)) (by omega) (by rw [fo_s, ← hs]; exact Eq.symm ((if_neg h51).trans ((if_pos h68).trans (rfl))))
            · refine rb_iconst C dX8_begins_71 (v := (-1)) (by decide) ?_
              refine rb_goto C 81 dX8_begins_72 (by decide) ?_
              refine rw_iast C 60 i dX8_begins_81 rfl (hm.2 27 (by decide)) (vp_in_nI (show i < 60 by omega) (by decide)) (nI_clamp (show i < 2 ^ 31 by omega)) ?_
              refine rb_iinc C dX8_begins_82 rfl (v := _ + 1) rfl rfl (Lv' := [_, _]) rfl ?_
              refine rb_goto C 33 dX8_begins_85 (by decide) ?_
              rw [nI_1 i]
              exact ih (i + 1) (up2 s (14, 27, 0) i (-1)) (by omega) (by rw [fo_s, ← hs]; exact Eq.symm ((if_neg h51).trans ((if_neg h68).trans (rfl))))
      exact loop 60 0 (fo m_begins_b (W (16, 0, 0) 15).toNatClampNeg W) (Nat.zero_add _) (fo_0 _ _).symm
    | succ d ih =>
      intro i s hi hs
      have hi9 : i < (W (16, 0, 0) 15).toNatClampNeg := by omega
      have hc9 : s (16, 0, 0) 15 = W (16, 0, 0) 15 := by
        rw [hs]
        refine fo_inv (f := m_begins_b) (a := W) (P := fun w : rb_I => w (16, 0, 0) 15 = W (16, 0, 0) 15) (by simp [up2]) (fun i a h => ?_) _
        unfold m_begins_b; split; exact h; rw [m_makesContact_o (by simp) (by simp) (by simp)]; exact h
      have hMs : MI s := by
        rw [hs]
        exact fo_inv (f := m_begins_b) (a := W) (P := MI) hM (fun i a h => by unfold m_begins_b; split; exact h; exact mi_makesContact _ h) _
      refine rb_iload_n C dX8_begins_2 rfl ?_
      refine rb_aload_n C dX8_begins_3 rfl ?_
      refine rw_getI C FR_X8_118 dX8_begins_4 rfl (x := (W (16, 0, 0) 15)) (hc9) ?_
      refine rb_icmp_ge C 31 dX8_begins_7 (by decide) (fun h9 => absurd h9 ((cnt_nle hM.2.2.2.2.2.2.2.1 (by decide) hi9))) (fun _ => ?_)
      refine rb_aload_n C dX8_begins_10 rfl ?_
      refine rw_getP C FR_X8_56 dX8_begins_11 rfl (o := some (14, 19, 0)) (hm.1 19 (by decide)) ?_
      refine rb_iload_n C dX8_begins_14 rfl ?_
      refine rw_iald C (x := (s (14, 19, 0) i)) 10 i dX8_begins_15 rfl (hm.2 19 (by decide)) (vp_in_nI (show i < 10 by have hc8 := vp_in_lt hM.2.2.2.2.2.2.2.1; omega) (by decide)) (nI_clamp (show i < 2 ^ 31 by have hc8 := vp_in_lt hM.2.2.2.2.2.2.2.1; omega)) (rfl) ?_
      refine rb_iconst C dX8_begins_16 (v := (-1)) (by decide) ?_
      refine rb_icmp_eq C 25 dX8_begins_17 (by decide) (fun h17 => ?_) (fun h17 => ?_)
      · refine rb_iinc C dX8_begins_25 rfl (v := _ + 1) rfl rfl (Lv' := [_, _]) rfl ?_
        refine rb_goto C 2 dX8_begins_28 (by decide) ?_
        rw [nI_1 i]
        exact ih (i + 1) s (by omega) (by rw [fo_s, ← hs]; exact Eq.symm ((if_pos h17).trans (rfl)))
      · refine rb_aload_n C dX8_begins_20 rfl ?_
        refine rb_iload_n C dX8_begins_21 rfl ?_
        refine rb_callV C M_X8_157 (fun l X => (k_X8_makesContact l X G s (nI i) hm hMs (vp_in_nI (show i < 10 by have hc8 := vp_in_lt hM.2.2.2.2.2.2.2.1; omega) (by decide)) (by rw [nI_clamp (show i < 2 ^ 31 by have hc8 := vp_in_lt hM.2.2.2.2.2.2.2.1; omega)]; exact h17)).m) rfl (Nat.le_of_ble_eq_true rfl) rfl dX8_begins_22 rfl rfl rfl (Nat.le_of_ble_eq_true rfl) ⟨(Nat.le_of_ble_eq_true rfl), (Nat.le_of_ble_eq_true rfl)⟩ (Nat.le_of_ble_eq_true rfl) (Nat.le_of_ble_eq_true rfl) (fun v G' hp => ?_) (fun _ _ hp => hp.elim)
        obtain ⟨rfl, e9⟩ := hp
        rw [e9]
        clear e9 G'
        refine rb_iinc C dX8_begins_25 rfl (v := _ + 1) rfl rfl (Lv' := [_, _]) rfl ?_
        refine rb_goto C 2 dX8_begins_28 (by decide) ?_
        rw [nI_1 i]
        exact ih (i + 1) (m_makesContact s (nI i)) (by omega) (by rw [fo_s, ← hs]; exact Eq.symm ((if_neg h17).trans (rfl)))
  exact loop (W (16, 0, 0) 15).toNatClampNeg 0 W (Nat.zero_add _) (fo_0 _ _).symm

theorem mi_begins {W : rb_I} (hM : MI W) : MI (m_begins W) := by
  have h1 : MI (fo m_begins_b (W (16, 0, 0) 15).toNatClampNeg W) := fo_inv (f := m_begins_b) (a := W) (P := MI) hM (fun i a h => by unfold m_begins_b; split; exact h; exact mi_makesContact _ h) _
  unfold m_begins
  refine fo_inv (f := m_begins_c) (P := MI) h1 (fun i a h => ?_) 60
  unfold m_begins_c
  unfold MI at *
  repeat (any_goals split)
  all_goals simpa [up2] using h
theorem m_begins_o {W : rb_I} {k : Nat} : m_begins W (16, 0, 0) k = W (16, 0, 0) k := by
  have h1 : fo m_begins_b (W (16, 0, 0) 15).toNatClampNeg W (16, 0, 0) k = W (16, 0, 0) k := fo_inv (f := m_begins_b) (a := W) (P := fun w => w (16, 0, 0) k = W (16, 0, 0) k) rfl (fun i a h => by unfold m_begins_b; split; exact h; rw [m_makesContact_o (by simp) (by simp) (by simp)]; exact h) _
  unfold m_begins
  refine fo_inv (f := m_begins_c) (P := fun w => w (16, 0, 0) k = W (16, 0, 0) k) h1 (fun i a h => ?_) 60
  unfold m_begins_c
  repeat (any_goals split)
  all_goals simpa [up2] using h
theorem in1_of {x : Int32} (h : ¬ m_in x 1 50000 = 0) : vp_in x 50001 := by
  unfold m_in at h
  split at h
  · exact absurd rfl h
  · split at h
    · exact absurd rfl h
    · rename_i h1 h2
      refine in_of (low := 0) (high := 50000) (by decide) rfl ?_
      unfold m_in
      have h3 : ¬ x < 0 := fun q => h1 (Int32.lt_trans q (by decide))
      rw [if_neg h3, if_neg h2]
      decide
def m_pass_b  (i : Nat) (s : rb_I) : rb_I := (if (((s (16, 0, 0) 1) + 1) - ((s (16, 0, 0) 1) + 1) / 60 * 60) = 0 then (m_begins (up2 s (16, 0, 0) 1 ((s (16, 0, 0) 1) + 1))) else (up2 s (16, 0, 0) 1 ((s (16, 0, 0) 1) + 1)))
def m_pass (W : rb_I) (mins : Int32) : Int32 × rb_I := (if (m_in mins (1 : Int32) ((50000) : Int32)) = 0 then (if mins ≤ 0 then (0, (up2 W (16, 0, 0) 0 1)) else (0, (up2 W (16, 0, 0) 0 1))) else (if ((W (16, 0, 0) 1) + mins) ≤ (999999) then (((fo m_pass_b mins.toNatClampNeg (up2 W (16, 0, 0) 0 0)) (16, 0, 0) 1), (fo m_pass_b mins.toNatClampNeg (up2 W (16, 0, 0) 0 0))) else (if mins ≤ 0 then (0, (up2 W (16, 0, 0) 0 2)) else (0, (up2 W (16, 0, 0) 0 2)))))
set_option maxRecDepth 100000 in
set_option maxHeartbeats 4000000 in
theorem k_X8_pass (l : Launch) (X : rb_X) (G : rb_G) (W : rb_I) (mins : Int32) (hm : MS G) (hM : MI W) : rb_N l X yX8_pass (.code yX8_pass cX8_pass 3 (some .int)) 3 55 0 0 [rbR (16, 0, 0), rbI mins] (wI G W) (fun v9 G9 => v9 = some (rbI (m_pass W mins).1) ∧ G9 = wI G (m_pass W mins).2) := by
  refine rb_startN RX8 rfl (by decide +kernel) rfl (Nat.le_of_ble_eq_true rfl) ?_
  intro Φ C E nm
  show rb_W Φ 0 0 0 [some (rbR (16, 0, 0)), some (rbI mins), none] [] (wI G W)
  refine rb_aload_n C dX8_pass_0 rfl ?_
  refine rb_iload_n C dX8_pass_1 rfl ?_
  refine rb_iconst C dX8_pass_2 (v := 1) (by decide) ?_
  refine rb_ldc C dX8_pass_3 N_X8_201 ?_
  refine rb_callS C M_X8_114 (fun l X => (k_X8_in l X G W mins (1 : Int32) ((50000) : Int32)).m) dX8_pass_5 rfl rfl rfl (Nat.le_of_ble_eq_true rfl) ⟨(Nat.le_of_ble_eq_true rfl), (Nat.le_of_ble_eq_true rfl)⟩ (Nat.le_of_ble_eq_true rfl) (Nat.le_of_ble_eq_true rfl) (fun v G' hp => ?_) (fun _ _ hp => hp.elim)
  obtain ⟨rfl, e9⟩ := hp
  rw [e9]
  clear e9 G'
  refine rb_if_ne C 15 dX8_pass_8 (by decide) (fun h8 => ?_) (fun h8 => ?_)
  · refine rb_aload_n C dX8_pass_15 rfl ?_
    refine rw_getI C FR_X8_141 dX8_pass_16 rfl (x := (W (16, 0, 0) 1)) (rfl) ?_
    refine rb_iload_n C dX8_pass_19 rfl ?_
    refine rb_iadd C dX8_pass_20 ?_
    refine rb_ldc C dX8_pass_21 N_X8_136 ?_
    refine rb_icmp_le C 30 dX8_pass_23 (by decide) (fun h23 => ?_) (fun h23 => ?_)
    · have hv : vp_in mins 50001 := in1_of h8
      refine rb_iconst C dX8_pass_30 (v := 0) (by decide) ?_
      refine rw_putI C F_X8_110 dX8_pass_31 rfl ⟨rfl, rfl⟩ ?_
      refine rb_iconst C dX8_pass_34 (v := 0) (by decide) ?_
      refine rb_istore_n C dX8_pass_35 (Nat.le_of_ble_eq_true rfl) rfl (Lv' := [_, _, _]) rfl ?_
      have loop : ∀ (d i : Nat) (s : rb_I), i + d = mins.toNatClampNeg → s = fo m_pass_b i (up2 W (16, 0, 0) 0 0) → rb_W Φ 0 0 36 [some (rbR (16, 0, 0)), some (rbI mins), some (rbI (nI i))] [] (wI G s) := by
        intro d
        induction d with
        | zero =>
          intro i s hi hs
          obtain rfl : i = mins.toNatClampNeg := by omega
          have hth : s (16, 0, 0) 0 = 0 := by
            rw [hs]
            exact fo_inv (f := m_pass_b) (a := (up2 W (16, 0, 0) 0 0)) (P := fun w => w (16, 0, 0) 0 = 0) (up2_s _ _ _ _) (fun i a h => by unfold m_pass_b; split <;> simp [up2, m_begins_o, h]) _
          have hMs : MI s := by
            rw [hs]
            exact fo_inv (f := m_pass_b) (a := (up2 W (16, 0, 0) 0 0)) (P := MI) (mi_thr 0 hM) (fun i a h => by unfold m_pass_b; split; exact mi_begins (mi_now _ h); exact mi_now _ h) _
          subst hs
          refine rb_iload_n C dX8_pass_36 rfl ?_
          refine rb_iload_n C dX8_pass_37 rfl ?_
          refine rb_icmp_ge C 78 dX8_pass_38 (by decide) (fun _ => ?_) (fun h9 => absurd ((cnt_le hv)) h9)
          refine rb_aload_n C dX8_pass_78 rfl ?_
          refine rw_getI C FR_X8_110 dX8_pass_79 rfl (x := 0) (hth) ?_
          refine rb_if_le C 89 dX8_pass_82 (by decide) (fun _ => ?_) (fun h9 => absurd (by decide) h9)
          refine rb_aload_n C dX8_pass_89 rfl ?_
          refine rw_getI C FR_X8_141 dX8_pass_90 rfl (x := ((fo m_pass_b mins.toNatClampNeg (up2 W (16, 0, 0) 0 0)) (16, 0, 0) 1)) (rfl) ?_
          exact rb_iret C E dX8_pass_93 (Nat.le_of_ble_eq_true rfl) (Nat.le_of_ble_eq_true rfl) (pp_ ((if_neg h8).trans ((if_pos h23).trans (rfl))))
        | succ d ih =>
          intro i s hi hs
          have hi9 : i < mins.toNatClampNeg := by omega
          have hth : s (16, 0, 0) 0 = 0 := by
            rw [hs]
            exact fo_inv (f := m_pass_b) (a := (up2 W (16, 0, 0) 0 0)) (P := fun w => w (16, 0, 0) 0 = 0) (up2_s _ _ _ _) (fun i a h => by unfold m_pass_b; split <;> simp [up2, m_begins_o, h]) _
          have hMs : MI s := by
            rw [hs]
            exact fo_inv (f := m_pass_b) (a := (up2 W (16, 0, 0) 0 0)) (P := MI) (mi_thr 0 hM) (fun i a h => by unfold m_pass_b; split; exact mi_begins (mi_now _ h); exact mi_now _ h) _
          refine rb_iload_n C dX8_pass_36 rfl ?_
          refine rb_iload_n C dX8_pass_37 rfl ?_
          refine rb_icmp_ge C 78 dX8_pass_38 (by decide) (fun h9 => absurd h9 ((cnt_nle hv (by decide) hi9))) (fun _ => ?_)
          refine rb_aload_n C dX8_pass_41 rfl ?_
          refine rw_getI C FR_X8_110 dX8_pass_42 rfl (x := 0) (hth) ?_
          refine rb_if_ne C 78 dX8_pass_45 (by decide) (fun h9 => absurd (by decide) h9) (fun _ => ?_)
          refine rb_aload_n C dX8_pass_48 rfl ?_
          refine rb_dup C dX8_pass_49 rfl ?_
          refine rw_getI C FR_X8_141 dX8_pass_50 rfl (x := (s (16, 0, 0) 1)) (rfl) ?_
          refine rb_iconst C dX8_pass_53 (v := 1) (by decide) ?_
          refine rb_iadd C dX8_pass_54 ?_
          refine rw_putI C F_X8_141 dX8_pass_55 rfl ⟨rfl, rfl⟩ ?_
          refine rb_aload_n C dX8_pass_58 rfl ?_
          refine rw_getI C FR_X8_141 dX8_pass_59 rfl (x := ((s (16, 0, 0) 1) + 1)) (up2_s _ _ _ _) ?_
          refine rb_bipush C dX8_pass_62 (v := 60) (by decide) ?_
          refine rb_irem C dX8_pass_64 (by decide) ?_
          refine rb_if_ne C 72 dX8_pass_65 (by decide) (fun h65 => ?_) (fun h65 => ?_)
          · refine rb_iinc C dX8_pass_72 rfl (v := _ + 1) rfl rfl (Lv' := [_, _, _]) rfl ?_
            refine rb_goto C 36 dX8_pass_75 (by decide) ?_
            rw [nI_1 i]
            exact ih (i + 1) (up2 s (16, 0, 0) 1 ((s (16, 0, 0) 1) + 1)) (by omega) (by rw [fo_s, ← hs]; exact Eq.symm ((if_neg h65).trans (rfl)))
          · refine rb_aload_n C dX8_pass_68 rfl ?_
            refine rb_callV C M_X8_202 (fun l X => (k_X8_begins l X G (up2 s (16, 0, 0) 1 ((s (16, 0, 0) 1) + 1)) hm (mi_now _ hMs)).m) rfl (Nat.le_of_ble_eq_true rfl) rfl dX8_pass_69 rfl rfl rfl (Nat.le_of_ble_eq_true rfl) ⟨(Nat.le_of_ble_eq_true rfl), (Nat.le_of_ble_eq_true rfl)⟩ (Nat.le_of_ble_eq_true rfl) (Nat.le_of_ble_eq_true rfl) (fun v G' hp => ?_) (fun _ _ hp => hp.elim)
            obtain ⟨rfl, e9⟩ := hp
            rw [e9]
            clear e9 G'
            refine rb_iinc C dX8_pass_72 rfl (v := _ + 1) rfl rfl (Lv' := [_, _, _]) rfl ?_
            refine rb_goto C 36 dX8_pass_75 (by decide) ?_
            rw [nI_1 i]
            exact ih (i + 1) (m_begins (up2 s (16, 0, 0) 1 ((s (16, 0, 0) 1) + 1))) (by omega) (by rw [fo_s, ← hs]; exact Eq.symm ((if_pos h65).trans (rfl)))
      exact loop mins.toNatClampNeg 0 (up2 W (16, 0, 0) 0 0) (Nat.zero_add _) (fo_0 _ _).symm
    · refine rb_iconst C dX8_pass_26 (v := 2) (by decide) ?_
      refine rb_goto C 31 dX8_pass_27 (by decide) ?_
      refine rw_putI C F_X8_110 dX8_pass_31 rfl ⟨rfl, rfl⟩ ?_
      refine rb_iconst C dX8_pass_34 (v := 0) (by decide) ?_
      refine rb_istore_n C dX8_pass_35 (Nat.le_of_ble_eq_true rfl) rfl (Lv' := [_, _, _]) rfl ?_
      refine rb_iload_n C dX8_pass_36 rfl ?_
      refine rb_iload_n C dX8_pass_37 rfl ?_
      refine rb_icmp_ge C 78 dX8_pass_38 (by decide) (fun h38 => ?_) (fun h38 => ?_)
      · refine rb_aload_n C dX8_pass_78 rfl ?_
        refine rw_getI C FR_X8_110 dX8_pass_79 rfl (x := 2) (up2_s _ _ _ _) ?_
        refine rb_if_le C 89 dX8_pass_82 (by decide) (fun h9 => absurd h9 (by decide)) (fun _ => ?_)
        refine rb_iconst C dX8_pass_85 (v := 0) (by decide) ?_
        refine rb_goto C 93 dX8_pass_86 (by decide) ?_
        exact rb_iret C E dX8_pass_93 (Nat.le_of_ble_eq_true rfl) (Nat.le_of_ble_eq_true rfl) (pp_ ((if_neg h8).trans ((if_neg h23).trans ((if_pos h38).trans (rfl)))))
      · refine rb_aload_n C dX8_pass_41 rfl ?_
        refine rw_getI C FR_X8_110 dX8_pass_42 rfl (x := 2) (up2_s _ _ _ _) ?_
        refine rb_if_ne C 78 dX8_pass_45 (by decide) (fun _ => ?_) (fun h9 => absurd h9 (by decide))
        refine rb_aload_n C dX8_pass_78 rfl ?_
        refine rw_getI C FR_X8_110 dX8_pass_79 rfl (x := 2) (up2_s _ _ _ _) ?_
        refine rb_if_le C 89 dX8_pass_82 (by decide) (fun h9 => absurd h9 (by decide)) (fun _ => ?_)
        refine rb_iconst C dX8_pass_85 (v := 0) (by decide) ?_
        refine rb_goto C 93 dX8_pass_86 (by decide) ?_
        exact rb_iret C E dX8_pass_93 (Nat.le_of_ble_eq_true rfl) (Nat.le_of_ble_eq_true rfl) (pp_ ((if_neg h8).trans ((if_neg h23).trans ((if_neg h38).trans (rfl)))))
  · refine rb_iconst C dX8_pass_11 (v := 1) (by decide) ?_
    refine rb_goto C 31 dX8_pass_12 (by decide) ?_
    refine rw_putI C F_X8_110 dX8_pass_31 rfl ⟨rfl, rfl⟩ ?_
    refine rb_iconst C dX8_pass_34 (v := 0) (by decide) ?_
    refine rb_istore_n C dX8_pass_35 (Nat.le_of_ble_eq_true rfl) rfl (Lv' := [_, _, _]) rfl ?_
    refine rb_iload_n C dX8_pass_36 rfl ?_
    refine rb_iload_n C dX8_pass_37 rfl ?_
    refine rb_icmp_ge C 78 dX8_pass_38 (by decide) (fun h38 => ?_) (fun h38 => ?_)
    · refine rb_aload_n C dX8_pass_78 rfl ?_
      refine rw_getI C FR_X8_110 dX8_pass_79 rfl (x := 1) (up2_s _ _ _ _) ?_
      refine rb_if_le C 89 dX8_pass_82 (by decide) (fun h9 => absurd h9 (by decide)) (fun _ => ?_)
      refine rb_iconst C dX8_pass_85 (v := 0) (by decide) ?_
      refine rb_goto C 93 dX8_pass_86 (by decide) ?_
      exact rb_iret C E dX8_pass_93 (Nat.le_of_ble_eq_true rfl) (Nat.le_of_ble_eq_true rfl) (pp_ ((if_pos h8).trans ((if_pos h38).trans (rfl))))
    · refine rb_aload_n C dX8_pass_41 rfl ?_
      refine rw_getI C FR_X8_110 dX8_pass_42 rfl (x := 1) (up2_s _ _ _ _) ?_
      refine rb_if_ne C 78 dX8_pass_45 (by decide) (fun _ => ?_) (fun h9 => absurd h9 (by decide))
      refine rb_aload_n C dX8_pass_78 rfl ?_
      refine rw_getI C FR_X8_110 dX8_pass_79 rfl (x := 1) (up2_s _ _ _ _) ?_
      refine rb_if_le C 89 dX8_pass_82 (by decide) (fun h9 => absurd h9 (by decide)) (fun _ => ?_)
      refine rb_iconst C dX8_pass_85 (v := 0) (by decide) ?_
      refine rb_goto C 93 dX8_pass_86 (by decide) ?_
      exact rb_iret C E dX8_pass_93 (Nat.le_of_ble_eq_true rfl) (Nat.le_of_ble_eq_true rfl) (pp_ ((if_pos h8).trans ((if_neg h38).trans (rfl))))

