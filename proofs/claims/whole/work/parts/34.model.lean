def m_emergency_b (W : rb_I) (u : Int32) (i : Nat) (s : Int32) : Int32 := (if s = (-1) then (if (m_isIn (W (14, 2, 0) (W (14, 17, 0) u.toNatClampNeg).toNatClampNeg) (nI i)) = 0 then s else (if (W (15, 3, 0) i) = 0 then (nI i) else s)) else s)
def m_emergency (W : rb_I) (u : Int32) : Int32 × rb_I := (if (m_isSubscriber W u) = 0 then (0, (up2 W (16, 0, 0) 0 1)) else ((fo (m_emergency_b W u) 6 (W (14, 19, 0) u.toNatClampNeg)), (up2 W (16, 0, 0) 0 0)))
set_option maxRecDepth 100000 in
set_option maxHeartbeats 4000000 in
theorem k_X8_emergency (l : Launch) (X : rb_X) (G : rb_G) (W : rb_I) (u : Int32) (hm : MS G) (hM : MI W) : rb_N l X yX8_emergency (.code yX8_emergency cX8_emergency 4 (some .int)) 3 55 0 0 [rbR (16, 0, 0), rbI u] (wI G W) (fun v9 G9 => v9 = some (rbI (m_emergency W u).1) ∧ G9 = wI G (m_emergency W u).2) := by
  refine rb_startN RX8 rfl (by decide +kernel) rfl (Nat.le_of_ble_eq_true rfl) ?_
  intro Φ C E nm
  show rb_W Φ 0 0 0 [some (rbR (16, 0, 0)), some (rbI u), none, none] [] (wI G W)
  refine rb_aload_n C dX8_emergency_0 rfl ?_
  refine rb_aload_n C dX8_emergency_1 rfl ?_
  refine rb_iload_n C dX8_emergency_2 rfl ?_
  refine rb_callV C M_X8_144 (fun l X => (k_X8_isSubscriber l X G W u).m) rfl (Nat.le_of_ble_eq_true rfl) rfl dX8_emergency_3 rfl rfl rfl (Nat.le_of_ble_eq_true rfl) ⟨(Nat.le_of_ble_eq_true rfl), (Nat.le_of_ble_eq_true rfl)⟩ (Nat.le_of_ble_eq_true rfl) (Nat.le_of_ble_eq_true rfl) (fun v G' hp => ?_) (fun _ _ hp => hp.elim)
  obtain ⟨rfl, e9⟩ := hp
  rw [e9]
  clear e9 G'
  refine rb_if_eq C 13 dX8_emergency_6 (by decide) (fun h6 => ?_) (fun h6 => ?_)
  · refine rb_iconst C dX8_emergency_13 (v := 1) (by decide) ?_
    refine rw_putI C F_X8_110 dX8_emergency_14 rfl ⟨rfl, rfl⟩ ?_
    refine rb_aload_n C dX8_emergency_17 rfl ?_
    refine rw_getI C FR_X8_110 dX8_emergency_18 rfl (x := 1) (up2_s _ _ _ _) ?_
    refine rb_if_le C 26 dX8_emergency_21 (by decide) (fun h9 => absurd h9 (by decide)) (fun _ => ?_)
    refine rb_iconst C dX8_emergency_24 (v := 0) (by decide) ?_
    exact rb_iret C E dX8_emergency_25 (Nat.le_of_ble_eq_true rfl) (Nat.le_of_ble_eq_true rfl) (pp_ ((if_pos h6).trans (rfl)))
  · refine rb_iconst C dX8_emergency_9 (v := 0) (by decide) ?_
    refine rb_goto C 14 dX8_emergency_10 (by decide) ?_
    refine rw_putI C F_X8_110 dX8_emergency_14 rfl ⟨rfl, rfl⟩ ?_
    refine rb_aload_n C dX8_emergency_17 rfl ?_
    refine rw_getI C FR_X8_110 dX8_emergency_18 rfl (x := 0) (up2_s _ _ _ _) ?_
    refine rb_if_le C 26 dX8_emergency_21 (by decide) (fun _ => ?_) (fun h9 => absurd (by decide) h9)
    have hu := isSub_in hM h6
    refine rb_aload_n C dX8_emergency_26 rfl ?_
    refine rw_getP C FR_X8_56 dX8_emergency_27 rfl (o := some (14, 19, 0)) (hm.1 19 (by decide)) ?_
    refine rb_iload_n C dX8_emergency_30 rfl ?_
    refine rw_iald C (x := (W (14, 19, 0) u.toNatClampNeg)) 10 u.toNatClampNeg dX8_emergency_31 rfl (hm.2 19 (by decide)) hu rfl ((up2_n _ _ _ _ (fun q => absurd (congrArg Prod.fst q.1) (show ¬ ((14 : Nat) = 16) by decide))).trans (rfl)) ?_
    refine rb_istore_n C dX8_emergency_32 (Nat.le_of_ble_eq_true rfl) rfl (Lv' := [_, _, _, _]) rfl ?_
    refine rb_iconst C dX8_emergency_33 (v := 0) (by decide) ?_
    refine rb_istore_n C dX8_emergency_34 (Nat.le_of_ble_eq_true rfl) rfl (Lv' := [_, _, _, _]) rfl ?_
    have loop : ∀ (d i : Nat) (s : Int32), i + d = 6 → s = fo (m_emergency_b W u) i (W (14, 19, 0) u.toNatClampNeg) → rb_W Φ 0 0 35 [some (rbR (16, 0, 0)), some (rbI u), some (rbI s), some (rbI (nI i))] [] (wI G (up2 W (16, 0, 0) 0 0)) := by
      intro d
      induction d with
      | zero =>
        intro i s hi hs
        obtain rfl : i = 6 := by omega
        subst hs
        refine rb_iload_n C dX8_emergency_35 rfl ?_
        refine rb_bipush C dX8_emergency_36 (v := 6) (by decide) ?_
        refine rb_icmp_ge C 85 dX8_emergency_38 (by decide) (fun _ => ?_) (fun h9 => absurd ((nI_le (a := 6) (b := 6) (Nat.le_refl _) (by decide))) h9)
        refine rb_iload_n C dX8_emergency_85 rfl ?_
        exact rb_iret C E dX8_emergency_86 (Nat.le_of_ble_eq_true rfl) (Nat.le_of_ble_eq_true rfl) (pp_ ((if_neg h6).trans (rfl)))
      | succ d ih =>
        intro i s hi hs
        have hi9 : i < 6 := by omega
        refine rb_iload_n C dX8_emergency_35 rfl ?_
        refine rb_bipush C dX8_emergency_36 (v := 6) (by decide) ?_
        refine rb_icmp_ge C 85 dX8_emergency_38 (by decide) (fun h9 => absurd h9 ((nI_ge (a := i) (b := 6) hi9 (by decide)))) (fun _ => ?_)
        refine rb_iload_n C dX8_emergency_41 rfl ?_
        refine rb_iconst C dX8_emergency_42 (v := (-1)) (by decide) ?_
        refine rb_icmp_ne C 77 dX8_emergency_43 (by decide) (fun h43 => ?_) (fun h43 => ?_)
        · refine rb_iload_n C dX8_emergency_77 rfl ?_
          refine rb_istore_n C dX8_emergency_78 (Nat.le_of_ble_eq_true rfl) rfl (Lv' := [_, _, _, _]) rfl ?_
          refine rb_iinc C dX8_emergency_79 rfl (v := _ + 1) rfl rfl (Lv' := [_, _, _, _]) rfl ?_
          refine rb_goto C 35 dX8_emergency_82 (by decide) ?_
          rw [nI_1 i]
          exact ih (i + 1) s (by omega) (by rw [fo_s, ← hs]; exact Eq.symm ((if_neg h43).trans (rfl)))
        · refine rb_aload_n C dX8_emergency_46 rfl ?_
          refine rw_getP C FR_X8_7 dX8_emergency_47 rfl (o := some (14, 2, 0)) (hm.1 2 (by decide)) ?_
          refine rb_aload_n C dX8_emergency_50 rfl ?_
          refine rw_getP C FR_X8_50 dX8_emergency_51 rfl (o := some (14, 17, 0)) (hm.1 17 (by decide)) ?_
          refine rb_iload_n C dX8_emergency_54 rfl ?_
          refine rw_iald C (x := (W (14, 17, 0) u.toNatClampNeg)) 10 u.toNatClampNeg dX8_emergency_55 rfl (hm.2 17 (by decide)) hu rfl ((up2_n _ _ _ _ (fun q => absurd (congrArg Prod.fst q.1) (show ¬ ((14 : Nat) = 16) by decide))).trans (rfl)) ?_
          refine rw_iald C (x := (W (14, 2, 0) (W (14, 17, 0) u.toNatClampNeg).toNatClampNeg)) 8 (W (14, 17, 0) u.toNatClampNeg).toNatClampNeg dX8_emergency_56 rfl (hm.2 2 (by decide)) (hM.2.1 u.toNatClampNeg) rfl ((up2_n _ _ _ _ (fun q => absurd (congrArg Prod.fst q.1) (show ¬ ((14 : Nat) = 16) by decide))).trans (rfl)) ?_
          refine rb_iload_n C dX8_emergency_57 rfl ?_
          refine rb_callS C M_X8_125 (fun l X => (k_X8_isIn l X G (up2 W (16, 0, 0) 0 0) (W (14, 2, 0) (W (14, 17, 0) u.toNatClampNeg).toNatClampNeg) (nI i)).m) dX8_emergency_58 rfl rfl rfl (Nat.le_of_ble_eq_true rfl) ⟨(Nat.le_of_ble_eq_true rfl), (Nat.le_of_ble_eq_true rfl)⟩ (Nat.le_of_ble_eq_true rfl) (Nat.le_of_ble_eq_true rfl) (fun v G' hp => ?_) (fun _ _ hp => hp.elim)
          obtain ⟨rfl, e9⟩ := hp
          rw [e9]
          clear e9 G'
          refine rb_if_eq C 77 dX8_emergency_61 (by decide) (fun h61 => ?_) (fun h61 => ?_)
          · refine rb_iload_n C dX8_emergency_77 rfl ?_
            refine rb_istore_n C dX8_emergency_78 (Nat.le_of_ble_eq_true rfl) rfl (Lv' := [_, _, _, _]) rfl ?_
            refine rb_iinc C dX8_emergency_79 rfl (v := _ + 1) rfl rfl (Lv' := [_, _, _, _]) rfl ?_
            refine rb_goto C 35 dX8_emergency_82 (by decide) ?_
            rw [nI_1 i]
            exact ih (i + 1) s (by omega) (by rw [fo_s, ← hs]; exact Eq.symm ((if_pos h43).trans ((if_pos h61).trans (rfl))))
          · refine rb_aload_n C dX8_emergency_64 rfl ?_
            refine rw_getP C FR_X8_13 dX8_emergency_65 rfl (o := some (15, 3, 0)) (hm.1 3 (by decide)) ?_
            refine rb_iload_n C dX8_emergency_68 rfl ?_
            refine rw_zald C (x := (W (15, 3, 0) i)) 6 i dX8_emergency_69 rfl (hm.2 3 (by decide)) (vp_in_nI (show i < 6 by omega) (by decide)) (nI_clamp (show i < 2 ^ 31 by omega)) ((up2_n _ _ _ _ (fun q => absurd (congrArg Prod.fst q.1) (show ¬ ((15 : Nat) = 16) by decide))).trans (rfl)) ?_
            refine rb_if_ne C 77 dX8_emergency_70 (by decide) (fun h70 => ?_) (fun h70 => ?_)
            · refine rb_iload_n C dX8_emergency_77 rfl ?_
              refine rb_istore_n C dX8_emergency_78 (Nat.le_of_ble_eq_true rfl) rfl (Lv' := [_, _, _, _]) rfl ?_
              refine rb_iinc C dX8_emergency_79 rfl (v := _ + 1) rfl rfl (Lv' := [_, _, _, _]) rfl ?_
              refine rb_goto C 35 dX8_emergency_82 (by decide) ?_
              rw [nI_1 i]
              exact ih (i + 1) s (by omega) (by rw [fo_s, ← hs]; exact Eq.symm ((if_pos h43).trans ((if_neg h61).trans ((if_neg h70).trans (rfl)))))
            · refine rb_iload_n C dX8_emergency_73 rfl ?_
              refine rb_goto C 78 dX8_emergency_74 (by decide) ?_
              refine rb_istore_n C dX8_emergency_78 (Nat.le_of_ble_eq_true rfl) rfl (Lv' := [_, _, _, _]) rfl ?_
              refine rb_iinc C dX8_emergency_79 rfl (v := _ + 1) rfl rfl (Lv' := [_, _, _, _]) rfl ?_
              refine rb_goto C 35 dX8_emergency_82 (by decide) ?_
              rw [nI_1 i]
              exact ih (i + 1) (nI i) (by omega) (by rw [fo_s, ← hs]; exact Eq.symm ((if_pos h43).trans ((if_neg h61).trans ((if_pos h70).trans (rfl)))))
    exact loop 6 0 (W (14, 19, 0) u.toNatClampNeg) (Nat.zero_add _) (fo_0 _ _).symm

def m_agrees_b (W : rb_I) (u : Int32) (i : Nat) (s : Int32) : Int32 := (if s = 0 then (0 : Int32) else (if (W (14, 27, 0) (10 * i + u.toNatClampNeg)) = (-1) then (if (nI i) = (W (14, 19, 0) u.toNatClampNeg) then (0 : Int32) else (1 : Int32)) else (if (nI i) = (W (14, 19, 0) u.toNatClampNeg) then (1 : Int32) else (0 : Int32))))
theorem mi_now {W : rb_I} (v : Int32) (hM : MI W) : MI (up2 W (16, 0, 0) 1 v) := by
  unfold MI at *
  simpa [up2] using hM
theorem z_agrees (W : rb_I) (u : Int32) {x : Int32} (hx : x = 0 ∨ x = 1) : fo (m_agrees_b W u) 6 x = 0 ∨ fo (m_agrees_b W u) 6 x = 1 := by
  refine fo_inv (f := m_agrees_b W u) (a := x) (P := fun x => x = 0 ∨ x = 1) hx (fun i a h => ?_) 6
  unfold m_agrees_b
  repeat (any_goals split)
  all_goals first | exact Or.inl rfl | exact Or.inr rfl | exact h
def m_agrees (W : rb_I) (u : Int32) : Int32 × rb_I := (if (m_isSubscriber W u) = 0 then (0, (up2 W (16, 0, 0) 0 1)) else (if (W (14, 19, 0) u.toNatClampNeg) = (-1) then ((fo (m_agrees_b W u) 6 (1 : Int32)), (up2 W (16, 0, 0) 0 0)) else (if (W (14, 21, 0) u.toNatClampNeg) = (W (14, 19, 0) u.toNatClampNeg) then ((fo (m_agrees_b W u) 6 (1 : Int32)), (up2 W (16, 0, 0) 0 0)) else ((fo (m_agrees_b W u) 6 (0 : Int32)), (up2 W (16, 0, 0) 0 0)))))
set_option maxRecDepth 100000 in
set_option maxHeartbeats 4000000 in
theorem k_X8_agrees (l : Launch) (X : rb_X) (G : rb_G) (W : rb_I) (u : Int32) (hm : MS G) (hM : MI W) : rb_N l X yX8_agrees (.code yX8_agrees cX8_agrees 5 (some .boolean)) 3 55 0 0 [rbR (16, 0, 0), rbI u] (wI G W) (fun v9 G9 => v9 = some (rbI (m_agrees W u).1) ∧ G9 = wI G (m_agrees W u).2) := by
  refine rb_startN RX8 rfl (by decide +kernel) rfl (Nat.le_of_ble_eq_true rfl) ?_
  intro Φ C E nm
  show rb_W Φ 0 0 0 [some (rbR (16, 0, 0)), some (rbI u), none, none, none] [] (wI G W)
  refine rb_aload_n C dX8_agrees_0 rfl ?_
  refine rb_aload_n C dX8_agrees_1 rfl ?_
  refine rb_iload_n C dX8_agrees_2 rfl ?_
  refine rb_callV C M_X8_144 (fun l X => (k_X8_isSubscriber l X G W u).m) rfl (Nat.le_of_ble_eq_true rfl) rfl dX8_agrees_3 rfl rfl rfl (Nat.le_of_ble_eq_true rfl) ⟨(Nat.le_of_ble_eq_true rfl), (Nat.le_of_ble_eq_true rfl)⟩ (Nat.le_of_ble_eq_true rfl) (Nat.le_of_ble_eq_true rfl) (fun v G' hp => ?_) (fun _ _ hp => hp.elim)
  obtain ⟨rfl, e9⟩ := hp
  rw [e9]
  clear e9 G'
  refine rb_if_eq C 13 dX8_agrees_6 (by decide) (fun h6 => ?_) (fun h6 => ?_)
  · refine rb_iconst C dX8_agrees_13 (v := 1) (by decide) ?_
    refine rw_putI C F_X8_110 dX8_agrees_14 rfl ⟨rfl, rfl⟩ ?_
    refine rb_aload_n C dX8_agrees_17 rfl ?_
    refine rw_getI C FR_X8_110 dX8_agrees_18 rfl (x := 1) (up2_s _ _ _ _) ?_
    refine rb_if_le C 26 dX8_agrees_21 (by decide) (fun h9 => absurd h9 (by decide)) (fun _ => ?_)
    refine rb_iconst C dX8_agrees_24 (v := 0) (by decide) ?_
    exact rb_zret C E dX8_agrees_25 (rfl) (Nat.le_of_ble_eq_true rfl) (Nat.le_of_ble_eq_true rfl) (pp_ ((if_pos h6).trans (rfl)))
  · refine rb_iconst C dX8_agrees_9 (v := 0) (by decide) ?_
    refine rb_goto C 14 dX8_agrees_10 (by decide) ?_
    refine rw_putI C F_X8_110 dX8_agrees_14 rfl ⟨rfl, rfl⟩ ?_
    refine rb_aload_n C dX8_agrees_17 rfl ?_
    refine rw_getI C FR_X8_110 dX8_agrees_18 rfl (x := 0) (up2_s _ _ _ _) ?_
    refine rb_if_le C 26 dX8_agrees_21 (by decide) (fun _ => ?_) (fun h9 => absurd (by decide) h9)
    have hu := isSub_in hM h6
    refine rb_aload_n C dX8_agrees_26 rfl ?_
    refine rw_getP C FR_X8_56 dX8_agrees_27 rfl (o := some (14, 19, 0)) (hm.1 19 (by decide)) ?_
    refine rb_iload_n C dX8_agrees_30 rfl ?_
    refine rw_iald C (x := (W (14, 19, 0) u.toNatClampNeg)) 10 u.toNatClampNeg dX8_agrees_31 rfl (hm.2 19 (by decide)) hu rfl ((up2_n _ _ _ _ (fun q => absurd (congrArg Prod.fst q.1) (show ¬ ((14 : Nat) = 16) by decide))).trans (rfl)) ?_
    refine rb_istore_n C dX8_agrees_32 (Nat.le_of_ble_eq_true rfl) rfl (Lv' := [_, _, _, _, _]) rfl ?_
    refine rb_iload_n C dX8_agrees_33 rfl ?_
    refine rb_iconst C dX8_agrees_34 (v := (-1)) (by decide) ?_
    refine rb_icmp_eq C 48 dX8_agrees_35 (by decide) (fun h35 => ?_) (fun h35 => ?_)
    · refine rb_iconst C dX8_agrees_48 (v := 1) (by decide) ?_
      refine rb_goto C 53 dX8_agrees_49 (by decide) ?_
      refine rb_istore_n C dX8_agrees_53 (Nat.le_of_ble_eq_true rfl) rfl (Lv' := [_, _, _, _, _]) rfl ?_
      refine rb_iconst C dX8_agrees_54 (v := 0) (by decide) ?_
      refine rb_istore C dX8_agrees_55 (Nat.le_of_ble_eq_true rfl) rfl (Lv' := [_, _, _, _, _]) rfl ?_
      have loop : ∀ (d i : Nat) (s : Int32), i + d = 6 → s = fo (m_agrees_b W u) i (1 : Int32) → rb_W Φ 0 0 57 [some (rbR (16, 0, 0)), some (rbI u), some (rbI (W (14, 19, 0) u.toNatClampNeg)), some (rbI s), some (rbI (nI i))] [] (wI G (up2 W (16, 0, 0) 0 0)) := by
        intro d
        induction d with
        | zero =>
          intro i s hi hs
          obtain rfl : i = 6 := by omega
          subst hs
          refine rb_iload C dX8_agrees_57 rfl ?_
          refine rb_bipush C dX8_agrees_59 (v := 6) (by decide) ?_
          refine rb_icmp_ge C 115 dX8_agrees_61 (by decide) (fun _ => ?_) (fun h9 => absurd ((nI_le (a := 6) (b := 6) (Nat.le_refl _) (by decide))) h9)
          refine rb_iload_n C dX8_agrees_115 rfl ?_
          exact rb_zret C E dX8_agrees_116 (nz_ (z_agrees W u (by first | exact Or.inl rfl | exact Or.inr rfl))) (Nat.le_of_ble_eq_true rfl) (Nat.le_of_ble_eq_true rfl) (pp_ ((if_neg h6).trans ((if_pos h35).trans (rfl))))
        | succ d ih =>
          intro i s hi hs
          have hi9 : i < 6 := by omega
          refine rb_iload C dX8_agrees_57 rfl ?_
          refine rb_bipush C dX8_agrees_59 (v := 6) (by decide) ?_
          refine rb_icmp_ge C 115 dX8_agrees_61 (by decide) (fun h9 => absurd h9 ((nI_ge (a := i) (b := 6) hi9 (by decide)))) (fun _ => ?_)
          refine rb_iload_n C dX8_agrees_64 rfl ?_
          refine rb_if_eq C 107 dX8_agrees_65 (by decide) (fun h65 => ?_) (fun h65 => ?_)
          · refine rb_iconst C dX8_agrees_107 (v := 0) (by decide) ?_
            refine rb_istore_n C dX8_agrees_108 (Nat.le_of_ble_eq_true rfl) rfl (Lv' := [_, _, _, _, _]) rfl ?_
            refine rb_iinc C dX8_agrees_109 rfl (v := _ + 1) rfl rfl (Lv' := [_, _, _, _, _]) rfl ?_
            refine rb_goto C 57 dX8_agrees_112 (by decide) ?_
            rw [nI_1 i]
            exact ih (i + 1) (0 : Int32) (by omega) (by rw [fo_s, ← hs]; exact Eq.symm ((if_pos h65).trans (rfl)))
          · refine rb_aload_n C dX8_agrees_68 rfl ?_
            refine rw_getP C FR_X8_80 dX8_agrees_69 rfl (o := some (14, 27, 0)) (hm.1 27 (by decide)) ?_
            refine rb_bipush C dX8_agrees_72 (v := 10) (by decide) ?_
            refine rb_iload C dX8_agrees_74 rfl ?_
            refine rb_imul C dX8_agrees_76 ?_
            refine rb_iload_n C dX8_agrees_77 rfl ?_
            refine rb_iadd C dX8_agrees_78 ?_
            refine rw_iald C (x := (W (14, 27, 0) (10 * i + u.toNatClampNeg))) 60 (10 * i + u.toNatClampNeg) dX8_agrees_79 rfl (hm.2 27 (by decide)) (ix_lin (N := 60) 10 10 rfl (vp_in_nI (show i < 6 by omega) (by decide)) hu (by decide) (by decide) (by decide)).1 ((ix_lin (N := 60) 10 10 rfl (vp_in_nI (show i < 6 by omega) (by decide)) hu (by decide) (by decide) (by decide)).2.trans (by rw [(nI_clamp (show i < 2 ^ 31 by omega)), (show (u).toNatClampNeg = u.toNatClampNeg from rfl)])) ((up2_n _ _ _ _ (fun q => absurd (congrArg Prod.fst q.1) (show ¬ ((14 : Nat) = 16) by decide))).trans (rfl)) ?_
            refine rb_iconst C dX8_agrees_80 (v := (-1)) (by decide) ?_
            refine rb_icmp_eq C 88 dX8_agrees_81 (by decide) (fun h81 => ?_) (fun h81 => ?_)
            · refine rb_iconst C dX8_agrees_88 (v := 0) (by decide) ?_
              refine rb_iload C dX8_agrees_89 rfl ?_
              refine rb_iload_n C dX8_agrees_91 rfl ?_
              refine rb_icmp_ne C 99 dX8_agrees_92 (by decide) (fun h92 => ?_) (fun h92 => ?_)
              · refine rb_iconst C dX8_agrees_99 (v := 0) (by decide) ?_
                refine rb_icmp_ne C 107 dX8_agrees_100 (by decide) (fun h9 => absurd (by decide) h9) (fun _ => ?_)
                refine rb_iconst C dX8_agrees_103 (v := 1) (by decide) ?_
                refine rb_goto C 108 dX8_agrees_104 (by decide) ?_
                refine rb_istore_n C dX8_agrees_108 (Nat.le_of_ble_eq_true rfl) rfl (Lv' := [_, _, _, _, _]) rfl ?_
                refine rb_iinc C dX8_agrees_109 rfl (v := _ + 1) rfl rfl (Lv' := [_, _, _, _, _]) rfl ?_
                refine rb_goto C 57 dX8_agrees_112 (by decide) ?_
                rw [nI_1 i]
                exact ih (i + 1) (1 : Int32) (by omega) (by rw [fo_s, ← hs]; exact Eq.symm ((if_neg h65).trans ((if_pos h81).trans ((if_neg h92).trans (rfl)))))
              · refine rb_iconst C dX8_agrees_95 (v := 1) (by decide) ?_
                refine rb_goto C 100 dX8_agrees_96 (by decide) ?_
                refine rb_icmp_ne C 107 dX8_agrees_100 (by decide) (fun _ => ?_) (fun h9 => absurd h9 (by decide))
                refine rb_iconst C dX8_agrees_107 (v := 0) (by decide) ?_
                refine rb_istore_n C dX8_agrees_108 (Nat.le_of_ble_eq_true rfl) rfl (Lv' := [_, _, _, _, _]) rfl ?_
                refine rb_iinc C dX8_agrees_109 rfl (v := _ + 1) rfl rfl (Lv' := [_, _, _, _, _]) rfl ?_
                refine rb_goto C 57 dX8_agrees_112 (by decide) ?_
                rw [nI_1 i]
                exact ih (i + 1) (0 : Int32) (by omega) (by rw [fo_s, ← hs]; exact Eq.symm ((if_neg h65).trans ((if_pos h81).trans ((if_pos h92).trans (rfl)))))
            · refine rb_iconst C dX8_agrees_84 (v := 1) (by decide) ?_
              refine rb_goto C 89 dX8_agrees_85 (by decide) ?_
              refine rb_iload C dX8_agrees_89 rfl ?_
              refine rb_iload_n C dX8_agrees_91 rfl ?_
              refine rb_icmp_ne C 99 dX8_agrees_92 (by decide) (fun h92 => ?_) (fun h92 => ?_)
              · refine rb_iconst C dX8_agrees_99 (v := 0) (by decide) ?_
                refine rb_icmp_ne C 107 dX8_agrees_100 (by decide) (fun _ => ?_) (fun h9 => absurd h9 (by decide))
                refine rb_iconst C dX8_agrees_107 (v := 0) (by decide) ?_
                refine rb_istore_n C dX8_agrees_108 (Nat.le_of_ble_eq_true rfl) rfl (Lv' := [_, _, _, _, _]) rfl ?_
                refine rb_iinc C dX8_agrees_109 rfl (v := _ + 1) rfl rfl (Lv' := [_, _, _, _, _]) rfl ?_
                refine rb_goto C 57 dX8_agrees_112 (by decide) ?_
                rw [nI_1 i]
                exact ih (i + 1) (0 : Int32) (by omega) (by rw [fo_s, ← hs]; exact Eq.symm ((if_neg h65).trans ((if_neg h81).trans ((if_neg h92).trans (rfl)))))
              · refine rb_iconst C dX8_agrees_95 (v := 1) (by decide) ?_
                refine rb_goto C 100 dX8_agrees_96 (by decide) ?_
                refine rb_icmp_ne C 107 dX8_agrees_100 (by decide) (fun h9 => absurd (by decide) h9) (fun _ => ?_)
                refine rb_iconst C dX8_agrees_103 (v := 1) (by decide) ?_
                refine rb_goto C 108 dX8_agrees_104 (by decide) ?_
                refine rb_istore_n C dX8_agrees_108 (Nat.le_of_ble_eq_true rfl) rfl (Lv' := [_, _, _, _, _]) rfl ?_
                refine rb_iinc C dX8_agrees_109 rfl (v := _ + 1) rfl rfl (Lv' := [_, _, _, _, _]) rfl ?_
                refine rb_goto C 57 dX8_agrees_112 (by decide) ?_
                rw [nI_1 i]
                exact ih (i + 1) (1 : Int32) (by omega) (by rw [fo_s, ← hs]; exact Eq.symm ((if_neg h65).trans ((if_neg h81).trans ((if_pos h92).trans (rfl)))))
      exact loop 6 0 (1 : Int32) (Nat.zero_add _) (fo_0 _ _).symm
    · refine rb_aload_n C dX8_agrees_38 rfl ?_
      refine rw_getP C FR_X8_62 dX8_agrees_39 rfl (o := some (14, 21, 0)) (hm.1 21 (by decide)) ?_
      refine rb_iload_n C dX8_agrees_42 rfl ?_
      refine rw_iald C (x := (W (14, 21, 0) u.toNatClampNeg)) 10 u.toNatClampNeg dX8_agrees_43 rfl (hm.2 21 (by decide)) hu rfl ((up2_n _ _ _ _ (fun q => absurd (congrArg Prod.fst q.1) (show ¬ ((14 : Nat) = 16) by decide))).trans (rfl)) ?_
      refine rb_iload_n C dX8_agrees_44 rfl ?_
      refine rb_icmp_ne C 52 dX8_agrees_45 (by decide) (fun h45 => ?_) (fun h45 => ?_)
      · refine rb_iconst C dX8_agrees_52 (v := 0) (by decide) ?_
        refine rb_istore_n C dX8_agrees_53 (Nat.le_of_ble_eq_true rfl) rfl (Lv' := [_, _, _, _, _]) rfl ?_
        refine rb_iconst C dX8_agrees_54 (v := 0) (by decide) ?_
        refine rb_istore C dX8_agrees_55 (Nat.le_of_ble_eq_true rfl) rfl (Lv' := [_, _, _, _, _]) rfl ?_
        have loop : ∀ (d i : Nat) (s : Int32), i + d = 6 → s = fo (m_agrees_b W u) i (0 : Int32) → rb_W Φ 0 0 57 [some (rbR (16, 0, 0)), some (rbI u), some (rbI (W (14, 19, 0) u.toNatClampNeg)), some (rbI s), some (rbI (nI i))] [] (wI G (up2 W (16, 0, 0) 0 0)) := by
          intro d
          induction d with
          | zero =>
            intro i s hi hs
            obtain rfl : i = 6 := by omega
            subst hs
            refine rb_iload C dX8_agrees_57 rfl ?_
            refine rb_bipush C dX8_agrees_59 (v := 6) (by decide) ?_
            refine rb_icmp_ge C 115 dX8_agrees_61 (by decide) (fun _ => ?_) (fun h9 => absurd ((nI_le (a := 6) (b := 6) (Nat.le_refl _) (by decide))) h9)
            refine rb_iload_n C dX8_agrees_115 rfl ?_
            exact rb_zret C E dX8_agrees_116 (nz_ (z_agrees W u (by first | exact Or.inl rfl | exact Or.inr rfl))) (Nat.le_of_ble_eq_true rfl) (Nat.le_of_ble_eq_true rfl) (pp_ ((if_neg h6).trans ((if_neg h35).trans ((if_neg h45).trans (rfl)))))
          | succ d ih =>
            intro i s hi hs
            have hi9 : i < 6 := by omega
            refine rb_iload C dX8_agrees_57 rfl ?_
            refine rb_bipush C dX8_agrees_59 (v := 6) (by decide) ?_
            refine rb_icmp_ge C 115 dX8_agrees_61 (by decide) (fun h9 => absurd h9 ((nI_ge (a := i) (b := 6) hi9 (by decide)))) (fun _ => ?_)
            refine rb_iload_n C dX8_agrees_64 rfl ?_
            refine rb_if_eq C 107 dX8_agrees_65 (by decide) (fun h65 => ?_) (fun h65 => ?_)
            · refine rb_iconst C dX8_agrees_107 (v := 0) (by decide) ?_
              refine rb_istore_n C dX8_agrees_108 (Nat.le_of_ble_eq_true rfl) rfl (Lv' := [_, _, _, _, _]) rfl ?_
              refine rb_iinc C dX8_agrees_109 rfl (v := _ + 1) rfl rfl (Lv' := [_, _, _, _, _]) rfl ?_
              refine rb_goto C 57 dX8_agrees_112 (by decide) ?_
              rw [nI_1 i]
              exact ih (i + 1) (0 : Int32) (by omega) (by rw [fo_s, ← hs]; exact Eq.symm ((if_pos h65).trans (rfl)))
            · refine rb_aload_n C dX8_agrees_68 rfl ?_
              refine rw_getP C FR_X8_80 dX8_agrees_69 rfl (o := some (14, 27, 0)) (hm.1 27 (by decide)) ?_
              refine rb_bipush C dX8_agrees_72 (v := 10) (by decide) ?_
              refine rb_iload C dX8_agrees_74 rfl ?_
              refine rb_imul C dX8_agrees_76 ?_
              refine rb_iload_n C dX8_agrees_77 rfl ?_
              refine rb_iadd C dX8_agrees_78 ?_
              refine rw_iald C (x := (W (14, 27, 0) (10 * i + u.toNatClampNeg))) 60 (10 * i + u.toNatClampNeg) dX8_agrees_79 rfl (hm.2 27 (by decide)) (ix_lin (N := 60) 10 10 rfl (vp_in_nI (show i < 6 by omega) (by decide)) hu (by decide) (by decide) (by decide)).1 ((ix_lin (N := 60) 10 10 rfl (vp_in_nI (show i < 6 by omega) (by decide)) hu (by decide) (by decide) (by decide)).2.trans (by rw [(nI_clamp (show i < 2 ^ 31 by omega)), (show (u).toNatClampNeg = u.toNatClampNeg from rfl)])) ((up2_n _ _ _ _ (fun q => absurd (congrArg Prod.fst q.1) (show ¬ ((14 : Nat) = 16) by decide))).trans (rfl)) ?_
              refine rb_iconst C dX8_agrees_80 (v := (-1)) (by decide) ?_
              refine rb_icmp_eq C 88 dX8_agrees_81 (by decide) (fun h81 => ?_) (fun h81 => ?_)
              · refine rb_iconst C dX8_agrees_88 (v := 0) (by decide) ?_
                refine rb_iload C dX8_agrees_89 rfl ?_
                refine rb_iload_n C dX8_agrees_91 rfl ?_
                refine rb_icmp_ne C 99 dX8_agrees_92 (by decide) (fun h92 => ?_) (fun h92 => ?_)
                · refine rb_iconst C dX8_agrees_99 (v := 0) (by decide) ?_
                  refine rb_icmp_ne C 107 dX8_agrees_100 (by decide) (fun h9 => absurd (by decide) h9) (fun _ => ?_)
                  refine rb_iconst C dX8_agrees_103 (v := 1) (by decide) ?_
                  refine rb_goto C 108 dX8_agrees_104 (by decide) ?_
                  refine rb_istore_n C dX8_agrees_108 (Nat.le_of_ble_eq_true rfl) rfl (Lv' := [_, _, _, _, _]) rfl ?_
                  refine rb_iinc C dX8_agrees_109 rfl (v := _ + 1) rfl rfl (Lv' := [_, _, _, _, _]) rfl ?_
                  refine rb_goto C 57 dX8_agrees_112 (by decide) ?_
                  rw [nI_1 i]
                  exact ih (i + 1) (1 : Int32) (by omega) (by rw [fo_s, ← hs]; exact Eq.symm ((if_neg h65).trans ((if_pos h81).trans ((if_neg h92).trans (rfl)))))
                · refine rb_iconst C dX8_agrees_95 (v := 1) (by decide) ?_
                  refine rb_goto C 100 dX8_agrees_96 (by decide) ?_
                  refine rb_icmp_ne C 107 dX8_agrees_100 (by decide) (fun _ => ?_) (fun h9 => absurd h9 (by decide))
                  refine rb_iconst C dX8_agrees_107 (v := 0) (by decide) ?_
                  refine rb_istore_n C dX8_agrees_108 (Nat.le_of_ble_eq_true rfl) rfl (Lv' := [_, _, _, _, _]) rfl ?_
                  refine rb_iinc C dX8_agrees_109 rfl (v := _ + 1) rfl rfl (Lv' := [_, _, _, _, _]) rfl ?_
                  refine rb_goto C 57 dX8_agrees_112 (by decide) ?_
                  rw [nI_1 i]
                  exact ih (i + 1) (0 : Int32) (by omega) (by rw [fo_s, ← hs]; exact Eq.symm ((if_neg h65).trans ((if_pos h81).trans ((if_pos h92).trans (rfl)))))
              · refine rb_iconst C dX8_agrees_84 (v := 1) (by decide) ?_
                refine rb_goto C 89 dX8_agrees_85 (by decide) ?_
                refine rb_iload C dX8_agrees_89 rfl ?_
                refine rb_iload_n C dX8_agrees_91 rfl ?_
                refine rb_icmp_ne C 99 dX8_agrees_92 (by decide) (fun h92 => ?_) (fun h92 => ?_)
                · refine rb_iconst C dX8_agrees_99 (v := 0) (by decide) ?_
                  refine rb_icmp_ne C 107 dX8_agrees_100 (by decide) (fun _ => ?_) (fun h9 => absurd h9 (by decide))
                  refine rb_iconst C dX8_agrees_107 (v := 0) (by decide) ?_
                  refine rb_istore_n C dX8_agrees_108 (Nat.le_of_ble_eq_true rfl) rfl (Lv' := [_, _, _, _, _]) rfl ?_
                  refine rb_iinc C dX8_agrees_109 rfl (v := _ + 1) rfl rfl (Lv' := [_, _, _, _, _]) rfl ?_
                  refine rb_goto C 57 dX8_agrees_112 (by decide) ?_
                  rw [nI_1 i]
                  exact ih (i + 1) (0 : Int32) (by omega) (by rw [fo_s, ← hs]; exact Eq.symm ((if_neg h65).trans ((if_neg h81).trans ((if_neg h92).trans (rfl)))))
                · refine rb_iconst C dX8_agrees_95 (v := 1) (by decide) ?_
                  refine rb_goto C 100 dX8_agrees_96 (by decide) ?_
                  refine rb_icmp_ne C 107 dX8_agrees_100 (by decide) (fun h9 => absurd (by decide) h9) (fun _ => ?_)
                  refine rb_iconst C dX8_agrees_103 (v := 1) (by decide) ?_
                  refine rb_goto C 108 dX8_agrees_104 (by decide) ?_
                  refine rb_istore_n C dX8_agrees_108 (Nat.le_of_ble_eq_true rfl) rfl (Lv' := [_, _, _, _, _]) rfl ?_
                  refine rb_iinc C dX8_agrees_109 rfl (v := _ + 1) rfl rfl (Lv' := [_, _, _, _, _]) rfl ?_
                  refine rb_goto C 57 dX8_agrees_112 (by decide) ?_
                  rw [nI_1 i]
                  exact ih (i + 1) (1 : Int32) (by omega) (by rw [fo_s, ← hs]; exact Eq.symm ((if_neg h65).trans ((if_neg h81).trans ((if_pos h92).trans (rfl)))))
        exact loop 6 0 (0 : Int32) (Nat.zero_add _) (fo_0 _ _).symm
      · refine rb_iconst C dX8_agrees_48 (v := 1) (by decide) ?_
        refine rb_goto C 53 dX8_agrees_49 (by decide) ?_
        refine rb_istore_n C dX8_agrees_53 (Nat.le_of_ble_eq_true rfl) rfl (Lv' := [_, _, _, _, _]) rfl ?_
        refine rb_iconst C dX8_agrees_54 (v := 0) (by decide) ?_
        refine rb_istore C dX8_agrees_55 (Nat.le_of_ble_eq_true rfl) rfl (Lv' := [_, _, _, _, _]) rfl ?_
        have loop : ∀ (d i : Nat) (s : Int32), i + d = 6 → s = fo (m_agrees_b W u) i (1 : Int32) → rb_W Φ 0 0 57 [some (rbR (16, 0, 0)), some (rbI u), some (rbI (W (14, 19, 0) u.toNatClampNeg)), some (rbI s), some (rbI (nI i))] [] (wI G (up2 W (16, 0, 0) 0 0)) := by
          intro d
          induction d with
          | zero =>
            intro i s hi hs
            obtain rfl : i = 6 := by omega
            subst hs
            refine rb_iload C dX8_agrees_57 rfl ?_
            refine rb_bipush C dX8_agrees_59 (v := 6) (by decide) ?_
            refine rb_icmp_ge C 115 dX8_agrees_61 (by decide) (fun _ => ?_) (fun h9 => absurd ((nI_le (a := 6) (b := 6) (Nat.le_refl _) (by decide))) h9)
            refine rb_iload_n C dX8_agrees_115 rfl ?_
            exact rb_zret C E dX8_agrees_116 (nz_ (z_agrees W u (by first | exact Or.inl rfl | exact Or.inr rfl))) (Nat.le_of_ble_eq_true rfl) (Nat.le_of_ble_eq_true rfl) (pp_ ((if_neg h6).trans ((if_neg h35).trans ((if_pos h45).trans (rfl)))))
          | succ d ih =>
            intro i s hi hs
            have hi9 : i < 6 := by omega
            refine rb_iload C dX8_agrees_57 rfl ?_
            refine rb_bipush C dX8_agrees_59 (v := 6) (by decide) ?_
            refine rb_icmp_ge C 115 dX8_agrees_61 (by decide) (fun h9 => absurd h9 ((nI_ge (a := i) (b := 6) hi9 (by decide)))) (fun _ => ?_)
            refine rb_iload_n C dX8_agrees_64 rfl ?_
            refine rb_if_eq C 107 dX8_agrees_65 (by decide) (fun h65 => ?_) (fun h65 => ?_)
            · refine rb_iconst C dX8_agrees_107 (v := 0) (by decide) ?_
              refine rb_istore_n C dX8_agrees_108 (Nat.le_of_ble_eq_true rfl) rfl (Lv' := [_, _, _, _, _]) rfl ?_
              refine rb_iinc C dX8_agrees_109 rfl (v := _ + 1) rfl rfl (Lv' := [_, _, _, _, _]) rfl ?_
              refine rb_goto C 57 dX8_agrees_112 (by decide) ?_
              rw [nI_1 i]
              exact ih (i + 1) (0 : Int32) (by omega) (by rw [fo_s, ← hs]; exact Eq.symm ((if_pos h65).trans (rfl)))
            · refine rb_aload_n C dX8_agrees_68 rfl ?_
              refine rw_getP C FR_X8_80 dX8_agrees_69 rfl (o := some (14, 27, 0)) (hm.1 27 (by decide)) ?_
              refine rb_bipush C dX8_agrees_72 (v := 10) (by decide) ?_
              refine rb_iload C dX8_agrees_74 rfl ?_
              refine rb_imul C dX8_agrees_76 ?_
              refine rb_iload_n C dX8_agrees_77 rfl ?_
              refine rb_iadd C dX8_agrees_78 ?_
              refine rw_iald C (x := (W (14, 27, 0) (10 * i + u.toNatClampNeg))) 60 (10 * i + u.toNatClampNeg) dX8_agrees_79 rfl (hm.2 27 (by decide)) (ix_lin (N := 60) 10 10 rfl (vp_in_nI (show i < 6 by omega) (by decide)) hu (by decide) (by decide) (by decide)).1 ((ix_lin (N := 60) 10 10 rfl (vp_in_nI (show i < 6 by omega) (by decide)) hu (by decide) (by decide) (by decide)).2.trans (by rw [(nI_clamp (show i < 2 ^ 31 by omega)), (show (u).toNatClampNeg = u.toNatClampNeg from rfl)])) ((up2_n _ _ _ _ (fun q => absurd (congrArg Prod.fst q.1) (show ¬ ((14 : Nat) = 16) by decide))).trans (rfl)) ?_
              refine rb_iconst C dX8_agrees_80 (v := (-1)) (by decide) ?_
              refine rb_icmp_eq C 88 dX8_agrees_81 (by decide) (fun h81 => ?_) (fun h81 => ?_)
              · refine rb_iconst C dX8_agrees_88 (v := 0) (by decide) ?_
                refine rb_iload C dX8_agrees_89 rfl ?_
                refine rb_iload_n C dX8_agrees_91 rfl ?_
                refine rb_icmp_ne C 99 dX8_agrees_92 (by decide) (fun h92 => ?_) (fun h92 => ?_)
                · refine rb_iconst C dX8_agrees_99 (v := 0) (by decide) ?_
                  refine rb_icmp_ne C 107 dX8_agrees_100 (by decide) (fun h9 => absurd (by decide) h9) (fun _ => ?_)
                  refine rb_iconst C dX8_agrees_103 (v := 1) (by decide) ?_
                  refine rb_goto C 108 dX8_agrees_104 (by decide) ?_
                  refine rb_istore_n C dX8_agrees_108 (Nat.le_of_ble_eq_true rfl) rfl (Lv' := [_, _, _, _, _]) rfl ?_
                  refine rb_iinc C dX8_agrees_109 rfl (v := _ + 1) rfl rfl (Lv' := [_, _, _, _, _]) rfl ?_
                  refine rb_goto C 57 dX8_agrees_112 (by decide) ?_
                  rw [nI_1 i]
                  exact ih (i + 1) (1 : Int32) (by omega) (by rw [fo_s, ← hs]; exact Eq.symm ((if_neg h65).trans ((if_pos h81).trans ((if_neg h92).trans (rfl)))))
                · refine rb_iconst C dX8_agrees_95 (v := 1) (by decide) ?_
                  refine rb_goto C 100 dX8_agrees_96 (by decide) ?_
                  refine rb_icmp_ne C 107 dX8_agrees_100 (by decide) (fun _ => ?_) (fun h9 => absurd h9 (by decide))
                  refine rb_iconst C dX8_agrees_107 (v := 0) (by decide) ?_
                  refine rb_istore_n C dX8_agrees_108 (Nat.le_of_ble_eq_true rfl) rfl (Lv' := [_, _, _, _, _]) rfl ?_
                  refine rb_iinc C dX8_agrees_109 rfl (v := _ + 1) rfl rfl (Lv' := [_, _, _, _, _]) rfl ?_
                  refine rb_goto C 57 dX8_agrees_112 (by decide) ?_
                  rw [nI_1 i]
                  exact ih (i + 1) (0 : Int32) (by omega) (by rw [fo_s, ← hs]; exact Eq.symm ((if_neg h65).trans ((if_pos h81).trans ((if_pos h92).trans (rfl)))))
              · refine rb_iconst C dX8_agrees_84 (v := 1) (by decide) ?_
                refine rb_goto C 89 dX8_agrees_85 (by decide) ?_
                refine rb_iload C dX8_agrees_89 rfl ?_
                refine rb_iload_n C dX8_agrees_91 rfl ?_
                refine rb_icmp_ne C 99 dX8_agrees_92 (by decide) (fun h92 => ?_) (fun h92 => ?_)
                · refine rb_iconst C dX8_agrees_99 (v := 0) (by decide) ?_
                  refine rb_icmp_ne C 107 dX8_agrees_100 (by decide) (fun _ => ?_) (fun h9 => absurd h9 (by decide))
                  refine rb_iconst C dX8_agrees_107 (v := 0) (by decide) ?_
                  refine rb_istore_n C dX8_agrees_108 (Nat.le_of_ble_eq_true rfl) rfl (Lv' := [_, _, _, _, _]) rfl ?_
                  refine rb_iinc C dX8_agrees_109 rfl (v := _ + 1) rfl rfl (Lv' := [_, _, _, _, _]) rfl ?_
                  refine rb_goto C 57 dX8_agrees_112 (by decide) ?_
                  rw [nI_1 i]
                  exact ih (i + 1) (0 : Int32) (by omega) (by rw [fo_s, ← hs]; exact Eq.symm ((if_neg h65).trans ((if_neg h81).trans ((if_neg h92).trans (rfl)))))
                · refine rb_iconst C dX8_agrees_95 (v := 1) (by decide) ?_
                  refine rb_goto C 100 dX8_agrees_96 (by decide) ?_
                  refine rb_icmp_ne C 107 dX8_agrees_100 (by decide) (fun h9 => absurd (by decide) h9) (fun _ => ?_)
                  refine rb_iconst C dX8_agrees_103 (v := 1) (by decide) ?_
                  refine rb_goto C 108 dX8_agrees_104 (by decide) ?_
                  refine rb_istore_n C dX8_agrees_108 (Nat.le_of_ble_eq_true rfl) rfl (Lv' := [_, _, _, _, _]) rfl ?_
                  refine rb_iinc C dX8_agrees_109 rfl (v := _ + 1) rfl rfl (Lv' := [_, _, _, _, _]) rfl ?_
                  refine rb_goto C 57 dX8_agrees_112 (by decide) ?_
                  rw [nI_1 i]
                  exact ih (i + 1) (1 : Int32) (by omega) (by rw [fo_s, ← hs]; exact Eq.symm ((if_neg h65).trans ((if_neg h81).trans ((if_pos h92).trans (rfl)))))
        exact loop 6 0 (1 : Int32) (Nat.zero_add _) (fo_0 _ _).symm

def m_subscriberIs (W : rb_I) (s : Int32) (what : Int32) : Int32 × rb_I := (if (m_isSubscriber W s) = 0 then (0, (up2 W (16, 0, 0) 0 1)) else (if (m_in what (0 : Int32) (6 : Int32)) = 0 then (0, (up2 W (16, 0, 0) 0 2)) else (if what = 0 then ((W (14, 19, 0) s.toNatClampNeg), (up2 W (16, 0, 0) 0 0)) else (if what = 1 then ((W (14, 17, 0) s.toNatClampNeg), (up2 W (16, 0, 0) 0 0)) else (if what = 2 then ((W (14, 20, 0) s.toNatClampNeg), (up2 W (16, 0, 0) 0 0)) else (if what = 3 then ((W (14, 24, 0) s.toNatClampNeg), (up2 W (16, 0, 0) 0 0)) else (if what = 4 then ((m_abroadOf (up2 W (16, 0, 0) 0 0) s), (up2 W (16, 0, 0) 0 0)) else (if what = 5 then (if (100 * (m_abroadOf (up2 W (16, 0, 0) 0 0) s)) < (80 * (W (14, 22, 0) s.toNatClampNeg)) then (0, (up2 W (16, 0, 0) 0 0)) else (1, (up2 W (16, 0, 0) 0 0))) else ((W (14, 22, 0) s.toNatClampNeg), (up2 W (16, 0, 0) 0 0))))))))))
set_option maxRecDepth 100000 in
set_option maxHeartbeats 4000000 in
theorem k_X8_subscriberIs (l : Launch) (X : rb_X) (G : rb_G) (W : rb_I) (s : Int32) (what : Int32) (hm : MS G) (hM : MI W) : rb_N l X yX8_subscriberIs (.code yX8_subscriberIs cX8_subscriberIs 3 (some .int)) 3 55 0 0 [rbR (16, 0, 0), rbI s, rbI what] (wI G W) (fun v9 G9 => v9 = some (rbI (m_subscriberIs W s what).1) ∧ G9 = wI G (m_subscriberIs W s what).2) := by
  refine rb_startN RX8 rfl (by decide +kernel) rfl (Nat.le_of_ble_eq_true rfl) ?_
  intro Φ C E nm
  show rb_W Φ 0 0 0 [some (rbR (16, 0, 0)), some (rbI s), some (rbI what)] [] (wI G W)
  refine rb_aload_n C dX8_subscriberIs_0 rfl ?_
  refine rb_aload_n C dX8_subscriberIs_1 rfl ?_
  refine rb_iload_n C dX8_subscriberIs_2 rfl ?_
  refine rb_callV C M_X8_144 (fun l X => (k_X8_isSubscriber l X G W s).m) rfl (Nat.le_of_ble_eq_true rfl) rfl dX8_subscriberIs_3 rfl rfl rfl (Nat.le_of_ble_eq_true rfl) ⟨(Nat.le_of_ble_eq_true rfl), (Nat.le_of_ble_eq_true rfl)⟩ (Nat.le_of_ble_eq_true rfl) (Nat.le_of_ble_eq_true rfl) (fun v G' hp => ?_) (fun _ _ hp => hp.elim)
  obtain ⟨rfl, e9⟩ := hp
  rw [e9]
  clear e9 G'
  refine rb_if_ne C 13 dX8_subscriberIs_6 (by decide) (fun h6 => ?_) (fun h6 => ?_)
  · refine rb_iload_n C dX8_subscriberIs_13 rfl ?_
    refine rb_iconst C dX8_subscriberIs_14 (v := 0) (by decide) ?_
    refine rb_bipush C dX8_subscriberIs_15 (v := 6) (by decide) ?_
    refine rb_callS C M_X8_114 (fun l X => (k_X8_in l X G W what (0 : Int32) (6 : Int32)).m) dX8_subscriberIs_17 rfl rfl rfl (Nat.le_of_ble_eq_true rfl) ⟨(Nat.le_of_ble_eq_true rfl), (Nat.le_of_ble_eq_true rfl)⟩ (Nat.le_of_ble_eq_true rfl) (Nat.le_of_ble_eq_true rfl) (fun v G' hp => ?_) (fun _ _ hp => hp.elim)
    obtain ⟨rfl, e9⟩ := hp
    rw [e9]
    clear e9 G'
    refine rb_if_eq C 27 dX8_subscriberIs_20 (by decide) (fun h20 => ?_) (fun h20 => ?_)
    · refine rb_iconst C dX8_subscriberIs_27 (v := 2) (by decide) ?_
      refine rw_putI C F_X8_110 dX8_subscriberIs_28 rfl ⟨rfl, rfl⟩ ?_
      refine rb_aload_n C dX8_subscriberIs_31 rfl ?_
      refine rw_getI C FR_X8_110 dX8_subscriberIs_32 rfl (x := 2) (up2_s _ _ _ _) ?_
      refine rb_if_le C 40 dX8_subscriberIs_35 (by decide) (fun h9 => absurd h9 (by decide)) (fun _ => ?_)
      refine rb_iconst C dX8_subscriberIs_38 (v := 0) (by decide) ?_
      exact rb_iret C E dX8_subscriberIs_39 (Nat.le_of_ble_eq_true rfl) (Nat.le_of_ble_eq_true rfl) (pp_ ((if_neg h6).trans ((if_pos h20).trans (rfl))))
    · refine rb_iconst C dX8_subscriberIs_23 (v := 0) (by decide) ?_
      refine rb_goto C 28 dX8_subscriberIs_24 (by decide) ?_
      refine rw_putI C F_X8_110 dX8_subscriberIs_28 rfl ⟨rfl, rfl⟩ ?_
      refine rb_aload_n C dX8_subscriberIs_31 rfl ?_
      refine rw_getI C FR_X8_110 dX8_subscriberIs_32 rfl (x := 0) (up2_s _ _ _ _) ?_
      refine rb_if_le C 40 dX8_subscriberIs_35 (by decide) (fun _ => ?_) (fun h9 => absurd (by decide) h9)
      have hs := isSub_in hM h6
      refine rb_iload_n C dX8_subscriberIs_40 rfl ?_
      rcases Classical.em (what = 0) with q41_0 | q41_0
      · refine rb_tableIn C 80 dX8_subscriberIs_41 (by rw [q41_0]; decide) (by rw [q41_0]; decide) (off := 39) (by rw [q41_0]; rfl) (by decide) ?_
        refine rb_aload_n C dX8_subscriberIs_80 rfl ?_
        refine rw_getP C FR_X8_56 dX8_subscriberIs_81 rfl (o := some (14, 19, 0)) (hm.1 19 (by decide)) ?_
        refine rb_iload_n C dX8_subscriberIs_84 rfl ?_
        refine rw_iald C (x := (W (14, 19, 0) s.toNatClampNeg)) 10 s.toNatClampNeg dX8_subscriberIs_85 rfl (hm.2 19 (by decide)) hs rfl ((up2_n _ _ _ _ (fun q => absurd (congrArg Prod.fst q.1) (show ¬ ((14 : Nat) = 16) by decide))).trans (rfl)) ?_
        exact rb_iret C E dX8_subscriberIs_86 (Nat.le_of_ble_eq_true rfl) (Nat.le_of_ble_eq_true rfl) (pp_ ((if_neg h6).trans ((if_neg h20).trans ((if_pos q41_0).trans (rfl)))))
      rcases Classical.em (what = 1) with q41_1 | q41_1
      · refine rb_tableIn C 87 dX8_subscriberIs_41 (by rw [q41_1]; decide) (by rw [q41_1]; decide) (off := 46) (by rw [q41_1]; rfl) (by decide) ?_
        refine rb_aload_n C dX8_subscriberIs_87 rfl ?_
        refine rw_getP C FR_X8_50 dX8_subscriberIs_88 rfl (o := some (14, 17, 0)) (hm.1 17 (by decide)) ?_
        refine rb_iload_n C dX8_subscriberIs_91 rfl ?_
        refine rw_iald C (x := (W (14, 17, 0) s.toNatClampNeg)) 10 s.toNatClampNeg dX8_subscriberIs_92 rfl (hm.2 17 (by decide)) hs rfl ((up2_n _ _ _ _ (fun q => absurd (congrArg Prod.fst q.1) (show ¬ ((14 : Nat) = 16) by decide))).trans (rfl)) ?_
        exact rb_iret C E dX8_subscriberIs_93 (Nat.le_of_ble_eq_true rfl) (Nat.le_of_ble_eq_true rfl) (pp_ ((if_neg h6).trans ((if_neg h20).trans ((if_neg q41_0).trans ((if_pos q41_1).trans (rfl))))))
      rcases Classical.em (what = 2) with q41_2 | q41_2
      · refine rb_tableIn C 94 dX8_subscriberIs_41 (by rw [q41_2]; decide) (by rw [q41_2]; decide) (off := 53) (by rw [q41_2]; rfl) (by decide) ?_
        refine rb_aload_n C dX8_subscriberIs_94 rfl ?_
        refine rw_getP C FR_X8_59 dX8_subscriberIs_95 rfl (o := some (14, 20, 0)) (hm.1 20 (by decide)) ?_
        refine rb_iload_n C dX8_subscriberIs_98 rfl ?_
        refine rw_iald C (x := (W (14, 20, 0) s.toNatClampNeg)) 10 s.toNatClampNeg dX8_subscriberIs_99 rfl (hm.2 20 (by decide)) hs rfl ((up2_n _ _ _ _ (fun q => absurd (congrArg Prod.fst q.1) (show ¬ ((14 : Nat) = 16) by decide))).trans (rfl)) ?_
        exact rb_iret C E dX8_subscriberIs_100 (Nat.le_of_ble_eq_true rfl) (Nat.le_of_ble_eq_true rfl) (pp_ ((if_neg h6).trans ((if_neg h20).trans ((if_neg q41_0).trans ((if_neg q41_1).trans ((if_pos q41_2).trans (rfl)))))))
      rcases Classical.em (what = 3) with q41_3 | q41_3
      · refine rb_tableIn C 101 dX8_subscriberIs_41 (by rw [q41_3]; decide) (by rw [q41_3]; decide) (off := 60) (by rw [q41_3]; rfl) (by decide) ?_
        refine rb_aload_n C dX8_subscriberIs_101 rfl ?_
        refine rw_getP C FR_X8_71 dX8_subscriberIs_102 rfl (o := some (14, 24, 0)) (hm.1 24 (by decide)) ?_
        refine rb_iload_n C dX8_subscriberIs_105 rfl ?_
        refine rw_iald C (x := (W (14, 24, 0) s.toNatClampNeg)) 10 s.toNatClampNeg dX8_subscriberIs_106 rfl (hm.2 24 (by decide)) hs rfl ((up2_n _ _ _ _ (fun q => absurd (congrArg Prod.fst q.1) (show ¬ ((14 : Nat) = 16) by decide))).trans (rfl)) ?_
        exact rb_iret C E dX8_subscriberIs_107 (Nat.le_of_ble_eq_true rfl) (Nat.le_of_ble_eq_true rfl) (pp_ ((if_neg h6).trans ((if_neg h20).trans ((if_neg q41_0).trans ((if_neg q41_1).trans ((if_neg q41_2).trans ((if_pos q41_3).trans (rfl))))))))
      rcases Classical.em (what = 4) with q41_4 | q41_4
      · refine rb_tableIn C 108 dX8_subscriberIs_41 (by rw [q41_4]; decide) (by rw [q41_4]; decide) (off := 67) (by rw [q41_4]; rfl) (by decide) ?_
        refine rb_aload_n C dX8_subscriberIs_108 rfl ?_
        refine rb_iload_n C dX8_subscriberIs_109 rfl ?_
        refine rb_callV C M_X8_161 (fun l X => (k_X8_abroadOf l X G (up2 W (16, 0, 0) 0 0) s hm hs).m) rfl (Nat.le_of_ble_eq_true rfl) rfl dX8_subscriberIs_110 rfl rfl rfl (Nat.le_of_ble_eq_true rfl) ⟨(Nat.le_of_ble_eq_true rfl), (Nat.le_of_ble_eq_true rfl)⟩ (Nat.le_of_ble_eq_true rfl) (Nat.le_of_ble_eq_true rfl) (fun v G' hp => ?_) (fun _ _ hp => hp.elim)
        obtain ⟨rfl, e9⟩ := hp
        rw [e9]
        clear e9 G'
        exact rb_iret C E dX8_subscriberIs_113 (Nat.le_of_ble_eq_true rfl) (Nat.le_of_ble_eq_true rfl) (pp_ ((if_neg h6).trans ((if_neg h20).trans ((if_neg q41_0).trans ((if_neg q41_1).trans ((if_neg q41_2).trans ((if_neg q41_3).trans ((if_pos q41_4).trans (rfl)))))))))
      rcases Classical.em (what = 5) with q41_5 | q41_5
      · refine rb_tableIn C 114 dX8_subscriberIs_41 (by rw [q41_5]; decide) (by rw [q41_5]; decide) (off := 73) (by rw [q41_5]; rfl) (by decide) ?_
        refine rb_bipush C dX8_subscriberIs_114 (v := 100) (by decide) ?_
        refine rb_aload_n C dX8_subscriberIs_116 rfl ?_
        refine rb_iload_n C dX8_subscriberIs_117 rfl ?_
        refine rb_callV C M_X8_161 (fun l X => (k_X8_abroadOf l X G (up2 W (16, 0, 0) 0 0) s hm hs).m) rfl (Nat.le_of_ble_eq_true rfl) rfl dX8_subscriberIs_118 rfl rfl rfl (Nat.le_of_ble_eq_true rfl) ⟨(Nat.le_of_ble_eq_true rfl), (Nat.le_of_ble_eq_true rfl)⟩ (Nat.le_of_ble_eq_true rfl) (Nat.le_of_ble_eq_true rfl) (fun v G' hp => ?_) (fun _ _ hp => hp.elim)
        obtain ⟨rfl, e9⟩ := hp
        rw [e9]
        clear e9 G'
        refine rb_imul C dX8_subscriberIs_121 ?_
        refine rb_bipush C dX8_subscriberIs_122 (v := 80) (by decide) ?_
        refine rb_aload_n C dX8_subscriberIs_124 rfl ?_
        refine rw_getP C FR_X8_65 dX8_subscriberIs_125 rfl (o := some (14, 22, 0)) (hm.1 22 (by decide)) ?_
        refine rb_iload_n C dX8_subscriberIs_128 rfl ?_
        refine rw_iald C (x := (W (14, 22, 0) s.toNatClampNeg)) 10 s.toNatClampNeg dX8_subscriberIs_129 rfl (hm.2 22 (by decide)) hs rfl ((up2_n _ _ _ _ (fun q => absurd (congrArg Prod.fst q.1) (show ¬ ((14 : Nat) = 16) by decide))).trans (rfl)) ?_
        refine rb_imul C dX8_subscriberIs_130 ?_
        refine rb_icmp_lt C 138 dX8_subscriberIs_131 (by decide) (fun h131 => ?_) (fun h131 => ?_)
        · refine rb_iconst C dX8_subscriberIs_138 (v := 0) (by decide) ?_
          exact rb_iret C E dX8_subscriberIs_139 (Nat.le_of_ble_eq_true rfl) (Nat.le_of_ble_eq_true rfl) (pp_ ((if_neg h6).trans ((if_neg h20).trans ((if_neg q41_0).trans ((if_neg q41_1).trans ((if_neg q41_2).trans ((if_neg q41_3).trans ((if_neg q41_4).trans ((if_pos q41_5).trans ((if_pos h131).trans (rfl)))))))))))
        · refine rb_iconst C dX8_subscriberIs_134 (v := 1) (by decide) ?_
          refine rb_goto C 139 dX8_subscriberIs_135 (by decide) ?_
          exact rb_iret C E dX8_subscriberIs_139 (Nat.le_of_ble_eq_true rfl) (Nat.le_of_ble_eq_true rfl) (pp_ ((if_neg h6).trans ((if_neg h20).trans ((if_neg q41_0).trans ((if_neg q41_1).trans ((if_neg q41_2).trans ((if_neg q41_3).trans ((if_neg q41_4).trans ((if_pos q41_5).trans ((if_neg h131).trans (rfl)))))))))))
      refine rb_tableOut C 140 dX8_subscriberIs_41 (tw_out q41_0 q41_1 q41_2 q41_3 q41_4 q41_5) (by decide) ?_
      refine rb_aload_n C dX8_subscriberIs_140 rfl ?_
      refine rw_getP C FR_X8_65 dX8_subscriberIs_141 rfl (o := some (14, 22, 0)) (hm.1 22 (by decide)) ?_
      refine rb_iload_n C dX8_subscriberIs_144 rfl ?_
      refine rw_iald C (x := (W (14, 22, 0) s.toNatClampNeg)) 10 s.toNatClampNeg dX8_subscriberIs_145 rfl (hm.2 22 (by decide)) hs rfl ((up2_n _ _ _ _ (fun q => absurd (congrArg Prod.fst q.1) (show ¬ ((14 : Nat) = 16) by decide))).trans (rfl)) ?_
      exact rb_iret C E dX8_subscriberIs_146 (Nat.le_of_ble_eq_true rfl) (Nat.le_of_ble_eq_true rfl) (pp_ ((if_neg h6).trans ((if_neg h20).trans ((if_neg q41_0).trans ((if_neg q41_1).trans ((if_neg q41_2).trans ((if_neg q41_3).trans ((if_neg q41_4).trans ((if_neg q41_5).trans (rfl))))))))))
  · refine rb_iconst C dX8_subscriberIs_9 (v := 1) (by decide) ?_
    refine rb_goto C 28 dX8_subscriberIs_10 (by decide) ?_
    refine rw_putI C F_X8_110 dX8_subscriberIs_28 rfl ⟨rfl, rfl⟩ ?_
    refine rb_aload_n C dX8_subscriberIs_31 rfl ?_
    refine rw_getI C FR_X8_110 dX8_subscriberIs_32 rfl (x := 1) (up2_s _ _ _ _) ?_
    refine rb_if_le C 40 dX8_subscriberIs_35 (by decide) (fun h9 => absurd h9 (by decide)) (fun _ => ?_)
    refine rb_iconst C dX8_subscriberIs_38 (v := 0) (by decide) ?_
    exact rb_iret C E dX8_subscriberIs_39 (Nat.le_of_ble_eq_true rfl) (Nat.le_of_ble_eq_true rfl) (pp_ ((if_pos h6).trans (rfl)))

def m_cap (W : rb_I) (s : Int32) (c : Int32) (co : Int32) : rb_I := (if (m_isSubscriber W s) = 0 then (up2 W (16, 0, 0) 0 1) else (if (m_in c (0 : Int32) ((99999) : Int32)) = 0 then (up2 W (16, 0, 0) 0 2) else (up2 (up2 (up2 W (16, 0, 0) 0 0) (14, 22, 0) s.toNatClampNeg c) (15, 23, 0) s.toNatClampNeg co)))
set_option maxRecDepth 100000 in
set_option maxHeartbeats 4000000 in
theorem k_X8_cap (l : Launch) (X : rb_X) (G : rb_G) (W : rb_I) (s : Int32) (c : Int32) (co : Int32) (hm : MS G) (hM : MI W) (hco : co = 0 ∨ co = 1) : rb_N l X yX8_cap (.code yX8_cap cX8_cap 4 none) 3 55 0 0 [rbR (16, 0, 0), rbI s, rbI c, rbI co] (wI G W) (fun v9 G9 => v9 = none ∧ G9 = wI G (m_cap W s c co)) := by
  refine rb_startN RX8 rfl (by decide +kernel) rfl (Nat.le_of_ble_eq_true rfl) ?_
  intro Φ C E nm
  show rb_W Φ 0 0 0 [some (rbR (16, 0, 0)), some (rbI s), some (rbI c), some (rbI co)] [] (wI G W)
  refine rb_aload_n C dX8_cap_0 rfl ?_
  refine rb_aload_n C dX8_cap_1 rfl ?_
  refine rb_iload_n C dX8_cap_2 rfl ?_
  refine rb_callV C M_X8_144 (fun l X => (k_X8_isSubscriber l X G W s).m) rfl (Nat.le_of_ble_eq_true rfl) rfl dX8_cap_3 rfl rfl rfl (Nat.le_of_ble_eq_true rfl) ⟨(Nat.le_of_ble_eq_true rfl), (Nat.le_of_ble_eq_true rfl)⟩ (Nat.le_of_ble_eq_true rfl) (Nat.le_of_ble_eq_true rfl) (fun v G' hp => ?_) (fun _ _ hp => hp.elim)
  obtain ⟨rfl, e9⟩ := hp
  rw [e9]
  clear e9 G'
  refine rb_if_ne C 13 dX8_cap_6 (by decide) (fun h6 => ?_) (fun h6 => ?_)
  · refine rb_iload_n C dX8_cap_13 rfl ?_
    refine rb_iconst C dX8_cap_14 (v := 0) (by decide) ?_
    refine rb_ldc C dX8_cap_15 N_X8_165 ?_
    refine rb_callS C M_X8_114 (fun l X => (k_X8_in l X G W c (0 : Int32) ((99999) : Int32)).m) dX8_cap_17 rfl rfl rfl (Nat.le_of_ble_eq_true rfl) ⟨(Nat.le_of_ble_eq_true rfl), (Nat.le_of_ble_eq_true rfl)⟩ (Nat.le_of_ble_eq_true rfl) (Nat.le_of_ble_eq_true rfl) (fun v G' hp => ?_) (fun _ _ hp => hp.elim)
    obtain ⟨rfl, e9⟩ := hp
    rw [e9]
    clear e9 G'
    refine rb_if_eq C 27 dX8_cap_20 (by decide) (fun h20 => ?_) (fun h20 => ?_)
    · refine rb_iconst C dX8_cap_27 (v := 2) (by decide) ?_
      refine rw_putI C F_X8_110 dX8_cap_28 rfl ⟨rfl, rfl⟩ ?_
      refine rb_aload_n C dX8_cap_31 rfl ?_
      refine rw_getI C FR_X8_110 dX8_cap_32 rfl (x := 2) (up2_s _ _ _ _) ?_
      refine rb_if_ne C 52 dX8_cap_35 (by decide) (fun _ => ?_) (fun h9 => absurd h9 (by decide))
      exact rb_vret C E dX8_cap_52 (Nat.le_of_ble_eq_true rfl) (Nat.le_of_ble_eq_true rfl) (pw_ ((if_neg h6).trans ((if_pos h20).trans (rfl))))
    · refine rb_iconst C dX8_cap_23 (v := 0) (by decide) ?_
      refine rb_goto C 28 dX8_cap_24 (by decide) ?_
      refine rw_putI C F_X8_110 dX8_cap_28 rfl ⟨rfl, rfl⟩ ?_
      refine rb_aload_n C dX8_cap_31 rfl ?_
      refine rw_getI C FR_X8_110 dX8_cap_32 rfl (x := 0) (up2_s _ _ _ _) ?_
      refine rb_if_ne C 52 dX8_cap_35 (by decide) (fun h9 => absurd (by decide) h9) (fun _ => ?_)
      have hs := isSub_in hM h6
      refine rb_aload_n C dX8_cap_38 rfl ?_
      refine rw_getP C FR_X8_65 dX8_cap_39 rfl (o := some (14, 22, 0)) (hm.1 22 (by decide)) ?_
      refine rb_iload_n C dX8_cap_42 rfl ?_
      refine rb_iload_n C dX8_cap_43 rfl ?_
      refine rw_iast C 10 s.toNatClampNeg dX8_cap_44 rfl (hm.2 22 (by decide)) hs rfl ?_
      refine rb_aload_n C dX8_cap_45 rfl ?_
      refine rw_getP C FR_X8_68 dX8_cap_46 rfl (o := some (15, 23, 0)) (hm.1 23 (by decide)) ?_
      refine rb_iload_n C dX8_cap_49 rfl ?_
      refine rb_iload_n C dX8_cap_50 rfl ?_
      refine rw_zast C 10 s.toNatClampNeg dX8_cap_51 rfl (hm.2 23 (by decide)) hs rfl (nz_ hco) ?_
      exact rb_vret C E dX8_cap_52 (Nat.le_of_ble_eq_true rfl) (Nat.le_of_ble_eq_true rfl) (pw_ ((if_neg h6).trans ((if_neg h20).trans (rfl))))
  · refine rb_iconst C dX8_cap_9 (v := 1) (by decide) ?_
    refine rb_goto C 28 dX8_cap_10 (by decide) ?_
    refine rw_putI C F_X8_110 dX8_cap_28 rfl ⟨rfl, rfl⟩ ?_
    refine rb_aload_n C dX8_cap_31 rfl ?_
    refine rw_getI C FR_X8_110 dX8_cap_32 rfl (x := 1) (up2_s _ _ _ _) ?_
    refine rb_if_ne C 52 dX8_cap_35 (by decide) (fun _ => ?_) (fun h9 => absurd h9 (by decide))
    exact rb_vret C E dX8_cap_52 (Nat.le_of_ble_eq_true rfl) (Nat.le_of_ble_eq_true rfl) (pw_ ((if_pos h6).trans (rfl)))

theorem mi_att {W : rb_I} {n : Int32} (hn : vp_in n 6) {j : Nat} (hM : MI W) : MI (up2 (up2 W (14, 19, 0) j n) (14, 20, 0) j 0) := by
  obtain ⟨a1, a2, a3, a4, a5, a6, a7, a8, a9, a10, a11⟩ := hM
  refine ⟨?_, ?_, ?_, ?_, ?_, ?_, ?_, ?_, ?_, ?_, ?_⟩
  all_goals simp only [up2, Prod.mk.injEq]
  all_goals simp
  · exact a1
  · exact a2
  · intro s
    split
    · exact Or.inr hn
    · exact a3 s
  · exact a4
  · exact a5
  · exact a6
  · exact a7
  · exact a8
  · exact a9
  · exact a10
  · exact a11
def m_attach (W : rb_I) (s : Int32) (n : Int32) : Int32 × rb_I := (if (m_isSubscriber W s) = 0 then (0, (up2 W (16, 0, 0) 0 1)) else (if (m_isNetwork n) = 0 then (0, (up2 W (16, 0, 0) 0 1)) else (if (W (14, 19, 0) s.toNatClampNeg) = n then (0, (up2 W (16, 0, 0) 0 2)) else (if (m_reason (up2 W (16, 0, 0) 0 0) s n) = 0 then (if (m_isSteered (up2 W (16, 0, 0) 0 0) s n) = 0 then ((m_reason (up2 W (16, 0, 0) 0 0) s n), (m_makesContact (up2 (up2 (up2 W (16, 0, 0) 0 0) (14, 19, 0) s.toNatClampNeg n) (14, 20, 0) s.toNatClampNeg 0) s)) else (5, (up2 (up2 W (16, 0, 0) 0 0) (14, 20, 0) s.toNatClampNeg ((W (14, 20, 0) s.toNatClampNeg) + 1)))) else ((m_reason (up2 W (16, 0, 0) 0 0) s n), (up2 W (16, 0, 0) 0 0))))))
set_option maxRecDepth 100000 in
set_option maxHeartbeats 4000000 in
theorem k_X8_attach (l : Launch) (X : rb_X) (G : rb_G) (W : rb_I) (s : Int32) (n : Int32) (hm : MS G) (hM : MI W) : rb_N l X yX8_attach (.code yX8_attach cX8_attach 4 (some .int)) 4 82 0 0 [rbR (16, 0, 0), rbI s, rbI n] (wI G W) (fun v9 G9 => v9 = some (rbI (m_attach W s n).1) ∧ G9 = wI G (m_attach W s n).2) := by
  refine rb_startN RX8 rfl (by decide +kernel) rfl (Nat.le_of_ble_eq_true rfl) ?_
  intro Φ C E nm
  show rb_W Φ 0 0 0 [some (rbR (16, 0, 0)), some (rbI s), some (rbI n), none] [] (wI G W)
  refine rb_aload_n C dX8_attach_0 rfl ?_
  refine rb_aload_n C dX8_attach_1 rfl ?_
  refine rb_iload_n C dX8_attach_2 rfl ?_
  refine rb_callV C M_X8_144 (fun l X => (k_X8_isSubscriber l X G W s).m) rfl (Nat.le_of_ble_eq_true rfl) rfl dX8_attach_3 rfl rfl rfl (Nat.le_of_ble_eq_true rfl) ⟨(Nat.le_of_ble_eq_true rfl), (Nat.le_of_ble_eq_true rfl)⟩ (Nat.le_of_ble_eq_true rfl) (Nat.le_of_ble_eq_true rfl) (fun v G' hp => ?_) (fun _ _ hp => hp.elim)
  obtain ⟨rfl, e9⟩ := hp
  rw [e9]
  clear e9 G'
  refine rb_if_eq C 16 dX8_attach_6 (by decide) (fun h6 => ?_) (fun h6 => ?_)
  · refine rb_iconst C dX8_attach_16 (v := 1) (by decide) ?_
    refine rb_goto C 35 dX8_attach_17 (by decide) ?_
    refine rw_putI C F_X8_110 dX8_attach_35 rfl ⟨rfl, rfl⟩ ?_
    refine rb_aload_n C dX8_attach_38 rfl ?_
    refine rw_getI C FR_X8_110 dX8_attach_39 rfl (x := 1) (up2_s _ _ _ _) ?_
    refine rb_if_le C 47 dX8_attach_42 (by decide) (fun h9 => absurd h9 (by decide)) (fun _ => ?_)
    refine rb_iconst C dX8_attach_45 (v := 0) (by decide) ?_
    exact rb_iret C E dX8_attach_46 (Nat.le_of_ble_eq_true rfl) (Nat.le_of_ble_eq_true rfl) (pp_ ((if_pos h6).trans (rfl)))
  · refine rb_iload_n C dX8_attach_9 rfl ?_
    refine rb_callS C M_X8_129 (fun l X => (k_X8_isNetwork l X G W n).m) dX8_attach_10 rfl rfl rfl (Nat.le_of_ble_eq_true rfl) ⟨(Nat.le_of_ble_eq_true rfl), (Nat.le_of_ble_eq_true rfl)⟩ (Nat.le_of_ble_eq_true rfl) (Nat.le_of_ble_eq_true rfl) (fun v G' hp => ?_) (fun _ _ hp => hp.elim)
    obtain ⟨rfl, e9⟩ := hp
    rw [e9]
    clear e9 G'
    refine rb_if_ne C 20 dX8_attach_13 (by decide) (fun h13 => ?_) (fun h13 => ?_)
    · have hs := isSub_in hM h6
      have hn := isNetwork_in h13
      refine rb_aload_n C dX8_attach_20 rfl ?_
      refine rw_getP C FR_X8_56 dX8_attach_21 rfl (o := some (14, 19, 0)) (hm.1 19 (by decide)) ?_
      refine rb_iload_n C dX8_attach_24 rfl ?_
      refine rw_iald C (x := (W (14, 19, 0) s.toNatClampNeg)) 10 s.toNatClampNeg dX8_attach_25 rfl (hm.2 19 (by decide)) hs rfl (rfl) ?_
      refine rb_iload_n C dX8_attach_26 rfl ?_
      refine rb_icmp_ne C 34 dX8_attach_27 (by decide) (fun h27 => ?_) (fun h27 => ?_)
      · refine rb_iconst C dX8_attach_34 (v := 0) (by decide) ?_
        refine rw_putI C F_X8_110 dX8_attach_35 rfl ⟨rfl, rfl⟩ ?_
        refine rb_aload_n C dX8_attach_38 rfl ?_
        refine rw_getI C FR_X8_110 dX8_attach_39 rfl (x := 0) (up2_s _ _ _ _) ?_
        refine rb_if_le C 47 dX8_attach_42 (by decide) (fun _ => ?_) (fun h9 => absurd (by decide) h9)
        refine rb_aload_n C dX8_attach_47 rfl ?_
        refine rb_iload_n C dX8_attach_48 rfl ?_
        refine rb_iload_n C dX8_attach_49 rfl ?_
        refine rb_callV C M_X8_151 (fun l X => (k_X8_reason l X G (up2 W (16, 0, 0) 0 0) s n hm (mi_thr 0 hM) hs hn).m) rfl (Nat.le_of_ble_eq_true rfl) rfl dX8_attach_50 rfl rfl rfl (Nat.le_of_ble_eq_true rfl) ⟨(Nat.le_of_ble_eq_true rfl), (Nat.le_of_ble_eq_true rfl)⟩ (Nat.le_of_ble_eq_true rfl) (Nat.le_of_ble_eq_true rfl) (fun v G' hp => ?_) (fun _ _ hp => hp.elim)
        obtain ⟨rfl, e9⟩ := hp
        rw [e9]
        clear e9 G'
        refine rb_istore_n C dX8_attach_53 (Nat.le_of_ble_eq_true rfl) rfl (Lv' := [_, _, _, _]) rfl ?_
        refine rb_iload_n C dX8_attach_54 rfl ?_
        refine rb_if_ne C 79 dX8_attach_55 (by decide) (fun h55 => ?_) (fun h55 => ?_)
        · refine rb_iload_n C dX8_attach_79 rfl ?_
          refine rb_if_ne C 102 dX8_attach_80 (by decide) (fun _ => ?_) (fun h9 => absurd h9 (h55))
          refine rb_iload_n C dX8_attach_102 rfl ?_
          exact rb_iret C E dX8_attach_103 (Nat.le_of_ble_eq_true rfl) (Nat.le_of_ble_eq_true rfl) (pp_ ((if_neg h6).trans ((if_neg h13).trans ((if_neg h27).trans ((if_neg h55).trans (rfl))))))
        · refine rb_aload_n C dX8_attach_58 rfl ?_
          refine rb_iload_n C dX8_attach_59 rfl ?_
          refine rb_iload_n C dX8_attach_60 rfl ?_
          refine rb_callV C M_X8_154 (fun l X => (k_X8_isSteered l X G (up2 W (16, 0, 0) 0 0) s n hm (mi_thr 0 hM) hs hn).m) rfl (Nat.le_of_ble_eq_true rfl) rfl dX8_attach_61 rfl rfl rfl (Nat.le_of_ble_eq_true rfl) ⟨(Nat.le_of_ble_eq_true rfl), (Nat.le_of_ble_eq_true rfl)⟩ (Nat.le_of_ble_eq_true rfl) (Nat.le_of_ble_eq_true rfl) (fun v G' hp => ?_) (fun _ _ hp => hp.elim)
          obtain ⟨rfl, e9⟩ := hp
          rw [e9]
          clear e9 G'
          refine rb_if_eq C 79 dX8_attach_64 (by decide) (fun h64 => ?_) (fun h64 => ?_)
          · refine rb_iload_n C dX8_attach_79 rfl ?_
            refine rb_if_ne C 102 dX8_attach_80 (by decide) (fun h9 => absurd (h55) h9) (fun _ => ?_)
            refine rb_aload_n C dX8_attach_83 rfl ?_
            refine rw_getP C FR_X8_56 dX8_attach_84 rfl (o := some (14, 19, 0)) (hm.1 19 (by decide)) ?_
            refine rb_iload_n C dX8_attach_87 rfl ?_
            refine rb_iload_n C dX8_attach_88 rfl ?_
            refine rw_iast C 10 s.toNatClampNeg dX8_attach_89 rfl (hm.2 19 (by decide)) hs rfl ?_
            refine rb_aload_n C dX8_attach_90 rfl ?_
            refine rw_getP C FR_X8_59 dX8_attach_91 rfl (o := some (14, 20, 0)) (hm.1 20 (by decide)) ?_
            refine rb_iload_n C dX8_attach_94 rfl ?_
            refine rb_iconst C dX8_attach_95 (v := 0) (by decide) ?_
            refine rw_iast C 10 s.toNatClampNeg dX8_attach_96 rfl (hm.2 20 (by decide)) hs rfl ?_
            refine rb_aload_n C dX8_attach_97 rfl ?_
            refine rb_iload_n C dX8_attach_98 rfl ?_
            refine rb_callV C M_X8_157 (fun l X => (k_X8_makesContact l X G (up2 (up2 (up2 W (16, 0, 0) 0 0) (14, 19, 0) s.toNatClampNeg n) (14, 20, 0) s.toNatClampNeg 0) s hm (mi_att hn (mi_thr 0 hM)) hs (by rw [up2_n _ _ _ _ (by simp), up2_s]; exact in_ne hn)).m) rfl (Nat.le_of_ble_eq_true rfl) rfl dX8_attach_99 rfl rfl rfl (Nat.le_of_ble_eq_true rfl) ⟨(Nat.le_of_ble_eq_true rfl), (Nat.le_of_ble_eq_true rfl)⟩ (Nat.le_of_ble_eq_true rfl) (Nat.le_of_ble_eq_true rfl) (fun v G' hp => ?_) (fun _ _ hp => hp.elim)
            obtain ⟨rfl, e9⟩ := hp
            rw [e9]
            clear e9 G'
            refine rb_iload_n C dX8_attach_102 rfl ?_
            exact rb_iret C E dX8_attach_103 (Nat.le_of_ble_eq_true rfl) (Nat.le_of_ble_eq_true rfl) (pp_ ((if_neg h6).trans ((if_neg h13).trans ((if_neg h27).trans ((if_pos h55).trans ((if_pos h64).trans (rfl)))))))
          · refine rb_aload_n C dX8_attach_67 rfl ?_
            refine rw_getP C FR_X8_59 dX8_attach_68 rfl (o := some (14, 20, 0)) (hm.1 20 (by decide)) ?_
            refine rb_iload_n C dX8_attach_71 rfl ?_
            refine rb_dup2 C dX8_attach_72 rfl rfl ?_
            refine rw_iald C (x := (W (14, 20, 0) s.toNatClampNeg)) 10 s.toNatClampNeg dX8_attach_73 rfl (hm.2 20 (by decide)) hs rfl ((up2_n _ _ _ _ (fun q => absurd (congrArg Prod.fst q.1) (show ¬ ((14 : Nat) = 16) by decide))).trans (rfl)) ?_
            refine rb_iconst C dX8_attach_74 (v := 1) (by decide) ?_
            refine rb_iadd C dX8_attach_75 ?_
            refine rw_iast C 10 s.toNatClampNeg dX8_attach_76 rfl (hm.2 20 (by decide)) hs rfl ?_
            refine rb_iconst C dX8_attach_77 (v := 5) (by decide) ?_
            refine rb_istore_n C dX8_attach_78 (Nat.le_of_ble_eq_true rfl) rfl (Lv' := [_, _, _, _]) rfl ?_
            refine rb_iload_n C dX8_attach_79 rfl ?_
            refine rb_if_ne C 102 dX8_attach_80 (by decide) (fun _ => ?_) (fun h9 => absurd h9 (by decide))
            refine rb_iload_n C dX8_attach_102 rfl ?_
            exact rb_iret C E dX8_attach_103 (Nat.le_of_ble_eq_true rfl) (Nat.le_of_ble_eq_true rfl) (pp_ ((if_neg h6).trans ((if_neg h13).trans ((if_neg h27).trans ((if_pos h55).trans ((if_neg h64).trans (rfl)))))))
      · refine rb_iconst C dX8_attach_30 (v := 2) (by decide) ?_
        refine rb_goto C 35 dX8_attach_31 (by decide) ?_
        refine rw_putI C F_X8_110 dX8_attach_35 rfl ⟨rfl, rfl⟩ ?_
        refine rb_aload_n C dX8_attach_38 rfl ?_
        refine rw_getI C FR_X8_110 dX8_attach_39 rfl (x := 2) (up2_s _ _ _ _) ?_
        refine rb_if_le C 47 dX8_attach_42 (by decide) (fun h9 => absurd h9 (by decide)) (fun _ => ?_)
        refine rb_iconst C dX8_attach_45 (v := 0) (by decide) ?_
        exact rb_iret C E dX8_attach_46 (Nat.le_of_ble_eq_true rfl) (Nat.le_of_ble_eq_true rfl) (pp_ ((if_neg h6).trans ((if_neg h13).trans ((if_pos h27).trans (rfl)))))
    · refine rb_iconst C dX8_attach_16 (v := 1) (by decide) ?_
      refine rb_goto C 35 dX8_attach_17 (by decide) ?_
      refine rw_putI C F_X8_110 dX8_attach_35 rfl ⟨rfl, rfl⟩ ?_
      refine rb_aload_n C dX8_attach_38 rfl ?_
      refine rw_getI C FR_X8_110 dX8_attach_39 rfl (x := 1) (up2_s _ _ _ _) ?_
      refine rb_if_le C 47 dX8_attach_42 (by decide) (fun h9 => absurd h9 (by decide)) (fun _ => ?_)
      refine rb_iconst C dX8_attach_45 (v := 0) (by decide) ?_
      exact rb_iret C E dX8_attach_46 (Nat.le_of_ble_eq_true rfl) (Nat.le_of_ble_eq_true rfl) (pp_ ((if_neg h6).trans ((if_pos h13).trans (rfl))))

theorem m_records_29 {W : rb_I} {s its : Int32} (h : vp_in (W (16, 0, 0) 29) 399) : vp_in (m_records W s its (16, 0, 0) 29) 400 := by
  unfold m_records
  split
  · exact vp_in_up h (by decide)
  · rw [up2_s]
    have h1 := vp_in_lt h
    rw [vp_in_e h, nI_1]
    exact vp_in_nI (by omega) (by decide)
def m_call (W : rb_I) (s : Int32) (o : Int32) (sec : Int32) : Int32 × rb_I := (if (m_isSubscriber W s) = 0 then (0, (up2 W (16, 0, 0) 0 1)) else (if (m_isSubscriber W o) = 0 then (0, (up2 W (16, 0, 0) 0 1)) else (if s = o then (0, (up2 W (16, 0, 0) 0 2)) else (if (m_in sec (1 : Int32) ((36000) : Int32)) = 0 then (0, (up2 W (16, 0, 0) 0 2)) else (if (W (16, 0, 0) 28) = 200 then (0, (up2 W (16, 0, 0) 0 3)) else (if (m_nobody (up2 W (16, 0, 0) 0 0) s o) ≤ 0 then (if (m_isAbroad (up2 W (16, 0, 0) 0 0) s) = 0 then (if (m_isAbroad (up2 W (16, 0, 0) 0 0) o) = 0 then (if (m_isAbove (up2 W (16, 0, 0) 0 0) s (((sec + 59) / 60) * (W (14, 5, 0) (3 * (W (14, 16, 0) s.toNatClampNeg).toNatClampNeg + 0)))) = 0 then (if (m_isAbove (up2 W (16, 0, 0) 0 0) o (0 : Int32)) = 0 then (0, (up2 (m_records (m_records (m_pays (m_pays (up2 W (16, 0, 0) 0 0) s (((sec + 59) / 60) * (W (14, 5, 0) (3 * (W (14, 16, 0) s.toNatClampNeg).toNatClampNeg + 0)))) o (0 : Int32)) s ((sec + 59) / 60)) o ((sec + 59) / 60)) (16, 0, 0) 28 (((m_records (m_records (m_pays (m_pays (up2 W (16, 0, 0) 0 0) s (((sec + 59) / 60) * (W (14, 5, 0) (3 * (W (14, 16, 0) s.toNatClampNeg).toNatClampNeg + 0)))) o (0 : Int32)) s ((sec + 59) / 60)) o ((sec + 59) / 60)) (16, 0, 0) 28) + 1))) else (6, (up2 W (16, 0, 0) 0 0))) else (5, (up2 W (16, 0, 0) 0 0))) else (if (m_isAbove (up2 W (16, 0, 0) 0 0) s (((sec + 59) / 60) * (W (14, 5, 0) (3 * (W (14, 16, 0) s.toNatClampNeg).toNatClampNeg + 0)))) = 0 then (if (m_isAbove (up2 W (16, 0, 0) 0 0) o (((sec + 59) / 60) * (W (14, 5, 0) (3 * (W (14, 16, 0) o.toNatClampNeg).toNatClampNeg + 2)))) = 0 then (0, (up2 (m_records (m_records (m_pays (m_pays (up2 W (16, 0, 0) 0 0) s (((sec + 59) / 60) * (W (14, 5, 0) (3 * (W (14, 16, 0) s.toNatClampNeg).toNatClampNeg + 0)))) o (((sec + 59) / 60) * (W (14, 5, 0) (3 * (W (14, 16, 0) o.toNatClampNeg).toNatClampNeg + 2)))) s ((sec + 59) / 60)) o ((sec + 59) / 60)) (16, 0, 0) 28 (((m_records (m_records (m_pays (m_pays (up2 W (16, 0, 0) 0 0) s (((sec + 59) / 60) * (W (14, 5, 0) (3 * (W (14, 16, 0) s.toNatClampNeg).toNatClampNeg + 0)))) o (((sec + 59) / 60) * (W (14, 5, 0) (3 * (W (14, 16, 0) o.toNatClampNeg).toNatClampNeg + 2)))) s ((sec + 59) / 60)) o ((sec + 59) / 60)) (16, 0, 0) 28) + 1))) else (6, (up2 W (16, 0, 0) 0 0))) else (5, (up2 W (16, 0, 0) 0 0)))) else (if (m_isAbroad (up2 W (16, 0, 0) 0 0) o) = 0 then (if (m_isAbove (up2 W (16, 0, 0) 0 0) s (((sec + 59) / 60) * (W (14, 5, 0) (3 * (W (14, 16, 0) s.toNatClampNeg).toNatClampNeg + 1)))) = 0 then (if (m_isAbove (up2 W (16, 0, 0) 0 0) o (0 : Int32)) = 0 then (0, (up2 (m_records (m_records (m_pays (m_pays (up2 W (16, 0, 0) 0 0) s (((sec + 59) / 60) * (W (14, 5, 0) (3 * (W (14, 16, 0) s.toNatClampNeg).toNatClampNeg + 1)))) o (0 : Int32)) s ((sec + 59) / 60)) o ((sec + 59) / 60)) (16, 0, 0) 28 (((m_records (m_records (m_pays (m_pays (up2 W (16, 0, 0) 0 0) s (((sec + 59) / 60) * (W (14, 5, 0) (3 * (W (14, 16, 0) s.toNatClampNeg).toNatClampNeg + 1)))) o (0 : Int32)) s ((sec + 59) / 60)) o ((sec + 59) / 60)) (16, 0, 0) 28) + 1))) else (6, (up2 W (16, 0, 0) 0 0))) else (5, (up2 W (16, 0, 0) 0 0))) else (if (m_isAbove (up2 W (16, 0, 0) 0 0) s (((sec + 59) / 60) * (W (14, 5, 0) (3 * (W (14, 16, 0) s.toNatClampNeg).toNatClampNeg + 1)))) = 0 then (if (m_isAbove (up2 W (16, 0, 0) 0 0) o (((sec + 59) / 60) * (W (14, 5, 0) (3 * (W (14, 16, 0) o.toNatClampNeg).toNatClampNeg + 2)))) = 0 then (0, (up2 (m_records (m_records (m_pays (m_pays (up2 W (16, 0, 0) 0 0) s (((sec + 59) / 60) * (W (14, 5, 0) (3 * (W (14, 16, 0) s.toNatClampNeg).toNatClampNeg + 1)))) o (((sec + 59) / 60) * (W (14, 5, 0) (3 * (W (14, 16, 0) o.toNatClampNeg).toNatClampNeg + 2)))) s ((sec + 59) / 60)) o ((sec + 59) / 60)) (16, 0, 0) 28 (((m_records (m_records (m_pays (m_pays (up2 W (16, 0, 0) 0 0) s (((sec + 59) / 60) * (W (14, 5, 0) (3 * (W (14, 16, 0) s.toNatClampNeg).toNatClampNeg + 1)))) o (((sec + 59) / 60) * (W (14, 5, 0) (3 * (W (14, 16, 0) o.toNatClampNeg).toNatClampNeg + 2)))) s ((sec + 59) / 60)) o ((sec + 59) / 60)) (16, 0, 0) 28) + 1))) else (6, (up2 W (16, 0, 0) 0 0))) else (5, (up2 W (16, 0, 0) 0 0))))) else ((m_nobody (up2 W (16, 0, 0) 0 0) s o), (up2 W (16, 0, 0) 0 0))))))))
set_option maxRecDepth 100000 in
set_option maxHeartbeats 4000000 in
theorem k_X8_call (l : Launch) (X : rb_X) (G : rb_G) (W : rb_I) (s : Int32) (o : Int32) (sec : Int32) (hm : MS G) (hM : MI W) (hr : ¬ W (16, 0, 0) 28 = 200 → vp_in (W (16, 0, 0) 29) 399) : rb_N l X yX8_call (.code yX8_call cX8_call 9 (some .int)) 3 59 0 0 [rbR (16, 0, 0), rbI s, rbI o, rbI sec] (wI G W) (fun v9 G9 => v9 = some (rbI (m_call W s o sec).1) ∧ G9 = wI G (m_call W s o sec).2) := by
  refine rb_startN RX8 rfl (by decide +kernel) rfl (Nat.le_of_ble_eq_true rfl) ?_
  intro Φ C E nm
  show rb_W Φ 0 0 0 [some (rbR (16, 0, 0)), some (rbI s), some (rbI o), some (rbI sec), none, none, none, none, none] [] (wI G W)
  refine rb_aload_n C dX8_call_0 rfl ?_
  refine rb_iload_n C dX8_call_1 rfl ?_
  refine rb_callV C M_X8_144 (fun l X => (k_X8_isSubscriber l X G W s).m) rfl (Nat.le_of_ble_eq_true rfl) rfl dX8_call_2 rfl rfl rfl (Nat.le_of_ble_eq_true rfl) ⟨(Nat.le_of_ble_eq_true rfl), (Nat.le_of_ble_eq_true rfl)⟩ (Nat.le_of_ble_eq_true rfl) (Nat.le_of_ble_eq_true rfl) (fun v G' hp => ?_) (fun _ _ hp => hp.elim)
  obtain ⟨rfl, e9⟩ := hp
  rw [e9]
  clear e9 G'
  refine rb_if_eq C 20 dX8_call_5 (by decide) (fun h5 => ?_) (fun h5 => ?_)
  · refine rb_iconst C dX8_call_20 (v := 0) (by decide) ?_
    refine rb_istore C dX8_call_21 (Nat.le_of_ble_eq_true rfl) rfl (Lv' := [_, _, _, _, _, _, _, _, _]) rfl ?_
    refine rb_aload_n C dX8_call_23 rfl ?_
    refine rb_iload C dX8_call_24 rfl ?_
    refine rb_if_ne C 33 dX8_call_26 (by decide) (fun h9 => absurd (by decide) h9) (fun _ => ?_)
    refine rb_iconst C dX8_call_29 (v := 1) (by decide) ?_
    refine rb_goto C 67 dX8_call_30 (by decide) ?_
    refine rw_putI C F_X8_110 dX8_call_67 rfl ⟨rfl, rfl⟩ ?_
    refine rb_aload_n C dX8_call_70 rfl ?_
    refine rw_getI C FR_X8_110 dX8_call_71 rfl (x := 1) (up2_s _ _ _ _) ?_
    refine rb_if_le C 79 dX8_call_74 (by decide) (fun h9 => absurd h9 (by decide)) (fun _ => ?_)
    refine rb_iconst C dX8_call_77 (v := 0) (by decide) ?_
    exact rb_iret C E dX8_call_78 (Nat.le_of_ble_eq_true rfl) (Nat.le_of_ble_eq_true rfl) (pp_ ((if_pos h5).trans (rfl)))
  · refine rb_aload_n C dX8_call_8 rfl ?_
    refine rb_iload_n C dX8_call_9 rfl ?_
    refine rb_callV C M_X8_144 (fun l X => (k_X8_isSubscriber l X G W o).m) rfl (Nat.le_of_ble_eq_true rfl) rfl dX8_call_10 rfl rfl rfl (Nat.le_of_ble_eq_true rfl) ⟨(Nat.le_of_ble_eq_true rfl), (Nat.le_of_ble_eq_true rfl)⟩ (Nat.le_of_ble_eq_true rfl) (Nat.le_of_ble_eq_true rfl) (fun v G' hp => ?_) (fun _ _ hp => hp.elim)
    obtain ⟨rfl, e9⟩ := hp
    rw [e9]
    clear e9 G'
    refine rb_if_eq C 20 dX8_call_13 (by decide) (fun h13 => ?_) (fun h13 => ?_)
    · refine rb_iconst C dX8_call_20 (v := 0) (by decide) ?_
      refine rb_istore C dX8_call_21 (Nat.le_of_ble_eq_true rfl) rfl (Lv' := [_, _, _, _, _, _, _, _, _]) rfl ?_
      refine rb_aload_n C dX8_call_23 rfl ?_
      refine rb_iload C dX8_call_24 rfl ?_
      refine rb_if_ne C 33 dX8_call_26 (by decide) (fun h9 => absurd (by decide) h9) (fun _ => ?_)
      refine rb_iconst C dX8_call_29 (v := 1) (by decide) ?_
      refine rb_goto C 67 dX8_call_30 (by decide) ?_
      refine rw_putI C F_X8_110 dX8_call_67 rfl ⟨rfl, rfl⟩ ?_
      refine rb_aload_n C dX8_call_70 rfl ?_
      refine rw_getI C FR_X8_110 dX8_call_71 rfl (x := 1) (up2_s _ _ _ _) ?_
      refine rb_if_le C 79 dX8_call_74 (by decide) (fun h9 => absurd h9 (by decide)) (fun _ => ?_)
      refine rb_iconst C dX8_call_77 (v := 0) (by decide) ?_
      exact rb_iret C E dX8_call_78 (Nat.le_of_ble_eq_true rfl) (Nat.le_of_ble_eq_true rfl) (pp_ ((if_neg h5).trans ((if_pos h13).trans (rfl))))
    · refine rb_iconst C dX8_call_16 (v := 1) (by decide) ?_
      refine rb_goto C 21 dX8_call_17 (by decide) ?_
      refine rb_istore C dX8_call_21 (Nat.le_of_ble_eq_true rfl) rfl (Lv' := [_, _, _, _, _, _, _, _, _]) rfl ?_
      refine rb_aload_n C dX8_call_23 rfl ?_
      refine rb_iload C dX8_call_24 rfl ?_
      refine rb_if_ne C 33 dX8_call_26 (by decide) (fun _ => ?_) (fun h9 => absurd h9 (by decide))
      refine rb_iload_n C dX8_call_33 rfl ?_
      refine rb_iload_n C dX8_call_34 rfl ?_
      refine rb_icmp_eq C 48 dX8_call_35 (by decide) (fun h35 => ?_) (fun h35 => ?_)
      · refine rb_iconst C dX8_call_48 (v := 2) (by decide) ?_
        refine rb_goto C 67 dX8_call_49 (by decide) ?_
        refine rw_putI C F_X8_110 dX8_call_67 rfl ⟨rfl, rfl⟩ ?_
        refine rb_aload_n C dX8_call_70 rfl ?_
        refine rw_getI C FR_X8_110 dX8_call_71 rfl (x := 2) (up2_s _ _ _ _) ?_
        refine rb_if_le C 79 dX8_call_74 (by decide) (fun h9 => absurd h9 (by decide)) (fun _ => ?_)
        refine rb_iconst C dX8_call_77 (v := 0) (by decide) ?_
        exact rb_iret C E dX8_call_78 (Nat.le_of_ble_eq_true rfl) (Nat.le_of_ble_eq_true rfl) (pp_ ((if_neg h5).trans ((if_neg h13).trans ((if_pos h35).trans (rfl)))))
      · refine rb_iload_n C dX8_call_38 rfl ?_
        refine rb_iconst C dX8_call_39 (v := 1) (by decide) ?_
        refine rb_ldc C dX8_call_40 N_X8_172 ?_
        refine rb_callS C M_X8_114 (fun l X => (k_X8_in l X G W sec (1 : Int32) ((36000) : Int32)).m) dX8_call_42 rfl rfl rfl (Nat.le_of_ble_eq_true rfl) ⟨(Nat.le_of_ble_eq_true rfl), (Nat.le_of_ble_eq_true rfl)⟩ (Nat.le_of_ble_eq_true rfl) (Nat.le_of_ble_eq_true rfl) (fun v G' hp => ?_) (fun _ _ hp => hp.elim)
        obtain ⟨rfl, e9⟩ := hp
        rw [e9]
        clear e9 G'
        refine rb_if_ne C 52 dX8_call_45 (by decide) (fun h45 => ?_) (fun h45 => ?_)
        · have hs := isSub_in hM h5
          have ho := isSub_in hM h13
          refine rb_aload_n C dX8_call_52 rfl ?_
          refine rw_getI C FR_X8_173 dX8_call_53 rfl (x := (W (16, 0, 0) 28)) (rfl) ?_
          refine rb_sipush C dX8_call_56 (v := 200) (by decide) ?_
          refine rb_icmp_ne C 66 dX8_call_59 (by decide) (fun h59 => ?_) (fun h59 => ?_)
          · refine rb_iconst C dX8_call_66 (v := 0) (by decide) ?_
            refine rw_putI C F_X8_110 dX8_call_67 rfl ⟨rfl, rfl⟩ ?_
            refine rb_aload_n C dX8_call_70 rfl ?_
            refine rw_getI C FR_X8_110 dX8_call_71 rfl (x := 0) (up2_s _ _ _ _) ?_
            refine rb_if_le C 79 dX8_call_74 (by decide) (fun _ => ?_) (fun h9 => absurd (by decide) h9)
            refine rb_aload_n C dX8_call_79 rfl ?_
            refine rb_iload_n C dX8_call_80 rfl ?_
            refine rb_iload_n C dX8_call_81 rfl ?_
            refine rb_callV C M_X8_176 (fun l X => (k_X8_nobody l X G (up2 W (16, 0, 0) 0 0) s o hm (mi_thr 0 hM) hs ho).m) rfl (Nat.le_of_ble_eq_true rfl) rfl dX8_call_82 rfl rfl rfl (Nat.le_of_ble_eq_true rfl) ⟨(Nat.le_of_ble_eq_true rfl), (Nat.le_of_ble_eq_true rfl)⟩ (Nat.le_of_ble_eq_true rfl) (Nat.le_of_ble_eq_true rfl) (fun v G' hp => ?_) (fun _ _ hp => hp.elim)
            obtain ⟨rfl, e9⟩ := hp
            rw [e9]
            clear e9 G'
            refine rb_istore C dX8_call_85 (Nat.le_of_ble_eq_true rfl) rfl (Lv' := [_, _, _, _, _, _, _, _, _]) rfl ?_
            refine rb_iload C dX8_call_87 rfl ?_
            refine rb_if_le C 95 dX8_call_89 (by decide) (fun h89 => ?_) (fun h89 => ?_)
            · refine rb_iload_n C dX8_call_95 rfl ?_
              refine rb_bipush C dX8_call_96 (v := 59) (by decide) ?_
              refine rb_iadd C dX8_call_98 ?_
              refine rb_bipush C dX8_call_99 (v := 60) (by decide) ?_
              refine rb_idiv C dX8_call_101 (by decide) ?_
              refine rb_istore C dX8_call_102 (Nat.le_of_ble_eq_true rfl) rfl (Lv' := [_, _, _, _, _, _, _, _, _]) rfl ?_
              refine rb_iload C dX8_call_104 rfl ?_
              refine rb_aload_n C dX8_call_106 rfl ?_
              refine rw_getP C FR_X8_20 dX8_call_107 rfl (o := some (14, 5, 0)) (hm.1 5 (by decide)) ?_
              refine rb_iconst C dX8_call_110 (v := 3) (by decide) ?_
              refine rb_aload_n C dX8_call_111 rfl ?_
              refine rw_getP C FR_X8_47 dX8_call_112 rfl (o := some (14, 16, 0)) (hm.1 16 (by decide)) ?_
              refine rb_iload_n C dX8_call_115 rfl ?_
              refine rw_iald C (x := (W (14, 16, 0) s.toNatClampNeg)) 10 s.toNatClampNeg dX8_call_116 rfl (hm.2 16 (by decide)) hs rfl ((up2_n _ _ _ _ (fun q => absurd (congrArg Prod.fst q.1) (show ¬ ((14 : Nat) = 16) by decide))).trans (rfl)) ?_
              refine rb_imul C dX8_call_117 ?_
              refine rb_aload_n C dX8_call_118 rfl ?_
              refine rb_iload_n C dX8_call_119 rfl ?_
              refine rb_callV C M_X8_166 (fun l X => (k_X8_isAbroad l X G (up2 W (16, 0, 0) 0 0) s hm hs).m) rfl (Nat.le_of_ble_eq_true rfl) rfl dX8_call_120 rfl rfl rfl (Nat.le_of_ble_eq_true rfl) ⟨(Nat.le_of_ble_eq_true rfl), (Nat.le_of_ble_eq_true rfl)⟩ (Nat.le_of_ble_eq_true rfl) (Nat.le_of_ble_eq_true rfl) (fun v G' hp => ?_) (fun _ _ hp => hp.elim)
              obtain ⟨rfl, e9⟩ := hp
              rw [e9]
              clear e9 G'
              refine rb_if_eq C 130 dX8_call_123 (by decide) (fun h123 => ?_) (fun h123 => ?_)
              · refine rb_iconst C dX8_call_130 (v := 0) (by decide) ?_
                refine rb_iadd C dX8_call_131 ?_
                refine rw_iald C (x := (W (14, 5, 0) (3 * (W (14, 16, 0) s.toNatClampNeg).toNatClampNeg + 0))) 18 (3 * (W (14, 16, 0) s.toNatClampNeg).toNatClampNeg + 0) dX8_call_132 rfl (hm.2 5 (by decide)) (ix_lin (N := 18) 3 3 rfl (hM.1 s.toNatClampNeg) (show ¬ ((0 : Int32) < 0 ∨ 1 ≤ (0 : Int32).toNatClampNeg) by decide) (by decide) (by decide) (by decide)).1 ((ix_lin (N := 18) 3 3 rfl (hM.1 s.toNatClampNeg) (show ¬ ((0 : Int32) < 0 ∨ 1 ≤ (0 : Int32).toNatClampNeg) by decide) (by decide) (by decide) (by decide)).2.trans (by rw [(show ((W (14, 16, 0) s.toNatClampNeg)).toNatClampNeg = (W (14, 16, 0) s.toNatClampNeg).toNatClampNeg from rfl), (show (0 : Int32).toNatClampNeg = 0 from rfl)])) ((up2_n _ _ _ _ (fun q => absurd (congrArg Prod.fst q.1) (show ¬ ((14 : Nat) = 16) by decide))).trans (rfl)) ?_
                refine rb_imul C dX8_call_133 ?_
                refine rb_istore C dX8_call_134 (Nat.le_of_ble_eq_true rfl) rfl (Lv' := [_, _, _, _, _, _, _, _, _]) rfl ?_
                refine rb_aload_n C dX8_call_136 rfl ?_
                refine rb_iload_n C dX8_call_137 rfl ?_
                refine rb_callV C M_X8_166 (fun l X => (k_X8_isAbroad l X G (up2 W (16, 0, 0) 0 0) o hm ho).m) rfl (Nat.le_of_ble_eq_true rfl) rfl dX8_call_138 rfl rfl rfl (Nat.le_of_ble_eq_true rfl) ⟨(Nat.le_of_ble_eq_true rfl), (Nat.le_of_ble_eq_true rfl)⟩ (Nat.le_of_ble_eq_true rfl) (Nat.le_of_ble_eq_true rfl) (fun v G' hp => ?_) (fun _ _ hp => hp.elim)
                obtain ⟨rfl, e9⟩ := hp
                rw [e9]
                clear e9 G'
                refine rb_if_eq C 165 dX8_call_141 (by decide) (fun h141 => ?_) (fun h141 => ?_)
                · refine rb_iconst C dX8_call_165 (v := 0) (by decide) ?_
                  refine rb_istore C dX8_call_166 (Nat.le_of_ble_eq_true rfl) rfl (Lv' := [_, _, _, _, _, _, _, _, _]) rfl ?_
                  refine rb_aload_n C dX8_call_168 rfl ?_
                  refine rb_iload_n C dX8_call_169 rfl ?_
                  refine rb_iload C dX8_call_170 rfl ?_
                  refine rb_callV C M_X8_179 (fun l X => (k_X8_isAbove l X G (up2 W (16, 0, 0) 0 0) s (((sec + 59) / 60) * (W (14, 5, 0) (3 * (W (14, 16, 0) s.toNatClampNeg).toNatClampNeg + 0))) hm hs).m) rfl (Nat.le_of_ble_eq_true rfl) rfl dX8_call_172 rfl rfl rfl (Nat.le_of_ble_eq_true rfl) ⟨(Nat.le_of_ble_eq_true rfl), (Nat.le_of_ble_eq_true rfl)⟩ (Nat.le_of_ble_eq_true rfl) (Nat.le_of_ble_eq_true rfl) (fun v G' hp => ?_) (fun _ _ hp => hp.elim)
                  obtain ⟨rfl, e9⟩ := hp
                  rw [e9]
                  clear e9 G'
                  refine rb_if_eq C 180 dX8_call_175 (by decide) (fun h175 => ?_) (fun h175 => ?_)
                  · refine rb_aload_n C dX8_call_180 rfl ?_
                    refine rb_iload_n C dX8_call_181 rfl ?_
                    refine rb_iload C dX8_call_182 rfl ?_
                    refine rb_callV C M_X8_179 (fun l X => (k_X8_isAbove l X G (up2 W (16, 0, 0) 0 0) o (0 : Int32) hm ho).m) rfl (Nat.le_of_ble_eq_true rfl) rfl dX8_call_184 rfl rfl rfl (Nat.le_of_ble_eq_true rfl) ⟨(Nat.le_of_ble_eq_true rfl), (Nat.le_of_ble_eq_true rfl)⟩ (Nat.le_of_ble_eq_true rfl) (Nat.le_of_ble_eq_true rfl) (fun v G' hp => ?_) (fun _ _ hp => hp.elim)
                    obtain ⟨rfl, e9⟩ := hp
                    rw [e9]
                    clear e9 G'
                    refine rb_if_eq C 193 dX8_call_187 (by decide) (fun h187 => ?_) (fun h187 => ?_)
                    · refine rb_aload_n C dX8_call_193 rfl ?_
                      refine rb_iload_n C dX8_call_194 rfl ?_
                      refine rb_iload C dX8_call_195 rfl ?_
                      refine rb_callV C M_X8_182 (fun l X => (k_X8_pays l X G (up2 W (16, 0, 0) 0 0) s (((sec + 59) / 60) * (W (14, 5, 0) (3 * (W (14, 16, 0) s.toNatClampNeg).toNatClampNeg + 0))) hm hs).m) rfl (Nat.le_of_ble_eq_true rfl) rfl dX8_call_197 rfl rfl rfl (Nat.le_of_ble_eq_true rfl) ⟨(Nat.le_of_ble_eq_true rfl), (Nat.le_of_ble_eq_true rfl)⟩ (Nat.le_of_ble_eq_true rfl) (Nat.le_of_ble_eq_true rfl) (fun v G' hp => ?_) (fun _ _ hp => hp.elim)
                      obtain ⟨rfl, e9⟩ := hp
                      rw [e9]
                      clear e9 G'
                      refine rb_aload_n C dX8_call_200 rfl ?_
                      refine rb_iload_n C dX8_call_201 rfl ?_
                      refine rb_iload C dX8_call_202 rfl ?_
                      refine rb_callV C M_X8_182 (fun l X => (k_X8_pays l X G (m_pays (up2 W (16, 0, 0) 0 0) s (((sec + 59) / 60) * (W (14, 5, 0) (3 * (W (14, 16, 0) s.toNatClampNeg).toNatClampNeg + 0)))) o (0 : Int32) hm ho).m) rfl (Nat.le_of_ble_eq_true rfl) rfl dX8_call_204 rfl rfl rfl (Nat.le_of_ble_eq_true rfl) ⟨(Nat.le_of_ble_eq_true rfl), (Nat.le_of_ble_eq_true rfl)⟩ (Nat.le_of_ble_eq_true rfl) (Nat.le_of_ble_eq_true rfl) (fun v G' hp => ?_) (fun _ _ hp => hp.elim)
                      obtain ⟨rfl, e9⟩ := hp
                      rw [e9]
                      clear e9 G'
                      refine rb_aload_n C dX8_call_207 rfl ?_
                      refine rb_iload_n C dX8_call_208 rfl ?_
                      refine rb_iload C dX8_call_209 rfl ?_
                      refine rb_callV C M_X8_186 (fun l X => (k_X8_records l X G (m_pays (m_pays (up2 W (16, 0, 0) 0 0) s (((sec + 59) / 60) * (W (14, 5, 0) (3 * (W (14, 16, 0) s.toNatClampNeg).toNatClampNeg + 0)))) o (0 : Int32)) s ((sec + 59) / 60) hm (mi_pays _ _ (mi_pays _ _ (mi_thr 0 hM))) hs (by rw [m_pays_o (by simp) (by simp) (by simp), m_pays_o (by simp) (by simp) (by simp)]; exact vp_in_up (hr h59) (by decide))).m) rfl (Nat.le_of_ble_eq_true rfl) rfl dX8_call_211 rfl rfl rfl (Nat.le_of_ble_eq_true rfl) ⟨(Nat.le_of_ble_eq_true rfl), (Nat.le_of_ble_eq_true rfl)⟩ (Nat.le_of_ble_eq_true rfl) (Nat.le_of_ble_eq_true rfl) (fun v G' hp => ?_) (fun _ _ hp => hp.elim)
                      obtain ⟨rfl, e9⟩ := hp
                      rw [e9]
                      clear e9 G'
                      refine rb_aload_n C dX8_call_214 rfl ?_
                      refine rb_iload_n C dX8_call_215 rfl ?_
                      refine rb_iload C dX8_call_216 rfl ?_
                      refine rb_callV C M_X8_186 (fun l X => (k_X8_records l X G (m_records (m_pays (m_pays (up2 W (16, 0, 0) 0 0) s (((sec + 59) / 60) * (W (14, 5, 0) (3 * (W (14, 16, 0) s.toNatClampNeg).toNatClampNeg + 0)))) o (0 : Int32)) s ((sec + 59) / 60)) o ((sec + 59) / 60) hm (mi_records _ _ (mi_pays _ _ (mi_pays _ _ (mi_thr 0 hM))) (by rw [m_pays_o (by simp) (by simp) (by simp), m_pays_o (by simp) (by simp) (by simp)]; exact vp_in_up (hr h59) (by decide))) ho (m_records_29 (by rw [m_pays_o (by simp) (by simp) (by simp), m_pays_o (by simp) (by simp) (by simp)]; exact hr h59))).m) rfl (Nat.le_of_ble_eq_true rfl) rfl dX8_call_218 rfl rfl rfl (Nat.le_of_ble_eq_true rfl) ⟨(Nat.le_of_ble_eq_true rfl), (Nat.le_of_ble_eq_true rfl)⟩ (Nat.le_of_ble_eq_true rfl) (Nat.le_of_ble_eq_true rfl) (fun v G' hp => ?_) (fun _ _ hp => hp.elim)
                      obtain ⟨rfl, e9⟩ := hp
                      rw [e9]
                      clear e9 G'
                      refine rb_aload_n C dX8_call_221 rfl ?_
                      refine rb_dup C dX8_call_222 rfl ?_
                      refine rw_getI C FR_X8_173 dX8_call_223 rfl (x := ((m_records (m_records (m_pays (m_pays (up2 W (16, 0, 0) 0 0) s (((sec + 59) / 60) * (W (14, 5, 0) (3 * (W (14, 16, 0) s.toNatClampNeg).toNatClampNeg + 0)))) o (0 : Int32)) s ((sec + 59) / 60)) o ((sec + 59) / 60)) (16, 0, 0) 28)) (rfl) ?_
                      refine rb_iconst C dX8_call_226 (v := 1) (by decide) ?_
                      refine rb_iadd C dX8_call_227 ?_
                      refine rw_putI C F_X8_173 dX8_call_228 rfl ⟨rfl, rfl⟩ ?_
                      refine rb_iconst C dX8_call_231 (v := 0) (by decide) ?_
                      exact rb_iret C E dX8_call_232 (Nat.le_of_ble_eq_true rfl) (Nat.le_of_ble_eq_true rfl) (pp_ ((if_neg h5).trans ((if_neg h13).trans ((if_neg h35).trans ((if_neg h45).trans ((if_neg h59).trans ((if_pos h89).trans ((if_pos h123).trans ((if_pos h141).trans ((if_pos h175).trans ((if_pos h187).trans (rfl))))))))))))
                    · refine rb_bipush C dX8_call_190 (v := 6) (by decide) ?_
                      exact rb_iret C E dX8_call_192 (Nat.le_of_ble_eq_true rfl) (Nat.le_of_ble_eq_true rfl) (pp_ ((if_neg h5).trans ((if_neg h13).trans ((if_neg h35).trans ((if_neg h45).trans ((if_neg h59).trans ((if_pos h89).trans ((if_pos h123).trans ((if_pos h141).trans ((if_pos h175).trans ((if_neg h187).trans (rfl))))))))))))
                  · refine rb_iconst C dX8_call_178 (v := 5) (by decide) ?_
                    exact rb_iret C E dX8_call_179 (Nat.le_of_ble_eq_true rfl) (Nat.le_of_ble_eq_true rfl) (pp_ ((if_neg h5).trans ((if_neg h13).trans ((if_neg h35).trans ((if_neg h45).trans ((if_neg h59).trans ((if_pos h89).trans ((if_pos h123).trans ((if_pos h141).trans ((if_neg h175).trans (rfl)))))))))))
                · refine rb_iload C dX8_call_144 rfl ?_
                  refine rb_aload_n C dX8_call_146 rfl ?_
                  refine rw_getP C FR_X8_20 dX8_call_147 rfl (o := some (14, 5, 0)) (hm.1 5 (by decide)) ?_
                  refine rb_iconst C dX8_call_150 (v := 3) (by decide) ?_
                  refine rb_aload_n C dX8_call_151 rfl ?_
                  refine rw_getP C FR_X8_47 dX8_call_152 rfl (o := some (14, 16, 0)) (hm.1 16 (by decide)) ?_
                  refine rb_iload_n C dX8_call_155 rfl ?_
                  refine rw_iald C (x := (W (14, 16, 0) o.toNatClampNeg)) 10 o.toNatClampNeg dX8_call_156 rfl (hm.2 16 (by decide)) ho rfl ((up2_n _ _ _ _ (fun q => absurd (congrArg Prod.fst q.1) (show ¬ ((14 : Nat) = 16) by decide))).trans (rfl)) ?_
                  refine rb_imul C dX8_call_157 ?_
                  refine rb_iconst C dX8_call_158 (v := 2) (by decide) ?_
                  refine rb_iadd C dX8_call_159 ?_
                  refine rw_iald C (x := (W (14, 5, 0) (3 * (W (14, 16, 0) o.toNatClampNeg).toNatClampNeg + 2))) 18 (3 * (W (14, 16, 0) o.toNatClampNeg).toNatClampNeg + 2) dX8_call_160 rfl (hm.2 5 (by decide)) (ix_lin (N := 18) 3 3 rfl (hM.1 o.toNatClampNeg) (show ¬ ((2 : Int32) < 0 ∨ 3 ≤ (2 : Int32).toNatClampNeg) by decide) (by decide) (by decide) (by decide)).1 ((ix_lin (N := 18) 3 3 rfl (hM.1 o.toNatClampNeg) (show ¬ ((2 : Int32) < 0 ∨ 3 ≤ (2 : Int32).toNatClampNeg) by decide) (by decide) (by decide) (by decide)).2.trans (by rw [(show ((W (14, 16, 0) o.toNatClampNeg)).toNatClampNeg = (W (14, 16, 0) o.toNatClampNeg).toNatClampNeg from rfl), (show (2 : Int32).toNatClampNeg = 2 from rfl)])) ((up2_n _ _ _ _ (fun q => absurd (congrArg Prod.fst q.1) (show ¬ ((14 : Nat) = 16) by decide))).trans (rfl)) ?_
                  refine rb_imul C dX8_call_161 ?_
                  refine rb_goto C 166 dX8_call_162 (by decide) ?_
                  refine rb_istore C dX8_call_166 (Nat.le_of_ble_eq_true rfl) rfl (Lv' := [_, _, _, _, _, _, _, _, _]) rfl ?_
                  refine rb_aload_n C dX8_call_168 rfl ?_
                  refine rb_iload_n C dX8_call_169 rfl ?_
                  refine rb_iload C dX8_call_170 rfl ?_
                  refine rb_callV C M_X8_179 (fun l X => (k_X8_isAbove l X G (up2 W (16, 0, 0) 0 0) s (((sec + 59) / 60) * (W (14, 5, 0) (3 * (W (14, 16, 0) s.toNatClampNeg).toNatClampNeg + 0))) hm hs).m) rfl (Nat.le_of_ble_eq_true rfl) rfl dX8_call_172 rfl rfl rfl (Nat.le_of_ble_eq_true rfl) ⟨(Nat.le_of_ble_eq_true rfl), (Nat.le_of_ble_eq_true rfl)⟩ (Nat.le_of_ble_eq_true rfl) (Nat.le_of_ble_eq_true rfl) (fun v G' hp => ?_) (fun _ _ hp => hp.elim)
                  obtain ⟨rfl, e9⟩ := hp
                  rw [e9]
                  clear e9 G'
                  refine rb_if_eq C 180 dX8_call_175 (by decide) (fun h175 => ?_) (fun h175 => ?_)
                  · refine rb_aload_n C dX8_call_180 rfl ?_
                    refine rb_iload_n C dX8_call_181 rfl ?_
                    refine rb_iload C dX8_call_182 rfl ?_
                    refine rb_callV C M_X8_179 (fun l X => (k_X8_isAbove l X G (up2 W (16, 0, 0) 0 0) o (((sec + 59) / 60) * (W (14, 5, 0) (3 * (W (14, 16, 0) o.toNatClampNeg).toNatClampNeg + 2))) hm ho).m) rfl (Nat.le_of_ble_eq_true rfl) rfl dX8_call_184 rfl rfl rfl (Nat.le_of_ble_eq_true rfl) ⟨(Nat.le_of_ble_eq_true rfl), (Nat.le_of_ble_eq_true rfl)⟩ (Nat.le_of_ble_eq_true rfl) (Nat.le_of_ble_eq_true rfl) (fun v G' hp => ?_) (fun _ _ hp => hp.elim)
                    obtain ⟨rfl, e9⟩ := hp
                    rw [e9]
                    clear e9 G'
                    refine rb_if_eq C 193 dX8_call_187 (by decide) (fun h187 => ?_) (fun h187 => ?_)
                    · refine rb_aload_n C dX8_call_193 rfl ?_
                      refine rb_iload_n C dX8_call_194 rfl ?_
                      refine rb_iload C dX8_call_195 rfl ?_
                      refine rb_callV C M_X8_182 (fun l X => (k_X8_pays l X G (up2 W (16, 0, 0) 0 0) s (((sec + 59) / 60) * (W (14, 5, 0) (3 * (W (14, 16, 0) s.toNatClampNeg).toNatClampNeg + 0))) hm hs).m) rfl (Nat.le_of_ble_eq_true rfl) rfl dX8_call_197 rfl rfl rfl (Nat.le_of_ble_eq_true rfl) ⟨(Nat.le_of_ble_eq_true rfl), (Nat.le_of_ble_eq_true rfl)⟩ (Nat.le_of_ble_eq_true rfl) (Nat.le_of_ble_eq_true rfl) (fun v G' hp => ?_) (fun _ _ hp => hp.elim)
                      obtain ⟨rfl, e9⟩ := hp
                      rw [e9]
                      clear e9 G'
                      refine rb_aload_n C dX8_call_200 rfl ?_
                      refine rb_iload_n C dX8_call_201 rfl ?_
                      refine rb_iload C dX8_call_202 rfl ?_
                      refine rb_callV C M_X8_182 (fun l X => (k_X8_pays l X G (m_pays (up2 W (16, 0, 0) 0 0) s (((sec + 59) / 60) * (W (14, 5, 0) (3 * (W (14, 16, 0) s.toNatClampNeg).toNatClampNeg + 0)))) o (((sec + 59) / 60) * (W (14, 5, 0) (3 * (W (14, 16, 0) o.toNatClampNeg).toNatClampNeg + 2))) hm ho).m) rfl (Nat.le_of_ble_eq_true rfl) rfl dX8_call_204 rfl rfl rfl (Nat.le_of_ble_eq_true rfl) ⟨(Nat.le_of_ble_eq_true rfl), (Nat.le_of_ble_eq_true rfl)⟩ (Nat.le_of_ble_eq_true rfl) (Nat.le_of_ble_eq_true rfl) (fun v G' hp => ?_) (fun _ _ hp => hp.elim)
                      obtain ⟨rfl, e9⟩ := hp
                      rw [e9]
                      clear e9 G'
                      refine rb_aload_n C dX8_call_207 rfl ?_
                      refine rb_iload_n C dX8_call_208 rfl ?_
                      refine rb_iload C dX8_call_209 rfl ?_
                      refine rb_callV C M_X8_186 (fun l X => (k_X8_records l X G (m_pays (m_pays (up2 W (16, 0, 0) 0 0) s (((sec + 59) / 60) * (W (14, 5, 0) (3 * (W (14, 16, 0) s.toNatClampNeg).toNatClampNeg + 0)))) o (((sec + 59) / 60) * (W (14, 5, 0) (3 * (W (14, 16, 0) o.toNatClampNeg).toNatClampNeg + 2)))) s ((sec + 59) / 60) hm (mi_pays _ _ (mi_pays _ _ (mi_thr 0 hM))) hs (by rw [m_pays_o (by simp) (by simp) (by simp), m_pays_o (by simp) (by simp) (by simp)]; exact vp_in_up (hr h59) (by decide))).m) rfl (Nat.le_of_ble_eq_true rfl) rfl dX8_call_211 rfl rfl rfl (Nat.le_of_ble_eq_true rfl) ⟨(Nat.le_of_ble_eq_true rfl), (Nat.le_of_ble_eq_true rfl)⟩ (Nat.le_of_ble_eq_true rfl) (Nat.le_of_ble_eq_true rfl) (fun v G' hp => ?_) (fun _ _ hp => hp.elim)
                      obtain ⟨rfl, e9⟩ := hp
                      rw [e9]
                      clear e9 G'
                      refine rb_aload_n C dX8_call_214 rfl ?_
                      refine rb_iload_n C dX8_call_215 rfl ?_
                      refine rb_iload C dX8_call_216 rfl ?_
                      refine rb_callV C M_X8_186 (fun l X => (k_X8_records l X G (m_records (m_pays (m_pays (up2 W (16, 0, 0) 0 0) s (((sec + 59) / 60) * (W (14, 5, 0) (3 * (W (14, 16, 0) s.toNatClampNeg).toNatClampNeg + 0)))) o (((sec + 59) / 60) * (W (14, 5, 0) (3 * (W (14, 16, 0) o.toNatClampNeg).toNatClampNeg + 2)))) s ((sec + 59) / 60)) o ((sec + 59) / 60) hm (mi_records _ _ (mi_pays _ _ (mi_pays _ _ (mi_thr 0 hM))) (by rw [m_pays_o (by simp) (by simp) (by simp), m_pays_o (by simp) (by simp) (by simp)]; exact vp_in_up (hr h59) (by decide))) ho (m_records_29 (by rw [m_pays_o (by simp) (by simp) (by simp), m_pays_o (by simp) (by simp) (by simp)]; exact hr h59))).m) rfl (Nat.le_of_ble_eq_true rfl) rfl dX8_call_218 rfl rfl rfl (Nat.le_of_ble_eq_true rfl) ⟨(Nat.le_of_ble_eq_true rfl), (Nat.le_of_ble_eq_true rfl)⟩ (Nat.le_of_ble_eq_true rfl) (Nat.le_of_ble_eq_true rfl) (fun v G' hp => ?_) (fun _ _ hp => hp.elim)
                      obtain ⟨rfl, e9⟩ := hp
                      rw [e9]
                      clear e9 G'
                      refine rb_aload_n C dX8_call_221 rfl ?_
                      refine rb_dup C dX8_call_222 rfl ?_
                      refine rw_getI C FR_X8_173 dX8_call_223 rfl (x := ((m_records (m_records (m_pays (m_pays (up2 W (16, 0, 0) 0 0) s (((sec + 59) / 60) * (W (14, 5, 0) (3 * (W (14, 16, 0) s.toNatClampNeg).toNatClampNeg + 0)))) o (((sec + 59) / 60) * (W (14, 5, 0) (3 * (W (14, 16, 0) o.toNatClampNeg).toNatClampNeg + 2)))) s ((sec + 59) / 60)) o ((sec + 59) / 60)) (16, 0, 0) 28)) (rfl) ?_
                      refine rb_iconst C dX8_call_226 (v := 1) (by decide) ?_
                      refine rb_iadd C dX8_call_227 ?_
                      refine rw_putI C F_X8_173 dX8_call_228 rfl ⟨rfl, rfl⟩ ?_
                      refine rb_iconst C dX8_call_231 (v := 0) (by decide) ?_
                      exact rb_iret C E dX8_call_232 (Nat.le_of_ble_eq_true rfl) (Nat.le_of_ble_eq_true rfl) (pp_ ((if_neg h5).trans ((if_neg h13).trans ((if_neg h35).trans ((if_neg h45).trans ((if_neg h59).trans ((if_pos h89).trans ((if_pos h123).trans ((if_neg h141).trans ((if_pos h175).trans ((if_pos h187).trans (rfl))))))))))))
                    · refine rb_bipush C dX8_call_190 (v := 6) (by decide) ?_
                      exact rb_iret C E dX8_call_192 (Nat.le_of_ble_eq_true rfl) (Nat.le_of_ble_eq_true rfl) (pp_ ((if_neg h5).trans ((if_neg h13).trans ((if_neg h35).trans ((if_neg h45).trans ((if_neg h59).trans ((if_pos h89).trans ((if_pos h123).trans ((if_neg h141).trans ((if_pos h175).trans ((if_neg h187).trans (rfl))))))))))))
                  · refine rb_iconst C dX8_call_178 (v := 5) (by decide) ?_
                    exact rb_iret C E dX8_call_179 (Nat.le_of_ble_eq_true rfl) (Nat.le_of_ble_eq_true rfl) (pp_ ((if_neg h5).trans ((if_neg h13).trans ((if_neg h35).trans ((if_neg h45).trans ((if_neg h59).trans ((if_pos h89).trans ((if_pos h123).trans ((if_neg h141).trans ((if_neg h175).trans (rfl)))))))))))
              · refine rb_iconst C dX8_call_126 (v := 1) (by decide) ?_
                refine rb_goto C 131 dX8_call_127 (by decide) ?_
                refine rb_iadd C dX8_call_131 ?_
                refine rw_iald C (x := (W (14, 5, 0) (3 * (W (14, 16, 0) s.toNatClampNeg).toNatClampNeg + 1))) 18 (3 * (W (14, 16, 0) s.toNatClampNeg).toNatClampNeg + 1) dX8_call_132 rfl (hm.2 5 (by decide)) (ix_lin (N := 18) 3 3 rfl (hM.1 s.toNatClampNeg) (show ¬ ((1 : Int32) < 0 ∨ 2 ≤ (1 : Int32).toNatClampNeg) by decide) (by decide) (by decide) (by decide)).1 ((ix_lin (N := 18) 3 3 rfl (hM.1 s.toNatClampNeg) (show ¬ ((1 : Int32) < 0 ∨ 2 ≤ (1 : Int32).toNatClampNeg) by decide) (by decide) (by decide) (by decide)).2.trans (by rw [(show ((W (14, 16, 0) s.toNatClampNeg)).toNatClampNeg = (W (14, 16, 0) s.toNatClampNeg).toNatClampNeg from rfl), (show (1 : Int32).toNatClampNeg = 1 from rfl)])) ((up2_n _ _ _ _ (fun q => absurd (congrArg Prod.fst q.1) (show ¬ ((14 : Nat) = 16) by decide))).trans (rfl)) ?_
                refine rb_imul C dX8_call_133 ?_
                refine rb_istore C dX8_call_134 (Nat.le_of_ble_eq_true rfl) rfl (Lv' := [_, _, _, _, _, _, _, _, _]) rfl ?_
                refine rb_aload_n C dX8_call_136 rfl ?_
                refine rb_iload_n C dX8_call_137 rfl ?_
                refine rb_callV C M_X8_166 (fun l X => (k_X8_isAbroad l X G (up2 W (16, 0, 0) 0 0) o hm ho).m) rfl (Nat.le_of_ble_eq_true rfl) rfl dX8_call_138 rfl rfl rfl (Nat.le_of_ble_eq_true rfl) ⟨(Nat.le_of_ble_eq_true rfl), (Nat.le_of_ble_eq_true rfl)⟩ (Nat.le_of_ble_eq_true rfl) (Nat.le_of_ble_eq_true rfl) (fun v G' hp => ?_) (fun _ _ hp => hp.elim)
                obtain ⟨rfl, e9⟩ := hp
                rw [e9]
                clear e9 G'
                refine rb_if_eq C 165 dX8_call_141 (by decide) (fun h141 => ?_) (fun h141 => ?_)
                · refine rb_iconst C dX8_call_165 (v := 0) (by decide) ?_
                  refine rb_istore C dX8_call_166 (Nat.le_of_ble_eq_true rfl) rfl (Lv' := [_, _, _, _, _, _, _, _, _]) rfl ?_
                  refine rb_aload_n C dX8_call_168 rfl ?_
                  refine rb_iload_n C dX8_call_169 rfl ?_
                  refine rb_iload C dX8_call_170 rfl ?_
                  refine rb_callV C M_X8_179 (fun l X => (k_X8_isAbove l X G (up2 W (16, 0, 0) 0 0) s (((sec + 59) / 60) * (W (14, 5, 0) (3 * (W (14, 16, 0) s.toNatClampNeg).toNatClampNeg + 1))) hm hs).m) rfl (Nat.le_of_ble_eq_true rfl) rfl dX8_call_172 rfl rfl rfl (Nat.le_of_ble_eq_true rfl) ⟨(Nat.le_of_ble_eq_true rfl), (Nat.le_of_ble_eq_true rfl)⟩ (Nat.le_of_ble_eq_true rfl) (Nat.le_of_ble_eq_true rfl) (fun v G' hp => ?_) (fun _ _ hp => hp.elim)
                  obtain ⟨rfl, e9⟩ := hp
                  rw [e9]
                  clear e9 G'
                  refine rb_if_eq C 180 dX8_call_175 (by decide) (fun h175 => ?_) (fun h175 => ?_)
                  · refine rb_aload_n C dX8_call_180 rfl ?_
                    refine rb_iload_n C dX8_call_181 rfl ?_
                    refine rb_iload C dX8_call_182 rfl ?_
                    refine rb_callV C M_X8_179 (fun l X => (k_X8_isAbove l X G (up2 W (16, 0, 0) 0 0) o (0 : Int32) hm ho).m) rfl (Nat.le_of_ble_eq_true rfl) rfl dX8_call_184 rfl rfl rfl (Nat.le_of_ble_eq_true rfl) ⟨(Nat.le_of_ble_eq_true rfl), (Nat.le_of_ble_eq_true rfl)⟩ (Nat.le_of_ble_eq_true rfl) (Nat.le_of_ble_eq_true rfl) (fun v G' hp => ?_) (fun _ _ hp => hp.elim)
                    obtain ⟨rfl, e9⟩ := hp
                    rw [e9]
                    clear e9 G'
                    refine rb_if_eq C 193 dX8_call_187 (by decide) (fun h187 => ?_) (fun h187 => ?_)
                    · refine rb_aload_n C dX8_call_193 rfl ?_
                      refine rb_iload_n C dX8_call_194 rfl ?_
                      refine rb_iload C dX8_call_195 rfl ?_
                      refine rb_callV C M_X8_182 (fun l X => (k_X8_pays l X G (up2 W (16, 0, 0) 0 0) s (((sec + 59) / 60) * (W (14, 5, 0) (3 * (W (14, 16, 0) s.toNatClampNeg).toNatClampNeg + 1))) hm hs).m) rfl (Nat.le_of_ble_eq_true rfl) rfl dX8_call_197 rfl rfl rfl (Nat.le_of_ble_eq_true rfl) ⟨(Nat.le_of_ble_eq_true rfl), (Nat.le_of_ble_eq_true rfl)⟩ (Nat.le_of_ble_eq_true rfl) (Nat.le_of_ble_eq_true rfl) (fun v G' hp => ?_) (fun _ _ hp => hp.elim)
                      obtain ⟨rfl, e9⟩ := hp
                      rw [e9]
                      clear e9 G'
                      refine rb_aload_n C dX8_call_200 rfl ?_
                      refine rb_iload_n C dX8_call_201 rfl ?_
                      refine rb_iload C dX8_call_202 rfl ?_
                      refine rb_callV C M_X8_182 (fun l X => (k_X8_pays l X G (m_pays (up2 W (16, 0, 0) 0 0) s (((sec + 59) / 60) * (W (14, 5, 0) (3 * (W (14, 16, 0) s.toNatClampNeg).toNatClampNeg + 1)))) o (0 : Int32) hm ho).m) rfl (Nat.le_of_ble_eq_true rfl) rfl dX8_call_204 rfl rfl rfl (Nat.le_of_ble_eq_true rfl) ⟨(Nat.le_of_ble_eq_true rfl), (Nat.le_of_ble_eq_true rfl)⟩ (Nat.le_of_ble_eq_true rfl) (Nat.le_of_ble_eq_true rfl) (fun v G' hp => ?_) (fun _ _ hp => hp.elim)
                      obtain ⟨rfl, e9⟩ := hp
                      rw [e9]
                      clear e9 G'
                      refine rb_aload_n C dX8_call_207 rfl ?_
                      refine rb_iload_n C dX8_call_208 rfl ?_
                      refine rb_iload C dX8_call_209 rfl ?_
                      refine rb_callV C M_X8_186 (fun l X => (k_X8_records l X G (m_pays (m_pays (up2 W (16, 0, 0) 0 0) s (((sec + 59) / 60) * (W (14, 5, 0) (3 * (W (14, 16, 0) s.toNatClampNeg).toNatClampNeg + 1)))) o (0 : Int32)) s ((sec + 59) / 60) hm (mi_pays _ _ (mi_pays _ _ (mi_thr 0 hM))) hs (by rw [m_pays_o (by simp) (by simp) (by simp), m_pays_o (by simp) (by simp) (by simp)]; exact vp_in_up (hr h59) (by decide))).m) rfl (Nat.le_of_ble_eq_true rfl) rfl dX8_call_211 rfl rfl rfl (Nat.le_of_ble_eq_true rfl) ⟨(Nat.le_of_ble_eq_true rfl), (Nat.le_of_ble_eq_true rfl)⟩ (Nat.le_of_ble_eq_true rfl) (Nat.le_of_ble_eq_true rfl) (fun v G' hp => ?_) (fun _ _ hp => hp.elim)
                      obtain ⟨rfl, e9⟩ := hp
                      rw [e9]
                      clear e9 G'
                      refine rb_aload_n C dX8_call_214 rfl ?_
                      refine rb_iload_n C dX8_call_215 rfl ?_
                      refine rb_iload C dX8_call_216 rfl ?_
                      refine rb_callV C M_X8_186 (fun l X => (k_X8_records l X G (m_records (m_pays (m_pays (up2 W (16, 0, 0) 0 0) s (((sec + 59) / 60) * (W (14, 5, 0) (3 * (W (14, 16, 0) s.toNatClampNeg).toNatClampNeg + 1)))) o (0 : Int32)) s ((sec + 59) / 60)) o ((sec + 59) / 60) hm (mi_records _ _ (mi_pays _ _ (mi_pays _ _ (mi_thr 0 hM))) (by rw [m_pays_o (by simp) (by simp) (by simp), m_pays_o (by simp) (by simp) (by simp)]; exact vp_in_up (hr h59) (by decide))) ho (m_records_29 (by rw [m_pays_o (by simp) (by simp) (by simp), m_pays_o (by simp) (by simp) (by simp)]; exact hr h59))).m) rfl (Nat.le_of_ble_eq_true rfl) rfl dX8_call_218 rfl rfl rfl (Nat.le_of_ble_eq_true rfl) ⟨(Nat.le_of_ble_eq_true rfl), (Nat.le_of_ble_eq_true rfl)⟩ (Nat.le_of_ble_eq_true rfl) (Nat.le_of_ble_eq_true rfl) (fun v G' hp => ?_) (fun _ _ hp => hp.elim)
                      obtain ⟨rfl, e9⟩ := hp
                      rw [e9]
                      clear e9 G'
                      refine rb_aload_n C dX8_call_221 rfl ?_
                      refine rb_dup C dX8_call_222 rfl ?_
                      refine rw_getI C FR_X8_173 dX8_call_223 rfl (x := ((m_records (m_records (m_pays (m_pays (up2 W (16, 0, 0) 0 0) s (((sec + 59) / 60) * (W (14, 5, 0) (3 * (W (14, 16, 0) s.toNatClampNeg).toNatClampNeg + 1)))) o (0 : Int32)) s ((sec + 59) / 60)) o ((sec + 59) / 60)) (16, 0, 0) 28)) (rfl) ?_
                      refine rb_iconst C dX8_call_226 (v := 1) (by decide) ?_
                      refine rb_iadd C dX8_call_227 ?_
                      refine rw_putI C F_X8_173 dX8_call_228 rfl ⟨rfl, rfl⟩ ?_
                      refine rb_iconst C dX8_call_231 (v := 0) (by decide) ?_
                      exact rb_iret C E dX8_call_232 (Nat.le_of_ble_eq_true rfl) (Nat.le_of_ble_eq_true rfl) (pp_ ((if_neg h5).trans ((if_neg h13).trans ((if_neg h35).trans ((if_neg h45).trans ((if_neg h59).trans ((if_pos h89).trans ((if_neg h123).trans ((if_pos h141).trans ((if_pos h175).trans ((if_pos h187).trans (rfl))))))))))))
                    · refine rb_bipush C dX8_call_190 (v := 6) (by decide) ?_
                      exact rb_iret C E dX8_call_192 (Nat.le_of_ble_eq_true rfl) (Nat.le_of_ble_eq_true rfl) (pp_ ((if_neg h5).trans ((if_neg h13).trans ((if_neg h35).trans ((if_neg h45).trans ((if_neg h59).trans ((if_pos h89).trans ((if_neg h123).trans ((if_pos h141).trans ((if_pos h175).trans ((if_neg h187).trans (rfl))))))))))))
                  · refine rb_iconst C dX8_call_178 (v := 5) (by decide) ?_
                    exact rb_iret C E dX8_call_179 (Nat.le_of_ble_eq_true rfl) (Nat.le_of_ble_eq_true rfl) (pp_ ((if_neg h5).trans ((if_neg h13).trans ((if_neg h35).trans ((if_neg h45).trans ((if_neg h59).trans ((if_pos h89).trans ((if_neg h123).trans ((if_pos h141).trans ((if_neg h175).trans (rfl)))))))))))
                · refine rb_iload C dX8_call_144 rfl ?_
                  refine rb_aload_n C dX8_call_146 rfl ?_
                  refine rw_getP C FR_X8_20 dX8_call_147 rfl (o := some (14, 5, 0)) (hm.1 5 (by decide)) ?_
                  refine rb_iconst C dX8_call_150 (v := 3) (by decide) ?_
                  refine rb_aload_n C dX8_call_151 rfl ?_
                  refine rw_getP C FR_X8_47 dX8_call_152 rfl (o := some (14, 16, 0)) (hm.1 16 (by decide)) ?_
                  refine rb_iload_n C dX8_call_155 rfl ?_
                  refine rw_iald C (x := (W (14, 16, 0) o.toNatClampNeg)) 10 o.toNatClampNeg dX8_call_156 rfl (hm.2 16 (by decide)) ho rfl ((up2_n _ _ _ _ (fun q => absurd (congrArg Prod.fst q.1) (show ¬ ((14 : Nat) = 16) by decide))).trans (rfl)) ?_
                  refine rb_imul C dX8_call_157 ?_
                  refine rb_iconst C dX8_call_158 (v := 2) (by decide) ?_
                  refine rb_iadd C dX8_call_159 ?_
                  refine rw_iald C (x := (W (14, 5, 0) (3 * (W (14, 16, 0) o.toNatClampNeg).toNatClampNeg + 2))) 18 (3 * (W (14, 16, 0) o.toNatClampNeg).toNatClampNeg + 2) dX8_call_160 rfl (hm.2 5 (by decide)) (ix_lin (N := 18) 3 3 rfl (hM.1 o.toNatClampNeg) (show ¬ ((2 : Int32) < 0 ∨ 3 ≤ (2 : Int32).toNatClampNeg) by decide) (by decide) (by decide) (by decide)).1 ((ix_lin (N := 18) 3 3 rfl (hM.1 o.toNatClampNeg) (show ¬ ((2 : Int32) < 0 ∨ 3 ≤ (2 : Int32).toNatClampNeg) by decide) (by decide) (by decide) (by decide)).2.trans (by rw [(show ((W (14, 16, 0) o.toNatClampNeg)).toNatClampNeg = (W (14, 16, 0) o.toNatClampNeg).toNatClampNeg from rfl), (show (2 : Int32).toNatClampNeg = 2 from rfl)])) ((up2_n _ _ _ _ (fun q => absurd (congrArg Prod.fst q.1) (show ¬ ((14 : Nat) = 16) by decide))).trans (rfl)) ?_
                  refine rb_imul C dX8_call_161 ?_
                  refine rb_goto C 166 dX8_call_162 (by decide) ?_
                  refine rb_istore C dX8_call_166 (Nat.le_of_ble_eq_true rfl) rfl (Lv' := [_, _, _, _, _, _, _, _, _]) rfl ?_
                  refine rb_aload_n C dX8_call_168 rfl ?_
                  refine rb_iload_n C dX8_call_169 rfl ?_
                  refine rb_iload C dX8_call_170 rfl ?_
                  refine rb_callV C M_X8_179 (fun l X => (k_X8_isAbove l X G (up2 W (16, 0, 0) 0 0) s (((sec + 59) / 60) * (W (14, 5, 0) (3 * (W (14, 16, 0) s.toNatClampNeg).toNatClampNeg + 1))) hm hs).m) rfl (Nat.le_of_ble_eq_true rfl) rfl dX8_call_172 rfl rfl rfl (Nat.le_of_ble_eq_true rfl) ⟨(Nat.le_of_ble_eq_true rfl), (Nat.le_of_ble_eq_true rfl)⟩ (Nat.le_of_ble_eq_true rfl) (Nat.le_of_ble_eq_true rfl) (fun v G' hp => ?_) (fun _ _ hp => hp.elim)
                  obtain ⟨rfl, e9⟩ := hp
                  rw [e9]
                  clear e9 G'
                  refine rb_if_eq C 180 dX8_call_175 (by decide) (fun h175 => ?_) (fun h175 => ?_)
                  · refine rb_aload_n C dX8_call_180 rfl ?_
                    refine rb_iload_n C dX8_call_181 rfl ?_
                    refine rb_iload C dX8_call_182 rfl ?_
                    refine rb_callV C M_X8_179 (fun l X => (k_X8_isAbove l X G (up2 W (16, 0, 0) 0 0) o (((sec + 59) / 60) * (W (14, 5, 0) (3 * (W (14, 16, 0) o.toNatClampNeg).toNatClampNeg + 2))) hm ho).m) rfl (Nat.le_of_ble_eq_true rfl) rfl dX8_call_184 rfl rfl rfl (Nat.le_of_ble_eq_true rfl) ⟨(Nat.le_of_ble_eq_true rfl), (Nat.le_of_ble_eq_true rfl)⟩ (Nat.le_of_ble_eq_true rfl) (Nat.le_of_ble_eq_true rfl) (fun v G' hp => ?_) (fun _ _ hp => hp.elim)
                    obtain ⟨rfl, e9⟩ := hp
                    rw [e9]
                    clear e9 G'
                    refine rb_if_eq C 193 dX8_call_187 (by decide) (fun h187 => ?_) (fun h187 => ?_)
                    · refine rb_aload_n C dX8_call_193 rfl ?_
                      refine rb_iload_n C dX8_call_194 rfl ?_
                      refine rb_iload C dX8_call_195 rfl ?_
                      refine rb_callV C M_X8_182 (fun l X => (k_X8_pays l X G (up2 W (16, 0, 0) 0 0) s (((sec + 59) / 60) * (W (14, 5, 0) (3 * (W (14, 16, 0) s.toNatClampNeg).toNatClampNeg + 1))) hm hs).m) rfl (Nat.le_of_ble_eq_true rfl) rfl dX8_call_197 rfl rfl rfl (Nat.le_of_ble_eq_true rfl) ⟨(Nat.le_of_ble_eq_true rfl), (Nat.le_of_ble_eq_true rfl)⟩ (Nat.le_of_ble_eq_true rfl) (Nat.le_of_ble_eq_true rfl) (fun v G' hp => ?_) (fun _ _ hp => hp.elim)
                      obtain ⟨rfl, e9⟩ := hp
                      rw [e9]
                      clear e9 G'
                      refine rb_aload_n C dX8_call_200 rfl ?_
                      refine rb_iload_n C dX8_call_201 rfl ?_
                      refine rb_iload C dX8_call_202 rfl ?_
                      refine rb_callV C M_X8_182 (fun l X => (k_X8_pays l X G (m_pays (up2 W (16, 0, 0) 0 0) s (((sec + 59) / 60) * (W (14, 5, 0) (3 * (W (14, 16, 0) s.toNatClampNeg).toNatClampNeg + 1)))) o (((sec + 59) / 60) * (W (14, 5, 0) (3 * (W (14, 16, 0) o.toNatClampNeg).toNatClampNeg + 2))) hm ho).m) rfl (Nat.le_of_ble_eq_true rfl) rfl dX8_call_204 rfl rfl rfl (Nat.le_of_ble_eq_true rfl) ⟨(Nat.le_of_ble_eq_true rfl), (Nat.le_of_ble_eq_true rfl)⟩ (Nat.le_of_ble_eq_true rfl) (Nat.le_of_ble_eq_true rfl) (fun v G' hp => ?_) (fun _ _ hp => hp.elim)
                      obtain ⟨rfl, e9⟩ := hp
                      rw [e9]
                      clear e9 G'
                      refine rb_aload_n C dX8_call_207 rfl ?_
                      refine rb_iload_n C dX8_call_208 rfl ?_
                      refine rb_iload C dX8_call_209 rfl ?_
                      refine rb_callV C M_X8_186 (fun l X => (k_X8_records l X G (m_pays (m_pays (up2 W (16, 0, 0) 0 0) s (((sec + 59) / 60) * (W (14, 5, 0) (3 * (W (14, 16, 0) s.toNatClampNeg).toNatClampNeg + 1)))) o (((sec + 59) / 60) * (W (14, 5, 0) (3 * (W (14, 16, 0) o.toNatClampNeg).toNatClampNeg + 2)))) s ((sec + 59) / 60) hm (mi_pays _ _ (mi_pays _ _ (mi_thr 0 hM))) hs (by rw [m_pays_o (by simp) (by simp) (by simp), m_pays_o (by simp) (by simp) (by simp)]; exact vp_in_up (hr h59) (by decide))).m) rfl (Nat.le_of_ble_eq_true rfl) rfl dX8_call_211 rfl rfl rfl (Nat.le_of_ble_eq_true rfl) ⟨(Nat.le_of_ble_eq_true rfl), (Nat.le_of_ble_eq_true rfl)⟩ (Nat.le_of_ble_eq_true rfl) (Nat.le_of_ble_eq_true rfl) (fun v G' hp => ?_) (fun _ _ hp => hp.elim)
                      obtain ⟨rfl, e9⟩ := hp
                      rw [e9]
                      clear e9 G'
                      refine rb_aload_n C dX8_call_214 rfl ?_
                      refine rb_iload_n C dX8_call_215 rfl ?_
                      refine rb_iload C dX8_call_216 rfl ?_
                      refine rb_callV C M_X8_186 (fun l X => (k_X8_records l X G (m_records (m_pays (m_pays (up2 W (16, 0, 0) 0 0) s (((sec + 59) / 60) * (W (14, 5, 0) (3 * (W (14, 16, 0) s.toNatClampNeg).toNatClampNeg + 1)))) o (((sec + 59) / 60) * (W (14, 5, 0) (3 * (W (14, 16, 0) o.toNatClampNeg).toNatClampNeg + 2)))) s ((sec + 59) / 60)) o ((sec + 59) / 60) hm (mi_records _ _ (mi_pays _ _ (mi_pays _ _ (mi_thr 0 hM))) (by rw [m_pays_o (by simp) (by simp) (by simp), m_pays_o (by simp) (by simp) (by simp)]; exact vp_in_up (hr h59) (by decide))) ho (m_records_29 (by rw [m_pays_o (by simp) (by simp) (by simp), m_pays_o (by simp) (by simp) (by simp)]; exact hr h59))).m) rfl (Nat.le_of_ble_eq_true rfl) rfl dX8_call_218 rfl rfl rfl (Nat.le_of_ble_eq_true rfl) ⟨(Nat.le_of_ble_eq_true rfl), (Nat.le_of_ble_eq_true rfl)⟩ (Nat.le_of_ble_eq_true rfl) (Nat.le_of_ble_eq_true rfl) (fun v G' hp => ?_) (fun _ _ hp => hp.elim)
                      obtain ⟨rfl, e9⟩ := hp
                      rw [e9]
                      clear e9 G'
                      refine rb_aload_n C dX8_call_221 rfl ?_
                      refine rb_dup C dX8_call_222 rfl ?_
                      refine rw_getI C FR_X8_173 dX8_call_223 rfl (x := ((m_records (m_records (m_pays (m_pays (up2 W (16, 0, 0) 0 0) s (((sec + 59) / 60) * (W (14, 5, 0) (3 * (W (14, 16, 0) s.toNatClampNeg).toNatClampNeg + 1)))) o (((sec + 59) / 60) * (W (14, 5, 0) (3 * (W (14, 16, 0) o.toNatClampNeg).toNatClampNeg + 2)))) s ((sec + 59) / 60)) o ((sec + 59) / 60)) (16, 0, 0) 28)) (rfl) ?_
                      refine rb_iconst C dX8_call_226 (v := 1) (by decide) ?_
                      refine rb_iadd C dX8_call_227 ?_
                      refine rw_putI C F_X8_173 dX8_call_228 rfl ⟨rfl, rfl⟩ ?_
                      refine rb_iconst C dX8_call_231 (v := 0) (by decide) ?_
                      exact rb_iret C E dX8_call_232 (Nat.le_of_ble_eq_true rfl) (Nat.le_of_ble_eq_true rfl) (pp_ ((if_neg h5).trans ((if_neg h13).trans ((if_neg h35).trans ((if_neg h45).trans ((if_neg h59).trans ((if_pos h89).trans ((if_neg h123).trans ((if_neg h141).trans ((if_pos h175).trans ((if_pos h187).trans (rfl))))))))))))
                    · refine rb_bipush C dX8_call_190 (v := 6) (by decide) ?_
                      exact rb_iret C E dX8_call_192 (Nat.le_of_ble_eq_true rfl) (Nat.le_of_ble_eq_true rfl) (pp_ ((if_neg h5).trans ((if_neg h13).trans ((if_neg h35).trans ((if_neg h45).trans ((if_neg h59).trans ((if_pos h89).trans ((if_neg h123).trans ((if_neg h141).trans ((if_pos h175).trans ((if_neg h187).trans (rfl))))))))))))
                  · refine rb_iconst C dX8_call_178 (v := 5) (by decide) ?_
                    exact rb_iret C E dX8_call_179 (Nat.le_of_ble_eq_true rfl) (Nat.le_of_ble_eq_true rfl) (pp_ ((if_neg h5).trans ((if_neg h13).trans ((if_neg h35).trans ((if_neg h45).trans ((if_neg h59).trans ((if_pos h89).trans ((if_neg h123).trans ((if_neg h141).trans ((if_neg h175).trans (rfl)))))))))))
            · refine rb_iload C dX8_call_92 rfl ?_
              exact rb_iret C E dX8_call_94 (Nat.le_of_ble_eq_true rfl) (Nat.le_of_ble_eq_true rfl) (pp_ ((if_neg h5).trans ((if_neg h13).trans ((if_neg h35).trans ((if_neg h45).trans ((if_neg h59).trans ((if_neg h89).trans (rfl))))))))
          · refine rb_iconst C dX8_call_62 (v := 3) (by decide) ?_
            refine rb_goto C 67 dX8_call_63 (by decide) ?_
            refine rw_putI C F_X8_110 dX8_call_67 rfl ⟨rfl, rfl⟩ ?_
            refine rb_aload_n C dX8_call_70 rfl ?_
            refine rw_getI C FR_X8_110 dX8_call_71 rfl (x := 3) (up2_s _ _ _ _) ?_
            refine rb_if_le C 79 dX8_call_74 (by decide) (fun h9 => absurd h9 (by decide)) (fun _ => ?_)
            refine rb_iconst C dX8_call_77 (v := 0) (by decide) ?_
            exact rb_iret C E dX8_call_78 (Nat.le_of_ble_eq_true rfl) (Nat.le_of_ble_eq_true rfl) (pp_ ((if_neg h5).trans ((if_neg h13).trans ((if_neg h35).trans ((if_neg h45).trans ((if_pos h59).trans (rfl)))))))
        · refine rb_iconst C dX8_call_48 (v := 2) (by decide) ?_
          refine rb_goto C 67 dX8_call_49 (by decide) ?_
          refine rw_putI C F_X8_110 dX8_call_67 rfl ⟨rfl, rfl⟩ ?_
          refine rb_aload_n C dX8_call_70 rfl ?_
          refine rw_getI C FR_X8_110 dX8_call_71 rfl (x := 2) (up2_s _ _ _ _) ?_
          refine rb_if_le C 79 dX8_call_74 (by decide) (fun h9 => absurd h9 (by decide)) (fun _ => ?_)
          refine rb_iconst C dX8_call_77 (v := 0) (by decide) ?_
          exact rb_iret C E dX8_call_78 (Nat.le_of_ble_eq_true rfl) (Nat.le_of_ble_eq_true rfl) (pp_ ((if_neg h5).trans ((if_neg h13).trans ((if_neg h35).trans ((if_pos h45).trans (rfl))))))

