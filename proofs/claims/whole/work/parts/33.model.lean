theorem m_empties_o {W : rb_I} {n : Int32} {r : rb_R} {k : Nat} (h : r ≠ (14, 27, 0)) : m_empties W n r k = W r k := by
  unfold m_empties
  exact fo_inv (f := m_empties_b n) (a := W) (P := fun w : rb_I => w r k = W r k) rfl (fun i a q => by
    unfold m_empties_b
    rw [up2_n _ _ _ _ (fun e => h e.1)]
    exact q) 10
theorem m_makesContact_o {W : rb_I} {s : Int32} {r : rb_R} {k : Nat} (h1 : r ≠ (14, 27, 0)) (h2 : r ≠ (14, 6, 0)) (h3 : r ≠ (14, 21, 0)) : m_makesContact W s r k = W r k := by
  unfold m_makesContact
  repeat (any_goals split)
  all_goals simp [up2, h1, h2, h3]
theorem mi_makesContact {W : rb_I} (s : Int32) (hM : MI W) : MI (m_makesContact W s) := by
  obtain ⟨a1, a2, a3, a4, a5, a6, a7, a8, a9, a10, a11⟩ := hM
  refine ⟨fun j => ?_, fun j => ?_, fun j => ?_, fun j => ?_, fun j => ?_, fun j => ?_, ?_, ?_, ?_, ?_, fun j => ?_⟩
  · rw [m_makesContact_o (by simp) (by simp) (by simp)]; exact a1 j
  · rw [m_makesContact_o (by simp) (by simp) (by simp)]; exact a2 j
  · rw [m_makesContact_o (by simp) (by simp) (by simp)]; exact a3 j
  · unfold m_makesContact
    repeat (any_goals split)
    all_goals simp only [up2, Prod.mk.injEq]
    all_goals simp
    all_goals first | exact a4 j | (split; exact a3 _; exact a4 j)
  · rw [m_makesContact_o (by simp) (by simp) (by simp)]; exact a5 j
  · rw [m_makesContact_o (by simp) (by simp) (by simp)]; exact a6 j
  · rw [m_makesContact_o (by simp) (by simp) (by simp)]; exact a7
  · rw [m_makesContact_o (by simp) (by simp) (by simp)]; exact a8
  · rw [m_makesContact_o (by simp) (by simp) (by simp)]; exact a9
  · rw [m_makesContact_o (by simp) (by simp) (by simp)]; exact a10
  · rw [m_makesContact_o (by simp) (by simp) (by simp)]; exact a11 j
theorem m_pays_o {W : rb_I} {s m : Int32} {r : rb_R} {k : Nat} (h1 : r ≠ (14, 24, 0)) (h2 : r ≠ (14, 25, 0)) (h3 : r ≠ (14, 26, 0)) : m_pays W s m r k = W r k := by
  unfold m_pays
  repeat (any_goals split)
  all_goals simp [up2, h1, h2, h3]
theorem mi_pays {W : rb_I} (s m : Int32) (hM : MI W) : MI (m_pays W s m) := by
  unfold MI at *
  simpa [m_pays_o] using hM
def m_records (W : rb_I) (s : Int32) (its : Int32) : rb_I := (if (m_isAbroad W s) = 0 then W else (up2 (up2 (up2 (up2 (up2 (up2 (up2 W (14, 30, 0) (W (16, 0, 0) 29).toNatClampNeg (W (14, 16, 0) s.toNatClampNeg)) (14, 31, 0) (W (16, 0, 0) 29).toNatClampNeg (W (14, 19, 0) s.toNatClampNeg)) (14, 32, 0) (W (16, 0, 0) 29).toNatClampNeg its) (14, 33, 0) (W (16, 0, 0) 29).toNatClampNeg (W (16, 0, 0) 1)) (14, 34, 0) (W (16, 0, 0) 29).toNatClampNeg (m_agreement (up2 (up2 (up2 (up2 W (14, 30, 0) (W (16, 0, 0) 29).toNatClampNeg (W (14, 16, 0) s.toNatClampNeg)) (14, 31, 0) (W (16, 0, 0) 29).toNatClampNeg (W (14, 19, 0) s.toNatClampNeg)) (14, 32, 0) (W (16, 0, 0) 29).toNatClampNeg its) (14, 33, 0) (W (16, 0, 0) 29).toNatClampNeg (W (16, 0, 0) 1)) (W (14, 16, 0) s.toNatClampNeg) (W (14, 19, 0) s.toNatClampNeg))) (14, 35, 0) (W (16, 0, 0) 29).toNatClampNeg 0) (16, 0, 0) 29 ((W (16, 0, 0) 29) + 1)))
set_option maxRecDepth 100000 in
set_option maxHeartbeats 4000000 in
theorem k_X8_records (l : Launch) (X : rb_X) (G : rb_G) (W : rb_I) (s : Int32) (its : Int32) (hm : MS G) (hM : MI W) (hs : vp_in s 10) (hr : vp_in (W (16, 0, 0) 29) 400) : rb_N l X yX8_records (.code yX8_records cX8_records 3 none) 2 37 0 0 [rbR (16, 0, 0), rbI s, rbI its] (wI G W) (fun v9 G9 => v9 = none ∧ G9 = wI G (m_records W s its)) := by
  refine rb_startN RX8 rfl (by decide +kernel) rfl (Nat.le_of_ble_eq_true rfl) ?_
  intro Φ C E nm
  show rb_W Φ 0 0 0 [some (rbR (16, 0, 0)), some (rbI s), some (rbI its)] [] (wI G W)
  refine rb_aload_n C dX8_records_0 rfl ?_
  refine rb_iload_n C dX8_records_1 rfl ?_
  refine rb_callV C M_X8_166 (fun l X => (k_X8_isAbroad l X G W s hm hs).m) rfl (Nat.le_of_ble_eq_true rfl) rfl dX8_records_2 rfl rfl rfl (Nat.le_of_ble_eq_true rfl) ⟨(Nat.le_of_ble_eq_true rfl), (Nat.le_of_ble_eq_true rfl)⟩ (Nat.le_of_ble_eq_true rfl) (Nat.le_of_ble_eq_true rfl) (fun v G' hp => ?_) (fun _ _ hp => hp.elim)
  obtain ⟨rfl, e9⟩ := hp
  rw [e9]
  clear e9 G'
  refine rb_if_ne C 9 dX8_records_5 (by decide) (fun h5 => ?_) (fun h5 => ?_)
  · refine rb_aload_n C dX8_records_9 rfl ?_
    refine rw_getP C FR_X8_83 dX8_records_10 rfl (o := some (14, 30, 0)) (hm.1 30 (by decide)) ?_
    refine rb_aload_n C dX8_records_13 rfl ?_
    refine rw_getI C FR_X8_169 dX8_records_14 rfl (x := (W (16, 0, 0) 29)) (rfl) ?_
    refine rb_aload_n C dX8_records_17 rfl ?_
    refine rw_getP C FR_X8_47 dX8_records_18 rfl (o := some (14, 16, 0)) (hm.1 16 (by decide)) ?_
    refine rb_iload_n C dX8_records_21 rfl ?_
    refine rw_iald C (x := (W (14, 16, 0) s.toNatClampNeg)) 10 s.toNatClampNeg dX8_records_22 rfl (hm.2 16 (by decide)) hs rfl (rfl) ?_
    refine rw_iast C 400 (W (16, 0, 0) 29).toNatClampNeg dX8_records_23 rfl (hm.2 30 (by decide)) hr rfl ?_
    refine rb_aload_n C dX8_records_24 rfl ?_
    refine rw_getP C FR_X8_86 dX8_records_25 rfl (o := some (14, 31, 0)) (hm.1 31 (by decide)) ?_
    refine rb_aload_n C dX8_records_28 rfl ?_
    refine rw_getI C FR_X8_169 dX8_records_29 rfl (x := (W (16, 0, 0) 29)) ((up2_n _ _ _ _ (fun q => absurd (congrArg Prod.fst q.1) (show ¬ ((16 : Nat) = 14) by decide))).trans (rfl)) ?_
    refine rb_aload_n C dX8_records_32 rfl ?_
    refine rw_getP C FR_X8_56 dX8_records_33 rfl (o := some (14, 19, 0)) (hm.1 19 (by decide)) ?_
    refine rb_iload_n C dX8_records_36 rfl ?_
    refine rw_iald C (x := (W (14, 19, 0) s.toNatClampNeg)) 10 s.toNatClampNeg dX8_records_37 rfl (hm.2 19 (by decide)) hs rfl ((up2_n _ _ _ _ (fun q => absurd (congrArg (fun r : rb_R => r.2.1) q.1) (show ¬ ((19 : Nat) = 30) by decide))).trans (rfl)) ?_
    refine rw_iast C 400 (W (16, 0, 0) 29).toNatClampNeg dX8_records_38 rfl (hm.2 31 (by decide)) hr rfl ?_
    refine rb_aload_n C dX8_records_39 rfl ?_
    refine rw_getP C FR_X8_89 dX8_records_40 rfl (o := some (14, 32, 0)) (hm.1 32 (by decide)) ?_
    refine rb_aload_n C dX8_records_43 rfl ?_
    refine rw_getI C FR_X8_169 dX8_records_44 rfl (x := (W (16, 0, 0) 29)) ((up2_n _ _ _ _ (fun q => absurd (congrArg Prod.fst q.1) (show ¬ ((16 : Nat) = 14) by decide))).trans ((up2_n _ _ _ _ (fun q => absurd (congrArg Prod.fst q.1) (show ¬ ((16 : Nat) = 14) by decide))).trans (rfl))) ?_
    refine rb_iload_n C dX8_records_47 rfl ?_
    refine rw_iast C 400 (W (16, 0, 0) 29).toNatClampNeg dX8_records_48 rfl (hm.2 32 (by decide)) hr rfl ?_
    refine rb_aload_n C dX8_records_49 rfl ?_
    refine rw_getP C FR_X8_92 dX8_records_50 rfl (o := some (14, 33, 0)) (hm.1 33 (by decide)) ?_
    refine rb_aload_n C dX8_records_53 rfl ?_
    refine rw_getI C FR_X8_169 dX8_records_54 rfl (x := (W (16, 0, 0) 29)) ((up2_n _ _ _ _ (fun q => absurd (congrArg Prod.fst q.1) (show ¬ ((16 : Nat) = 14) by decide))).trans ((up2_n _ _ _ _ (fun q => absurd (congrArg Prod.fst q.1) (show ¬ ((16 : Nat) = 14) by decide))).trans ((up2_n _ _ _ _ (fun q => absurd (congrArg Prod.fst q.1) (show ¬ ((16 : Nat) = 14) by decide))).trans (rfl)))) ?_
    refine rb_aload_n C dX8_records_57 rfl ?_
    refine rw_getI C FR_X8_141 dX8_records_58 rfl (x := (W (16, 0, 0) 1)) ((up2_n _ _ _ _ (fun q => absurd (congrArg Prod.fst q.1) (show ¬ ((16 : Nat) = 14) by decide))).trans ((up2_n _ _ _ _ (fun q => absurd (congrArg Prod.fst q.1) (show ¬ ((16 : Nat) = 14) by decide))).trans ((up2_n _ _ _ _ (fun q => absurd (congrArg Prod.fst q.1) (show ¬ ((16 : Nat) = 14) by decide))).trans (rfl)))) ?_
    refine rw_iast C 400 (W (16, 0, 0) 29).toNatClampNeg dX8_records_61 rfl (hm.2 33 (by decide)) hr rfl ?_
    refine rb_aload_n C dX8_records_62 rfl ?_
    refine rw_getP C FR_X8_95 dX8_records_63 rfl (o := some (14, 34, 0)) (hm.1 34 (by decide)) ?_
    refine rb_aload_n C dX8_records_66 rfl ?_
    refine rw_getI C FR_X8_169 dX8_records_67 rfl (x := (W (16, 0, 0) 29)) ((up2_n _ _ _ _ (fun q => absurd (congrArg Prod.fst q.1) (show ¬ ((16 : Nat) = 14) by decide))).trans ((up2_n _ _ _ _ (fun q => absurd (congrArg Prod.fst q.1) (show ¬ ((16 : Nat) = 14) by decide))).trans ((up2_n _ _ _ _ (fun q => absurd (congrArg Prod.fst q.1) (show ¬ ((16 : Nat) = 14) by decide))).trans ((up2_n _ _ _ _ (fun q => absurd (congrArg Prod.fst q.1) (show ¬ ((16 : Nat) = 14) by decide))).trans (rfl))))) ?_
    refine rb_aload_n C dX8_records_70 rfl ?_
    refine rb_aload_n C dX8_records_71 rfl ?_
    refine rw_getP C FR_X8_47 dX8_records_72 rfl (o := some (14, 16, 0)) (hm.1 16 (by decide)) ?_
    refine rb_iload_n C dX8_records_75 rfl ?_
    refine rw_iald C (x := (W (14, 16, 0) s.toNatClampNeg)) 10 s.toNatClampNeg dX8_records_76 rfl (hm.2 16 (by decide)) hs rfl ((up2_n _ _ _ _ (fun q => absurd (congrArg (fun r : rb_R => r.2.1) q.1) (show ¬ ((16 : Nat) = 33) by decide))).trans ((up2_n _ _ _ _ (fun q => absurd (congrArg (fun r : rb_R => r.2.1) q.1) (show ¬ ((16 : Nat) = 32) by decide))).trans ((up2_n _ _ _ _ (fun q => absurd (congrArg (fun r : rb_R => r.2.1) q.1) (show ¬ ((16 : Nat) = 31) by decide))).trans ((up2_n _ _ _ _ (fun q => absurd (congrArg (fun r : rb_R => r.2.1) q.1) (show ¬ ((16 : Nat) = 30) by decide))).trans (rfl))))) ?_
    refine rb_aload_n C dX8_records_77 rfl ?_
    refine rw_getP C FR_X8_56 dX8_records_78 rfl (o := some (14, 19, 0)) (hm.1 19 (by decide)) ?_
    refine rb_iload_n C dX8_records_81 rfl ?_
    refine rw_iald C (x := (W (14, 19, 0) s.toNatClampNeg)) 10 s.toNatClampNeg dX8_records_82 rfl (hm.2 19 (by decide)) hs rfl ((up2_n _ _ _ _ (fun q => absurd (congrArg (fun r : rb_R => r.2.1) q.1) (show ¬ ((19 : Nat) = 33) by decide))).trans ((up2_n _ _ _ _ (fun q => absurd (congrArg (fun r : rb_R => r.2.1) q.1) (show ¬ ((19 : Nat) = 32) by decide))).trans ((up2_n _ _ _ _ (fun q => absurd (congrArg (fun r : rb_R => r.2.1) q.1) (show ¬ ((19 : Nat) = 31) by decide))).trans ((up2_n _ _ _ _ (fun q => absurd (congrArg (fun r : rb_R => r.2.1) q.1) (show ¬ ((19 : Nat) = 30) by decide))).trans (rfl))))) ?_
    refine rb_callV C M_X8_147 (fun l X => (k_X8_agreement l X G (up2 (up2 (up2 (up2 W (14, 30, 0) (W (16, 0, 0) 29).toNatClampNeg (W (14, 16, 0) s.toNatClampNeg)) (14, 31, 0) (W (16, 0, 0) 29).toNatClampNeg (W (14, 19, 0) s.toNatClampNeg)) (14, 32, 0) (W (16, 0, 0) 29).toNatClampNeg its) (14, 33, 0) (W (16, 0, 0) 29).toNatClampNeg (W (16, 0, 0) 1)) (W (14, 16, 0) s.toNatClampNeg) (W (14, 19, 0) s.toNatClampNeg) hm (by unfold MI at *; simpa [up2] using hM)).m) rfl (Nat.le_of_ble_eq_true rfl) rfl dX8_records_83 rfl rfl rfl (Nat.le_of_ble_eq_true rfl) ⟨(Nat.le_of_ble_eq_true rfl), (Nat.le_of_ble_eq_true rfl)⟩ (Nat.le_of_ble_eq_true rfl) (Nat.le_of_ble_eq_true rfl) (fun v G' hp => ?_) (fun _ _ hp => hp.elim)
    obtain ⟨rfl, e9⟩ := hp
    rw [e9]
    clear e9 G'
    refine rw_iast C 400 (W (16, 0, 0) 29).toNatClampNeg dX8_records_86 rfl (hm.2 34 (by decide)) hr rfl ?_
    refine rb_aload_n C dX8_records_87 rfl ?_
    refine rw_getP C FR_X8_98 dX8_records_88 rfl (o := some (14, 35, 0)) (hm.1 35 (by decide)) ?_
    refine rb_aload_n C dX8_records_91 rfl ?_
    refine rw_getI C FR_X8_169 dX8_records_92 rfl (x := (W (16, 0, 0) 29)) ((up2_n _ _ _ _ (fun q => absurd (congrArg Prod.fst q.1) (show ¬ ((16 : Nat) = 14) by decide))).trans ((up2_n _ _ _ _ (fun q => absurd (congrArg Prod.fst q.1) (show ¬ ((16 : Nat) = 14) by decide))).trans ((up2_n _ _ _ _ (fun q => absurd (congrArg Prod.fst q.1) (show ¬ ((16 : Nat) = 14) by decide))).trans ((up2_n _ _ _ _ (fun q => absurd (congrArg Prod.fst q.1) (show ¬ ((16 : Nat) = 14) by decide))).trans ((up2_n _ _ _ _ (fun q => absurd (congrArg Prod.fst q.1) (show ¬ ((16 : Nat) = 14) by decide))).trans (rfl)))))) ?_
    refine rb_iconst C dX8_records_95 (v := 0) (by decide) ?_
    refine rw_iast C 400 (W (16, 0, 0) 29).toNatClampNeg dX8_records_96 rfl (hm.2 35 (by decide)) hr rfl ?_
    refine rb_aload_n C dX8_records_97 rfl ?_
    refine rb_dup C dX8_records_98 rfl ?_
    refine rw_getI C FR_X8_169 dX8_records_99 rfl (x := (W (16, 0, 0) 29)) ((up2_n _ _ _ _ (fun q => absurd (congrArg Prod.fst q.1) (show ¬ ((16 : Nat) = 14) by decide))).trans ((up2_n _ _ _ _ (fun q => absurd (congrArg Prod.fst q.1) (show ¬ ((16 : Nat) = 14) by decide))).trans ((up2_n _ _ _ _ (fun q => absurd (congrArg Prod.fst q.1) (show ¬ ((16 : Nat) = 14) by decide))).trans ((up2_n _ _ _ _ (fun q => absurd (congrArg Prod.fst q.1) (show ¬ ((16 : Nat) = 14) by decide))).trans ((up2_n _ _ _ _ (fun q => absurd (congrArg Prod.fst q.1) (show ¬ ((16 : Nat) = 14) by decide))).trans ((up2_n _ _ _ _ (fun q => absurd (congrArg Prod.fst q.1) (show ¬ ((16 : Nat) = 14) by decide))).trans (rfl))))))) ?_
    refine rb_iconst C dX8_records_102 (v := 1) (by decide) ?_
    refine rb_iadd C dX8_records_103 ?_
    refine rw_putI C F_X8_169 dX8_records_104 rfl ⟨rfl, rfl⟩ ?_
    exact rb_vret C E dX8_records_107 (Nat.le_of_ble_eq_true rfl) (Nat.le_of_ble_eq_true rfl) (pw_ ((if_neg h5).trans (rfl)))
  · exact rb_vret C E dX8_records_8 (Nat.le_of_ble_eq_true rfl) (Nat.le_of_ble_eq_true rfl) (pw_ ((if_pos h5).trans (rfl)))

theorem mi_records {W : rb_I} (s its : Int32) (hM : MI W) (hr : vp_in (W (16, 0, 0) 29) 400) : MI (m_records W s its) := by
  have hq := hM
  obtain ⟨a1, a2, a3, a4, a5, a6, a7, a8, a9, a10, a11⟩ := hM
  have e1 : vp_in (W (16, 0, 0) 29 + 1) 401 := by
    have h1 := vp_in_lt hr
    rw [vp_in_e hr, nI_1]
    exact vp_in_nI (by omega) (by decide)
  have e2 : ∀ W', MI W' → ∀ a b, m_agreement W' a b = -1 ∨ vp_in (m_agreement W' a b) 30 := by
    intro W' hW' a b
    unfold m_agreement
    have hN := vp_in_lt hW'.2.2.2.2.2.2.1
    refine fo_inv' (f := m_agreement_b W' a b) (a := -1) (P := fun _ x => x = -1 ∨ vp_in x 30) (N := (W' (16, 0, 0) 7).toNatClampNeg) (Or.inl rfl) (fun i hi x hx => ?_) _ (Nat.le_refl _)
    unfold m_agreement_b
    repeat (any_goals split)
    all_goals first | exact hx | exact Or.inr (vp_in_nI (by omega) (by decide))
  unfold m_records
  split
  · exact hq
  · refine ⟨?_, ?_, ?_, ?_, ?_, ?_, ?_, ?_, ?_, ?_, ?_⟩
    all_goals simp only [up2, Prod.mk.injEq]
    all_goals simp
    · exact a1
    · exact a2
    · exact a3
    · exact a4
    · exact a5
    · intro r
      split
      · exact e2 _ (by unfold MI at *; simpa [up2] using hq) _ _
      · exact a6 r
    · exact a7
    · exact a8
    · exact a9
    · exact e1
    · exact a11
def m_reach_b (p : Int32) (ns : Int32) (i : Nat) (s : rb_I) : rb_I := (if (s (14, 17, 0) i) = p then (if (s (14, 19, 0) i) = (-1) then s else (if (m_isIn ns (s (14, 19, 0) i)) = 0 then (up2 s (14, 19, 0) i (-1)) else s)) else s)
def m_reach (W : rb_I) (p : Int32) (ns : Int32) : Int32 × rb_I := (if (m_isPlace p) = 0 then (0, (up2 W (16, 0, 0) 0 1)) else (if (m_in ns (0 : Int32) (63 : Int32)) = 0 then (0, (up2 W (16, 0, 0) 0 2)) else ((W (14, 2, 0) p.toNatClampNeg), (fo (m_reach_b p ns) (W (16, 0, 0) 15).toNatClampNeg (up2 (up2 W (16, 0, 0) 0 0) (14, 2, 0) p.toNatClampNeg ns)))))
set_option maxRecDepth 100000 in
set_option maxHeartbeats 4000000 in
theorem k_X8_reach (l : Launch) (X : rb_X) (G : rb_G) (W : rb_I) (p : Int32) (ns : Int32) (hm : MS G) (hM : MI W) : rb_N l X yX8_reach (.code yX8_reach cX8_reach 5 (some .int)) 3 54 0 0 [rbR (16, 0, 0), rbI p, rbI ns] (wI G W) (fun v9 G9 => v9 = some (rbI (m_reach W p ns).1) ∧ G9 = wI G (m_reach W p ns).2) := by
  refine rb_startN RX8 rfl (by decide +kernel) rfl (Nat.le_of_ble_eq_true rfl) ?_
  intro Φ C E nm
  show rb_W Φ 0 0 0 [some (rbR (16, 0, 0)), some (rbI p), some (rbI ns), none, none] [] (wI G W)
  refine rb_aload_n C dX8_reach_0 rfl ?_
  refine rb_iload_n C dX8_reach_1 rfl ?_
  refine rb_callS C M_X8_121 (fun l X => (k_X8_isPlace l X G W p).m) dX8_reach_2 rfl rfl rfl (Nat.le_of_ble_eq_true rfl) ⟨(Nat.le_of_ble_eq_true rfl), (Nat.le_of_ble_eq_true rfl)⟩ (Nat.le_of_ble_eq_true rfl) (Nat.le_of_ble_eq_true rfl) (fun v G' hp => ?_) (fun _ _ hp => hp.elim)
  obtain ⟨rfl, e9⟩ := hp
  rw [e9]
  clear e9 G'
  refine rb_if_ne C 12 dX8_reach_5 (by decide) (fun h5 => ?_) (fun h5 => ?_)
  · refine rb_iload_n C dX8_reach_12 rfl ?_
    refine rb_iconst C dX8_reach_13 (v := 0) (by decide) ?_
    refine rb_bipush C dX8_reach_14 (v := 63) (by decide) ?_
    refine rb_callS C M_X8_114 (fun l X => (k_X8_in l X G W ns (0 : Int32) (63 : Int32)).m) dX8_reach_16 rfl rfl rfl (Nat.le_of_ble_eq_true rfl) ⟨(Nat.le_of_ble_eq_true rfl), (Nat.le_of_ble_eq_true rfl)⟩ (Nat.le_of_ble_eq_true rfl) (Nat.le_of_ble_eq_true rfl) (fun v G' hp => ?_) (fun _ _ hp => hp.elim)
    obtain ⟨rfl, e9⟩ := hp
    rw [e9]
    clear e9 G'
    refine rb_if_eq C 26 dX8_reach_19 (by decide) (fun h19 => ?_) (fun h19 => ?_)
    · refine rb_iconst C dX8_reach_26 (v := 2) (by decide) ?_
      refine rw_putI C F_X8_110 dX8_reach_27 rfl ⟨rfl, rfl⟩ ?_
      refine rb_aload_n C dX8_reach_30 rfl ?_
      refine rw_getI C FR_X8_110 dX8_reach_31 rfl (x := 2) (up2_s _ _ _ _) ?_
      refine rb_if_le C 39 dX8_reach_34 (by decide) (fun h9 => absurd h9 (by decide)) (fun _ => ?_)
      refine rb_iconst C dX8_reach_37 (v := 0) (by decide) ?_
      exact rb_iret C E dX8_reach_38 (Nat.le_of_ble_eq_true rfl) (Nat.le_of_ble_eq_true rfl) (pp_ ((if_neg h5).trans ((if_pos h19).trans (rfl))))
    · refine rb_iconst C dX8_reach_22 (v := 0) (by decide) ?_
      refine rb_goto C 27 dX8_reach_23 (by decide) ?_
      refine rw_putI C F_X8_110 dX8_reach_27 rfl ⟨rfl, rfl⟩ ?_
      refine rb_aload_n C dX8_reach_30 rfl ?_
      refine rw_getI C FR_X8_110 dX8_reach_31 rfl (x := 0) (up2_s _ _ _ _) ?_
      refine rb_if_le C 39 dX8_reach_34 (by decide) (fun _ => ?_) (fun h9 => absurd (by decide) h9)
      have hp := isPlace_in h5
      refine rb_aload_n C dX8_reach_39 rfl ?_
      refine rw_getP C FR_X8_7 dX8_reach_40 rfl (o := some (14, 2, 0)) (hm.1 2 (by decide)) ?_
      refine rb_iload_n C dX8_reach_43 rfl ?_
      refine rw_iald C (x := (W (14, 2, 0) p.toNatClampNeg)) 8 p.toNatClampNeg dX8_reach_44 rfl (hm.2 2 (by decide)) hp rfl ((up2_n _ _ _ _ (fun q => absurd (congrArg Prod.fst q.1) (show ¬ ((14 : Nat) = 16) by decide))).trans (rfl)) ?_
      refine rb_istore_n C dX8_reach_45 (Nat.le_of_ble_eq_true rfl) rfl (Lv' := [_, _, _, _, _]) rfl ?_
      refine rb_aload_n C dX8_reach_46 rfl ?_
      refine rw_getP C FR_X8_7 dX8_reach_47 rfl (o := some (14, 2, 0)) (hm.1 2 (by decide)) ?_
      refine rb_iload_n C dX8_reach_50 rfl ?_
      refine rb_iload_n C dX8_reach_51 rfl ?_
      refine rw_iast C 8 p.toNatClampNeg dX8_reach_52 rfl (hm.2 2 (by decide)) hp rfl ?_
      refine rb_iconst C dX8_reach_53 (v := 0) (by decide) ?_
      refine rb_istore C dX8_reach_54 (Nat.le_of_ble_eq_true rfl) rfl (Lv' := [_, _, _, _, _]) rfl ?_
      have loop : ∀ (d i : Nat) (s : rb_I), i + d = (W (16, 0, 0) 15).toNatClampNeg → s = fo (m_reach_b p ns) i (up2 (up2 W (16, 0, 0) 0 0) (14, 2, 0) p.toNatClampNeg ns) → rb_W Φ 0 0 56 [some (rbR (16, 0, 0)), some (rbI p), some (rbI ns), some (rbI (W (14, 2, 0) p.toNatClampNeg)), some (rbI (nI i))] [] (wI G s) := by
        intro d
        induction d with
        | zero =>
          intro i s hi hs
          obtain rfl : i = (W (16, 0, 0) 15).toNatClampNeg := by omega
          have hc9 : s (16, 0, 0) 15 = W (16, 0, 0) 15 := by
            rw [hs]
            refine fo_inv (f := (m_reach_b p ns)) (a := (up2 (up2 W (16, 0, 0) 0 0) (14, 2, 0) p.toNatClampNeg ns)) (P := fun w : rb_I => w (16, 0, 0) 15 = W (16, 0, 0) 15) (by simp [up2]) (fun i a h => ?_) _
            unfold m_reach_b; (repeat (any_goals split)) <;> simpa [up2] using h
          subst hs
          refine rb_iload C dX8_reach_56 rfl ?_
          refine rb_aload_n C dX8_reach_58 rfl ?_
          refine rw_getI C FR_X8_118 dX8_reach_59 rfl (x := (W (16, 0, 0) 15)) (hc9) ?_
          refine rb_icmp_ge C 115 dX8_reach_62 (by decide) (fun _ => ?_) (fun h9 => absurd ((cnt_le hM.2.2.2.2.2.2.2.1)) h9)
          refine rb_iload_n C dX8_reach_115 rfl ?_
          exact rb_iret C E dX8_reach_116 (Nat.le_of_ble_eq_true rfl) (Nat.le_of_ble_eq_true rfl) (pp_ ((if_neg h5).trans ((if_neg h19).trans (rfl))))
        | succ d ih =>
          intro i s hi hs
          have hi9 : i < (W (16, 0, 0) 15).toNatClampNeg := by omega
          have hc9 : s (16, 0, 0) 15 = W (16, 0, 0) 15 := by
            rw [hs]
            refine fo_inv (f := (m_reach_b p ns)) (a := (up2 (up2 W (16, 0, 0) 0 0) (14, 2, 0) p.toNatClampNeg ns)) (P := fun w : rb_I => w (16, 0, 0) 15 = W (16, 0, 0) 15) (by simp [up2]) (fun i a h => ?_) _
            unfold m_reach_b; (repeat (any_goals split)) <;> simpa [up2] using h
          refine rb_iload C dX8_reach_56 rfl ?_
          refine rb_aload_n C dX8_reach_58 rfl ?_
          refine rw_getI C FR_X8_118 dX8_reach_59 rfl (x := (W (16, 0, 0) 15)) (hc9) ?_
          refine rb_icmp_ge C 115 dX8_reach_62 (by decide) (fun h9 => absurd h9 ((cnt_nle hM.2.2.2.2.2.2.2.1 (by decide) hi9))) (fun _ => ?_)
          refine rb_aload_n C dX8_reach_65 rfl ?_
          refine rw_getP C FR_X8_50 dX8_reach_66 rfl (o := some (14, 17, 0)) (hm.1 17 (by decide)) ?_
          refine rb_iload C dX8_reach_69 rfl ?_
          refine rw_iald C (x := (s (14, 17, 0) i)) 10 i dX8_reach_71 rfl (hm.2 17 (by decide)) (vp_in_nI (show i < 10 by have hc8 := vp_in_lt hM.2.2.2.2.2.2.2.1; omega) (by decide)) (nI_clamp (show i < 2 ^ 31 by have hc8 := vp_in_lt hM.2.2.2.2.2.2.2.1; omega)) (rfl) ?_
          refine rb_iload_n C dX8_reach_72 rfl ?_
          refine rb_icmp_ne C 109 dX8_reach_73 (by decide) (fun h73 => ?_) (fun h73 => ?_)
          · refine rb_iinc C dX8_reach_109 rfl (v := _ + 1) rfl rfl (Lv' := [_, _, _, _, _]) rfl ?_
            refine rb_goto C 56 dX8_reach_112 (by decide) ?_
            rw [nI_1 i]
            exact ih (i + 1) s (by omega) (by rw [fo_s, ← hs]; exact Eq.symm ((if_neg h73).trans (rfl)))
          · refine rb_aload_n C dX8_reach_76 rfl ?_
            refine rw_getP C FR_X8_56 dX8_reach_77 rfl (o := some (14, 19, 0)) (hm.1 19 (by decide)) ?_
            refine rb_iload C dX8_reach_80 rfl ?_
            refine rw_iald C (x := (s (14, 19, 0) i)) 10 i dX8_reach_82 rfl (hm.2 19 (by decide)) (vp_in_nI (show i < 10 by have hc8 := vp_in_lt hM.2.2.2.2.2.2.2.1; omega) (by decide)) (nI_clamp (show i < 2 ^ 31 by have hc8 := vp_in_lt hM.2.2.2.2.2.2.2.1; omega)) (rfl) ?_
            refine rb_iconst C dX8_reach_83 (v := (-1)) (by decide) ?_
            refine rb_icmp_eq C 109 dX8_reach_84 (by decide) (fun h84 => ?_) (fun h84 => ?_)
            · refine rb_iinc C dX8_reach_109 rfl (v := _ + 1) rfl rfl (Lv' := [_, _, _, _, _]) rfl ?_
              refine rb_goto C 56 dX8_reach_112 (by decide) ?_
              rw [nI_1 i]
              exact ih (i + 1) s (by omega) (by rw [fo_s, ← hs]; exact Eq.symm ((if_pos h73).trans ((if_pos h84).trans (rfl))))
            · refine rb_iload_n C dX8_reach_87 rfl ?_
              refine rb_aload_n C dX8_reach_88 rfl ?_
              refine rw_getP C FR_X8_56 dX8_reach_89 rfl (o := some (14, 19, 0)) (hm.1 19 (by decide)) ?_
              refine rb_iload C dX8_reach_92 rfl ?_
              refine rw_iald C (x := (s (14, 19, 0) i)) 10 i dX8_reach_94 rfl (hm.2 19 (by decide)) (vp_in_nI (show i < 10 by have hc8 := vp_in_lt hM.2.2.2.2.2.2.2.1; omega) (by decide)) (nI_clamp (show i < 2 ^ 31 by have hc8 := vp_in_lt hM.2.2.2.2.2.2.2.1; omega)) (rfl) ?_
              refine rb_callS C M_X8_125 (fun l X => (k_X8_isIn l X G s ns (s (14, 19, 0) i)).m) dX8_reach_95 rfl rfl rfl (Nat.le_of_ble_eq_true rfl) ⟨(Nat.le_of_ble_eq_true rfl), (Nat.le_of_ble_eq_true rfl)⟩ (Nat.le_of_ble_eq_true rfl) (Nat.le_of_ble_eq_true rfl) (fun v G' hp => ?_) (fun _ _ hp => hp.elim)
              obtain ⟨rfl, e9⟩ := hp
              rw [e9]
              clear e9 G'
              refine rb_if_ne C 109 dX8_reach_98 (by decide) (fun h98 => ?_) (fun h98 => ?_)
              · refine rb_iinc C dX8_reach_109 rfl (v := _ + 1) rfl rfl (Lv' := [_, _, _, _, _]) rfl ?_
                refine rb_goto C 56 dX8_reach_112 (by decide) ?_
                rw [nI_1 i]
                exact ih (i + 1) s (by omega) (by rw [fo_s, ← hs]; exact Eq.symm ((if_pos h73).trans ((if_neg h84).trans ((if_neg h98).trans (rfl)))))
              · refine rb_aload_n C dX8_reach_101 rfl ?_
                refine rw_getP C FR_X8_56 dX8_reach_102 rfl (o := some (14, 19, 0)) (hm.1 19 (by decide)) ?_
                refine rb_iload C dX8_reach_105 rfl ?_
                refine rb_iconst C dX8_reach_107 (v := (-1)) (by decide) ?_
                refine rw_iast C 10 i dX8_reach_108 rfl (hm.2 19 (by decide)) (vp_in_nI (show i < 10 by have hc8 := vp_in_lt hM.2.2.2.2.2.2.2.1; omega) (by decide)) (nI_clamp (show i < 2 ^ 31 by have hc8 := vp_in_lt hM.2.2.2.2.2.2.2.1; omega)) ?_
                refine rb_iinc C dX8_reach_109 rfl (v := _ + 1) rfl rfl (Lv' := [_, _, _, _, _]) rfl ?_
                refine rb_goto C 56 dX8_reach_112 (by decide) ?_
                rw [nI_1 i]
                exact ih (i + 1) (up2 s (14, 19, 0) i (-1)) (by omega) (by rw [fo_s, ← hs]; exact Eq.symm ((if_pos h73).trans ((if_neg h84).trans ((if_pos h98).trans (rfl)))))
      exact loop (W (16, 0, 0) 15).toNatClampNeg 0 (up2 (up2 W (16, 0, 0) 0 0) (14, 2, 0) p.toNatClampNeg ns) (Nat.zero_add _) (fo_0 _ _).symm
  · refine rb_iconst C dX8_reach_8 (v := 1) (by decide) ?_
    refine rb_goto C 27 dX8_reach_9 (by decide) ?_
    refine rw_putI C F_X8_110 dX8_reach_27 rfl ⟨rfl, rfl⟩ ?_
    refine rb_aload_n C dX8_reach_30 rfl ?_
    refine rw_getI C FR_X8_110 dX8_reach_31 rfl (x := 1) (up2_s _ _ _ _) ?_
    refine rb_if_le C 39 dX8_reach_34 (by decide) (fun h9 => absurd h9 (by decide)) (fun _ => ?_)
    refine rb_iconst C dX8_reach_37 (v := 0) (by decide) ?_
    exact rb_iret C E dX8_reach_38 (Nat.le_of_ble_eq_true rfl) (Nat.le_of_ble_eq_true rfl) (pp_ ((if_pos h5).trans (rfl)))

def m_dead_b (n : Int32) (i : Nat) (s : rb_I) : rb_I := (if (s (14, 19, 0) i) = n then (up2 s (14, 19, 0) i (-1)) else (up2 s (14, 19, 0) i (s (14, 19, 0) i)))
def m_dead (W : rb_I) (n : Int32) (is : Int32) : Int32 × rb_I := (if (m_isNetwork n) = 0 then (0, (up2 W (16, 0, 0) 0 1)) else (if is = 0 then ((W (15, 3, 0) n.toNatClampNeg), (up2 (up2 W (16, 0, 0) 0 0) (15, 3, 0) n.toNatClampNeg is)) else ((W (15, 3, 0) n.toNatClampNeg), (fo (m_dead_b n) (W (16, 0, 0) 15).toNatClampNeg (m_empties (up2 (up2 W (16, 0, 0) 0 0) (15, 3, 0) n.toNatClampNeg is) n)))))
set_option maxRecDepth 100000 in
set_option maxHeartbeats 4000000 in
theorem k_X8_dead (l : Launch) (X : rb_X) (G : rb_G) (W : rb_I) (n : Int32) (is : Int32) (hm : MS G) (hM : MI W) (his : is = 0 ∨ is = 1) : rb_N l X yX8_dead (.code yX8_dead cX8_dead 5 (some .boolean)) 3 54 0 0 [rbR (16, 0, 0), rbI n, rbI is] (wI G W) (fun v9 G9 => v9 = some (rbI (m_dead W n is).1) ∧ G9 = wI G (m_dead W n is).2) := by
  refine rb_startN RX8 rfl (by decide +kernel) rfl (Nat.le_of_ble_eq_true rfl) ?_
  intro Φ C E nm
  show rb_W Φ 0 0 0 [some (rbR (16, 0, 0)), some (rbI n), some (rbI is), none, none] [] (wI G W)
  refine rb_aload_n C dX8_dead_0 rfl ?_
  refine rb_iload_n C dX8_dead_1 rfl ?_
  refine rb_callS C M_X8_129 (fun l X => (k_X8_isNetwork l X G W n).m) dX8_dead_2 rfl rfl rfl (Nat.le_of_ble_eq_true rfl) ⟨(Nat.le_of_ble_eq_true rfl), (Nat.le_of_ble_eq_true rfl)⟩ (Nat.le_of_ble_eq_true rfl) (Nat.le_of_ble_eq_true rfl) (fun v G' hp => ?_) (fun _ _ hp => hp.elim)
  obtain ⟨rfl, e9⟩ := hp
  rw [e9]
  clear e9 G'
  refine rb_if_eq C 12 dX8_dead_5 (by decide) (fun h5 => ?_) (fun h5 => ?_)
  · refine rb_iconst C dX8_dead_12 (v := 1) (by decide) ?_
    refine rw_putI C F_X8_110 dX8_dead_13 rfl ⟨rfl, rfl⟩ ?_
    refine rb_aload_n C dX8_dead_16 rfl ?_
    refine rw_getI C FR_X8_110 dX8_dead_17 rfl (x := 1) (up2_s _ _ _ _) ?_
    refine rb_if_le C 25 dX8_dead_20 (by decide) (fun h9 => absurd h9 (by decide)) (fun _ => ?_)
    refine rb_iconst C dX8_dead_23 (v := 0) (by decide) ?_
    exact rb_zret C E dX8_dead_24 (rfl) (Nat.le_of_ble_eq_true rfl) (Nat.le_of_ble_eq_true rfl) (pp_ ((if_pos h5).trans (rfl)))
  · refine rb_iconst C dX8_dead_8 (v := 0) (by decide) ?_
    refine rb_goto C 13 dX8_dead_9 (by decide) ?_
    refine rw_putI C F_X8_110 dX8_dead_13 rfl ⟨rfl, rfl⟩ ?_
    refine rb_aload_n C dX8_dead_16 rfl ?_
    refine rw_getI C FR_X8_110 dX8_dead_17 rfl (x := 0) (up2_s _ _ _ _) ?_
    refine rb_if_le C 25 dX8_dead_20 (by decide) (fun _ => ?_) (fun h9 => absurd (by decide) h9)
    have hn := isNetwork_in h5
    refine rb_aload_n C dX8_dead_25 rfl ?_
    refine rw_getP C FR_X8_13 dX8_dead_26 rfl (o := some (15, 3, 0)) (hm.1 3 (by decide)) ?_
    refine rb_iload_n C dX8_dead_29 rfl ?_
    refine rw_zald C (x := (W (15, 3, 0) n.toNatClampNeg)) 6 n.toNatClampNeg dX8_dead_30 rfl (hm.2 3 (by decide)) hn rfl ((up2_n _ _ _ _ (fun q => absurd (congrArg Prod.fst q.1) (show ¬ ((15 : Nat) = 16) by decide))).trans (rfl)) ?_
    refine rb_istore_n C dX8_dead_31 (Nat.le_of_ble_eq_true rfl) rfl (Lv' := [_, _, _, _, _]) rfl ?_
    refine rb_aload_n C dX8_dead_32 rfl ?_
    refine rw_getP C FR_X8_13 dX8_dead_33 rfl (o := some (15, 3, 0)) (hm.1 3 (by decide)) ?_
    refine rb_iload_n C dX8_dead_36 rfl ?_
    refine rb_iload_n C dX8_dead_37 rfl ?_
    refine rw_zast C 6 n.toNatClampNeg dX8_dead_38 rfl (hm.2 3 (by decide)) hn rfl (nz_ his) ?_
    refine rb_iload_n C dX8_dead_39 rfl ?_
    refine rb_if_eq C 95 dX8_dead_40 (by decide) (fun h40 => ?_) (fun h40 => ?_)
    · refine rb_iload_n C dX8_dead_95 rfl ?_
      exact rb_zret C E dX8_dead_96 (nz_ (hM.2.2.2.2.2.2.2.2.2.2 _)) (Nat.le_of_ble_eq_true rfl) (Nat.le_of_ble_eq_true rfl) (pp_ ((if_neg h5).trans ((if_pos h40).trans (rfl))))
    · refine rb_aload_n C dX8_dead_43 rfl ?_
      refine rb_iload_n C dX8_dead_44 rfl ?_
      refine rb_callV C M_X8_132 (fun l X => (k_X8_empties l X G (up2 (up2 W (16, 0, 0) 0 0) (15, 3, 0) n.toNatClampNeg is) n hm hn).m) rfl (Nat.le_of_ble_eq_true rfl) rfl dX8_dead_45 rfl rfl rfl (Nat.le_of_ble_eq_true rfl) ⟨(Nat.le_of_ble_eq_true rfl), (Nat.le_of_ble_eq_true rfl)⟩ (Nat.le_of_ble_eq_true rfl) (Nat.le_of_ble_eq_true rfl) (fun v G' hp => ?_) (fun _ _ hp => hp.elim)
      obtain ⟨rfl, e9⟩ := hp
      rw [e9]
      clear e9 G'
      refine rb_iconst C dX8_dead_48 (v := 0) (by decide) ?_
      refine rb_istore C dX8_dead_49 (Nat.le_of_ble_eq_true rfl) rfl (Lv' := [_, _, _, _, _]) rfl ?_
      have loop : ∀ (d i : Nat) (s : rb_I), i + d = (W (16, 0, 0) 15).toNatClampNeg → s = fo (m_dead_b n) i (m_empties (up2 (up2 W (16, 0, 0) 0 0) (15, 3, 0) n.toNatClampNeg is) n) → rb_W Φ 0 0 51 [some (rbR (16, 0, 0)), some (rbI n), some (rbI is), some (rbI (W (15, 3, 0) n.toNatClampNeg)), some (rbI (nI i))] [] (wI G s) := by
        intro d
        induction d with
        | zero =>
          intro i s hi hs
          obtain rfl : i = (W (16, 0, 0) 15).toNatClampNeg := by omega
          have hc9 : s (16, 0, 0) 15 = W (16, 0, 0) 15 := by
            rw [hs]
            refine fo_inv (f := (m_dead_b n)) (a := (m_empties (up2 (up2 W (16, 0, 0) 0 0) (15, 3, 0) n.toNatClampNeg is) n)) (P := fun w : rb_I => w (16, 0, 0) 15 = W (16, 0, 0) 15) (by simp [up2, m_empties_o]) (fun i a h => ?_) _
            unfold m_dead_b; (repeat (any_goals split)) <;> simpa [up2] using h
          subst hs
          refine rb_iload C dX8_dead_51 rfl ?_
          refine rb_aload_n C dX8_dead_53 rfl ?_
          refine rw_getI C FR_X8_118 dX8_dead_54 rfl (x := (W (16, 0, 0) 15)) (hc9) ?_
          refine rb_icmp_ge C 95 dX8_dead_57 (by decide) (fun _ => ?_) (fun h9 => absurd ((cnt_le hM.2.2.2.2.2.2.2.1)) h9)
          refine rb_iload_n C dX8_dead_95 rfl ?_
          exact rb_zret C E dX8_dead_96 (nz_ (hM.2.2.2.2.2.2.2.2.2.2 _)) (Nat.le_of_ble_eq_true rfl) (Nat.le_of_ble_eq_true rfl) (pp_ ((if_neg h5).trans ((if_neg h40).trans (rfl))))
        | succ d ih =>
          intro i s hi hs
          have hi9 : i < (W (16, 0, 0) 15).toNatClampNeg := by omega
          have hc9 : s (16, 0, 0) 15 = W (16, 0, 0) 15 := by
            rw [hs]
            refine fo_inv (f := (m_dead_b n)) (a := (m_empties (up2 (up2 W (16, 0, 0) 0 0) (15, 3, 0) n.toNatClampNeg is) n)) (P := fun w : rb_I => w (16, 0, 0) 15 = W (16, 0, 0) 15) (by simp [up2, m_empties_o]) (fun i a h => ?_) _
            unfold m_dead_b; (repeat (any_goals split)) <;> simpa [up2] using h
          refine rb_iload C dX8_dead_51 rfl ?_
          refine rb_aload_n C dX8_dead_53 rfl ?_
          refine rw_getI C FR_X8_118 dX8_dead_54 rfl (x := (W (16, 0, 0) 15)) (hc9) ?_
          refine rb_icmp_ge C 95 dX8_dead_57 (by decide) (fun h9 => absurd h9 ((cnt_nle hM.2.2.2.2.2.2.2.1 (by decide) hi9))) (fun _ => ?_)
          refine rb_aload_n C dX8_dead_60 rfl ?_
          refine rw_getP C FR_X8_56 dX8_dead_61 rfl (o := some (14, 19, 0)) (hm.1 19 (by decide)) ?_
          refine rb_iload C dX8_dead_64 rfl ?_
          refine rb_aload_n C dX8_dead_66 rfl ?_
          refine rw_getP C FR_X8_56 dX8_dead_67 rfl (o := some (14, 19, 0)) (hm.1 19 (by decide)) ?_
          refine rb_iload C dX8_dead_70 rfl ?_
          refine rw_iald C (x := (s (14, 19, 0) i)) 10 i dX8_dead_72 rfl (hm.2 19 (by decide)) (vp_in_nI (show i < 10 by have hc8 := vp_in_lt hM.2.2.2.2.2.2.2.1; omega) (by decide)) (nI_clamp (show i < 2 ^ 31 by have hc8 := vp_in_lt hM.2.2.2.2.2.2.2.1; omega)) (rfl) ?_
          refine rb_iload_n C dX8_dead_73 rfl ?_
          refine rb_icmp_ne C 81 dX8_dead_74 (by decide) (fun h74 => ?_) (fun h74 => ?_)
          · refine rb_aload_n C dX8_dead_81 rfl ?_
            refine rw_getP C FR_X8_56 dX8_dead_82 rfl (o := some (14, 19, 0)) (hm.1 19 (by decide)) ?_
            refine rb_iload C dX8_dead_85 rfl ?_
            refine rw_iald C (x := (s (14, 19, 0) i)) 10 i dX8_dead_87 rfl (hm.2 19 (by decide)) (vp_in_nI (show i < 10 by have hc8 := vp_in_lt hM.2.2.2.2.2.2.2.1; omega) (by decide)) (nI_clamp (show i < 2 ^ 31 by have hc8 := vp_in_lt hM.2.2.2.2.2.2.2.1; omega)) (rfl) ?_
            refine rw_iast C 10 i dX8_dead_88 rfl (hm.2 19 (by decide)) (vp_in_nI (show i < 10 by have hc8 := vp_in_lt hM.2.2.2.2.2.2.2.1; omega) (by decide)) (nI_clamp (show i < 2 ^ 31 by have hc8 := vp_in_lt hM.2.2.2.2.2.2.2.1; omega)) ?_
            refine rb_iinc C dX8_dead_89 rfl (v := _ + 1) rfl rfl (Lv' := [_, _, _, _, _]) rfl ?_
            refine rb_goto C 51 dX8_dead_92 (by decide) ?_
            rw [nI_1 i]
            exact ih (i + 1) (up2 s (14, 19, 0) i (s (14, 19, 0) i)) (by omega) (by rw [fo_s, ← hs]; exact Eq.symm ((if_neg h74).trans (rfl)))
          · refine rb_iconst C dX8_dead_77 (v := (-1)) (by decide) ?_
            refine rb_goto C 88 dX8_dead_78 (by decide) ?_
            refine rw_iast C 10 i dX8_dead_88 rfl (hm.2 19 (by decide)) (vp_in_nI (show i < 10 by have hc8 := vp_in_lt hM.2.2.2.2.2.2.2.1; omega) (by decide)) (nI_clamp (show i < 2 ^ 31 by have hc8 := vp_in_lt hM.2.2.2.2.2.2.2.1; omega)) ?_
            refine rb_iinc C dX8_dead_89 rfl (v := _ + 1) rfl rfl (Lv' := [_, _, _, _, _]) rfl ?_
            refine rb_goto C 51 dX8_dead_92 (by decide) ?_
            rw [nI_1 i]
            exact ih (i + 1) (up2 s (14, 19, 0) i (-1)) (by omega) (by rw [fo_s, ← hs]; exact Eq.symm ((if_pos h74).trans (rfl)))
      exact loop (W (16, 0, 0) 15).toNatClampNeg 0 (m_empties (up2 (up2 W (16, 0, 0) 0 0) (15, 3, 0) n.toNatClampNeg is) n) (Nat.zero_add _) (fo_0 _ _).symm

def m_agree (W : rb_I) (ho : Int32) (vi : Int32) (fr0 : Int32) (to0 : Int32) (pr : Int32) (th : Int32) (lw : Int32) : Int32 × rb_I := (if (m_isNetwork ho) = 0 then (if ho = vi then (0, (up2 W (16, 0, 0) 0 1)) else (if (m_in fr0 (0 : Int32) ((999999) : Int32)) = 0 then (0, (up2 W (16, 0, 0) 0 1)) else (if (m_in to0 (fr0 + 1) ((1000000) : Int32)) = 0 then (0, (up2 W (16, 0, 0) 0 1)) else (if (m_in pr (0 : Int32) (99 : Int32)) = 0 then (0, (up2 W (16, 0, 0) 0 1)) else (if (m_in th (0 : Int32) (9999 : Int32)) = 0 then (0, (up2 W (16, 0, 0) 0 1)) else (if (m_in lw (0 : Int32) pr) = 0 then (0, (up2 W (16, 0, 0) 0 1)) else (0, (up2 W (16, 0, 0) 0 1)))))))) else (if (m_isNetwork vi) = 0 then (if ho = vi then (0, (up2 W (16, 0, 0) 0 1)) else (if (m_in fr0 (0 : Int32) ((999999) : Int32)) = 0 then (0, (up2 W (16, 0, 0) 0 1)) else (if (m_in to0 (fr0 + 1) ((1000000) : Int32)) = 0 then (0, (up2 W (16, 0, 0) 0 1)) else (if (m_in pr (0 : Int32) (99 : Int32)) = 0 then (0, (up2 W (16, 0, 0) 0 1)) else (if (m_in th (0 : Int32) (9999 : Int32)) = 0 then (0, (up2 W (16, 0, 0) 0 1)) else (if (m_in lw (0 : Int32) pr) = 0 then (0, (up2 W (16, 0, 0) 0 1)) else (0, (up2 W (16, 0, 0) 0 1)))))))) else (if ho = vi then (0, (up2 W (16, 0, 0) 0 2)) else (if (m_in fr0 (0 : Int32) ((999999) : Int32)) = 0 then (0, (up2 W (16, 0, 0) 0 2)) else (if (m_in to0 (fr0 + 1) ((1000000) : Int32)) = 0 then (0, (up2 W (16, 0, 0) 0 2)) else (if (m_in pr (0 : Int32) (99 : Int32)) = 0 then (0, (up2 W (16, 0, 0) 0 2)) else (if (m_in th (0 : Int32) (9999 : Int32)) = 0 then (0, (up2 W (16, 0, 0) 0 2)) else (if (m_in lw (0 : Int32) pr) = 0 then (0, (up2 W (16, 0, 0) 0 2)) else (if (W (16, 0, 0) 7) = 30 then (0, (up2 W (16, 0, 0) 0 3)) else (((W (16, 0, 0) 7) + 1), (up2 (up2 (up2 (up2 (up2 (up2 (up2 (up2 (up2 W (16, 0, 0) 0 0) (14, 8, 0) (W (16, 0, 0) 7).toNatClampNeg ho) (14, 9, 0) (W (16, 0, 0) 7).toNatClampNeg vi) (14, 10, 0) (W (16, 0, 0) 7).toNatClampNeg fr0) (14, 11, 0) (W (16, 0, 0) 7).toNatClampNeg to0) (14, 12, 0) (W (16, 0, 0) 7).toNatClampNeg pr) (14, 13, 0) (W (16, 0, 0) 7).toNatClampNeg th) (14, 14, 0) (W (16, 0, 0) 7).toNatClampNeg lw) (16, 0, 0) 7 ((W (16, 0, 0) 7) + 1))))))))))))
set_option maxRecDepth 100000 in
set_option maxHeartbeats 4000000 in
theorem k_X8_agree (l : Launch) (X : rb_X) (G : rb_G) (W : rb_I) (ho : Int32) (vi : Int32) (fr0 : Int32) (to0 : Int32) (pr : Int32) (th : Int32) (lw : Int32) (hm : MS G) (hM : MI W) : rb_N l X yX8_agree (.code yX8_agree cX8_agree 10 (some .int)) 3 54 0 0 [rbR (16, 0, 0), rbI ho, rbI vi, rbI fr0, rbI to0, rbI pr, rbI th, rbI lw] (wI G W) (fun v9 G9 => v9 = some (rbI (m_agree W ho vi fr0 to0 pr th lw).1) ∧ G9 = wI G (m_agree W ho vi fr0 to0 pr th lw).2) := by
  refine rb_startN RX8 rfl (by decide +kernel) rfl (Nat.le_of_ble_eq_true rfl) ?_
  intro Φ C E nm
  show rb_W Φ 0 0 0 [some (rbR (16, 0, 0)), some (rbI ho), some (rbI vi), some (rbI fr0), some (rbI to0), some (rbI pr), some (rbI th), some (rbI lw), none, none] [] (wI G W)
  refine rb_iload_n C dX8_agree_0 rfl ?_
  refine rb_callS C M_X8_129 (fun l X => (k_X8_isNetwork l X G W ho).m) dX8_agree_1 rfl rfl rfl (Nat.le_of_ble_eq_true rfl) ⟨(Nat.le_of_ble_eq_true rfl), (Nat.le_of_ble_eq_true rfl)⟩ (Nat.le_of_ble_eq_true rfl) (Nat.le_of_ble_eq_true rfl) (fun v G' hp => ?_) (fun _ _ hp => hp.elim)
  obtain ⟨rfl, e9⟩ := hp
  rw [e9]
  clear e9 G'
  refine rb_if_eq C 18 dX8_agree_4 (by decide) (fun h4 => ?_) (fun h4 => ?_)
  · refine rb_iconst C dX8_agree_18 (v := 0) (by decide) ?_
    refine rb_istore C dX8_agree_19 (Nat.le_of_ble_eq_true rfl) rfl (Lv' := [_, _, _, _, _, _, _, _, _, _]) rfl ?_
    refine rb_iload_n C dX8_agree_21 rfl ?_
    refine rb_iload_n C dX8_agree_22 rfl ?_
    refine rb_icmp_eq C 87 dX8_agree_23 (by decide) (fun h23 => ?_) (fun h23 => ?_)
    · refine rb_iconst C dX8_agree_87 (v := 0) (by decide) ?_
      refine rb_istore C dX8_agree_88 (Nat.le_of_ble_eq_true rfl) rfl (Lv' := [_, _, _, _, _, _, _, _, _, _]) rfl ?_
      refine rb_aload_n C dX8_agree_90 rfl ?_
      refine rb_iload C dX8_agree_91 rfl ?_
      refine rb_if_ne C 100 dX8_agree_93 (by decide) (fun h9 => absurd (by decide) h9) (fun _ => ?_)
      refine rb_iconst C dX8_agree_96 (v := 1) (by decide) ?_
      refine rb_goto C 123 dX8_agree_97 (by decide) ?_
      refine rw_putI C F_X8_110 dX8_agree_123 rfl ⟨rfl, rfl⟩ ?_
      refine rb_aload_n C dX8_agree_126 rfl ?_
      refine rw_getI C FR_X8_110 dX8_agree_127 rfl (x := 1) (up2_s _ _ _ _) ?_
      refine rb_if_le C 135 dX8_agree_130 (by decide) (fun h9 => absurd h9 (by decide)) (fun _ => ?_)
      refine rb_iconst C dX8_agree_133 (v := 0) (by decide) ?_
      exact rb_iret C E dX8_agree_134 (Nat.le_of_ble_eq_true rfl) (Nat.le_of_ble_eq_true rfl) (pp_ ((if_pos h4).trans ((if_pos h23).trans (rfl))))
    · refine rb_iload_n C dX8_agree_26 rfl ?_
      refine rb_iconst C dX8_agree_27 (v := 0) (by decide) ?_
      refine rb_ldc C dX8_agree_28 N_X8_136 ?_
      refine rb_callS C M_X8_114 (fun l X => (k_X8_in l X G W fr0 (0 : Int32) ((999999) : Int32)).m) dX8_agree_30 rfl rfl rfl (Nat.le_of_ble_eq_true rfl) ⟨(Nat.le_of_ble_eq_true rfl), (Nat.le_of_ble_eq_true rfl)⟩ (Nat.le_of_ble_eq_true rfl) (Nat.le_of_ble_eq_true rfl) (fun v G' hp => ?_) (fun _ _ hp => hp.elim)
      obtain ⟨rfl, e9⟩ := hp
      rw [e9]
      clear e9 G'
      refine rb_if_eq C 87 dX8_agree_33 (by decide) (fun h33 => ?_) (fun h33 => ?_)
      · refine rb_iconst C dX8_agree_87 (v := 0) (by decide) ?_
        refine rb_istore C dX8_agree_88 (Nat.le_of_ble_eq_true rfl) rfl (Lv' := [_, _, _, _, _, _, _, _, _, _]) rfl ?_
        refine rb_aload_n C dX8_agree_90 rfl ?_
        refine rb_iload C dX8_agree_91 rfl ?_
        refine rb_if_ne C 100 dX8_agree_93 (by decide) (fun h9 => absurd (by decide) h9) (fun _ => ?_)
        refine rb_iconst C dX8_agree_96 (v := 1) (by decide) ?_
        refine rb_goto C 123 dX8_agree_97 (by decide) ?_
        refine rw_putI C F_X8_110 dX8_agree_123 rfl ⟨rfl, rfl⟩ ?_
        refine rb_aload_n C dX8_agree_126 rfl ?_
        refine rw_getI C FR_X8_110 dX8_agree_127 rfl (x := 1) (up2_s _ _ _ _) ?_
        refine rb_if_le C 135 dX8_agree_130 (by decide) (fun h9 => absurd h9 (by decide)) (fun _ => ?_)
        refine rb_iconst C dX8_agree_133 (v := 0) (by decide) ?_
        exact rb_iret C E dX8_agree_134 (Nat.le_of_ble_eq_true rfl) (Nat.le_of_ble_eq_true rfl) (pp_ ((if_pos h4).trans ((if_neg h23).trans ((if_pos h33).trans (rfl)))))
      · refine rb_iload C dX8_agree_36 rfl ?_
        refine rb_iload_n C dX8_agree_38 rfl ?_
        refine rb_iconst C dX8_agree_39 (v := 1) (by decide) ?_
        refine rb_iadd C dX8_agree_40 ?_
        refine rb_ldc C dX8_agree_41 N_X8_137 ?_
        refine rb_callS C M_X8_114 (fun l X => (k_X8_in l X G W to0 (fr0 + 1) ((1000000) : Int32)).m) dX8_agree_43 rfl rfl rfl (Nat.le_of_ble_eq_true rfl) ⟨(Nat.le_of_ble_eq_true rfl), (Nat.le_of_ble_eq_true rfl)⟩ (Nat.le_of_ble_eq_true rfl) (Nat.le_of_ble_eq_true rfl) (fun v G' hp => ?_) (fun _ _ hp => hp.elim)
        obtain ⟨rfl, e9⟩ := hp
        rw [e9]
        clear e9 G'
        refine rb_if_eq C 87 dX8_agree_46 (by decide) (fun h46 => ?_) (fun h46 => ?_)
        · refine rb_iconst C dX8_agree_87 (v := 0) (by decide) ?_
          refine rb_istore C dX8_agree_88 (Nat.le_of_ble_eq_true rfl) rfl (Lv' := [_, _, _, _, _, _, _, _, _, _]) rfl ?_
          refine rb_aload_n C dX8_agree_90 rfl ?_
          refine rb_iload C dX8_agree_91 rfl ?_
          refine rb_if_ne C 100 dX8_agree_93 (by decide) (fun h9 => absurd (by decide) h9) (fun _ => ?_)
          refine rb_iconst C dX8_agree_96 (v := 1) (by decide) ?_
          refine rb_goto C 123 dX8_agree_97 (by decide) ?_
          refine rw_putI C F_X8_110 dX8_agree_123 rfl ⟨rfl, rfl⟩ ?_
          refine rb_aload_n C dX8_agree_126 rfl ?_
          refine rw_getI C FR_X8_110 dX8_agree_127 rfl (x := 1) (up2_s _ _ _ _) ?_
          refine rb_if_le C 135 dX8_agree_130 (by decide) (fun h9 => absurd h9 (by decide)) (fun _ => ?_)
          refine rb_iconst C dX8_agree_133 (v := 0) (by decide) ?_
          exact rb_iret C E dX8_agree_134 (Nat.le_of_ble_eq_true rfl) (Nat.le_of_ble_eq_true rfl) (pp_ ((if_pos h4).trans ((if_neg h23).trans ((if_neg h33).trans ((if_pos h46).trans (rfl))))))
        · refine rb_iload C dX8_agree_49 rfl ?_
          refine rb_iconst C dX8_agree_51 (v := 0) (by decide) ?_
          refine rb_bipush C dX8_agree_52 (v := 99) (by decide) ?_
          refine rb_callS C M_X8_114 (fun l X => (k_X8_in l X G W pr (0 : Int32) (99 : Int32)).m) dX8_agree_54 rfl rfl rfl (Nat.le_of_ble_eq_true rfl) ⟨(Nat.le_of_ble_eq_true rfl), (Nat.le_of_ble_eq_true rfl)⟩ (Nat.le_of_ble_eq_true rfl) (Nat.le_of_ble_eq_true rfl) (fun v G' hp => ?_) (fun _ _ hp => hp.elim)
          obtain ⟨rfl, e9⟩ := hp
          rw [e9]
          clear e9 G'
          refine rb_if_eq C 87 dX8_agree_57 (by decide) (fun h57 => ?_) (fun h57 => ?_)
          · refine rb_iconst C dX8_agree_87 (v := 0) (by decide) ?_
            refine rb_istore C dX8_agree_88 (Nat.le_of_ble_eq_true rfl) rfl (Lv' := [_, _, _, _, _, _, _, _, _, _]) rfl ?_
            refine rb_aload_n C dX8_agree_90 rfl ?_
            refine rb_iload C dX8_agree_91 rfl ?_
            refine rb_if_ne C 100 dX8_agree_93 (by decide) (fun h9 => absurd (by decide) h9) (fun _ => ?_)
            refine rb_iconst C dX8_agree_96 (v := 1) (by decide) ?_
            refine rb_goto C 123 dX8_agree_97 (by decide) ?_
            refine rw_putI C F_X8_110 dX8_agree_123 rfl ⟨rfl, rfl⟩ ?_
            refine rb_aload_n C dX8_agree_126 rfl ?_
            refine rw_getI C FR_X8_110 dX8_agree_127 rfl (x := 1) (up2_s _ _ _ _) ?_
            refine rb_if_le C 135 dX8_agree_130 (by decide) (fun h9 => absurd h9 (by decide)) (fun _ => ?_)
            refine rb_iconst C dX8_agree_133 (v := 0) (by decide) ?_
            exact rb_iret C E dX8_agree_134 (Nat.le_of_ble_eq_true rfl) (Nat.le_of_ble_eq_true rfl) (pp_ ((if_pos h4).trans ((if_neg h23).trans ((if_neg h33).trans ((if_neg h46).trans ((if_pos h57).trans (rfl)))))))
          · refine rb_iload C dX8_agree_60 rfl ?_
            refine rb_iconst C dX8_agree_62 (v := 0) (by decide) ?_
            refine rb_sipush C dX8_agree_63 (v := 9999) (by decide) ?_
            refine rb_callS C M_X8_114 (fun l X => (k_X8_in l X G W th (0 : Int32) (9999 : Int32)).m) dX8_agree_66 rfl rfl rfl (Nat.le_of_ble_eq_true rfl) ⟨(Nat.le_of_ble_eq_true rfl), (Nat.le_of_ble_eq_true rfl)⟩ (Nat.le_of_ble_eq_true rfl) (Nat.le_of_ble_eq_true rfl) (fun v G' hp => ?_) (fun _ _ hp => hp.elim)
            obtain ⟨rfl, e9⟩ := hp
            rw [e9]
            clear e9 G'
            refine rb_if_eq C 87 dX8_agree_69 (by decide) (fun h69 => ?_) (fun h69 => ?_)
            · refine rb_iconst C dX8_agree_87 (v := 0) (by decide) ?_
              refine rb_istore C dX8_agree_88 (Nat.le_of_ble_eq_true rfl) rfl (Lv' := [_, _, _, _, _, _, _, _, _, _]) rfl ?_
              refine rb_aload_n C dX8_agree_90 rfl ?_
              refine rb_iload C dX8_agree_91 rfl ?_
              refine rb_if_ne C 100 dX8_agree_93 (by decide) (fun h9 => absurd (by decide) h9) (fun _ => ?_)
              refine rb_iconst C dX8_agree_96 (v := 1) (by decide) ?_
              refine rb_goto C 123 dX8_agree_97 (by decide) ?_
              refine rw_putI C F_X8_110 dX8_agree_123 rfl ⟨rfl, rfl⟩ ?_
              refine rb_aload_n C dX8_agree_126 rfl ?_
              refine rw_getI C FR_X8_110 dX8_agree_127 rfl (x := 1) (up2_s _ _ _ _) ?_
              refine rb_if_le C 135 dX8_agree_130 (by decide) (fun h9 => absurd h9 (by decide)) (fun _ => ?_)
              refine rb_iconst C dX8_agree_133 (v := 0) (by decide) ?_
              exact rb_iret C E dX8_agree_134 (Nat.le_of_ble_eq_true rfl) (Nat.le_of_ble_eq_true rfl) (pp_ ((if_pos h4).trans ((if_neg h23).trans ((if_neg h33).trans ((if_neg h46).trans ((if_neg h57).trans ((if_pos h69).trans (rfl))))))))
            · refine rb_iload C dX8_agree_72 rfl ?_
              refine rb_iconst C dX8_agree_74 (v := 0) (by decide) ?_
              refine rb_iload C dX8_agree_75 rfl ?_
              refine rb_callS C M_X8_114 (fun l X => (k_X8_in l X G W lw (0 : Int32) pr).m) dX8_agree_77 rfl rfl rfl (Nat.le_of_ble_eq_true rfl) ⟨(Nat.le_of_ble_eq_true rfl), (Nat.le_of_ble_eq_true rfl)⟩ (Nat.le_of_ble_eq_true rfl) (Nat.le_of_ble_eq_true rfl) (fun v G' hp => ?_) (fun _ _ hp => hp.elim)
              obtain ⟨rfl, e9⟩ := hp
              rw [e9]
              clear e9 G'
              refine rb_if_eq C 87 dX8_agree_80 (by decide) (fun h80 => ?_) (fun h80 => ?_)
              · refine rb_iconst C dX8_agree_87 (v := 0) (by decide) ?_
                refine rb_istore C dX8_agree_88 (Nat.le_of_ble_eq_true rfl) rfl (Lv' := [_, _, _, _, _, _, _, _, _, _]) rfl ?_
                refine rb_aload_n C dX8_agree_90 rfl ?_
                refine rb_iload C dX8_agree_91 rfl ?_
                refine rb_if_ne C 100 dX8_agree_93 (by decide) (fun h9 => absurd (by decide) h9) (fun _ => ?_)
                refine rb_iconst C dX8_agree_96 (v := 1) (by decide) ?_
                refine rb_goto C 123 dX8_agree_97 (by decide) ?_
                refine rw_putI C F_X8_110 dX8_agree_123 rfl ⟨rfl, rfl⟩ ?_
                refine rb_aload_n C dX8_agree_126 rfl ?_
                refine rw_getI C FR_X8_110 dX8_agree_127 rfl (x := 1) (up2_s _ _ _ _) ?_
                refine rb_if_le C 135 dX8_agree_130 (by decide) (fun h9 => absurd h9 (by decide)) (fun _ => ?_)
                refine rb_iconst C dX8_agree_133 (v := 0) (by decide) ?_
                exact rb_iret C E dX8_agree_134 (Nat.le_of_ble_eq_true rfl) (Nat.le_of_ble_eq_true rfl) (pp_ ((if_pos h4).trans ((if_neg h23).trans ((if_neg h33).trans ((if_neg h46).trans ((if_neg h57).trans ((if_neg h69).trans ((if_pos h80).trans (rfl)))))))))
              · refine rb_iconst C dX8_agree_83 (v := 1) (by decide) ?_
                refine rb_goto C 88 dX8_agree_84 (by decide) ?_
                refine rb_istore C dX8_agree_88 (Nat.le_of_ble_eq_true rfl) rfl (Lv' := [_, _, _, _, _, _, _, _, _, _]) rfl ?_
                refine rb_aload_n C dX8_agree_90 rfl ?_
                refine rb_iload C dX8_agree_91 rfl ?_
                refine rb_if_ne C 100 dX8_agree_93 (by decide) (fun h9 => absurd (by decide) h9) (fun _ => ?_)
                refine rb_iconst C dX8_agree_96 (v := 1) (by decide) ?_
                refine rb_goto C 123 dX8_agree_97 (by decide) ?_
                refine rw_putI C F_X8_110 dX8_agree_123 rfl ⟨rfl, rfl⟩ ?_
                refine rb_aload_n C dX8_agree_126 rfl ?_
                refine rw_getI C FR_X8_110 dX8_agree_127 rfl (x := 1) (up2_s _ _ _ _) ?_
                refine rb_if_le C 135 dX8_agree_130 (by decide) (fun h9 => absurd h9 (by decide)) (fun _ => ?_)
                refine rb_iconst C dX8_agree_133 (v := 0) (by decide) ?_
                exact rb_iret C E dX8_agree_134 (Nat.le_of_ble_eq_true rfl) (Nat.le_of_ble_eq_true rfl) (pp_ ((if_pos h4).trans ((if_neg h23).trans ((if_neg h33).trans ((if_neg h46).trans ((if_neg h57).trans ((if_neg h69).trans ((if_neg h80).trans (rfl)))))))))
  · refine rb_iload_n C dX8_agree_7 rfl ?_
    refine rb_callS C M_X8_129 (fun l X => (k_X8_isNetwork l X G W vi).m) dX8_agree_8 rfl rfl rfl (Nat.le_of_ble_eq_true rfl) ⟨(Nat.le_of_ble_eq_true rfl), (Nat.le_of_ble_eq_true rfl)⟩ (Nat.le_of_ble_eq_true rfl) (Nat.le_of_ble_eq_true rfl) (fun v G' hp => ?_) (fun _ _ hp => hp.elim)
    obtain ⟨rfl, e9⟩ := hp
    rw [e9]
    clear e9 G'
    refine rb_if_eq C 18 dX8_agree_11 (by decide) (fun h11 => ?_) (fun h11 => ?_)
    · refine rb_iconst C dX8_agree_18 (v := 0) (by decide) ?_
      refine rb_istore C dX8_agree_19 (Nat.le_of_ble_eq_true rfl) rfl (Lv' := [_, _, _, _, _, _, _, _, _, _]) rfl ?_
      refine rb_iload_n C dX8_agree_21 rfl ?_
      refine rb_iload_n C dX8_agree_22 rfl ?_
      refine rb_icmp_eq C 87 dX8_agree_23 (by decide) (fun h23 => ?_) (fun h23 => ?_)
      · refine rb_iconst C dX8_agree_87 (v := 0) (by decide) ?_
        refine rb_istore C dX8_agree_88 (Nat.le_of_ble_eq_true rfl) rfl (Lv' := [_, _, _, _, _, _, _, _, _, _]) rfl ?_
        refine rb_aload_n C dX8_agree_90 rfl ?_
        refine rb_iload C dX8_agree_91 rfl ?_
        refine rb_if_ne C 100 dX8_agree_93 (by decide) (fun h9 => absurd (by decide) h9) (fun _ => ?_)
        refine rb_iconst C dX8_agree_96 (v := 1) (by decide) ?_
        refine rb_goto C 123 dX8_agree_97 (by decide) ?_
        refine rw_putI C F_X8_110 dX8_agree_123 rfl ⟨rfl, rfl⟩ ?_
        refine rb_aload_n C dX8_agree_126 rfl ?_
        refine rw_getI C FR_X8_110 dX8_agree_127 rfl (x := 1) (up2_s _ _ _ _) ?_
        refine rb_if_le C 135 dX8_agree_130 (by decide) (fun h9 => absurd h9 (by decide)) (fun _ => ?_)
        refine rb_iconst C dX8_agree_133 (v := 0) (by decide) ?_
        exact rb_iret C E dX8_agree_134 (Nat.le_of_ble_eq_true rfl) (Nat.le_of_ble_eq_true rfl) (pp_ ((if_neg h4).trans ((if_pos h11).trans ((if_pos h23).trans (rfl)))))
      · refine rb_iload_n C dX8_agree_26 rfl ?_
        refine rb_iconst C dX8_agree_27 (v := 0) (by decide) ?_
        refine rb_ldc C dX8_agree_28 N_X8_136 ?_
        refine rb_callS C M_X8_114 (fun l X => (k_X8_in l X G W fr0 (0 : Int32) ((999999) : Int32)).m) dX8_agree_30 rfl rfl rfl (Nat.le_of_ble_eq_true rfl) ⟨(Nat.le_of_ble_eq_true rfl), (Nat.le_of_ble_eq_true rfl)⟩ (Nat.le_of_ble_eq_true rfl) (Nat.le_of_ble_eq_true rfl) (fun v G' hp => ?_) (fun _ _ hp => hp.elim)
        obtain ⟨rfl, e9⟩ := hp
        rw [e9]
        clear e9 G'
        refine rb_if_eq C 87 dX8_agree_33 (by decide) (fun h33 => ?_) (fun h33 => ?_)
        · refine rb_iconst C dX8_agree_87 (v := 0) (by decide) ?_
          refine rb_istore C dX8_agree_88 (Nat.le_of_ble_eq_true rfl) rfl (Lv' := [_, _, _, _, _, _, _, _, _, _]) rfl ?_
          refine rb_aload_n C dX8_agree_90 rfl ?_
          refine rb_iload C dX8_agree_91 rfl ?_
          refine rb_if_ne C 100 dX8_agree_93 (by decide) (fun h9 => absurd (by decide) h9) (fun _ => ?_)
          refine rb_iconst C dX8_agree_96 (v := 1) (by decide) ?_
          refine rb_goto C 123 dX8_agree_97 (by decide) ?_
          refine rw_putI C F_X8_110 dX8_agree_123 rfl ⟨rfl, rfl⟩ ?_
          refine rb_aload_n C dX8_agree_126 rfl ?_
          refine rw_getI C FR_X8_110 dX8_agree_127 rfl (x := 1) (up2_s _ _ _ _) ?_
          refine rb_if_le C 135 dX8_agree_130 (by decide) (fun h9 => absurd h9 (by decide)) (fun _ => ?_)
          refine rb_iconst C dX8_agree_133 (v := 0) (by decide) ?_
          exact rb_iret C E dX8_agree_134 (Nat.le_of_ble_eq_true rfl) (Nat.le_of_ble_eq_true rfl) (pp_ ((if_neg h4).trans ((if_pos h11).trans ((if_neg h23).trans ((if_pos h33).trans (rfl))))))
        · refine rb_iload C dX8_agree_36 rfl ?_
          refine rb_iload_n C dX8_agree_38 rfl ?_
          refine rb_iconst C dX8_agree_39 (v := 1) (by decide) ?_
          refine rb_iadd C dX8_agree_40 ?_
          refine rb_ldc C dX8_agree_41 N_X8_137 ?_
          refine rb_callS C M_X8_114 (fun l X => (k_X8_in l X G W to0 (fr0 + 1) ((1000000) : Int32)).m) dX8_agree_43 rfl rfl rfl (Nat.le_of_ble_eq_true rfl) ⟨(Nat.le_of_ble_eq_true rfl), (Nat.le_of_ble_eq_true rfl)⟩ (Nat.le_of_ble_eq_true rfl) (Nat.le_of_ble_eq_true rfl) (fun v G' hp => ?_) (fun _ _ hp => hp.elim)
          obtain ⟨rfl, e9⟩ := hp
          rw [e9]
          clear e9 G'
          refine rb_if_eq C 87 dX8_agree_46 (by decide) (fun h46 => ?_) (fun h46 => ?_)
          · refine rb_iconst C dX8_agree_87 (v := 0) (by decide) ?_
            refine rb_istore C dX8_agree_88 (Nat.le_of_ble_eq_true rfl) rfl (Lv' := [_, _, _, _, _, _, _, _, _, _]) rfl ?_
            refine rb_aload_n C dX8_agree_90 rfl ?_
            refine rb_iload C dX8_agree_91 rfl ?_
            refine rb_if_ne C 100 dX8_agree_93 (by decide) (fun h9 => absurd (by decide) h9) (fun _ => ?_)
            refine rb_iconst C dX8_agree_96 (v := 1) (by decide) ?_
            refine rb_goto C 123 dX8_agree_97 (by decide) ?_
            refine rw_putI C F_X8_110 dX8_agree_123 rfl ⟨rfl, rfl⟩ ?_
            refine rb_aload_n C dX8_agree_126 rfl ?_
            refine rw_getI C FR_X8_110 dX8_agree_127 rfl (x := 1) (up2_s _ _ _ _) ?_
            refine rb_if_le C 135 dX8_agree_130 (by decide) (fun h9 => absurd h9 (by decide)) (fun _ => ?_)
            refine rb_iconst C dX8_agree_133 (v := 0) (by decide) ?_
            exact rb_iret C E dX8_agree_134 (Nat.le_of_ble_eq_true rfl) (Nat.le_of_ble_eq_true rfl) (pp_ ((if_neg h4).trans ((if_pos h11).trans ((if_neg h23).trans ((if_neg h33).trans ((if_pos h46).trans (rfl)))))))
          · refine rb_iload C dX8_agree_49 rfl ?_
            refine rb_iconst C dX8_agree_51 (v := 0) (by decide) ?_
            refine rb_bipush C dX8_agree_52 (v := 99) (by decide) ?_
            refine rb_callS C M_X8_114 (fun l X => (k_X8_in l X G W pr (0 : Int32) (99 : Int32)).m) dX8_agree_54 rfl rfl rfl (Nat.le_of_ble_eq_true rfl) ⟨(Nat.le_of_ble_eq_true rfl), (Nat.le_of_ble_eq_true rfl)⟩ (Nat.le_of_ble_eq_true rfl) (Nat.le_of_ble_eq_true rfl) (fun v G' hp => ?_) (fun _ _ hp => hp.elim)
            obtain ⟨rfl, e9⟩ := hp
            rw [e9]
            clear e9 G'
            refine rb_if_eq C 87 dX8_agree_57 (by decide) (fun h57 => ?_) (fun h57 => ?_)
            · refine rb_iconst C dX8_agree_87 (v := 0) (by decide) ?_
              refine rb_istore C dX8_agree_88 (Nat.le_of_ble_eq_true rfl) rfl (Lv' := [_, _, _, _, _, _, _, _, _, _]) rfl ?_
              refine rb_aload_n C dX8_agree_90 rfl ?_
              refine rb_iload C dX8_agree_91 rfl ?_
              refine rb_if_ne C 100 dX8_agree_93 (by decide) (fun h9 => absurd (by decide) h9) (fun _ => ?_)
              refine rb_iconst C dX8_agree_96 (v := 1) (by decide) ?_
              refine rb_goto C 123 dX8_agree_97 (by decide) ?_
              refine rw_putI C F_X8_110 dX8_agree_123 rfl ⟨rfl, rfl⟩ ?_
              refine rb_aload_n C dX8_agree_126 rfl ?_
              refine rw_getI C FR_X8_110 dX8_agree_127 rfl (x := 1) (up2_s _ _ _ _) ?_
              refine rb_if_le C 135 dX8_agree_130 (by decide) (fun h9 => absurd h9 (by decide)) (fun _ => ?_)
              refine rb_iconst C dX8_agree_133 (v := 0) (by decide) ?_
              exact rb_iret C E dX8_agree_134 (Nat.le_of_ble_eq_true rfl) (Nat.le_of_ble_eq_true rfl) (pp_ ((if_neg h4).trans ((if_pos h11).trans ((if_neg h23).trans ((if_neg h33).trans ((if_neg h46).trans ((if_pos h57).trans (rfl))))))))
            · refine rb_iload C dX8_agree_60 rfl ?_
              refine rb_iconst C dX8_agree_62 (v := 0) (by decide) ?_
              refine rb_sipush C dX8_agree_63 (v := 9999) (by decide) ?_
              refine rb_callS C M_X8_114 (fun l X => (k_X8_in l X G W th (0 : Int32) (9999 : Int32)).m) dX8_agree_66 rfl rfl rfl (Nat.le_of_ble_eq_true rfl) ⟨(Nat.le_of_ble_eq_true rfl), (Nat.le_of_ble_eq_true rfl)⟩ (Nat.le_of_ble_eq_true rfl) (Nat.le_of_ble_eq_true rfl) (fun v G' hp => ?_) (fun _ _ hp => hp.elim)
              obtain ⟨rfl, e9⟩ := hp
              rw [e9]
              clear e9 G'
              refine rb_if_eq C 87 dX8_agree_69 (by decide) (fun h69 => ?_) (fun h69 => ?_)
              · refine rb_iconst C dX8_agree_87 (v := 0) (by decide) ?_
                refine rb_istore C dX8_agree_88 (Nat.le_of_ble_eq_true rfl) rfl (Lv' := [_, _, _, _, _, _, _, _, _, _]) rfl ?_
                refine rb_aload_n C dX8_agree_90 rfl ?_
                refine rb_iload C dX8_agree_91 rfl ?_
                refine rb_if_ne C 100 dX8_agree_93 (by decide) (fun h9 => absurd (by decide) h9) (fun _ => ?_)
                refine rb_iconst C dX8_agree_96 (v := 1) (by decide) ?_
                refine rb_goto C 123 dX8_agree_97 (by decide) ?_
                refine rw_putI C F_X8_110 dX8_agree_123 rfl ⟨rfl, rfl⟩ ?_
                refine rb_aload_n C dX8_agree_126 rfl ?_
                refine rw_getI C FR_X8_110 dX8_agree_127 rfl (x := 1) (up2_s _ _ _ _) ?_
                refine rb_if_le C 135 dX8_agree_130 (by decide) (fun h9 => absurd h9 (by decide)) (fun _ => ?_)
                refine rb_iconst C dX8_agree_133 (v := 0) (by decide) ?_
                exact rb_iret C E dX8_agree_134 (Nat.le_of_ble_eq_true rfl) (Nat.le_of_ble_eq_true rfl) (pp_ ((if_neg h4).trans ((if_pos h11).trans ((if_neg h23).trans ((if_neg h33).trans ((if_neg h46).trans ((if_neg h57).trans ((if_pos h69).trans (rfl)))))))))
              · refine rb_iload C dX8_agree_72 rfl ?_
                refine rb_iconst C dX8_agree_74 (v := 0) (by decide) ?_
                refine rb_iload C dX8_agree_75 rfl ?_
                refine rb_callS C M_X8_114 (fun l X => (k_X8_in l X G W lw (0 : Int32) pr).m) dX8_agree_77 rfl rfl rfl (Nat.le_of_ble_eq_true rfl) ⟨(Nat.le_of_ble_eq_true rfl), (Nat.le_of_ble_eq_true rfl)⟩ (Nat.le_of_ble_eq_true rfl) (Nat.le_of_ble_eq_true rfl) (fun v G' hp => ?_) (fun _ _ hp => hp.elim)
                obtain ⟨rfl, e9⟩ := hp
                rw [e9]
                clear e9 G'
                refine rb_if_eq C 87 dX8_agree_80 (by decide) (fun h80 => ?_) (fun h80 => ?_)
                · refine rb_iconst C dX8_agree_87 (v := 0) (by decide) ?_
                  refine rb_istore C dX8_agree_88 (Nat.le_of_ble_eq_true rfl) rfl (Lv' := [_, _, _, _, _, _, _, _, _, _]) rfl ?_
                  refine rb_aload_n C dX8_agree_90 rfl ?_
                  refine rb_iload C dX8_agree_91 rfl ?_
                  refine rb_if_ne C 100 dX8_agree_93 (by decide) (fun h9 => absurd (by decide) h9) (fun _ => ?_)
                  refine rb_iconst C dX8_agree_96 (v := 1) (by decide) ?_
                  refine rb_goto C 123 dX8_agree_97 (by decide) ?_
                  refine rw_putI C F_X8_110 dX8_agree_123 rfl ⟨rfl, rfl⟩ ?_
                  refine rb_aload_n C dX8_agree_126 rfl ?_
                  refine rw_getI C FR_X8_110 dX8_agree_127 rfl (x := 1) (up2_s _ _ _ _) ?_
                  refine rb_if_le C 135 dX8_agree_130 (by decide) (fun h9 => absurd h9 (by decide)) (fun _ => ?_)
                  refine rb_iconst C dX8_agree_133 (v := 0) (by decide) ?_
                  exact rb_iret C E dX8_agree_134 (Nat.le_of_ble_eq_true rfl) (Nat.le_of_ble_eq_true rfl) (pp_ ((if_neg h4).trans ((if_pos h11).trans ((if_neg h23).trans ((if_neg h33).trans ((if_neg h46).trans ((if_neg h57).trans ((if_neg h69).trans ((if_pos h80).trans (rfl))))))))))
                · refine rb_iconst C dX8_agree_83 (v := 1) (by decide) ?_
                  refine rb_goto C 88 dX8_agree_84 (by decide) ?_
                  refine rb_istore C dX8_agree_88 (Nat.le_of_ble_eq_true rfl) rfl (Lv' := [_, _, _, _, _, _, _, _, _, _]) rfl ?_
                  refine rb_aload_n C dX8_agree_90 rfl ?_
                  refine rb_iload C dX8_agree_91 rfl ?_
                  refine rb_if_ne C 100 dX8_agree_93 (by decide) (fun h9 => absurd (by decide) h9) (fun _ => ?_)
                  refine rb_iconst C dX8_agree_96 (v := 1) (by decide) ?_
                  refine rb_goto C 123 dX8_agree_97 (by decide) ?_
                  refine rw_putI C F_X8_110 dX8_agree_123 rfl ⟨rfl, rfl⟩ ?_
                  refine rb_aload_n C dX8_agree_126 rfl ?_
                  refine rw_getI C FR_X8_110 dX8_agree_127 rfl (x := 1) (up2_s _ _ _ _) ?_
                  refine rb_if_le C 135 dX8_agree_130 (by decide) (fun h9 => absurd h9 (by decide)) (fun _ => ?_)
                  refine rb_iconst C dX8_agree_133 (v := 0) (by decide) ?_
                  exact rb_iret C E dX8_agree_134 (Nat.le_of_ble_eq_true rfl) (Nat.le_of_ble_eq_true rfl) (pp_ ((if_neg h4).trans ((if_pos h11).trans ((if_neg h23).trans ((if_neg h33).trans ((if_neg h46).trans ((if_neg h57).trans ((if_neg h69).trans ((if_neg h80).trans (rfl))))))))))
    · refine rb_iconst C dX8_agree_14 (v := 1) (by decide) ?_
      refine rb_goto C 19 dX8_agree_15 (by decide) ?_
      refine rb_istore C dX8_agree_19 (Nat.le_of_ble_eq_true rfl) rfl (Lv' := [_, _, _, _, _, _, _, _, _, _]) rfl ?_
      refine rb_iload_n C dX8_agree_21 rfl ?_
      refine rb_iload_n C dX8_agree_22 rfl ?_
      refine rb_icmp_eq C 87 dX8_agree_23 (by decide) (fun h23 => ?_) (fun h23 => ?_)
      · refine rb_iconst C dX8_agree_87 (v := 0) (by decide) ?_
        refine rb_istore C dX8_agree_88 (Nat.le_of_ble_eq_true rfl) rfl (Lv' := [_, _, _, _, _, _, _, _, _, _]) rfl ?_
        refine rb_aload_n C dX8_agree_90 rfl ?_
        refine rb_iload C dX8_agree_91 rfl ?_
        refine rb_if_ne C 100 dX8_agree_93 (by decide) (fun _ => ?_) (fun h9 => absurd h9 (by decide))
        refine rb_iload C dX8_agree_100 rfl ?_
        refine rb_if_ne C 109 dX8_agree_102 (by decide) (fun h9 => absurd (by decide) h9) (fun _ => ?_)
        refine rb_iconst C dX8_agree_105 (v := 2) (by decide) ?_
        refine rb_goto C 123 dX8_agree_106 (by decide) ?_
        refine rw_putI C F_X8_110 dX8_agree_123 rfl ⟨rfl, rfl⟩ ?_
        refine rb_aload_n C dX8_agree_126 rfl ?_
        refine rw_getI C FR_X8_110 dX8_agree_127 rfl (x := 2) (up2_s _ _ _ _) ?_
        refine rb_if_le C 135 dX8_agree_130 (by decide) (fun h9 => absurd h9 (by decide)) (fun _ => ?_)
        refine rb_iconst C dX8_agree_133 (v := 0) (by decide) ?_
        exact rb_iret C E dX8_agree_134 (Nat.le_of_ble_eq_true rfl) (Nat.le_of_ble_eq_true rfl) (pp_ ((if_neg h4).trans ((if_neg h11).trans ((if_pos h23).trans (rfl)))))
      · refine rb_iload_n C dX8_agree_26 rfl ?_
        refine rb_iconst C dX8_agree_27 (v := 0) (by decide) ?_
        refine rb_ldc C dX8_agree_28 N_X8_136 ?_
        refine rb_callS C M_X8_114 (fun l X => (k_X8_in l X G W fr0 (0 : Int32) ((999999) : Int32)).m) dX8_agree_30 rfl rfl rfl (Nat.le_of_ble_eq_true rfl) ⟨(Nat.le_of_ble_eq_true rfl), (Nat.le_of_ble_eq_true rfl)⟩ (Nat.le_of_ble_eq_true rfl) (Nat.le_of_ble_eq_true rfl) (fun v G' hp => ?_) (fun _ _ hp => hp.elim)
        obtain ⟨rfl, e9⟩ := hp
        rw [e9]
        clear e9 G'
        refine rb_if_eq C 87 dX8_agree_33 (by decide) (fun h33 => ?_) (fun h33 => ?_)
        · refine rb_iconst C dX8_agree_87 (v := 0) (by decide) ?_
          refine rb_istore C dX8_agree_88 (Nat.le_of_ble_eq_true rfl) rfl (Lv' := [_, _, _, _, _, _, _, _, _, _]) rfl ?_
          refine rb_aload_n C dX8_agree_90 rfl ?_
          refine rb_iload C dX8_agree_91 rfl ?_
          refine rb_if_ne C 100 dX8_agree_93 (by decide) (fun _ => ?_) (fun h9 => absurd h9 (by decide))
          refine rb_iload C dX8_agree_100 rfl ?_
          refine rb_if_ne C 109 dX8_agree_102 (by decide) (fun h9 => absurd (by decide) h9) (fun _ => ?_)
          refine rb_iconst C dX8_agree_105 (v := 2) (by decide) ?_
          refine rb_goto C 123 dX8_agree_106 (by decide) ?_
          refine rw_putI C F_X8_110 dX8_agree_123 rfl ⟨rfl, rfl⟩ ?_
          refine rb_aload_n C dX8_agree_126 rfl ?_
          refine rw_getI C FR_X8_110 dX8_agree_127 rfl (x := 2) (up2_s _ _ _ _) ?_
          refine rb_if_le C 135 dX8_agree_130 (by decide) (fun h9 => absurd h9 (by decide)) (fun _ => ?_)
          refine rb_iconst C dX8_agree_133 (v := 0) (by decide) ?_
          exact rb_iret C E dX8_agree_134 (Nat.le_of_ble_eq_true rfl) (Nat.le_of_ble_eq_true rfl) (pp_ ((if_neg h4).trans ((if_neg h11).trans ((if_neg h23).trans ((if_pos h33).trans (rfl))))))
        · refine rb_iload C dX8_agree_36 rfl ?_
          refine rb_iload_n C dX8_agree_38 rfl ?_
          refine rb_iconst C dX8_agree_39 (v := 1) (by decide) ?_
          refine rb_iadd C dX8_agree_40 ?_
          refine rb_ldc C dX8_agree_41 N_X8_137 ?_
          refine rb_callS C M_X8_114 (fun l X => (k_X8_in l X G W to0 (fr0 + 1) ((1000000) : Int32)).m) dX8_agree_43 rfl rfl rfl (Nat.le_of_ble_eq_true rfl) ⟨(Nat.le_of_ble_eq_true rfl), (Nat.le_of_ble_eq_true rfl)⟩ (Nat.le_of_ble_eq_true rfl) (Nat.le_of_ble_eq_true rfl) (fun v G' hp => ?_) (fun _ _ hp => hp.elim)
          obtain ⟨rfl, e9⟩ := hp
          rw [e9]
          clear e9 G'
          refine rb_if_eq C 87 dX8_agree_46 (by decide) (fun h46 => ?_) (fun h46 => ?_)
          · refine rb_iconst C dX8_agree_87 (v := 0) (by decide) ?_
            refine rb_istore C dX8_agree_88 (Nat.le_of_ble_eq_true rfl) rfl (Lv' := [_, _, _, _, _, _, _, _, _, _]) rfl ?_
            refine rb_aload_n C dX8_agree_90 rfl ?_
            refine rb_iload C dX8_agree_91 rfl ?_
            refine rb_if_ne C 100 dX8_agree_93 (by decide) (fun _ => ?_) (fun h9 => absurd h9 (by decide))
            refine rb_iload C dX8_agree_100 rfl ?_
            refine rb_if_ne C 109 dX8_agree_102 (by decide) (fun h9 => absurd (by decide) h9) (fun _ => ?_)
            refine rb_iconst C dX8_agree_105 (v := 2) (by decide) ?_
            refine rb_goto C 123 dX8_agree_106 (by decide) ?_
            refine rw_putI C F_X8_110 dX8_agree_123 rfl ⟨rfl, rfl⟩ ?_
            refine rb_aload_n C dX8_agree_126 rfl ?_
            refine rw_getI C FR_X8_110 dX8_agree_127 rfl (x := 2) (up2_s _ _ _ _) ?_
            refine rb_if_le C 135 dX8_agree_130 (by decide) (fun h9 => absurd h9 (by decide)) (fun _ => ?_)
            refine rb_iconst C dX8_agree_133 (v := 0) (by decide) ?_
            exact rb_iret C E dX8_agree_134 (Nat.le_of_ble_eq_true rfl) (Nat.le_of_ble_eq_true rfl) (pp_ ((if_neg h4).trans ((if_neg h11).trans ((if_neg h23).trans ((if_neg h33).trans ((if_pos h46).trans (rfl)))))))
          · refine rb_iload C dX8_agree_49 rfl ?_
            refine rb_iconst C dX8_agree_51 (v := 0) (by decide) ?_
            refine rb_bipush C dX8_agree_52 (v := 99) (by decide) ?_
            refine rb_callS C M_X8_114 (fun l X => (k_X8_in l X G W pr (0 : Int32) (99 : Int32)).m) dX8_agree_54 rfl rfl rfl (Nat.le_of_ble_eq_true rfl) ⟨(Nat.le_of_ble_eq_true rfl), (Nat.le_of_ble_eq_true rfl)⟩ (Nat.le_of_ble_eq_true rfl) (Nat.le_of_ble_eq_true rfl) (fun v G' hp => ?_) (fun _ _ hp => hp.elim)
            obtain ⟨rfl, e9⟩ := hp
            rw [e9]
            clear e9 G'
            refine rb_if_eq C 87 dX8_agree_57 (by decide) (fun h57 => ?_) (fun h57 => ?_)
            · refine rb_iconst C dX8_agree_87 (v := 0) (by decide) ?_
              refine rb_istore C dX8_agree_88 (Nat.le_of_ble_eq_true rfl) rfl (Lv' := [_, _, _, _, _, _, _, _, _, _]) rfl ?_
              refine rb_aload_n C dX8_agree_90 rfl ?_
              refine rb_iload C dX8_agree_91 rfl ?_
              refine rb_if_ne C 100 dX8_agree_93 (by decide) (fun _ => ?_) (fun h9 => absurd h9 (by decide))
              refine rb_iload C dX8_agree_100 rfl ?_
              refine rb_if_ne C 109 dX8_agree_102 (by decide) (fun h9 => absurd (by decide) h9) (fun _ => ?_)
              refine rb_iconst C dX8_agree_105 (v := 2) (by decide) ?_
              refine rb_goto C 123 dX8_agree_106 (by decide) ?_
              refine rw_putI C F_X8_110 dX8_agree_123 rfl ⟨rfl, rfl⟩ ?_
              refine rb_aload_n C dX8_agree_126 rfl ?_
              refine rw_getI C FR_X8_110 dX8_agree_127 rfl (x := 2) (up2_s _ _ _ _) ?_
              refine rb_if_le C 135 dX8_agree_130 (by decide) (fun h9 => absurd h9 (by decide)) (fun _ => ?_)
              refine rb_iconst C dX8_agree_133 (v := 0) (by decide) ?_
              exact rb_iret C E dX8_agree_134 (Nat.le_of_ble_eq_true rfl) (Nat.le_of_ble_eq_true rfl) (pp_ ((if_neg h4).trans ((if_neg h11).trans ((if_neg h23).trans ((if_neg h33).trans ((if_neg h46).trans ((if_pos h57).trans (rfl))))))))
            · refine rb_iload C dX8_agree_60 rfl ?_
              refine rb_iconst C dX8_agree_62 (v := 0) (by decide) ?_
              refine rb_sipush C dX8_agree_63 (v := 9999) (by decide) ?_
              refine rb_callS C M_X8_114 (fun l X => (k_X8_in l X G W th (0 : Int32) (9999 : Int32)).m) dX8_agree_66 rfl rfl rfl (Nat.le_of_ble_eq_true rfl) ⟨(Nat.le_of_ble_eq_true rfl), (Nat.le_of_ble_eq_true rfl)⟩ (Nat.le_of_ble_eq_true rfl) (Nat.le_of_ble_eq_true rfl) (fun v G' hp => ?_) (fun _ _ hp => hp.elim)
              obtain ⟨rfl, e9⟩ := hp
              rw [e9]
              clear e9 G'
              refine rb_if_eq C 87 dX8_agree_69 (by decide) (fun h69 => ?_) (fun h69 => ?_)
              · refine rb_iconst C dX8_agree_87 (v := 0) (by decide) ?_
                refine rb_istore C dX8_agree_88 (Nat.le_of_ble_eq_true rfl) rfl (Lv' := [_, _, _, _, _, _, _, _, _, _]) rfl ?_
                refine rb_aload_n C dX8_agree_90 rfl ?_
                refine rb_iload C dX8_agree_91 rfl ?_
                refine rb_if_ne C 100 dX8_agree_93 (by decide) (fun _ => ?_) (fun h9 => absurd h9 (by decide))
                refine rb_iload C dX8_agree_100 rfl ?_
                refine rb_if_ne C 109 dX8_agree_102 (by decide) (fun h9 => absurd (by decide) h9) (fun _ => ?_)
                refine rb_iconst C dX8_agree_105 (v := 2) (by decide) ?_
                refine rb_goto C 123 dX8_agree_106 (by decide) ?_
                refine rw_putI C F_X8_110 dX8_agree_123 rfl ⟨rfl, rfl⟩ ?_
                refine rb_aload_n C dX8_agree_126 rfl ?_
                refine rw_getI C FR_X8_110 dX8_agree_127 rfl (x := 2) (up2_s _ _ _ _) ?_
                refine rb_if_le C 135 dX8_agree_130 (by decide) (fun h9 => absurd h9 (by decide)) (fun _ => ?_)
                refine rb_iconst C dX8_agree_133 (v := 0) (by decide) ?_
                exact rb_iret C E dX8_agree_134 (Nat.le_of_ble_eq_true rfl) (Nat.le_of_ble_eq_true rfl) (pp_ ((if_neg h4).trans ((if_neg h11).trans ((if_neg h23).trans ((if_neg h33).trans ((if_neg h46).trans ((if_neg h57).trans ((if_pos h69).trans (rfl)))))))))
              · refine rb_iload C dX8_agree_72 rfl ?_
                refine rb_iconst C dX8_agree_74 (v := 0) (by decide) ?_
                refine rb_iload C dX8_agree_75 rfl ?_
                refine rb_callS C M_X8_114 (fun l X => (k_X8_in l X G W lw (0 : Int32) pr).m) dX8_agree_77 rfl rfl rfl (Nat.le_of_ble_eq_true rfl) ⟨(Nat.le_of_ble_eq_true rfl), (Nat.le_of_ble_eq_true rfl)⟩ (Nat.le_of_ble_eq_true rfl) (Nat.le_of_ble_eq_true rfl) (fun v G' hp => ?_) (fun _ _ hp => hp.elim)
                obtain ⟨rfl, e9⟩ := hp
                rw [e9]
                clear e9 G'
                refine rb_if_eq C 87 dX8_agree_80 (by decide) (fun h80 => ?_) (fun h80 => ?_)
                · refine rb_iconst C dX8_agree_87 (v := 0) (by decide) ?_
                  refine rb_istore C dX8_agree_88 (Nat.le_of_ble_eq_true rfl) rfl (Lv' := [_, _, _, _, _, _, _, _, _, _]) rfl ?_
                  refine rb_aload_n C dX8_agree_90 rfl ?_
                  refine rb_iload C dX8_agree_91 rfl ?_
                  refine rb_if_ne C 100 dX8_agree_93 (by decide) (fun _ => ?_) (fun h9 => absurd h9 (by decide))
                  refine rb_iload C dX8_agree_100 rfl ?_
                  refine rb_if_ne C 109 dX8_agree_102 (by decide) (fun h9 => absurd (by decide) h9) (fun _ => ?_)
                  refine rb_iconst C dX8_agree_105 (v := 2) (by decide) ?_
                  refine rb_goto C 123 dX8_agree_106 (by decide) ?_
                  refine rw_putI C F_X8_110 dX8_agree_123 rfl ⟨rfl, rfl⟩ ?_
                  refine rb_aload_n C dX8_agree_126 rfl ?_
                  refine rw_getI C FR_X8_110 dX8_agree_127 rfl (x := 2) (up2_s _ _ _ _) ?_
                  refine rb_if_le C 135 dX8_agree_130 (by decide) (fun h9 => absurd h9 (by decide)) (fun _ => ?_)
                  refine rb_iconst C dX8_agree_133 (v := 0) (by decide) ?_
                  exact rb_iret C E dX8_agree_134 (Nat.le_of_ble_eq_true rfl) (Nat.le_of_ble_eq_true rfl) (pp_ ((if_neg h4).trans ((if_neg h11).trans ((if_neg h23).trans ((if_neg h33).trans ((if_neg h46).trans ((if_neg h57).trans ((if_neg h69).trans ((if_pos h80).trans (rfl))))))))))
                · refine rb_iconst C dX8_agree_83 (v := 1) (by decide) ?_
                  refine rb_goto C 88 dX8_agree_84 (by decide) ?_
                  refine rb_istore C dX8_agree_88 (Nat.le_of_ble_eq_true rfl) rfl (Lv' := [_, _, _, _, _, _, _, _, _, _]) rfl ?_
                  refine rb_aload_n C dX8_agree_90 rfl ?_
                  refine rb_iload C dX8_agree_91 rfl ?_
                  refine rb_if_ne C 100 dX8_agree_93 (by decide) (fun _ => ?_) (fun h9 => absurd h9 (by decide))
                  refine rb_iload C dX8_agree_100 rfl ?_
                  refine rb_if_ne C 109 dX8_agree_102 (by decide) (fun _ => ?_) (fun h9 => absurd h9 (by decide))
                  refine rb_aload_n C dX8_agree_109 rfl ?_
                  refine rw_getI C FR_X8_138 dX8_agree_110 rfl (x := (W (16, 0, 0) 7)) (rfl) ?_
                  refine rb_bipush C dX8_agree_113 (v := 30) (by decide) ?_
                  refine rb_icmp_ne C 122 dX8_agree_115 (by decide) (fun h115 => ?_) (fun h115 => ?_)
                  · refine rb_iconst C dX8_agree_122 (v := 0) (by decide) ?_
                    refine rw_putI C F_X8_110 dX8_agree_123 rfl ⟨rfl, rfl⟩ ?_
                    refine rb_aload_n C dX8_agree_126 rfl ?_
                    refine rw_getI C FR_X8_110 dX8_agree_127 rfl (x := 0) (up2_s _ _ _ _) ?_
                    refine rb_if_le C 135 dX8_agree_130 (by decide) (fun _ => ?_) (fun h9 => absurd (by decide) h9)
                    refine rb_aload_n C dX8_agree_135 rfl ?_
                    refine rw_getP C FR_X8_26 dX8_agree_136 rfl (o := some (14, 8, 0)) (hm.1 8 (by decide)) ?_
                    refine rb_aload_n C dX8_agree_139 rfl ?_
                    refine rw_getI C FR_X8_138 dX8_agree_140 rfl (x := (W (16, 0, 0) 7)) ((up2_n _ _ _ _ (fun q => absurd q.2 (show ¬ ((7 : Nat) = 0) by decide))).trans (rfl)) ?_
                    refine rb_iload_n C dX8_agree_143 rfl ?_
                    refine rw_iast C 30 (W (16, 0, 0) 7).toNatClampNeg dX8_agree_144 rfl (hm.2 8 (by decide)) (cnt_lt 30 hM.2.2.2.2.2.2.1 rfl h115 (by decide)) rfl ?_
                    refine rb_aload_n C dX8_agree_145 rfl ?_
                    refine rw_getP C FR_X8_29 dX8_agree_146 rfl (o := some (14, 9, 0)) (hm.1 9 (by decide)) ?_
                    refine rb_aload_n C dX8_agree_149 rfl ?_
                    refine rw_getI C FR_X8_138 dX8_agree_150 rfl (x := (W (16, 0, 0) 7)) ((up2_n _ _ _ _ (fun q => absurd (congrArg Prod.fst q.1) (show ¬ ((16 : Nat) = 14) by decide))).trans ((up2_n _ _ _ _ (fun q => absurd q.2 (show ¬ ((7 : Nat) = 0) by decide))).trans (rfl))) ?_
                    refine rb_iload_n C dX8_agree_153 rfl ?_
                    refine rw_iast C 30 (W (16, 0, 0) 7).toNatClampNeg dX8_agree_154 rfl (hm.2 9 (by decide)) (cnt_lt 30 hM.2.2.2.2.2.2.1 rfl h115 (by decide)) rfl ?_
                    refine rb_aload_n C dX8_agree_155 rfl ?_
                    refine rw_getP C FR_X8_32 dX8_agree_156 rfl (o := some (14, 10, 0)) (hm.1 10 (by decide)) ?_
                    refine rb_aload_n C dX8_agree_159 rfl ?_
                    refine rw_getI C FR_X8_138 dX8_agree_160 rfl (x := (W (16, 0, 0) 7)) ((up2_n _ _ _ _ (fun q => absurd (congrArg Prod.fst q.1) (show ¬ ((16 : Nat) = 14) by decide))).trans ((up2_n _ _ _ _ (fun q => absurd (congrArg Prod.fst q.1) (show ¬ ((16 : Nat) = 14) by decide))).trans ((up2_n _ _ _ _ (fun q => absurd q.2 (show ¬ ((7 : Nat) = 0) by decide))).trans (rfl)))) ?_
                    refine rb_iload_n C dX8_agree_163 rfl ?_
                    refine rw_iast C 30 (W (16, 0, 0) 7).toNatClampNeg dX8_agree_164 rfl (hm.2 10 (by decide)) (cnt_lt 30 hM.2.2.2.2.2.2.1 rfl h115 (by decide)) rfl ?_
                    refine rb_aload_n C dX8_agree_165 rfl ?_
                    refine rw_getP C FR_X8_35 dX8_agree_166 rfl (o := some (14, 11, 0)) (hm.1 11 (by decide)) ?_
                    refine rb_aload_n C dX8_agree_169 rfl ?_
                    refine rw_getI C FR_X8_138 dX8_agree_170 rfl (x := (W (16, 0, 0) 7)) ((up2_n _ _ _ _ (fun q => absurd (congrArg Prod.fst q.1) (show ¬ ((16 : Nat) = 14) by decide))).trans ((up2_n _ _ _ _ (fun q => absurd (congrArg Prod.fst q.1) (show ¬ ((16 : Nat) = 14) by decide))).trans ((up2_n _ _ _ _ (fun q => absurd (congrArg Prod.fst q.1) (show ¬ ((16 : Nat) = 14) by decide))).trans ((up2_n _ _ _ _ (fun q => absurd q.2 (show ¬ ((7 : Nat) = 0) by decide))).trans (rfl))))) ?_
                    refine rb_iload C dX8_agree_173 rfl ?_
                    refine rw_iast C 30 (W (16, 0, 0) 7).toNatClampNeg dX8_agree_175 rfl (hm.2 11 (by decide)) (cnt_lt 30 hM.2.2.2.2.2.2.1 rfl h115 (by decide)) rfl ?_
                    refine rb_aload_n C dX8_agree_176 rfl ?_
                    refine rw_getP C FR_X8_38 dX8_agree_177 rfl (o := some (14, 12, 0)) (hm.1 12 (by decide)) ?_
                    refine rb_aload_n C dX8_agree_180 rfl ?_
                    refine rw_getI C FR_X8_138 dX8_agree_181 rfl (x := (W (16, 0, 0) 7)) ((up2_n _ _ _ _ (fun q => absurd (congrArg Prod.fst q.1) (show ¬ ((16 : Nat) = 14) by decide))).trans ((up2_n _ _ _ _ (fun q => absurd (congrArg Prod.fst q.1) (show ¬ ((16 : Nat) = 14) by decide))).trans ((up2_n _ _ _ _ (fun q => absurd (congrArg Prod.fst q.1) (show ¬ ((16 : Nat) = 14) by decide))).trans ((up2_n _ _ _ _ (fun q => absurd (congrArg Prod.fst q.1) (show ¬ ((16 : Nat) = 14) by decide))).trans ((up2_n _ _ _ _ (fun q => absurd q.2 (show ¬ ((7 : Nat) = 0) by decide))).trans (rfl)))))) ?_
                    refine rb_iload C dX8_agree_184 rfl ?_
                    refine rw_iast C 30 (W (16, 0, 0) 7).toNatClampNeg dX8_agree_186 rfl (hm.2 12 (by decide)) (cnt_lt 30 hM.2.2.2.2.2.2.1 rfl h115 (by decide)) rfl ?_
                    refine rb_aload_n C dX8_agree_187 rfl ?_
                    refine rw_getP C FR_X8_41 dX8_agree_188 rfl (o := some (14, 13, 0)) (hm.1 13 (by decide)) ?_
                    refine rb_aload_n C dX8_agree_191 rfl ?_
                    refine rw_getI C FR_X8_138 dX8_agree_192 rfl (x := (W (16, 0, 0) 7)) ((up2_n _ _ _ _ (fun q => absurd (congrArg Prod.fst q.1) (show ¬ ((16 : Nat) = 14) by decide))).trans ((up2_n _ _ _ _ (fun q => absurd (congrArg Prod.fst q.1) (show ¬ ((16 : Nat) = 14) by decide))).trans ((up2_n _ _ _ _ (fun q => absurd (congrArg Prod.fst q.1) (show ¬ ((16 : Nat) = 14) by decide))).trans ((up2_n _ _ _ _ (fun q => absurd (congrArg Prod.fst q.1) (show ¬ ((16 : Nat) = 14) by decide))).trans ((up2_n _ _ _ _ (fun q => absurd (congrArg Prod.fst q.1) (show ¬ ((16 : Nat) = 14) by decide))).trans ((up2_n _ _ _ _ (fun q => absurd q.2 (show ¬ ((7 : Nat) = 0) by decide))).trans (rfl))))))) ?_
                    refine rb_iload C dX8_agree_195 rfl ?_
                    refine rw_iast C 30 (W (16, 0, 0) 7).toNatClampNeg dX8_agree_197 rfl (hm.2 13 (by decide)) (cnt_lt 30 hM.2.2.2.2.2.2.1 rfl h115 (by decide)) rfl ?_
                    refine rb_aload_n C dX8_agree_198 rfl ?_
                    refine rw_getP C FR_X8_44 dX8_agree_199 rfl (o := some (14, 14, 0)) (hm.1 14 (by decide)) ?_
                    refine rb_aload_n C dX8_agree_202 rfl ?_
                    refine rw_getI C FR_X8_138 dX8_agree_203 rfl (x := (W (16, 0, 0) 7)) ((up2_n _ _ _ _ (fun q => absurd (congrArg Prod.fst q.1) (show ¬ ((16 : Nat) = 14) by decide))).trans ((up2_n _ _ _ _ (fun q => absurd (congrArg Prod.fst q.1) (show ¬ ((16 : Nat) = 14) by decide))).trans ((up2_n _ _ _ _ (fun q => absurd (congrArg Prod.fst q.1) (show ¬ ((16 : Nat) = 14) by decide))).trans ((up2_n _ _ _ _ (fun q => absurd (congrArg Prod.fst q.1) (show ¬ ((16 : Nat) = 14) by decide))).trans ((up2_n _ _ _ _ (fun q => absurd (congrArg Prod.fst q.1) (show ¬ ((16 : Nat) = 14) by decide))).trans ((up2_n _ _ _ _ (fun q => absurd (congrArg Prod.fst q.1) (show ¬ ((16 : Nat) = 14) by decide))).trans ((up2_n _ _ _ _ (fun q => absurd q.2 (show ¬ ((7 : Nat) = 0) by decide))).trans (rfl)))))))) ?_
                    refine rb_iload C dX8_agree_206 rfl ?_
                    refine rw_iast C 30 (W (16, 0, 0) 7).toNatClampNeg dX8_agree_208 rfl (hm.2 14 (by decide)) (cnt_lt 30 hM.2.2.2.2.2.2.1 rfl h115 (by decide)) rfl ?_
                    refine rb_aload_n C dX8_agree_209 rfl ?_
                    refine rb_dup C dX8_agree_210 rfl ?_
                    refine rw_getI C FR_X8_138 dX8_agree_211 rfl (x := (W (16, 0, 0) 7)) ((up2_n _ _ _ _ (fun q => absurd (congrArg Prod.fst q.1) (show ¬ ((16 : Nat) = 14) by decide))).trans ((up2_n _ _ _ _ (fun q => absurd (congrArg Prod.fst q.1) (show ¬ ((16 : Nat) = 14) by decide))).trans ((up2_n _ _ _ _ (fun q => absurd (congrArg Prod.fst q.1) (show ¬ ((16 : Nat) = 14) by decide))).trans ((up2_n _ _ _ _ (fun q => absurd (congrArg Prod.fst q.1) (show ¬ ((16 : Nat) = 14) by decide))).trans ((up2_n _ _ _ _ (fun q => absurd (congrArg Prod.fst q.1) (show ¬ ((16 : Nat) = 14) by decide))).trans ((up2_n _ _ _ _ (fun q => absurd (congrArg Prod.fst q.1) (show ¬ ((16 : Nat) = 14) by decide))).trans ((up2_n _ _ _ _ (fun q => absurd (congrArg Prod.fst q.1) (show ¬ ((16 : Nat) = 14) by decide))).trans ((up2_n _ _ _ _ (fun q => absurd q.2 (show ¬ ((7 : Nat) = 0) by decide))).trans (rfl))))))))) ?_
                    refine rb_iconst C dX8_agree_214 (v := 1) (by decide) ?_
                    refine rb_iadd C dX8_agree_215 ?_
                    refine rw_putI C F_X8_138 dX8_agree_216 rfl ⟨rfl, rfl⟩ ?_
                    refine rb_aload_n C dX8_agree_219 rfl ?_
                    refine rw_getI C FR_X8_138 dX8_agree_220 rfl (x := ((W (16, 0, 0) 7) + 1)) (up2_s _ _ _ _) ?_
                    exact rb_iret C E dX8_agree_223 (Nat.le_of_ble_eq_true rfl) (Nat.le_of_ble_eq_true rfl) (pp_ ((if_neg h4).trans ((if_neg h11).trans ((if_neg h23).trans ((if_neg h33).trans ((if_neg h46).trans ((if_neg h57).trans ((if_neg h69).trans ((if_neg h80).trans ((if_neg h115).trans (rfl)))))))))))
                  · refine rb_iconst C dX8_agree_118 (v := 3) (by decide) ?_
                    refine rb_goto C 123 dX8_agree_119 (by decide) ?_
                    refine rw_putI C F_X8_110 dX8_agree_123 rfl ⟨rfl, rfl⟩ ?_
                    refine rb_aload_n C dX8_agree_126 rfl ?_
                    refine rw_getI C FR_X8_110 dX8_agree_127 rfl (x := 3) (up2_s _ _ _ _) ?_
                    refine rb_if_le C 135 dX8_agree_130 (by decide) (fun h9 => absurd h9 (by decide)) (fun _ => ?_)
                    refine rb_iconst C dX8_agree_133 (v := 0) (by decide) ?_
                    exact rb_iret C E dX8_agree_134 (Nat.le_of_ble_eq_true rfl) (Nat.le_of_ble_eq_true rfl) (pp_ ((if_neg h4).trans ((if_neg h11).trans ((if_neg h23).trans ((if_neg h33).trans ((if_neg h46).trans ((if_neg h57).trans ((if_neg h69).trans ((if_neg h80).trans ((if_pos h115).trans (rfl)))))))))))

def m_steer (W : rb_I) (ho : Int32) (n : Int32) : Int32 × rb_I := (if (m_isNetwork ho) = 0 then (0, (up2 W (16, 0, 0) 0 1)) else (if n = (-1) then (if n = ho then (0, (up2 W (16, 0, 0) 0 2)) else ((W (14, 4, 0) ho.toNatClampNeg), (up2 (up2 W (16, 0, 0) 0 0) (14, 4, 0) ho.toNatClampNeg n))) else (if (m_isNetwork n) = 0 then (0, (up2 W (16, 0, 0) 0 1)) else (if n = ho then (0, (up2 W (16, 0, 0) 0 2)) else ((W (14, 4, 0) ho.toNatClampNeg), (up2 (up2 W (16, 0, 0) 0 0) (14, 4, 0) ho.toNatClampNeg n))))))
set_option maxRecDepth 100000 in
set_option maxHeartbeats 4000000 in
theorem k_X8_steer (l : Launch) (X : rb_X) (G : rb_G) (W : rb_I) (ho : Int32) (n : Int32) (hm : MS G) (hM : MI W) : rb_N l X yX8_steer (.code yX8_steer cX8_steer 4 (some .int)) 3 54 0 0 [rbR (16, 0, 0), rbI ho, rbI n] (wI G W) (fun v9 G9 => v9 = some (rbI (m_steer W ho n).1) ∧ G9 = wI G (m_steer W ho n).2) := by
  refine rb_startN RX8 rfl (by decide +kernel) rfl (Nat.le_of_ble_eq_true rfl) ?_
  intro Φ C E nm
  show rb_W Φ 0 0 0 [some (rbR (16, 0, 0)), some (rbI ho), some (rbI n), none] [] (wI G W)
  refine rb_aload_n C dX8_steer_0 rfl ?_
  refine rb_iload_n C dX8_steer_1 rfl ?_
  refine rb_callS C M_X8_129 (fun l X => (k_X8_isNetwork l X G W ho).m) dX8_steer_2 rfl rfl rfl (Nat.le_of_ble_eq_true rfl) ⟨(Nat.le_of_ble_eq_true rfl), (Nat.le_of_ble_eq_true rfl)⟩ (Nat.le_of_ble_eq_true rfl) (Nat.le_of_ble_eq_true rfl) (fun v G' hp => ?_) (fun _ _ hp => hp.elim)
  obtain ⟨rfl, e9⟩ := hp
  rw [e9]
  clear e9 G'
  refine rb_if_eq C 20 dX8_steer_5 (by decide) (fun h5 => ?_) (fun h5 => ?_)
  · refine rb_iconst C dX8_steer_20 (v := 1) (by decide) ?_
    refine rb_goto C 34 dX8_steer_21 (by decide) ?_
    refine rw_putI C F_X8_110 dX8_steer_34 rfl ⟨rfl, rfl⟩ ?_
    refine rb_aload_n C dX8_steer_37 rfl ?_
    refine rw_getI C FR_X8_110 dX8_steer_38 rfl (x := 1) (up2_s _ _ _ _) ?_
    refine rb_if_le C 46 dX8_steer_41 (by decide) (fun h9 => absurd h9 (by decide)) (fun _ => ?_)
    refine rb_iconst C dX8_steer_44 (v := 0) (by decide) ?_
    exact rb_iret C E dX8_steer_45 (Nat.le_of_ble_eq_true rfl) (Nat.le_of_ble_eq_true rfl) (pp_ ((if_pos h5).trans (rfl)))
  · refine rb_iload_n C dX8_steer_8 rfl ?_
    refine rb_iconst C dX8_steer_9 (v := (-1)) (by decide) ?_
    refine rb_icmp_eq C 24 dX8_steer_10 (by decide) (fun h10 => ?_) (fun h10 => ?_)
    · refine rb_iload_n C dX8_steer_24 rfl ?_
      refine rb_iload_n C dX8_steer_25 rfl ?_
      refine rb_icmp_ne C 33 dX8_steer_26 (by decide) (fun h26 => ?_) (fun h26 => ?_)
      · refine rb_iconst C dX8_steer_33 (v := 0) (by decide) ?_
        refine rw_putI C F_X8_110 dX8_steer_34 rfl ⟨rfl, rfl⟩ ?_
        refine rb_aload_n C dX8_steer_37 rfl ?_
        refine rw_getI C FR_X8_110 dX8_steer_38 rfl (x := 0) (up2_s _ _ _ _) ?_
        refine rb_if_le C 46 dX8_steer_41 (by decide) (fun _ => ?_) (fun h9 => absurd (by decide) h9)
        have hh := isNetwork_in h5
        refine rb_aload_n C dX8_steer_46 rfl ?_
        refine rw_getP C FR_X8_17 dX8_steer_47 rfl (o := some (14, 4, 0)) (hm.1 4 (by decide)) ?_
        refine rb_iload_n C dX8_steer_50 rfl ?_
        refine rw_iald C (x := (W (14, 4, 0) ho.toNatClampNeg)) 6 ho.toNatClampNeg dX8_steer_51 rfl (hm.2 4 (by decide)) hh rfl ((up2_n _ _ _ _ (fun q => absurd (congrArg Prod.fst q.1) (show ¬ ((14 : Nat) = 16) by decide))).trans (rfl)) ?_
        refine rb_istore_n C dX8_steer_52 (Nat.le_of_ble_eq_true rfl) rfl (Lv' := [_, _, _, _]) rfl ?_
        refine rb_aload_n C dX8_steer_53 rfl ?_
        refine rw_getP C FR_X8_17 dX8_steer_54 rfl (o := some (14, 4, 0)) (hm.1 4 (by decide)) ?_
        refine rb_iload_n C dX8_steer_57 rfl ?_
        refine rb_iload_n C dX8_steer_58 rfl ?_
        refine rw_iast C 6 ho.toNatClampNeg dX8_steer_59 rfl (hm.2 4 (by decide)) hh rfl ?_
        refine rb_iload_n C dX8_steer_60 rfl ?_
        exact rb_iret C E dX8_steer_61 (Nat.le_of_ble_eq_true rfl) (Nat.le_of_ble_eq_true rfl) (pp_ ((if_neg h5).trans ((if_pos h10).trans ((if_neg h26).trans (rfl)))))
      · refine rb_iconst C dX8_steer_29 (v := 2) (by decide) ?_
        refine rb_goto C 34 dX8_steer_30 (by decide) ?_
        refine rw_putI C F_X8_110 dX8_steer_34 rfl ⟨rfl, rfl⟩ ?_
        refine rb_aload_n C dX8_steer_37 rfl ?_
        refine rw_getI C FR_X8_110 dX8_steer_38 rfl (x := 2) (up2_s _ _ _ _) ?_
        refine rb_if_le C 46 dX8_steer_41 (by decide) (fun h9 => absurd h9 (by decide)) (fun _ => ?_)
        refine rb_iconst C dX8_steer_44 (v := 0) (by decide) ?_
        exact rb_iret C E dX8_steer_45 (Nat.le_of_ble_eq_true rfl) (Nat.le_of_ble_eq_true rfl) (pp_ ((if_neg h5).trans ((if_pos h10).trans ((if_pos h26).trans (rfl)))))
    · refine rb_iload_n C dX8_steer_13 rfl ?_
      refine rb_callS C M_X8_129 (fun l X => (k_X8_isNetwork l X G W n).m) dX8_steer_14 rfl rfl rfl (Nat.le_of_ble_eq_true rfl) ⟨(Nat.le_of_ble_eq_true rfl), (Nat.le_of_ble_eq_true rfl)⟩ (Nat.le_of_ble_eq_true rfl) (Nat.le_of_ble_eq_true rfl) (fun v G' hp => ?_) (fun _ _ hp => hp.elim)
      obtain ⟨rfl, e9⟩ := hp
      rw [e9]
      clear e9 G'
      refine rb_if_ne C 24 dX8_steer_17 (by decide) (fun h17 => ?_) (fun h17 => ?_)
      · refine rb_iload_n C dX8_steer_24 rfl ?_
        refine rb_iload_n C dX8_steer_25 rfl ?_
        refine rb_icmp_ne C 33 dX8_steer_26 (by decide) (fun h26 => ?_) (fun h26 => ?_)
        · refine rb_iconst C dX8_steer_33 (v := 0) (by decide) ?_
          refine rw_putI C F_X8_110 dX8_steer_34 rfl ⟨rfl, rfl⟩ ?_
          refine rb_aload_n C dX8_steer_37 rfl ?_
          refine rw_getI C FR_X8_110 dX8_steer_38 rfl (x := 0) (up2_s _ _ _ _) ?_
          refine rb_if_le C 46 dX8_steer_41 (by decide) (fun _ => ?_) (fun h9 => absurd (by decide) h9)
          have hh := isNetwork_in h5
          refine rb_aload_n C dX8_steer_46 rfl ?_
          refine rw_getP C FR_X8_17 dX8_steer_47 rfl (o := some (14, 4, 0)) (hm.1 4 (by decide)) ?_
          refine rb_iload_n C dX8_steer_50 rfl ?_
          refine rw_iald C (x := (W (14, 4, 0) ho.toNatClampNeg)) 6 ho.toNatClampNeg dX8_steer_51 rfl (hm.2 4 (by decide)) hh rfl ((up2_n _ _ _ _ (fun q => absurd (congrArg Prod.fst q.1) (show ¬ ((14 : Nat) = 16) by decide))).trans (rfl)) ?_
          refine rb_istore_n C dX8_steer_52 (Nat.le_of_ble_eq_true rfl) rfl (Lv' := [_, _, _, _]) rfl ?_
          refine rb_aload_n C dX8_steer_53 rfl ?_
          refine rw_getP C FR_X8_17 dX8_steer_54 rfl (o := some (14, 4, 0)) (hm.1 4 (by decide)) ?_
          refine rb_iload_n C dX8_steer_57 rfl ?_
          refine rb_iload_n C dX8_steer_58 rfl ?_
          refine rw_iast C 6 ho.toNatClampNeg dX8_steer_59 rfl (hm.2 4 (by decide)) hh rfl ?_
          refine rb_iload_n C dX8_steer_60 rfl ?_
          exact rb_iret C E dX8_steer_61 (Nat.le_of_ble_eq_true rfl) (Nat.le_of_ble_eq_true rfl) (pp_ ((if_neg h5).trans ((if_neg h10).trans ((if_neg h17).trans ((if_neg h26).trans (rfl))))))
        · refine rb_iconst C dX8_steer_29 (v := 2) (by decide) ?_
          refine rb_goto C 34 dX8_steer_30 (by decide) ?_
          refine rw_putI C F_X8_110 dX8_steer_34 rfl ⟨rfl, rfl⟩ ?_
          refine rb_aload_n C dX8_steer_37 rfl ?_
          refine rw_getI C FR_X8_110 dX8_steer_38 rfl (x := 2) (up2_s _ _ _ _) ?_
          refine rb_if_le C 46 dX8_steer_41 (by decide) (fun h9 => absurd h9 (by decide)) (fun _ => ?_)
          refine rb_iconst C dX8_steer_44 (v := 0) (by decide) ?_
          exact rb_iret C E dX8_steer_45 (Nat.le_of_ble_eq_true rfl) (Nat.le_of_ble_eq_true rfl) (pp_ ((if_neg h5).trans ((if_neg h10).trans ((if_neg h17).trans ((if_pos h26).trans (rfl))))))
      · refine rb_iconst C dX8_steer_20 (v := 1) (by decide) ?_
        refine rb_goto C 34 dX8_steer_21 (by decide) ?_
        refine rw_putI C F_X8_110 dX8_steer_34 rfl ⟨rfl, rfl⟩ ?_
        refine rb_aload_n C dX8_steer_37 rfl ?_
        refine rw_getI C FR_X8_110 dX8_steer_38 rfl (x := 1) (up2_s _ _ _ _) ?_
        refine rb_if_le C 46 dX8_steer_41 (by decide) (fun h9 => absurd h9 (by decide)) (fun _ => ?_)
        refine rb_iconst C dX8_steer_44 (v := 0) (by decide) ?_
        exact rb_iret C E dX8_steer_45 (Nat.le_of_ble_eq_true rfl) (Nat.le_of_ble_eq_true rfl) (pp_ ((if_neg h5).trans ((if_neg h10).trans ((if_pos h17).trans (rfl)))))

def m_prices (W : rb_I) (ho : Int32) (ah : Int32) (ab : Int32) (ca : Int32) : rb_I := (if (m_isNetwork ho) = 0 then (up2 W (16, 0, 0) 0 1) else (if (m_in ah (0 : Int32) (99 : Int32)) = 0 then (up2 W (16, 0, 0) 0 2) else (if (m_in ab (0 : Int32) (99 : Int32)) = 0 then (up2 W (16, 0, 0) 0 2) else (if (m_in ca (0 : Int32) (99 : Int32)) = 0 then (up2 W (16, 0, 0) 0 2) else (up2 (up2 (up2 (up2 W (16, 0, 0) 0 0) (14, 5, 0) (3 * ho.toNatClampNeg + 0) ah) (14, 5, 0) (3 * ho.toNatClampNeg + 1) ab) (14, 5, 0) (3 * ho.toNatClampNeg + 2) ca)))))
set_option maxRecDepth 100000 in
set_option maxHeartbeats 4000000 in
theorem k_X8_prices (l : Launch) (X : rb_X) (G : rb_G) (W : rb_I) (ho : Int32) (ah : Int32) (ab : Int32) (ca : Int32) (hm : MS G) (hM : MI W) : rb_N l X yX8_prices (.code yX8_prices cX8_prices 5 none) 3 54 0 0 [rbR (16, 0, 0), rbI ho, rbI ah, rbI ab, rbI ca] (wI G W) (fun v9 G9 => v9 = none ∧ G9 = wI G (m_prices W ho ah ab ca)) := by
  refine rb_startN RX8 rfl (by decide +kernel) rfl (Nat.le_of_ble_eq_true rfl) ?_
  intro Φ C E nm
  show rb_W Φ 0 0 0 [some (rbR (16, 0, 0)), some (rbI ho), some (rbI ah), some (rbI ab), some (rbI ca)] [] (wI G W)
  refine rb_aload_n C dX8_prices_0 rfl ?_
  refine rb_iload_n C dX8_prices_1 rfl ?_
  refine rb_callS C M_X8_129 (fun l X => (k_X8_isNetwork l X G W ho).m) dX8_prices_2 rfl rfl rfl (Nat.le_of_ble_eq_true rfl) ⟨(Nat.le_of_ble_eq_true rfl), (Nat.le_of_ble_eq_true rfl)⟩ (Nat.le_of_ble_eq_true rfl) (Nat.le_of_ble_eq_true rfl) (fun v G' hp => ?_) (fun _ _ hp => hp.elim)
  obtain ⟨rfl, e9⟩ := hp
  rw [e9]
  clear e9 G'
  refine rb_if_ne C 12 dX8_prices_5 (by decide) (fun h5 => ?_) (fun h5 => ?_)
  · refine rb_iload_n C dX8_prices_12 rfl ?_
    refine rb_iconst C dX8_prices_13 (v := 0) (by decide) ?_
    refine rb_bipush C dX8_prices_14 (v := 99) (by decide) ?_
    refine rb_callS C M_X8_114 (fun l X => (k_X8_in l X G W ah (0 : Int32) (99 : Int32)).m) dX8_prices_16 rfl rfl rfl (Nat.le_of_ble_eq_true rfl) ⟨(Nat.le_of_ble_eq_true rfl), (Nat.le_of_ble_eq_true rfl)⟩ (Nat.le_of_ble_eq_true rfl) (Nat.le_of_ble_eq_true rfl) (fun v G' hp => ?_) (fun _ _ hp => hp.elim)
    obtain ⟨rfl, e9⟩ := hp
    rw [e9]
    clear e9 G'
    refine rb_if_eq C 47 dX8_prices_19 (by decide) (fun h19 => ?_) (fun h19 => ?_)
    · refine rb_iconst C dX8_prices_47 (v := 2) (by decide) ?_
      refine rw_putI C F_X8_110 dX8_prices_48 rfl ⟨rfl, rfl⟩ ?_
      refine rb_aload_n C dX8_prices_51 rfl ?_
      refine rw_getI C FR_X8_110 dX8_prices_52 rfl (x := 2) (up2_s _ _ _ _) ?_
      refine rb_if_ne C 92 dX8_prices_55 (by decide) (fun _ => ?_) (fun h9 => absurd h9 (by decide))
      exact rb_vret C E dX8_prices_92 (Nat.le_of_ble_eq_true rfl) (Nat.le_of_ble_eq_true rfl) (pw_ ((if_neg h5).trans ((if_pos h19).trans (rfl))))
    · refine rb_iload_n C dX8_prices_22 rfl ?_
      refine rb_iconst C dX8_prices_23 (v := 0) (by decide) ?_
      refine rb_bipush C dX8_prices_24 (v := 99) (by decide) ?_
      refine rb_callS C M_X8_114 (fun l X => (k_X8_in l X G W ab (0 : Int32) (99 : Int32)).m) dX8_prices_26 rfl rfl rfl (Nat.le_of_ble_eq_true rfl) ⟨(Nat.le_of_ble_eq_true rfl), (Nat.le_of_ble_eq_true rfl)⟩ (Nat.le_of_ble_eq_true rfl) (Nat.le_of_ble_eq_true rfl) (fun v G' hp => ?_) (fun _ _ hp => hp.elim)
      obtain ⟨rfl, e9⟩ := hp
      rw [e9]
      clear e9 G'
      refine rb_if_eq C 47 dX8_prices_29 (by decide) (fun h29 => ?_) (fun h29 => ?_)
      · refine rb_iconst C dX8_prices_47 (v := 2) (by decide) ?_
        refine rw_putI C F_X8_110 dX8_prices_48 rfl ⟨rfl, rfl⟩ ?_
        refine rb_aload_n C dX8_prices_51 rfl ?_
        refine rw_getI C FR_X8_110 dX8_prices_52 rfl (x := 2) (up2_s _ _ _ _) ?_
        refine rb_if_ne C 92 dX8_prices_55 (by decide) (fun _ => ?_) (fun h9 => absurd h9 (by decide))
        exact rb_vret C E dX8_prices_92 (Nat.le_of_ble_eq_true rfl) (Nat.le_of_ble_eq_true rfl) (pw_ ((if_neg h5).trans ((if_neg h19).trans ((if_pos h29).trans (rfl)))))
      · refine rb_iload C dX8_prices_32 rfl ?_
        refine rb_iconst C dX8_prices_34 (v := 0) (by decide) ?_
        refine rb_bipush C dX8_prices_35 (v := 99) (by decide) ?_
        refine rb_callS C M_X8_114 (fun l X => (k_X8_in l X G W ca (0 : Int32) (99 : Int32)).m) dX8_prices_37 rfl rfl rfl (Nat.le_of_ble_eq_true rfl) ⟨(Nat.le_of_ble_eq_true rfl), (Nat.le_of_ble_eq_true rfl)⟩ (Nat.le_of_ble_eq_true rfl) (Nat.le_of_ble_eq_true rfl) (fun v G' hp => ?_) (fun _ _ hp => hp.elim)
        obtain ⟨rfl, e9⟩ := hp
        rw [e9]
        clear e9 G'
        refine rb_if_eq C 47 dX8_prices_40 (by decide) (fun h40 => ?_) (fun h40 => ?_)
        · refine rb_iconst C dX8_prices_47 (v := 2) (by decide) ?_
          refine rw_putI C F_X8_110 dX8_prices_48 rfl ⟨rfl, rfl⟩ ?_
          refine rb_aload_n C dX8_prices_51 rfl ?_
          refine rw_getI C FR_X8_110 dX8_prices_52 rfl (x := 2) (up2_s _ _ _ _) ?_
          refine rb_if_ne C 92 dX8_prices_55 (by decide) (fun _ => ?_) (fun h9 => absurd h9 (by decide))
          exact rb_vret C E dX8_prices_92 (Nat.le_of_ble_eq_true rfl) (Nat.le_of_ble_eq_true rfl) (pw_ ((if_neg h5).trans ((if_neg h19).trans ((if_neg h29).trans ((if_pos h40).trans (rfl))))))
        · refine rb_iconst C dX8_prices_43 (v := 0) (by decide) ?_
          refine rb_goto C 48 dX8_prices_44 (by decide) ?_
          refine rw_putI C F_X8_110 dX8_prices_48 rfl ⟨rfl, rfl⟩ ?_
          refine rb_aload_n C dX8_prices_51 rfl ?_
          refine rw_getI C FR_X8_110 dX8_prices_52 rfl (x := 0) (up2_s _ _ _ _) ?_
          refine rb_if_ne C 92 dX8_prices_55 (by decide) (fun h9 => absurd (by decide) h9) (fun _ => ?_)
          have hh := isNetwork_in h5
          refine rb_aload_n C dX8_prices_58 rfl ?_
          refine rw_getP C FR_X8_20 dX8_prices_59 rfl (o := some (14, 5, 0)) (hm.1 5 (by decide)) ?_
          refine rb_iconst C dX8_prices_62 (v := 3) (by decide) ?_
          refine rb_iload_n C dX8_prices_63 rfl ?_
          refine rb_imul C dX8_prices_64 ?_
          refine rb_iconst C dX8_prices_65 (v := 0) (by decide) ?_
          refine rb_iadd C dX8_prices_66 ?_
          refine rb_iload_n C dX8_prices_67 rfl ?_
          refine rw_iast C 18 (3 * ho.toNatClampNeg + 0) dX8_prices_68 rfl (hm.2 5 (by decide)) (ix_lin (N := 18) 3 3 rfl hh (show ¬ ((0 : Int32) < 0 ∨ 1 ≤ (0 : Int32).toNatClampNeg) by decide) (by decide) (by decide) (by decide)).1 ((ix_lin (N := 18) 3 3 rfl hh (show ¬ ((0 : Int32) < 0 ∨ 1 ≤ (0 : Int32).toNatClampNeg) by decide) (by decide) (by decide) (by decide)).2.trans (by rw [(show (ho).toNatClampNeg = ho.toNatClampNeg from rfl), (show (0 : Int32).toNatClampNeg = 0 from rfl)])) ?_
          refine rb_aload_n C dX8_prices_69 rfl ?_
          refine rw_getP C FR_X8_20 dX8_prices_70 rfl (o := some (14, 5, 0)) (hm.1 5 (by decide)) ?_
          refine rb_iconst C dX8_prices_73 (v := 3) (by decide) ?_
          refine rb_iload_n C dX8_prices_74 rfl ?_
          refine rb_imul C dX8_prices_75 ?_
          refine rb_iconst C dX8_prices_76 (v := 1) (by decide) ?_
          refine rb_iadd C dX8_prices_77 ?_
          refine rb_iload_n C dX8_prices_78 rfl ?_
          refine rw_iast C 18 (3 * ho.toNatClampNeg + 1) dX8_prices_79 rfl (hm.2 5 (by decide)) (ix_lin (N := 18) 3 3 rfl hh (show ¬ ((1 : Int32) < 0 ∨ 2 ≤ (1 : Int32).toNatClampNeg) by decide) (by decide) (by decide) (by decide)).1 ((ix_lin (N := 18) 3 3 rfl hh (show ¬ ((1 : Int32) < 0 ∨ 2 ≤ (1 : Int32).toNatClampNeg) by decide) (by decide) (by decide) (by decide)).2.trans (by rw [(show (ho).toNatClampNeg = ho.toNatClampNeg from rfl), (show (1 : Int32).toNatClampNeg = 1 from rfl)])) ?_
          refine rb_aload_n C dX8_prices_80 rfl ?_
          refine rw_getP C FR_X8_20 dX8_prices_81 rfl (o := some (14, 5, 0)) (hm.1 5 (by decide)) ?_
          refine rb_iconst C dX8_prices_84 (v := 3) (by decide) ?_
          refine rb_iload_n C dX8_prices_85 rfl ?_
          refine rb_imul C dX8_prices_86 ?_
          refine rb_iconst C dX8_prices_87 (v := 2) (by decide) ?_
          refine rb_iadd C dX8_prices_88 ?_
          refine rb_iload C dX8_prices_89 rfl ?_
          refine rw_iast C 18 (3 * ho.toNatClampNeg + 2) dX8_prices_91 rfl (hm.2 5 (by decide)) (ix_lin (N := 18) 3 3 rfl hh (show ¬ ((2 : Int32) < 0 ∨ 3 ≤ (2 : Int32).toNatClampNeg) by decide) (by decide) (by decide) (by decide)).1 ((ix_lin (N := 18) 3 3 rfl hh (show ¬ ((2 : Int32) < 0 ∨ 3 ≤ (2 : Int32).toNatClampNeg) by decide) (by decide) (by decide) (by decide)).2.trans (by rw [(show (ho).toNatClampNeg = ho.toNatClampNeg from rfl), (show (2 : Int32).toNatClampNeg = 2 from rfl)])) ?_
          exact rb_vret C E dX8_prices_92 (Nat.le_of_ble_eq_true rfl) (Nat.le_of_ble_eq_true rfl) (pw_ ((if_neg h5).trans ((if_neg h19).trans ((if_neg h29).trans ((if_neg h40).trans (rfl))))))
  · refine rb_iconst C dX8_prices_8 (v := 1) (by decide) ?_
    refine rb_goto C 48 dX8_prices_9 (by decide) ?_
    refine rw_putI C F_X8_110 dX8_prices_48 rfl ⟨rfl, rfl⟩ ?_
    refine rb_aload_n C dX8_prices_51 rfl ?_
    refine rw_getI C FR_X8_110 dX8_prices_52 rfl (x := 1) (up2_s _ _ _ _) ?_
    refine rb_if_ne C 92 dX8_prices_55 (by decide) (fun _ => ?_) (fun h9 => absurd h9 (by decide))
    exact rb_vret C E dX8_prices_92 (Nat.le_of_ble_eq_true rfl) (Nat.le_of_ble_eq_true rfl) (pw_ ((if_pos h5).trans (rfl)))

def m_lose (W : rb_I) (n : Int32) (many : Int32) : Int32 × rb_I := (if (m_isNetwork n) = 0 then (0, (up2 W (16, 0, 0) 0 1)) else (if (m_in many (0 : Int32) (9 : Int32)) = 0 then (0, (up2 W (16, 0, 0) 0 2)) else ((W (14, 6, 0) n.toNatClampNeg), (up2 (up2 W (16, 0, 0) 0 0) (14, 6, 0) n.toNatClampNeg many))))
set_option maxRecDepth 100000 in
set_option maxHeartbeats 4000000 in
theorem k_X8_lose (l : Launch) (X : rb_X) (G : rb_G) (W : rb_I) (n : Int32) (many : Int32) (hm : MS G) (hM : MI W) : rb_N l X yX8_lose (.code yX8_lose cX8_lose 4 (some .int)) 3 54 0 0 [rbR (16, 0, 0), rbI n, rbI many] (wI G W) (fun v9 G9 => v9 = some (rbI (m_lose W n many).1) ∧ G9 = wI G (m_lose W n many).2) := by
  refine rb_startN RX8 rfl (by decide +kernel) rfl (Nat.le_of_ble_eq_true rfl) ?_
  intro Φ C E nm
  show rb_W Φ 0 0 0 [some (rbR (16, 0, 0)), some (rbI n), some (rbI many), none] [] (wI G W)
  refine rb_aload_n C dX8_lose_0 rfl ?_
  refine rb_iload_n C dX8_lose_1 rfl ?_
  refine rb_callS C M_X8_129 (fun l X => (k_X8_isNetwork l X G W n).m) dX8_lose_2 rfl rfl rfl (Nat.le_of_ble_eq_true rfl) ⟨(Nat.le_of_ble_eq_true rfl), (Nat.le_of_ble_eq_true rfl)⟩ (Nat.le_of_ble_eq_true rfl) (Nat.le_of_ble_eq_true rfl) (fun v G' hp => ?_) (fun _ _ hp => hp.elim)
  obtain ⟨rfl, e9⟩ := hp
  rw [e9]
  clear e9 G'
  refine rb_if_ne C 12 dX8_lose_5 (by decide) (fun h5 => ?_) (fun h5 => ?_)
  · refine rb_iload_n C dX8_lose_12 rfl ?_
    refine rb_iconst C dX8_lose_13 (v := 0) (by decide) ?_
    refine rb_bipush C dX8_lose_14 (v := 9) (by decide) ?_
    refine rb_callS C M_X8_114 (fun l X => (k_X8_in l X G W many (0 : Int32) (9 : Int32)).m) dX8_lose_16 rfl rfl rfl (Nat.le_of_ble_eq_true rfl) ⟨(Nat.le_of_ble_eq_true rfl), (Nat.le_of_ble_eq_true rfl)⟩ (Nat.le_of_ble_eq_true rfl) (Nat.le_of_ble_eq_true rfl) (fun v G' hp => ?_) (fun _ _ hp => hp.elim)
    obtain ⟨rfl, e9⟩ := hp
    rw [e9]
    clear e9 G'
    refine rb_if_eq C 26 dX8_lose_19 (by decide) (fun h19 => ?_) (fun h19 => ?_)
    · refine rb_iconst C dX8_lose_26 (v := 2) (by decide) ?_
      refine rw_putI C F_X8_110 dX8_lose_27 rfl ⟨rfl, rfl⟩ ?_
      refine rb_aload_n C dX8_lose_30 rfl ?_
      refine rw_getI C FR_X8_110 dX8_lose_31 rfl (x := 2) (up2_s _ _ _ _) ?_
      refine rb_if_le C 39 dX8_lose_34 (by decide) (fun h9 => absurd h9 (by decide)) (fun _ => ?_)
      refine rb_iconst C dX8_lose_37 (v := 0) (by decide) ?_
      exact rb_iret C E dX8_lose_38 (Nat.le_of_ble_eq_true rfl) (Nat.le_of_ble_eq_true rfl) (pp_ ((if_neg h5).trans ((if_pos h19).trans (rfl))))
    · refine rb_iconst C dX8_lose_22 (v := 0) (by decide) ?_
      refine rb_goto C 27 dX8_lose_23 (by decide) ?_
      refine rw_putI C F_X8_110 dX8_lose_27 rfl ⟨rfl, rfl⟩ ?_
      refine rb_aload_n C dX8_lose_30 rfl ?_
      refine rw_getI C FR_X8_110 dX8_lose_31 rfl (x := 0) (up2_s _ _ _ _) ?_
      refine rb_if_le C 39 dX8_lose_34 (by decide) (fun _ => ?_) (fun h9 => absurd (by decide) h9)
      have hn := isNetwork_in h5
      refine rb_aload_n C dX8_lose_39 rfl ?_
      refine rw_getP C FR_X8_23 dX8_lose_40 rfl (o := some (14, 6, 0)) (hm.1 6 (by decide)) ?_
      refine rb_iload_n C dX8_lose_43 rfl ?_
      refine rw_iald C (x := (W (14, 6, 0) n.toNatClampNeg)) 6 n.toNatClampNeg dX8_lose_44 rfl (hm.2 6 (by decide)) hn rfl ((up2_n _ _ _ _ (fun q => absurd (congrArg Prod.fst q.1) (show ¬ ((14 : Nat) = 16) by decide))).trans (rfl)) ?_
      refine rb_istore_n C dX8_lose_45 (Nat.le_of_ble_eq_true rfl) rfl (Lv' := [_, _, _, _]) rfl ?_
      refine rb_aload_n C dX8_lose_46 rfl ?_
      refine rw_getP C FR_X8_23 dX8_lose_47 rfl (o := some (14, 6, 0)) (hm.1 6 (by decide)) ?_
      refine rb_iload_n C dX8_lose_50 rfl ?_
      refine rb_iload_n C dX8_lose_51 rfl ?_
      refine rw_iast C 6 n.toNatClampNeg dX8_lose_52 rfl (hm.2 6 (by decide)) hn rfl ?_
      refine rb_iload_n C dX8_lose_53 rfl ?_
      exact rb_iret C E dX8_lose_54 (Nat.le_of_ble_eq_true rfl) (Nat.le_of_ble_eq_true rfl) (pp_ ((if_neg h5).trans ((if_neg h19).trans (rfl))))
  · refine rb_iconst C dX8_lose_8 (v := 1) (by decide) ?_
    refine rb_goto C 27 dX8_lose_9 (by decide) ?_
    refine rw_putI C F_X8_110 dX8_lose_27 rfl ⟨rfl, rfl⟩ ?_
    refine rb_aload_n C dX8_lose_30 rfl ?_
    refine rw_getI C FR_X8_110 dX8_lose_31 rfl (x := 1) (up2_s _ _ _ _) ?_
    refine rb_if_le C 39 dX8_lose_34 (by decide) (fun h9 => absurd h9 (by decide)) (fun _ => ?_)
    refine rb_iconst C dX8_lose_37 (v := 0) (by decide) ?_
    exact rb_iret C E dX8_lose_38 (Nat.le_of_ble_eq_true rfl) (Nat.le_of_ble_eq_true rfl) (pp_ ((if_pos h5).trans (rfl)))

def m_crash_b (W : rb_I) (n : Int32) (i : Nat) (s : Int32) : Int32 := (if (W (14, 27, 0) (10 * n.toNatClampNeg + i)) = (-1) then (s + 0) else (s + 1))
def m_crash (W : rb_I) (n : Int32) : Int32 × rb_I := (if (m_isNetwork n) = 0 then (0, (up2 W (16, 0, 0) 0 1)) else ((fo (m_crash_b W n) 10 (0 : Int32)), (m_empties (up2 W (16, 0, 0) 0 0) n)))
set_option maxRecDepth 100000 in
set_option maxHeartbeats 4000000 in
theorem k_X8_crash (l : Launch) (X : rb_X) (G : rb_G) (W : rb_I) (n : Int32) (hm : MS G) (hM : MI W) : rb_N l X yX8_crash (.code yX8_crash cX8_crash 4 (some .int)) 3 54 0 0 [rbR (16, 0, 0), rbI n] (wI G W) (fun v9 G9 => v9 = some (rbI (m_crash W n).1) ∧ G9 = wI G (m_crash W n).2) := by
  refine rb_startN RX8 rfl (by decide +kernel) rfl (Nat.le_of_ble_eq_true rfl) ?_
  intro Φ C E nm
  show rb_W Φ 0 0 0 [some (rbR (16, 0, 0)), some (rbI n), none, none] [] (wI G W)
  refine rb_aload_n C dX8_crash_0 rfl ?_
  refine rb_iload_n C dX8_crash_1 rfl ?_
  refine rb_callS C M_X8_129 (fun l X => (k_X8_isNetwork l X G W n).m) dX8_crash_2 rfl rfl rfl (Nat.le_of_ble_eq_true rfl) ⟨(Nat.le_of_ble_eq_true rfl), (Nat.le_of_ble_eq_true rfl)⟩ (Nat.le_of_ble_eq_true rfl) (Nat.le_of_ble_eq_true rfl) (fun v G' hp => ?_) (fun _ _ hp => hp.elim)
  obtain ⟨rfl, e9⟩ := hp
  rw [e9]
  clear e9 G'
  refine rb_if_eq C 12 dX8_crash_5 (by decide) (fun h5 => ?_) (fun h5 => ?_)
  · refine rb_iconst C dX8_crash_12 (v := 1) (by decide) ?_
    refine rw_putI C F_X8_110 dX8_crash_13 rfl ⟨rfl, rfl⟩ ?_
    refine rb_aload_n C dX8_crash_16 rfl ?_
    refine rw_getI C FR_X8_110 dX8_crash_17 rfl (x := 1) (up2_s _ _ _ _) ?_
    refine rb_if_le C 25 dX8_crash_20 (by decide) (fun h9 => absurd h9 (by decide)) (fun _ => ?_)
    refine rb_iconst C dX8_crash_23 (v := 0) (by decide) ?_
    exact rb_iret C E dX8_crash_24 (Nat.le_of_ble_eq_true rfl) (Nat.le_of_ble_eq_true rfl) (pp_ ((if_pos h5).trans (rfl)))
  · refine rb_iconst C dX8_crash_8 (v := 0) (by decide) ?_
    refine rb_goto C 13 dX8_crash_9 (by decide) ?_
    refine rw_putI C F_X8_110 dX8_crash_13 rfl ⟨rfl, rfl⟩ ?_
    refine rb_aload_n C dX8_crash_16 rfl ?_
    refine rw_getI C FR_X8_110 dX8_crash_17 rfl (x := 0) (up2_s _ _ _ _) ?_
    refine rb_if_le C 25 dX8_crash_20 (by decide) (fun _ => ?_) (fun h9 => absurd (by decide) h9)
    have hn := isNetwork_in h5
    refine rb_iconst C dX8_crash_25 (v := 0) (by decide) ?_
    refine rb_istore_n C dX8_crash_26 (Nat.le_of_ble_eq_true rfl) rfl (Lv' := [_, _, _, _]) rfl ?_
    refine rb_iconst C dX8_crash_27 (v := 0) (by decide) ?_
    refine rb_istore_n C dX8_crash_28 (Nat.le_of_ble_eq_true rfl) rfl (Lv' := [_, _, _, _]) rfl ?_
    have loop : ∀ (d i : Nat) (s : Int32), i + d = 10 → s = fo (m_crash_b W n) i (0 : Int32) → rb_W Φ 0 0 29 [some (rbR (16, 0, 0)), some (rbI n), some (rbI s), some (rbI (nI i))] [] (wI G (up2 W (16, 0, 0) 0 0)) := by
      intro d
      induction d with
      | zero =>
        intro i s hi hs
        obtain rfl : i = 10 := by omega
        subst hs
        refine rb_iload_n C dX8_crash_29 rfl ?_
        refine rb_bipush C dX8_crash_30 (v := 10) (by decide) ?_
        refine rb_icmp_ge C 64 dX8_crash_32 (by decide) (fun _ => ?_) (fun h9 => absurd ((nI_le (a := 10) (b := 10) (Nat.le_refl _) (by decide))) h9)
        refine rb_aload_n C dX8_crash_64 rfl ?_
        refine rb_iload_n C dX8_crash_65 rfl ?_
        refine rb_callV C M_X8_132 (fun l X => (k_X8_empties l X G (up2 W (16, 0, 0) 0 0) n hm hn).m) rfl (Nat.le_of_ble_eq_true rfl) rfl dX8_crash_66 rfl rfl rfl (Nat.le_of_ble_eq_true rfl) ⟨(Nat.le_of_ble_eq_true rfl), (Nat.le_of_ble_eq_true rfl)⟩ (Nat.le_of_ble_eq_true rfl) (Nat.le_of_ble_eq_true rfl) (fun v G' hp => ?_) (fun _ _ hp => hp.elim)
        obtain ⟨rfl, e9⟩ := hp
        rw [e9]
        clear e9 G'
        refine rb_iload_n C dX8_crash_69 rfl ?_
        exact rb_iret C E dX8_crash_70 (Nat.le_of_ble_eq_true rfl) (Nat.le_of_ble_eq_true rfl) (pp_ ((if_neg h5).trans (rfl)))
      | succ d ih =>
        intro i s hi hs
        have hi9 : i < 10 := by omega
        refine rb_iload_n C dX8_crash_29 rfl ?_
        refine rb_bipush C dX8_crash_30 (v := 10) (by decide) ?_
        refine rb_icmp_ge C 64 dX8_crash_32 (by decide) (fun h9 => absurd h9 ((nI_ge (a := i) (b := 10) hi9 (by decide)))) (fun _ => ?_)
        refine rb_iload_n C dX8_crash_35 rfl ?_
        refine rb_aload_n C dX8_crash_36 rfl ?_
        refine rw_getP C FR_X8_80 dX8_crash_37 rfl (o := some (14, 27, 0)) (hm.1 27 (by decide)) ?_
        refine rb_bipush C dX8_crash_40 (v := 10) (by decide) ?_
        refine rb_iload_n C dX8_crash_42 rfl ?_
        refine rb_imul C dX8_crash_43 ?_
        refine rb_iload_n C dX8_crash_44 rfl ?_
        refine rb_iadd C dX8_crash_45 ?_
        refine rw_iald C (x := (W (14, 27, 0) (10 * n.toNatClampNeg + i))) 60 (10 * n.toNatClampNeg + i) dX8_crash_46 rfl (hm.2 27 (by decide)) (ix_lin (N := 60) 10 10 rfl hn (vp_in_nI (show i < 10 by omega) (by decide)) (by decide) (by decide) (by decide)).1 ((ix_lin (N := 60) 10 10 rfl hn (vp_in_nI (show i < 10 by omega) (by decide)) (by decide) (by decide) (by decide)).2.trans (by rw [(show (n).toNatClampNeg = n.toNatClampNeg from rfl), (nI_clamp (show i < 2 ^ 31 by omega))])) ((up2_n _ _ _ _ (fun q => absurd (congrArg Prod.fst q.1) (show ¬ ((14 : Nat) = 16) by decide))).trans (rfl)) ?_
        refine rb_iconst C dX8_crash_47 (v := (-1)) (by decide) ?_
        refine rb_icmp_ne C 55 dX8_crash_48 (by decide) (fun h48 => ?_) (fun h48 => ?_)
        · refine rb_iconst C dX8_crash_55 (v := 1) (by decide) ?_
          refine rb_iadd C dX8_crash_56 ?_
          refine rb_istore_n C dX8_crash_57 (Nat.le_of_ble_eq_true rfl) rfl (Lv' := [_, _, _, _]) rfl ?_
          refine rb_iinc C dX8_crash_58 rfl (v := _ + 1) rfl rfl (Lv' := [_, _, _, _]) rfl ?_
          refine rb_goto C 29 dX8_crash_61 (by decide) ?_
          rw [nI_1 i]
          exact ih (i + 1) (s + 1) (by omega) (by rw [fo_s, ← hs]; exact Eq.symm ((if_neg h48).trans (rfl)))
        · refine rb_iconst C dX8_crash_51 (v := 0) (by decide) ?_
          refine rb_goto C 56 dX8_crash_52 (by decide) ?_
          refine rb_iadd C dX8_crash_56 ?_
          refine rb_istore_n C dX8_crash_57 (Nat.le_of_ble_eq_true rfl) rfl (Lv' := [_, _, _, _]) rfl ?_
          refine rb_iinc C dX8_crash_58 rfl (v := _ + 1) rfl rfl (Lv' := [_, _, _, _]) rfl ?_
          refine rb_goto C 29 dX8_crash_61 (by decide) ?_
          rw [nI_1 i]
          exact ih (i + 1) (s + 0) (by omega) (by rw [fo_s, ← hs]; exact Eq.symm ((if_pos h48).trans (rfl)))
    exact loop 10 0 (0 : Int32) (Nat.zero_add _) (fo_0 _ _).symm

def m_subscriber (W : rb_I) (ho : Int32) (pl : Int32) (fo0 : Int32) : Int32 × rb_I := (if (m_isNetwork ho) = 0 then (0, (up2 W (16, 0, 0) 0 1)) else (if (m_isPlace pl) = 0 then (0, (up2 W (16, 0, 0) 0 1)) else (if (m_in fo0 (0 : Int32) (63 : Int32)) = 0 then (0, (up2 W (16, 0, 0) 0 2)) else (if (W (16, 0, 0) 15) = 10 then (0, (up2 W (16, 0, 0) 0 3)) else ((((W (16, 0, 0) 15) + 1) - 1), (up2 (up2 (up2 (up2 (up2 (up2 (up2 (up2 W (16, 0, 0) 0 0) (14, 16, 0) (W (16, 0, 0) 15).toNatClampNeg ho) (14, 17, 0) (W (16, 0, 0) 15).toNatClampNeg pl) (14, 18, 0) (W (16, 0, 0) 15).toNatClampNeg fo0) (14, 19, 0) (W (16, 0, 0) 15).toNatClampNeg (-1)) (14, 21, 0) (W (16, 0, 0) 15).toNatClampNeg (-1)) (14, 22, 0) (W (16, 0, 0) 15).toNatClampNeg 5000) (16, 0, 0) 15 ((W (16, 0, 0) 15) + 1)))))))
set_option maxRecDepth 100000 in
set_option maxHeartbeats 4000000 in
theorem k_X8_subscriber (l : Launch) (X : rb_X) (G : rb_G) (W : rb_I) (ho : Int32) (pl : Int32) (fo0 : Int32) (hm : MS G) (hM : MI W) : rb_N l X yX8_subscriber (.code yX8_subscriber cX8_subscriber 4 (some .int)) 3 54 0 0 [rbR (16, 0, 0), rbI ho, rbI pl, rbI fo0] (wI G W) (fun v9 G9 => v9 = some (rbI (m_subscriber W ho pl fo0).1) ∧ G9 = wI G (m_subscriber W ho pl fo0).2) := by
  refine rb_startN RX8 rfl (by decide +kernel) rfl (Nat.le_of_ble_eq_true rfl) ?_
  intro Φ C E nm
  show rb_W Φ 0 0 0 [some (rbR (16, 0, 0)), some (rbI ho), some (rbI pl), some (rbI fo0)] [] (wI G W)
  refine rb_aload_n C dX8_subscriber_0 rfl ?_
  refine rb_iload_n C dX8_subscriber_1 rfl ?_
  refine rb_callS C M_X8_129 (fun l X => (k_X8_isNetwork l X G W ho).m) dX8_subscriber_2 rfl rfl rfl (Nat.le_of_ble_eq_true rfl) ⟨(Nat.le_of_ble_eq_true rfl), (Nat.le_of_ble_eq_true rfl)⟩ (Nat.le_of_ble_eq_true rfl) (Nat.le_of_ble_eq_true rfl) (fun v G' hp => ?_) (fun _ _ hp => hp.elim)
  obtain ⟨rfl, e9⟩ := hp
  rw [e9]
  clear e9 G'
  refine rb_if_eq C 15 dX8_subscriber_5 (by decide) (fun h5 => ?_) (fun h5 => ?_)
  · refine rb_iconst C dX8_subscriber_15 (v := 1) (by decide) ?_
    refine rb_goto C 47 dX8_subscriber_16 (by decide) ?_
    refine rw_putI C F_X8_110 dX8_subscriber_47 rfl ⟨rfl, rfl⟩ ?_
    refine rb_aload_n C dX8_subscriber_50 rfl ?_
    refine rw_getI C FR_X8_110 dX8_subscriber_51 rfl (x := 1) (up2_s _ _ _ _) ?_
    refine rb_if_le C 59 dX8_subscriber_54 (by decide) (fun h9 => absurd h9 (by decide)) (fun _ => ?_)
    refine rb_iconst C dX8_subscriber_57 (v := 0) (by decide) ?_
    exact rb_iret C E dX8_subscriber_58 (Nat.le_of_ble_eq_true rfl) (Nat.le_of_ble_eq_true rfl) (pp_ ((if_pos h5).trans (rfl)))
  · refine rb_iload_n C dX8_subscriber_8 rfl ?_
    refine rb_callS C M_X8_121 (fun l X => (k_X8_isPlace l X G W pl).m) dX8_subscriber_9 rfl rfl rfl (Nat.le_of_ble_eq_true rfl) ⟨(Nat.le_of_ble_eq_true rfl), (Nat.le_of_ble_eq_true rfl)⟩ (Nat.le_of_ble_eq_true rfl) (Nat.le_of_ble_eq_true rfl) (fun v G' hp => ?_) (fun _ _ hp => hp.elim)
    obtain ⟨rfl, e9⟩ := hp
    rw [e9]
    clear e9 G'
    refine rb_if_ne C 19 dX8_subscriber_12 (by decide) (fun h12 => ?_) (fun h12 => ?_)
    · refine rb_iload_n C dX8_subscriber_19 rfl ?_
      refine rb_iconst C dX8_subscriber_20 (v := 0) (by decide) ?_
      refine rb_bipush C dX8_subscriber_21 (v := 63) (by decide) ?_
      refine rb_callS C M_X8_114 (fun l X => (k_X8_in l X G W fo0 (0 : Int32) (63 : Int32)).m) dX8_subscriber_23 rfl rfl rfl (Nat.le_of_ble_eq_true rfl) ⟨(Nat.le_of_ble_eq_true rfl), (Nat.le_of_ble_eq_true rfl)⟩ (Nat.le_of_ble_eq_true rfl) (Nat.le_of_ble_eq_true rfl) (fun v G' hp => ?_) (fun _ _ hp => hp.elim)
      obtain ⟨rfl, e9⟩ := hp
      rw [e9]
      clear e9 G'
      refine rb_if_ne C 33 dX8_subscriber_26 (by decide) (fun h26 => ?_) (fun h26 => ?_)
      · refine rb_aload_n C dX8_subscriber_33 rfl ?_
        refine rw_getI C FR_X8_118 dX8_subscriber_34 rfl (x := (W (16, 0, 0) 15)) (rfl) ?_
        refine rb_bipush C dX8_subscriber_37 (v := 10) (by decide) ?_
        refine rb_icmp_ne C 46 dX8_subscriber_39 (by decide) (fun h39 => ?_) (fun h39 => ?_)
        · refine rb_iconst C dX8_subscriber_46 (v := 0) (by decide) ?_
          refine rw_putI C F_X8_110 dX8_subscriber_47 rfl ⟨rfl, rfl⟩ ?_
          refine rb_aload_n C dX8_subscriber_50 rfl ?_
          refine rw_getI C FR_X8_110 dX8_subscriber_51 rfl (x := 0) (up2_s _ _ _ _) ?_
          refine rb_if_le C 59 dX8_subscriber_54 (by decide) (fun _ => ?_) (fun h9 => absurd (by decide) h9)
          refine rb_aload_n C dX8_subscriber_59 rfl ?_
          refine rw_getP C FR_X8_47 dX8_subscriber_60 rfl (o := some (14, 16, 0)) (hm.1 16 (by decide)) ?_
          refine rb_aload_n C dX8_subscriber_63 rfl ?_
          refine rw_getI C FR_X8_118 dX8_subscriber_64 rfl (x := (W (16, 0, 0) 15)) ((up2_n _ _ _ _ (fun q => absurd q.2 (show ¬ ((15 : Nat) = 0) by decide))).trans (rfl)) ?_
          refine rb_iload_n C dX8_subscriber_67 rfl ?_
          refine rw_iast C 10 (W (16, 0, 0) 15).toNatClampNeg dX8_subscriber_68 rfl (hm.2 16 (by decide)) (cnt_lt 10 hM.2.2.2.2.2.2.2.1 rfl h39 (by decide)) rfl ?_
          refine rb_aload_n C dX8_subscriber_69 rfl ?_
          refine rw_getP C FR_X8_50 dX8_subscriber_70 rfl (o := some (14, 17, 0)) (hm.1 17 (by decide)) ?_
          refine rb_aload_n C dX8_subscriber_73 rfl ?_
          refine rw_getI C FR_X8_118 dX8_subscriber_74 rfl (x := (W (16, 0, 0) 15)) ((up2_n _ _ _ _ (fun q => absurd (congrArg Prod.fst q.1) (show ¬ ((16 : Nat) = 14) by decide))).trans ((up2_n _ _ _ _ (fun q => absurd q.2 (show ¬ ((15 : Nat) = 0) by decide))).trans (rfl))) ?_
          refine rb_iload_n C dX8_subscriber_77 rfl ?_
          refine rw_iast C 10 (W (16, 0, 0) 15).toNatClampNeg dX8_subscriber_78 rfl (hm.2 17 (by decide)) (cnt_lt 10 hM.2.2.2.2.2.2.2.1 rfl h39 (by decide)) rfl ?_
          refine rb_aload_n C dX8_subscriber_79 rfl ?_
          refine rw_getP C FR_X8_53 dX8_subscriber_80 rfl (o := some (14, 18, 0)) (hm.1 18 (by decide)) ?_
          refine rb_aload_n C dX8_subscriber_83 rfl ?_
          refine rw_getI C FR_X8_118 dX8_subscriber_84 rfl (x := (W (16, 0, 0) 15)) ((up2_n _ _ _ _ (fun q => absurd (congrArg Prod.fst q.1) (show ¬ ((16 : Nat) = 14) by decide))).trans ((up2_n _ _ _ _ (fun q => absurd (congrArg Prod.fst q.1) (show ¬ ((16 : Nat) = 14) by decide))).trans ((up2_n _ _ _ _ (fun q => absurd q.2 (show ¬ ((15 : Nat) = 0) by decide))).trans (rfl)))) ?_
          refine rb_iload_n C dX8_subscriber_87 rfl ?_
          refine rw_iast C 10 (W (16, 0, 0) 15).toNatClampNeg dX8_subscriber_88 rfl (hm.2 18 (by decide)) (cnt_lt 10 hM.2.2.2.2.2.2.2.1 rfl h39 (by decide)) rfl ?_
          refine rb_aload_n C dX8_subscriber_89 rfl ?_
          refine rw_getP C FR_X8_56 dX8_subscriber_90 rfl (o := some (14, 19, 0)) (hm.1 19 (by decide)) ?_
          refine rb_aload_n C dX8_subscriber_93 rfl ?_
          refine rw_getI C FR_X8_118 dX8_subscriber_94 rfl (x := (W (16, 0, 0) 15)) ((up2_n _ _ _ _ (fun q => absurd (congrArg Prod.fst q.1) (show ¬ ((16 : Nat) = 14) by decide))).trans ((up2_n _ _ _ _ (fun q => absurd (congrArg Prod.fst q.1) (show ¬ ((16 : Nat) = 14) by decide))).trans ((up2_n _ _ _ _ (fun q => absurd (congrArg Prod.fst q.1) (show ¬ ((16 : Nat) = 14) by decide))).trans ((up2_n _ _ _ _ (fun q => absurd q.2 (show ¬ ((15 : Nat) = 0) by decide))).trans (rfl))))) ?_
          refine rb_iconst C dX8_subscriber_97 (v := (-1)) (by decide) ?_
          refine rw_iast C 10 (W (16, 0, 0) 15).toNatClampNeg dX8_subscriber_98 rfl (hm.2 19 (by decide)) (cnt_lt 10 hM.2.2.2.2.2.2.2.1 rfl h39 (by decide)) rfl ?_
          refine rb_aload_n C dX8_subscriber_99 rfl ?_
          refine rw_getP C FR_X8_62 dX8_subscriber_100 rfl (o := some (14, 21, 0)) (hm.1 21 (by decide)) ?_
          refine rb_aload_n C dX8_subscriber_103 rfl ?_
          refine rw_getI C FR_X8_118 dX8_subscriber_104 rfl (x := (W (16, 0, 0) 15)) ((up2_n _ _ _ _ (fun q => absurd (congrArg Prod.fst q.1) (show ¬ ((16 : Nat) = 14) by decide))).trans ((up2_n _ _ _ _ (fun q => absurd (congrArg Prod.fst q.1) (show ¬ ((16 : Nat) = 14) by decide))).trans ((up2_n _ _ _ _ (fun q => absurd (congrArg Prod.fst q.1) (show ¬ ((16 : Nat) = 14) by decide))).trans ((up2_n _ _ _ _ (fun q => absurd (congrArg Prod.fst q.1) (show ¬ ((16 : Nat) = 14) by decide))).trans ((up2_n _ _ _ _ (fun q => absurd q.2 (show ¬ ((15 : Nat) = 0) by decide))).trans (rfl)))))) ?_
          refine rb_iconst C dX8_subscriber_107 (v := (-1)) (by decide) ?_
          refine rw_iast C 10 (W (16, 0, 0) 15).toNatClampNeg dX8_subscriber_108 rfl (hm.2 21 (by decide)) (cnt_lt 10 hM.2.2.2.2.2.2.2.1 rfl h39 (by decide)) rfl ?_
          refine rb_aload_n C dX8_subscriber_109 rfl ?_
          refine rw_getP C FR_X8_65 dX8_subscriber_110 rfl (o := some (14, 22, 0)) (hm.1 22 (by decide)) ?_
          refine rb_aload_n C dX8_subscriber_113 rfl ?_
          refine rw_getI C FR_X8_118 dX8_subscriber_114 rfl (x := (W (16, 0, 0) 15)) ((up2_n _ _ _ _ (fun q => absurd (congrArg Prod.fst q.1) (show ¬ ((16 : Nat) = 14) by decide))).trans ((up2_n _ _ _ _ (fun q => absurd (congrArg Prod.fst q.1) (show ¬ ((16 : Nat) = 14) by decide))).trans ((up2_n _ _ _ _ (fun q => absurd (congrArg Prod.fst q.1) (show ¬ ((16 : Nat) = 14) by decide))).trans ((up2_n _ _ _ _ (fun q => absurd (congrArg Prod.fst q.1) (show ¬ ((16 : Nat) = 14) by decide))).trans ((up2_n _ _ _ _ (fun q => absurd (congrArg Prod.fst q.1) (show ¬ ((16 : Nat) = 14) by decide))).trans ((up2_n _ _ _ _ (fun q => absurd q.2 (show ¬ ((15 : Nat) = 0) by decide))).trans (rfl))))))) ?_
          refine rb_sipush C dX8_subscriber_117 (v := 5000) (by decide) ?_
          refine rw_iast C 10 (W (16, 0, 0) 15).toNatClampNeg dX8_subscriber_120 rfl (hm.2 22 (by decide)) (cnt_lt 10 hM.2.2.2.2.2.2.2.1 rfl h39 (by decide)) rfl ?_
          refine rb_aload_n C dX8_subscriber_121 rfl ?_
          refine rb_dup C dX8_subscriber_122 rfl ?_
          refine rw_getI C FR_X8_118 dX8_subscriber_123 rfl (x := (W (16, 0, 0) 15)) ((up2_n _ _ _ _ (fun q => absurd (congrArg Prod.fst q.1) (show ¬ ((16 : Nat) = 14) by decide))).trans ((up2_n _ _ _ _ (fun q => absurd (congrArg Prod.fst q.1) (show ¬ ((16 : Nat) = 14) by decide))).trans ((up2_n _ _ _ _ (fun q => absurd (congrArg Prod.fst q.1) (show ¬ ((16 : Nat) = 14) by decide))).trans ((up2_n _ _ _ _ (fun q => absurd (congrArg Prod.fst q.1) (show ¬ ((16 : Nat) = 14) by decide))).trans ((up2_n _ _ _ _ (fun q => absurd (congrArg Prod.fst q.1) (show ¬ ((16 : Nat) = 14) by decide))).trans ((up2_n _ _ _ _ (fun q => absurd (congrArg Prod.fst q.1) (show ¬ ((16 : Nat) = 14) by decide))).trans ((up2_n _ _ _ _ (fun q => absurd q.2 (show ¬ ((15 : Nat) = 0) by decide))).trans (rfl)))))))) ?_
          refine rb_iconst C dX8_subscriber_126 (v := 1) (by decide) ?_
          refine rb_iadd C dX8_subscriber_127 ?_
          refine rw_putI C F_X8_118 dX8_subscriber_128 rfl ⟨rfl, rfl⟩ ?_
          refine rb_aload_n C dX8_subscriber_131 rfl ?_
          refine rw_getI C FR_X8_118 dX8_subscriber_132 rfl (x := ((W (16, 0, 0) 15) + 1)) (up2_s _ _ _ _) ?_
          refine rb_iconst C dX8_subscriber_135 (v := 1) (by decide) ?_
          refine rb_isub C dX8_subscriber_136 ?_
          exact rb_iret C E dX8_subscriber_137 (Nat.le_of_ble_eq_true rfl) (Nat.le_of_ble_eq_true rfl) (pp_ ((if_neg h5).trans ((if_neg h12).trans ((if_neg h26).trans ((if_neg h39).trans (rfl))))))
        · refine rb_iconst C dX8_subscriber_42 (v := 3) (by decide) ?_
          refine rb_goto C 47 dX8_subscriber_43 (by decide) ?_
          refine rw_putI C F_X8_110 dX8_subscriber_47 rfl ⟨rfl, rfl⟩ ?_
          refine rb_aload_n C dX8_subscriber_50 rfl ?_
          refine rw_getI C FR_X8_110 dX8_subscriber_51 rfl (x := 3) (up2_s _ _ _ _) ?_
          refine rb_if_le C 59 dX8_subscriber_54 (by decide) (fun h9 => absurd h9 (by decide)) (fun _ => ?_)
          refine rb_iconst C dX8_subscriber_57 (v := 0) (by decide) ?_
          exact rb_iret C E dX8_subscriber_58 (Nat.le_of_ble_eq_true rfl) (Nat.le_of_ble_eq_true rfl) (pp_ ((if_neg h5).trans ((if_neg h12).trans ((if_neg h26).trans ((if_pos h39).trans (rfl))))))
      · refine rb_iconst C dX8_subscriber_29 (v := 2) (by decide) ?_
        refine rb_goto C 47 dX8_subscriber_30 (by decide) ?_
        refine rw_putI C F_X8_110 dX8_subscriber_47 rfl ⟨rfl, rfl⟩ ?_
        refine rb_aload_n C dX8_subscriber_50 rfl ?_
        refine rw_getI C FR_X8_110 dX8_subscriber_51 rfl (x := 2) (up2_s _ _ _ _) ?_
        refine rb_if_le C 59 dX8_subscriber_54 (by decide) (fun h9 => absurd h9 (by decide)) (fun _ => ?_)
        refine rb_iconst C dX8_subscriber_57 (v := 0) (by decide) ?_
        exact rb_iret C E dX8_subscriber_58 (Nat.le_of_ble_eq_true rfl) (Nat.le_of_ble_eq_true rfl) (pp_ ((if_neg h5).trans ((if_neg h12).trans ((if_pos h26).trans (rfl)))))
    · refine rb_iconst C dX8_subscriber_15 (v := 1) (by decide) ?_
      refine rb_goto C 47 dX8_subscriber_16 (by decide) ?_
      refine rw_putI C F_X8_110 dX8_subscriber_47 rfl ⟨rfl, rfl⟩ ?_
      refine rb_aload_n C dX8_subscriber_50 rfl ?_
      refine rw_getI C FR_X8_110 dX8_subscriber_51 rfl (x := 1) (up2_s _ _ _ _) ?_
      refine rb_if_le C 59 dX8_subscriber_54 (by decide) (fun h9 => absurd h9 (by decide)) (fun _ => ?_)
      refine rb_iconst C dX8_subscriber_57 (v := 0) (by decide) ?_
      exact rb_iret C E dX8_subscriber_58 (Nat.le_of_ble_eq_true rfl) (Nat.le_of_ble_eq_true rfl) (pp_ ((if_neg h5).trans ((if_pos h12).trans (rfl))))

def m_move (W : rb_I) (s : Int32) (p : Int32) : Int32 × rb_I := (if (m_isSubscriber W s) = 0 then (0, (up2 W (16, 0, 0) 0 1)) else (if (m_isPlace p) = 0 then (0, (up2 W (16, 0, 0) 0 1)) else (if (W (14, 19, 0) s.toNatClampNeg) = (-1) then ((W (14, 19, 0) s.toNatClampNeg), (up2 (up2 (up2 W (16, 0, 0) 0 0) (14, 17, 0) s.toNatClampNeg p) (14, 20, 0) s.toNatClampNeg 0)) else (if (m_isIn (W (14, 2, 0) p.toNatClampNeg) (W (14, 19, 0) s.toNatClampNeg)) = 0 then ((-1), (up2 (up2 (up2 (up2 W (16, 0, 0) 0 0) (14, 17, 0) s.toNatClampNeg p) (14, 20, 0) s.toNatClampNeg 0) (14, 19, 0) s.toNatClampNeg (-1))) else ((W (14, 19, 0) s.toNatClampNeg), (up2 (up2 (up2 W (16, 0, 0) 0 0) (14, 17, 0) s.toNatClampNeg p) (14, 20, 0) s.toNatClampNeg 0))))))
set_option maxRecDepth 100000 in
set_option maxHeartbeats 4000000 in
theorem k_X8_move (l : Launch) (X : rb_X) (G : rb_G) (W : rb_I) (s : Int32) (p : Int32) (hm : MS G) (hM : MI W) : rb_N l X yX8_move (.code yX8_move cX8_move 3 (some .int)) 3 55 0 0 [rbR (16, 0, 0), rbI s, rbI p] (wI G W) (fun v9 G9 => v9 = some (rbI (m_move W s p).1) ∧ G9 = wI G (m_move W s p).2) := by
  refine rb_startN RX8 rfl (by decide +kernel) rfl (Nat.le_of_ble_eq_true rfl) ?_
  intro Φ C E nm
  show rb_W Φ 0 0 0 [some (rbR (16, 0, 0)), some (rbI s), some (rbI p)] [] (wI G W)
  refine rb_aload_n C dX8_move_0 rfl ?_
  refine rb_aload_n C dX8_move_1 rfl ?_
  refine rb_iload_n C dX8_move_2 rfl ?_
  refine rb_callV C M_X8_144 (fun l X => (k_X8_isSubscriber l X G W s).m) rfl (Nat.le_of_ble_eq_true rfl) rfl dX8_move_3 rfl rfl rfl (Nat.le_of_ble_eq_true rfl) ⟨(Nat.le_of_ble_eq_true rfl), (Nat.le_of_ble_eq_true rfl)⟩ (Nat.le_of_ble_eq_true rfl) (Nat.le_of_ble_eq_true rfl) (fun v G' hp => ?_) (fun _ _ hp => hp.elim)
  obtain ⟨rfl, e9⟩ := hp
  rw [e9]
  clear e9 G'
  refine rb_if_eq C 20 dX8_move_6 (by decide) (fun h6 => ?_) (fun h6 => ?_)
  · refine rb_iconst C dX8_move_20 (v := 1) (by decide) ?_
    refine rw_putI C F_X8_110 dX8_move_21 rfl ⟨rfl, rfl⟩ ?_
    refine rb_aload_n C dX8_move_24 rfl ?_
    refine rw_getI C FR_X8_110 dX8_move_25 rfl (x := 1) (up2_s _ _ _ _) ?_
    refine rb_if_le C 33 dX8_move_28 (by decide) (fun h9 => absurd h9 (by decide)) (fun _ => ?_)
    refine rb_iconst C dX8_move_31 (v := 0) (by decide) ?_
    exact rb_iret C E dX8_move_32 (Nat.le_of_ble_eq_true rfl) (Nat.le_of_ble_eq_true rfl) (pp_ ((if_pos h6).trans (rfl)))
  · refine rb_iload_n C dX8_move_9 rfl ?_
    refine rb_callS C M_X8_121 (fun l X => (k_X8_isPlace l X G W p).m) dX8_move_10 rfl rfl rfl (Nat.le_of_ble_eq_true rfl) ⟨(Nat.le_of_ble_eq_true rfl), (Nat.le_of_ble_eq_true rfl)⟩ (Nat.le_of_ble_eq_true rfl) (Nat.le_of_ble_eq_true rfl) (fun v G' hp => ?_) (fun _ _ hp => hp.elim)
    obtain ⟨rfl, e9⟩ := hp
    rw [e9]
    clear e9 G'
    refine rb_if_eq C 20 dX8_move_13 (by decide) (fun h13 => ?_) (fun h13 => ?_)
    · refine rb_iconst C dX8_move_20 (v := 1) (by decide) ?_
      refine rw_putI C F_X8_110 dX8_move_21 rfl ⟨rfl, rfl⟩ ?_
      refine rb_aload_n C dX8_move_24 rfl ?_
      refine rw_getI C FR_X8_110 dX8_move_25 rfl (x := 1) (up2_s _ _ _ _) ?_
      refine rb_if_le C 33 dX8_move_28 (by decide) (fun h9 => absurd h9 (by decide)) (fun _ => ?_)
      refine rb_iconst C dX8_move_31 (v := 0) (by decide) ?_
      exact rb_iret C E dX8_move_32 (Nat.le_of_ble_eq_true rfl) (Nat.le_of_ble_eq_true rfl) (pp_ ((if_neg h6).trans ((if_pos h13).trans (rfl))))
    · refine rb_iconst C dX8_move_16 (v := 0) (by decide) ?_
      refine rb_goto C 21 dX8_move_17 (by decide) ?_
      refine rw_putI C F_X8_110 dX8_move_21 rfl ⟨rfl, rfl⟩ ?_
      refine rb_aload_n C dX8_move_24 rfl ?_
      refine rw_getI C FR_X8_110 dX8_move_25 rfl (x := 0) (up2_s _ _ _ _) ?_
      refine rb_if_le C 33 dX8_move_28 (by decide) (fun _ => ?_) (fun h9 => absurd (by decide) h9)
      have hs := isSub_in hM h6
      have hp := isPlace_in h13
      refine rb_aload_n C dX8_move_33 rfl ?_
      refine rw_getP C FR_X8_50 dX8_move_34 rfl (o := some (14, 17, 0)) (hm.1 17 (by decide)) ?_
      refine rb_iload_n C dX8_move_37 rfl ?_
      refine rb_iload_n C dX8_move_38 rfl ?_
      refine rw_iast C 10 s.toNatClampNeg dX8_move_39 rfl (hm.2 17 (by decide)) hs rfl ?_
      refine rb_aload_n C dX8_move_40 rfl ?_
      refine rw_getP C FR_X8_59 dX8_move_41 rfl (o := some (14, 20, 0)) (hm.1 20 (by decide)) ?_
      refine rb_iload_n C dX8_move_44 rfl ?_
      refine rb_iconst C dX8_move_45 (v := 0) (by decide) ?_
      refine rw_iast C 10 s.toNatClampNeg dX8_move_46 rfl (hm.2 20 (by decide)) hs rfl ?_
      refine rb_aload_n C dX8_move_47 rfl ?_
      refine rw_getP C FR_X8_56 dX8_move_48 rfl (o := some (14, 19, 0)) (hm.1 19 (by decide)) ?_
      refine rb_iload_n C dX8_move_51 rfl ?_
      refine rw_iald C (x := (W (14, 19, 0) s.toNatClampNeg)) 10 s.toNatClampNeg dX8_move_52 rfl (hm.2 19 (by decide)) hs rfl ((up2_n _ _ _ _ (fun q => absurd (congrArg (fun r : rb_R => r.2.1) q.1) (show ¬ ((19 : Nat) = 20) by decide))).trans ((up2_n _ _ _ _ (fun q => absurd (congrArg (fun r : rb_R => r.2.1) q.1) (show ¬ ((19 : Nat) = 17) by decide))).trans ((up2_n _ _ _ _ (fun q => absurd (congrArg Prod.fst q.1) (show ¬ ((14 : Nat) = 16) by decide))).trans (rfl)))) ?_
      refine rb_iconst C dX8_move_53 (v := (-1)) (by decide) ?_
      refine rb_icmp_eq C 82 dX8_move_54 (by decide) (fun h54 => ?_) (fun h54 => ?_)
      · refine rb_aload_n C dX8_move_82 rfl ?_
        refine rw_getP C FR_X8_56 dX8_move_83 rfl (o := some (14, 19, 0)) (hm.1 19 (by decide)) ?_
        refine rb_iload_n C dX8_move_86 rfl ?_
        refine rw_iald C (x := (W (14, 19, 0) s.toNatClampNeg)) 10 s.toNatClampNeg dX8_move_87 rfl (hm.2 19 (by decide)) hs rfl ((up2_n _ _ _ _ (fun q => absurd (congrArg (fun r : rb_R => r.2.1) q.1) (show ¬ ((19 : Nat) = 20) by decide))).trans ((up2_n _ _ _ _ (fun q => absurd (congrArg (fun r : rb_R => r.2.1) q.1) (show ¬ ((19 : Nat) = 17) by decide))).trans ((up2_n _ _ _ _ (fun q => absurd (congrArg Prod.fst q.1) (show ¬ ((14 : Nat) = 16) by decide))).trans (rfl)))) ?_
        exact rb_iret C E dX8_move_88 (Nat.le_of_ble_eq_true rfl) (Nat.le_of_ble_eq_true rfl) (pp_ ((if_neg h6).trans ((if_neg h13).trans ((if_pos h54).trans (rfl)))))
      · refine rb_aload_n C dX8_move_57 rfl ?_
        refine rw_getP C FR_X8_7 dX8_move_58 rfl (o := some (14, 2, 0)) (hm.1 2 (by decide)) ?_
        refine rb_iload_n C dX8_move_61 rfl ?_
        refine rw_iald C (x := (W (14, 2, 0) p.toNatClampNeg)) 8 p.toNatClampNeg dX8_move_62 rfl (hm.2 2 (by decide)) hp rfl ((up2_n _ _ _ _ (fun q => absurd (congrArg (fun r : rb_R => r.2.1) q.1) (show ¬ ((2 : Nat) = 20) by decide))).trans ((up2_n _ _ _ _ (fun q => absurd (congrArg (fun r : rb_R => r.2.1) q.1) (show ¬ ((2 : Nat) = 17) by decide))).trans ((up2_n _ _ _ _ (fun q => absurd (congrArg Prod.fst q.1) (show ¬ ((14 : Nat) = 16) by decide))).trans (rfl)))) ?_
        refine rb_aload_n C dX8_move_63 rfl ?_
        refine rw_getP C FR_X8_56 dX8_move_64 rfl (o := some (14, 19, 0)) (hm.1 19 (by decide)) ?_
        refine rb_iload_n C dX8_move_67 rfl ?_
        refine rw_iald C (x := (W (14, 19, 0) s.toNatClampNeg)) 10 s.toNatClampNeg dX8_move_68 rfl (hm.2 19 (by decide)) hs rfl ((up2_n _ _ _ _ (fun q => absurd (congrArg (fun r : rb_R => r.2.1) q.1) (show ¬ ((19 : Nat) = 20) by decide))).trans ((up2_n _ _ _ _ (fun q => absurd (congrArg (fun r : rb_R => r.2.1) q.1) (show ¬ ((19 : Nat) = 17) by decide))).trans ((up2_n _ _ _ _ (fun q => absurd (congrArg Prod.fst q.1) (show ¬ ((14 : Nat) = 16) by decide))).trans (rfl)))) ?_
        refine rb_callS C M_X8_125 (fun l X => (k_X8_isIn l X G (up2 (up2 (up2 W (16, 0, 0) 0 0) (14, 17, 0) s.toNatClampNeg p) (14, 20, 0) s.toNatClampNeg 0) (W (14, 2, 0) p.toNatClampNeg) (W (14, 19, 0) s.toNatClampNeg)).m) dX8_move_69 rfl rfl rfl (Nat.le_of_ble_eq_true rfl) ⟨(Nat.le_of_ble_eq_true rfl), (Nat.le_of_ble_eq_true rfl)⟩ (Nat.le_of_ble_eq_true rfl) (Nat.le_of_ble_eq_true rfl) (fun v G' hp => ?_) (fun _ _ hp => hp.elim)
        obtain ⟨rfl, e9⟩ := hp
        rw [e9]
        clear e9 G'
        refine rb_if_ne C 82 dX8_move_72 (by decide) (fun h72 => ?_) (fun h72 => ?_)
        · refine rb_aload_n C dX8_move_82 rfl ?_
          refine rw_getP C FR_X8_56 dX8_move_83 rfl (o := some (14, 19, 0)) (hm.1 19 (by decide)) ?_
          refine rb_iload_n C dX8_move_86 rfl ?_
          refine rw_iald C (x := (W (14, 19, 0) s.toNatClampNeg)) 10 s.toNatClampNeg dX8_move_87 rfl (hm.2 19 (by decide)) hs rfl ((up2_n _ _ _ _ (fun q => absurd (congrArg (fun r : rb_R => r.2.1) q.1) (show ¬ ((19 : Nat) = 20) by decide))).trans ((up2_n _ _ _ _ (fun q => absurd (congrArg (fun r : rb_R => r.2.1) q.1) (show ¬ ((19 : Nat) = 17) by decide))).trans ((up2_n _ _ _ _ (fun q => absurd (congrArg Prod.fst q.1) (show ¬ ((14 : Nat) = 16) by decide))).trans (rfl)))) ?_
          exact rb_iret C E dX8_move_88 (Nat.le_of_ble_eq_true rfl) (Nat.le_of_ble_eq_true rfl) (pp_ ((if_neg h6).trans ((if_neg h13).trans ((if_neg h54).trans ((if_neg h72).trans (rfl))))))
        · refine rb_aload_n C dX8_move_75 rfl ?_
          refine rw_getP C FR_X8_56 dX8_move_76 rfl (o := some (14, 19, 0)) (hm.1 19 (by decide)) ?_
          refine rb_iload_n C dX8_move_79 rfl ?_
          refine rb_iconst C dX8_move_80 (v := (-1)) (by decide) ?_
          refine rw_iast C 10 s.toNatClampNeg dX8_move_81 rfl (hm.2 19 (by decide)) hs rfl ?_
          refine rb_aload_n C dX8_move_82 rfl ?_
          refine rw_getP C FR_X8_56 dX8_move_83 rfl (o := some (14, 19, 0)) (hm.1 19 (by decide)) ?_
          refine rb_iload_n C dX8_move_86 rfl ?_
          refine rw_iald C (x := (-1)) 10 s.toNatClampNeg dX8_move_87 rfl (hm.2 19 (by decide)) hs rfl (up2_s _ _ _ _) ?_
          exact rb_iret C E dX8_move_88 (Nat.le_of_ble_eq_true rfl) (Nat.le_of_ble_eq_true rfl) (pp_ ((if_neg h6).trans ((if_neg h13).trans ((if_neg h54).trans ((if_pos h72).trans (rfl))))))

def m_off (W : rb_I) (s : Int32) : Int32 × rb_I := (if (m_isSubscriber W s) = 0 then (0, (up2 W (16, 0, 0) 0 1)) else ((W (14, 19, 0) s.toNatClampNeg), (up2 (up2 W (16, 0, 0) 0 0) (14, 19, 0) s.toNatClampNeg (-1))))
set_option maxRecDepth 100000 in
set_option maxHeartbeats 4000000 in
theorem k_X8_off (l : Launch) (X : rb_X) (G : rb_G) (W : rb_I) (s : Int32) (hm : MS G) (hM : MI W) : rb_N l X yX8_off (.code yX8_off cX8_off 3 (some .int)) 3 55 0 0 [rbR (16, 0, 0), rbI s] (wI G W) (fun v9 G9 => v9 = some (rbI (m_off W s).1) ∧ G9 = wI G (m_off W s).2) := by
  refine rb_startN RX8 rfl (by decide +kernel) rfl (Nat.le_of_ble_eq_true rfl) ?_
  intro Φ C E nm
  show rb_W Φ 0 0 0 [some (rbR (16, 0, 0)), some (rbI s), none] [] (wI G W)
  refine rb_aload_n C dX8_off_0 rfl ?_
  refine rb_aload_n C dX8_off_1 rfl ?_
  refine rb_iload_n C dX8_off_2 rfl ?_
  refine rb_callV C M_X8_144 (fun l X => (k_X8_isSubscriber l X G W s).m) rfl (Nat.le_of_ble_eq_true rfl) rfl dX8_off_3 rfl rfl rfl (Nat.le_of_ble_eq_true rfl) ⟨(Nat.le_of_ble_eq_true rfl), (Nat.le_of_ble_eq_true rfl)⟩ (Nat.le_of_ble_eq_true rfl) (Nat.le_of_ble_eq_true rfl) (fun v G' hp => ?_) (fun _ _ hp => hp.elim)
  obtain ⟨rfl, e9⟩ := hp
  rw [e9]
  clear e9 G'
  refine rb_if_eq C 13 dX8_off_6 (by decide) (fun h6 => ?_) (fun h6 => ?_)
  · refine rb_iconst C dX8_off_13 (v := 1) (by decide) ?_
    refine rw_putI C F_X8_110 dX8_off_14 rfl ⟨rfl, rfl⟩ ?_
    refine rb_aload_n C dX8_off_17 rfl ?_
    refine rw_getI C FR_X8_110 dX8_off_18 rfl (x := 1) (up2_s _ _ _ _) ?_
    refine rb_if_le C 26 dX8_off_21 (by decide) (fun h9 => absurd h9 (by decide)) (fun _ => ?_)
    refine rb_iconst C dX8_off_24 (v := 0) (by decide) ?_
    exact rb_iret C E dX8_off_25 (Nat.le_of_ble_eq_true rfl) (Nat.le_of_ble_eq_true rfl) (pp_ ((if_pos h6).trans (rfl)))
  · refine rb_iconst C dX8_off_9 (v := 0) (by decide) ?_
    refine rb_goto C 14 dX8_off_10 (by decide) ?_
    refine rw_putI C F_X8_110 dX8_off_14 rfl ⟨rfl, rfl⟩ ?_
    refine rb_aload_n C dX8_off_17 rfl ?_
    refine rw_getI C FR_X8_110 dX8_off_18 rfl (x := 0) (up2_s _ _ _ _) ?_
    refine rb_if_le C 26 dX8_off_21 (by decide) (fun _ => ?_) (fun h9 => absurd (by decide) h9)
    have hs := isSub_in hM h6
    refine rb_aload_n C dX8_off_26 rfl ?_
    refine rw_getP C FR_X8_56 dX8_off_27 rfl (o := some (14, 19, 0)) (hm.1 19 (by decide)) ?_
    refine rb_iload_n C dX8_off_30 rfl ?_
    refine rw_iald C (x := (W (14, 19, 0) s.toNatClampNeg)) 10 s.toNatClampNeg dX8_off_31 rfl (hm.2 19 (by decide)) hs rfl ((up2_n _ _ _ _ (fun q => absurd (congrArg Prod.fst q.1) (show ¬ ((14 : Nat) = 16) by decide))).trans (rfl)) ?_
    refine rb_istore_n C dX8_off_32 (Nat.le_of_ble_eq_true rfl) rfl (Lv' := [_, _, _]) rfl ?_
    refine rb_aload_n C dX8_off_33 rfl ?_
    refine rw_getP C FR_X8_56 dX8_off_34 rfl (o := some (14, 19, 0)) (hm.1 19 (by decide)) ?_
    refine rb_iload_n C dX8_off_37 rfl ?_
    refine rb_iconst C dX8_off_38 (v := (-1)) (by decide) ?_
    refine rw_iast C 10 s.toNatClampNeg dX8_off_39 rfl (hm.2 19 (by decide)) hs rfl ?_
    refine rb_iload_n C dX8_off_40 rfl ?_
    exact rb_iret C E dX8_off_41 (Nat.le_of_ble_eq_true rfl) (Nat.le_of_ble_eq_true rfl) (pp_ ((if_neg h6).trans (rfl)))

def m_where (W : rb_I) (s : Int32) : Int32 × rb_I := (if (m_isSubscriber W s) = 0 then (0, (up2 W (16, 0, 0) 0 1)) else ((W (14, 21, 0) s.toNatClampNeg), (up2 W (16, 0, 0) 0 0)))
set_option maxRecDepth 100000 in
set_option maxHeartbeats 4000000 in
theorem k_X8_where (l : Launch) (X : rb_X) (G : rb_G) (W : rb_I) (s : Int32) (hm : MS G) (hM : MI W) : rb_N l X yX8_where (.code yX8_where cX8_where 2 (some .int)) 3 55 0 0 [rbR (16, 0, 0), rbI s] (wI G W) (fun v9 G9 => v9 = some (rbI (m_where W s).1) ∧ G9 = wI G (m_where W s).2) := by
  refine rb_startN RX8 rfl (by decide +kernel) rfl (Nat.le_of_ble_eq_true rfl) ?_
  intro Φ C E nm
  show rb_W Φ 0 0 0 [some (rbR (16, 0, 0)), some (rbI s)] [] (wI G W)
  refine rb_aload_n C dX8_where_0 rfl ?_
  refine rb_aload_n C dX8_where_1 rfl ?_
  refine rb_iload_n C dX8_where_2 rfl ?_
  refine rb_callV C M_X8_144 (fun l X => (k_X8_isSubscriber l X G W s).m) rfl (Nat.le_of_ble_eq_true rfl) rfl dX8_where_3 rfl rfl rfl (Nat.le_of_ble_eq_true rfl) ⟨(Nat.le_of_ble_eq_true rfl), (Nat.le_of_ble_eq_true rfl)⟩ (Nat.le_of_ble_eq_true rfl) (Nat.le_of_ble_eq_true rfl) (fun v G' hp => ?_) (fun _ _ hp => hp.elim)
  obtain ⟨rfl, e9⟩ := hp
  rw [e9]
  clear e9 G'
  refine rb_if_eq C 13 dX8_where_6 (by decide) (fun h6 => ?_) (fun h6 => ?_)
  · refine rb_iconst C dX8_where_13 (v := 1) (by decide) ?_
    refine rw_putI C F_X8_110 dX8_where_14 rfl ⟨rfl, rfl⟩ ?_
    refine rb_aload_n C dX8_where_17 rfl ?_
    refine rw_getI C FR_X8_110 dX8_where_18 rfl (x := 1) (up2_s _ _ _ _) ?_
    refine rb_if_le C 28 dX8_where_21 (by decide) (fun h9 => absurd h9 (by decide)) (fun _ => ?_)
    refine rb_iconst C dX8_where_24 (v := 0) (by decide) ?_
    refine rb_goto C 34 dX8_where_25 (by decide) ?_
    exact rb_iret C E dX8_where_34 (Nat.le_of_ble_eq_true rfl) (Nat.le_of_ble_eq_true rfl) (pp_ ((if_pos h6).trans (rfl)))
  · refine rb_iconst C dX8_where_9 (v := 0) (by decide) ?_
    refine rb_goto C 14 dX8_where_10 (by decide) ?_
    refine rw_putI C F_X8_110 dX8_where_14 rfl ⟨rfl, rfl⟩ ?_
    refine rb_aload_n C dX8_where_17 rfl ?_
    refine rw_getI C FR_X8_110 dX8_where_18 rfl (x := 0) (up2_s _ _ _ _) ?_
    refine rb_if_le C 28 dX8_where_21 (by decide) (fun _ => ?_) (fun h9 => absurd (by decide) h9)
    have hs := isSub_in hM h6
    refine rb_aload_n C dX8_where_28 rfl ?_
    refine rw_getP C FR_X8_62 dX8_where_29 rfl (o := some (14, 21, 0)) (hm.1 21 (by decide)) ?_
    refine rb_iload_n C dX8_where_32 rfl ?_
    refine rw_iald C (x := (W (14, 21, 0) s.toNatClampNeg)) 10 s.toNatClampNeg dX8_where_33 rfl (hm.2 21 (by decide)) hs rfl ((up2_n _ _ _ _ (fun q => absurd (congrArg Prod.fst q.1) (show ¬ ((14 : Nat) = 16) by decide))).trans (rfl)) ?_
    exact rb_iret C E dX8_where_34 (Nat.le_of_ble_eq_true rfl) (Nat.le_of_ble_eq_true rfl) (pp_ ((if_neg h6).trans (rfl)))

def m_paidAnew (W : rb_I) (s : Int32) : Int32 × rb_I := (if (m_isSubscriber W s) = 0 then (0, (up2 W (16, 0, 0) 0 1)) else ((W (14, 24, 0) s.toNatClampNeg), (up2 W (16, 0, 0) 0 0)))
set_option maxRecDepth 100000 in
set_option maxHeartbeats 4000000 in
theorem k_X8_paidAnew (l : Launch) (X : rb_X) (G : rb_G) (W : rb_I) (s : Int32) (hm : MS G) (hM : MI W) : rb_N l X yX8_paidAnew (.code yX8_paidAnew cX8_paidAnew 2 (some .int)) 3 55 0 0 [rbR (16, 0, 0), rbI s] (wI G W) (fun v9 G9 => v9 = some (rbI (m_paidAnew W s).1) ∧ G9 = wI G (m_paidAnew W s).2) := by
  refine rb_startN RX8 rfl (by decide +kernel) rfl (Nat.le_of_ble_eq_true rfl) ?_
  intro Φ C E nm
  show rb_W Φ 0 0 0 [some (rbR (16, 0, 0)), some (rbI s)] [] (wI G W)
  refine rb_aload_n C dX8_paidAnew_0 rfl ?_
  refine rb_aload_n C dX8_paidAnew_1 rfl ?_
  refine rb_iload_n C dX8_paidAnew_2 rfl ?_
  refine rb_callV C M_X8_144 (fun l X => (k_X8_isSubscriber l X G W s).m) rfl (Nat.le_of_ble_eq_true rfl) rfl dX8_paidAnew_3 rfl rfl rfl (Nat.le_of_ble_eq_true rfl) ⟨(Nat.le_of_ble_eq_true rfl), (Nat.le_of_ble_eq_true rfl)⟩ (Nat.le_of_ble_eq_true rfl) (Nat.le_of_ble_eq_true rfl) (fun v G' hp => ?_) (fun _ _ hp => hp.elim)
  obtain ⟨rfl, e9⟩ := hp
  rw [e9]
  clear e9 G'
  refine rb_if_eq C 13 dX8_paidAnew_6 (by decide) (fun h6 => ?_) (fun h6 => ?_)
  · refine rb_iconst C dX8_paidAnew_13 (v := 1) (by decide) ?_
    refine rw_putI C F_X8_110 dX8_paidAnew_14 rfl ⟨rfl, rfl⟩ ?_
    refine rb_aload_n C dX8_paidAnew_17 rfl ?_
    refine rw_getI C FR_X8_110 dX8_paidAnew_18 rfl (x := 1) (up2_s _ _ _ _) ?_
    refine rb_if_le C 28 dX8_paidAnew_21 (by decide) (fun h9 => absurd h9 (by decide)) (fun _ => ?_)
    refine rb_iconst C dX8_paidAnew_24 (v := 0) (by decide) ?_
    refine rb_goto C 34 dX8_paidAnew_25 (by decide) ?_
    exact rb_iret C E dX8_paidAnew_34 (Nat.le_of_ble_eq_true rfl) (Nat.le_of_ble_eq_true rfl) (pp_ ((if_pos h6).trans (rfl)))
  · refine rb_iconst C dX8_paidAnew_9 (v := 0) (by decide) ?_
    refine rb_goto C 14 dX8_paidAnew_10 (by decide) ?_
    refine rw_putI C F_X8_110 dX8_paidAnew_14 rfl ⟨rfl, rfl⟩ ?_
    refine rb_aload_n C dX8_paidAnew_17 rfl ?_
    refine rw_getI C FR_X8_110 dX8_paidAnew_18 rfl (x := 0) (up2_s _ _ _ _) ?_
    refine rb_if_le C 28 dX8_paidAnew_21 (by decide) (fun _ => ?_) (fun h9 => absurd (by decide) h9)
    have hs := isSub_in hM h6
    refine rb_aload_n C dX8_paidAnew_28 rfl ?_
    refine rw_getP C FR_X8_71 dX8_paidAnew_29 rfl (o := some (14, 24, 0)) (hm.1 24 (by decide)) ?_
    refine rb_iload_n C dX8_paidAnew_32 rfl ?_
    refine rw_iald C (x := (W (14, 24, 0) s.toNatClampNeg)) 10 s.toNatClampNeg dX8_paidAnew_33 rfl (hm.2 24 (by decide)) hs rfl ((up2_n _ _ _ _ (fun q => absurd (congrArg Prod.fst q.1) (show ¬ ((14 : Nat) = 16) by decide))).trans (rfl)) ?_
    exact rb_iret C E dX8_paidAnew_34 (Nat.le_of_ble_eq_true rfl) (Nat.le_of_ble_eq_true rfl) (pp_ ((if_neg h6).trans (rfl)))

def m_contact (W : rb_I) (n : Int32) (s : Int32) : Int32 × rb_I := (if (m_isNetwork n) = 0 then (0, (up2 W (16, 0, 0) 0 1)) else (if (m_isSubscriber W s) = 0 then (0, (up2 W (16, 0, 0) 0 1)) else ((W (14, 27, 0) (10 * n.toNatClampNeg + s.toNatClampNeg)), (up2 W (16, 0, 0) 0 0))))
set_option maxRecDepth 100000 in
set_option maxHeartbeats 4000000 in
theorem k_X8_contact (l : Launch) (X : rb_X) (G : rb_G) (W : rb_I) (n : Int32) (s : Int32) (hm : MS G) (hM : MI W) : rb_N l X yX8_contact (.code yX8_contact cX8_contact 3 (some .int)) 3 55 0 0 [rbR (16, 0, 0), rbI n, rbI s] (wI G W) (fun v9 G9 => v9 = some (rbI (m_contact W n s).1) ∧ G9 = wI G (m_contact W n s).2) := by
  refine rb_startN RX8 rfl (by decide +kernel) rfl (Nat.le_of_ble_eq_true rfl) ?_
  intro Φ C E nm
  show rb_W Φ 0 0 0 [some (rbR (16, 0, 0)), some (rbI n), some (rbI s)] [] (wI G W)
  refine rb_aload_n C dX8_contact_0 rfl ?_
  refine rb_iload_n C dX8_contact_1 rfl ?_
  refine rb_callS C M_X8_129 (fun l X => (k_X8_isNetwork l X G W n).m) dX8_contact_2 rfl rfl rfl (Nat.le_of_ble_eq_true rfl) ⟨(Nat.le_of_ble_eq_true rfl), (Nat.le_of_ble_eq_true rfl)⟩ (Nat.le_of_ble_eq_true rfl) (Nat.le_of_ble_eq_true rfl) (fun v G' hp => ?_) (fun _ _ hp => hp.elim)
  obtain ⟨rfl, e9⟩ := hp
  rw [e9]
  clear e9 G'
  refine rb_if_eq C 20 dX8_contact_5 (by decide) (fun h5 => ?_) (fun h5 => ?_)
  · refine rb_iconst C dX8_contact_20 (v := 1) (by decide) ?_
    refine rw_putI C F_X8_110 dX8_contact_21 rfl ⟨rfl, rfl⟩ ?_
    refine rb_aload_n C dX8_contact_24 rfl ?_
    refine rw_getI C FR_X8_110 dX8_contact_25 rfl (x := 1) (up2_s _ _ _ _) ?_
    refine rb_if_le C 35 dX8_contact_28 (by decide) (fun h9 => absurd h9 (by decide)) (fun _ => ?_)
    refine rb_iconst C dX8_contact_31 (v := 0) (by decide) ?_
    refine rb_goto C 46 dX8_contact_32 (by decide) ?_
    exact rb_iret C E dX8_contact_46 (Nat.le_of_ble_eq_true rfl) (Nat.le_of_ble_eq_true rfl) (pp_ ((if_pos h5).trans (rfl)))
  · refine rb_aload_n C dX8_contact_8 rfl ?_
    refine rb_iload_n C dX8_contact_9 rfl ?_
    refine rb_callV C M_X8_144 (fun l X => (k_X8_isSubscriber l X G W s).m) rfl (Nat.le_of_ble_eq_true rfl) rfl dX8_contact_10 rfl rfl rfl (Nat.le_of_ble_eq_true rfl) ⟨(Nat.le_of_ble_eq_true rfl), (Nat.le_of_ble_eq_true rfl)⟩ (Nat.le_of_ble_eq_true rfl) (Nat.le_of_ble_eq_true rfl) (fun v G' hp => ?_) (fun _ _ hp => hp.elim)
    obtain ⟨rfl, e9⟩ := hp
    rw [e9]
    clear e9 G'
    refine rb_if_eq C 20 dX8_contact_13 (by decide) (fun h13 => ?_) (fun h13 => ?_)
    · refine rb_iconst C dX8_contact_20 (v := 1) (by decide) ?_
      refine rw_putI C F_X8_110 dX8_contact_21 rfl ⟨rfl, rfl⟩ ?_
      refine rb_aload_n C dX8_contact_24 rfl ?_
      refine rw_getI C FR_X8_110 dX8_contact_25 rfl (x := 1) (up2_s _ _ _ _) ?_
      refine rb_if_le C 35 dX8_contact_28 (by decide) (fun h9 => absurd h9 (by decide)) (fun _ => ?_)
      refine rb_iconst C dX8_contact_31 (v := 0) (by decide) ?_
      refine rb_goto C 46 dX8_contact_32 (by decide) ?_
      exact rb_iret C E dX8_contact_46 (Nat.le_of_ble_eq_true rfl) (Nat.le_of_ble_eq_true rfl) (pp_ ((if_neg h5).trans ((if_pos h13).trans (rfl))))
    · refine rb_iconst C dX8_contact_16 (v := 0) (by decide) ?_
      refine rb_goto C 21 dX8_contact_17 (by decide) ?_
      refine rw_putI C F_X8_110 dX8_contact_21 rfl ⟨rfl, rfl⟩ ?_
      refine rb_aload_n C dX8_contact_24 rfl ?_
      refine rw_getI C FR_X8_110 dX8_contact_25 rfl (x := 0) (up2_s _ _ _ _) ?_
      refine rb_if_le C 35 dX8_contact_28 (by decide) (fun _ => ?_) (fun h9 => absurd (by decide) h9)
      have hn := isNetwork_in h5
      have hs := isSub_in hM h13
      refine rb_aload_n C dX8_contact_35 rfl ?_
      refine rw_getP C FR_X8_80 dX8_contact_36 rfl (o := some (14, 27, 0)) (hm.1 27 (by decide)) ?_
      refine rb_bipush C dX8_contact_39 (v := 10) (by decide) ?_
      refine rb_iload_n C dX8_contact_41 rfl ?_
      refine rb_imul C dX8_contact_42 ?_
      refine rb_iload_n C dX8_contact_43 rfl ?_
      refine rb_iadd C dX8_contact_44 ?_
      refine rw_iald C (x := (W (14, 27, 0) (10 * n.toNatClampNeg + s.toNatClampNeg))) 60 (10 * n.toNatClampNeg + s.toNatClampNeg) dX8_contact_45 rfl (hm.2 27 (by decide)) (ix_lin (N := 60) 10 10 rfl hn hs (by decide) (by decide) (by decide)).1 ((ix_lin (N := 60) 10 10 rfl hn hs (by decide) (by decide) (by decide)).2.trans (by rw [(show (n).toNatClampNeg = n.toNatClampNeg from rfl), (show (s).toNatClampNeg = s.toNatClampNeg from rfl)])) ((up2_n _ _ _ _ (fun q => absurd (congrArg Prod.fst q.1) (show ¬ ((14 : Nat) = 16) by decide))).trans (rfl)) ?_
      exact rb_iret C E dX8_contact_46 (Nat.le_of_ble_eq_true rfl) (Nat.le_of_ble_eq_true rfl) (pp_ ((if_neg h5).trans ((if_neg h13).trans (rfl))))

