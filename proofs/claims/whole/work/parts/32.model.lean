theorem rb_W.unset {Φ : rb_F} {cells slots pc : Nat} {Lv : List (Option rb_V)} {st : List rb_V} {G : rb_G} (k : Nat) (kk : rb_W Φ cells slots pc (Lv.set k none) st G) : rb_W Φ cells slots pc Lv st G := by
  refine rb_W.weak kk (Nat.le_refl _) (Nat.le_refl _) (List.length_set ..) (fun i v h => ?_)
  by_cases e : k = i
  · subst e
    rw [List.getElem?_set] at h
    simp at h
  · rwa [List.getElem?_set_ne e] at h
theorem cnt_lt {x : Int32} {n : Nat} (c : Int32) (h : vp_in x (n + 1)) (hc : c = nI n) (hne : ¬ x = c) (hn : n + 1 < 2 ^ 31) : vp_in x n := by
  have h1 := vp_in_lt h
  rw [vp_in_e h] at hne ⊢
  rw [hc] at hne
  refine vp_in_nI (Nat.lt_of_le_of_ne (by omega) fun q => hne (by rw [q])) (by omega)
theorem in_ne {x : Int32} {n : Nat} (h : vp_in x n) : ¬ x = -1 := fun q => vp_in_0 h (by rw [q]; decide)
theorem tw_out {x : Int32} (h0 : ¬ x = 0) (h1 : ¬ x = 1) (h2 : ¬ x = 2) (h3 : ¬ x = 3) (h4 : ¬ x = 4) (h5 : ¬ x = 5) : x.toInt < 0 ∨ 5 < x.toInt := by
  rcases Classical.em (x < 0) with h | h
  · exact Or.inl (by simpa using Int32.lt_iff_toInt_lt.mp h)
  · obtain ⟨j, hj, e⟩ := nI_of h
    subst e
    rw [nI_toInt hj]
    refine Or.inr ?_
    rcases (by omega : j = 0 ∨ j = 1 ∨ j = 2 ∨ j = 3 ∨ j = 4 ∨ j = 5 ∨ 5 < j) with rfl | rfl | rfl | rfl | rfl | rfl | h
    · exact absurd rfl h0
    · exact absurd rfl h1
    · exact absurd rfl h2
    · exact absurd rfl h3
    · exact absurd rfl h4
    · exact absurd rfl h5
    · omega
def m_agreement_b (W : rb_I) (its : Int32) (visited : Int32) (i : Nat) (s : Int32) : Int32 := (if (W (14, 8, 0) i) = its then (if (W (14, 9, 0) i) = visited then (if (W (16, 0, 0) 1) < (W (14, 10, 0) i) then s else (if (W (14, 11, 0) i) ≤ (W (16, 0, 0) 1) then s else (nI i))) else s) else s)
def m_agreement (W : rb_I) (its : Int32) (visited : Int32) : Int32 := (fo (m_agreement_b W its visited) (W (16, 0, 0) 7).toNatClampNeg ((-1) : Int32))
set_option maxRecDepth 100000 in
set_option maxHeartbeats 4000000 in
theorem k_X8_agreement (l : Launch) (X : rb_X) (G : rb_G) (W : rb_I) (its : Int32) (visited : Int32) (hm : MS G) (hM : MI W) : rb_N l X yX8_agreement (.code yX8_agreement cX8_agreement 6 (some .int)) 1 12 0 0 [rbR (16, 0, 0), rbI its, rbI visited] (wI G W) (fun v9 G9 => v9 = some (rbI (m_agreement W its visited)) ∧ G9 = wI G W) := by
  refine rb_startN RX8 rfl (by decide +kernel) rfl (Nat.le_of_ble_eq_true rfl) ?_
  intro Φ C E nm
  show rb_W Φ 0 0 0 [some (rbR (16, 0, 0)), some (rbI its), some (rbI visited), none, none, none] [] (wI G W)
  refine rb_iconst C dX8_agreement_0 (v := (-1)) (by decide) ?_
  refine rb_istore_n C dX8_agreement_1 (Nat.le_of_ble_eq_true rfl) rfl (Lv' := [_, _, _, _, _, _]) rfl ?_
  refine rb_iconst C dX8_agreement_2 (v := 0) (by decide) ?_
  refine rb_istore C dX8_agreement_3 (Nat.le_of_ble_eq_true rfl) rfl (Lv' := [_, _, _, _, _, _]) rfl ?_
  have loop : ∀ (d i : Nat) (s : Int32), i + d = (W (16, 0, 0) 7).toNatClampNeg → s = fo (m_agreement_b W its visited) i ((-1) : Int32) → rb_W Φ 0 0 5 [some (rbR (16, 0, 0)), some (rbI its), some (rbI visited), some (rbI s), some (rbI (nI i)), none] [] (wI G W) := by
    intro d
    induction d with
    | zero =>
      intro i s hi hs
      obtain rfl : i = (W (16, 0, 0) 7).toNatClampNeg := by omega
      subst hs
      refine rb_iload C dX8_agreement_5 rfl ?_
      refine rb_aload_n C dX8_agreement_7 rfl ?_
      refine rw_getI C FR_X8_138 dX8_agreement_8 rfl (x := (W (16, 0, 0) 7)) (rfl) ?_
      refine rb_icmp_ge C 89 dX8_agreement_11 (by decide) (fun _ => ?_) (fun h9 => absurd ((cnt_le hM.2.2.2.2.2.2.1)) h9)
      refine rb_iload_n C dX8_agreement_89 rfl ?_
      exact rb_iret C E dX8_agreement_90 (Nat.le_of_ble_eq_true rfl) (Nat.le_of_ble_eq_true rfl) (pv_ (rfl))
    | succ d ih =>
      intro i s hi hs
      have hi9 : i < (W (16, 0, 0) 7).toNatClampNeg := by omega
      refine rb_iload C dX8_agreement_5 rfl ?_
      refine rb_aload_n C dX8_agreement_7 rfl ?_
      refine rw_getI C FR_X8_138 dX8_agreement_8 rfl (x := (W (16, 0, 0) 7)) (rfl) ?_
      refine rb_icmp_ge C 89 dX8_agreement_11 (by decide) (fun h9 => absurd h9 ((cnt_nle hM.2.2.2.2.2.2.1 (by decide) hi9))) (fun _ => ?_)
      refine rb_aload_n C dX8_agreement_14 rfl ?_
      refine rw_getP C FR_X8_26 dX8_agreement_15 rfl (o := some (14, 8, 0)) (hm.1 8 (by decide)) ?_
      refine rb_iload C dX8_agreement_18 rfl ?_
      refine rw_iald C (x := (W (14, 8, 0) i)) 30 i dX8_agreement_20 rfl (hm.2 8 (by decide)) (vp_in_nI (show i < 30 by have hc8 := vp_in_lt hM.2.2.2.2.2.2.1; omega) (by decide)) (nI_clamp (show i < 2 ^ 31 by have hc8 := vp_in_lt hM.2.2.2.2.2.2.1; omega)) (rfl) ?_
      refine rb_iload_n C dX8_agreement_21 rfl ?_
      refine rb_icmp_ne C 40 dX8_agreement_22 (by decide) (fun h22 => ?_) (fun h22 => ?_)
      · refine rb_iconst C dX8_agreement_40 (v := 0) (by decide) ?_
        refine rb_istore C dX8_agreement_41 (Nat.le_of_ble_eq_true rfl) rfl (Lv' := [_, _, _, _, _, _]) rfl ?_
        refine rb_iload C dX8_agreement_43 rfl ?_
        refine rb_if_eq C 81 dX8_agreement_45 (by decide) (fun _ => ?_) (fun h9 => absurd (by decide) h9)
        refine rb_iload_n C dX8_agreement_81 rfl ?_
        refine rb_istore_n C dX8_agreement_82 (Nat.le_of_ble_eq_true rfl) rfl (Lv' := [_, _, _, _, _, _]) rfl ?_
        refine rb_iinc C dX8_agreement_83 rfl (v := _ + 1) rfl rfl (Lv' := [_, _, _, _, _, _]) rfl ?_
        refine rb_goto C 5 dX8_agreement_86 (by decide) ?_
        refine rb_W.unset 5 ?_
        rw [nI_1 i]
        exact ih (i + 1) s (by omega) (by rw [fo_s, ← hs]; exact Eq.symm ((if_neg h22).trans (rfl)))
      · refine rb_aload_n C dX8_agreement_25 rfl ?_
        refine rw_getP C FR_X8_29 dX8_agreement_26 rfl (o := some (14, 9, 0)) (hm.1 9 (by decide)) ?_
        refine rb_iload C dX8_agreement_29 rfl ?_
        refine rw_iald C (x := (W (14, 9, 0) i)) 30 i dX8_agreement_31 rfl (hm.2 9 (by decide)) (vp_in_nI (show i < 30 by have hc8 := vp_in_lt hM.2.2.2.2.2.2.1; omega) (by decide)) (nI_clamp (show i < 2 ^ 31 by have hc8 := vp_in_lt hM.2.2.2.2.2.2.1; omega)) (rfl) ?_
        refine rb_iload_n C dX8_agreement_32 rfl ?_
        refine rb_icmp_ne C 40 dX8_agreement_33 (by decide) (fun h33 => ?_) (fun h33 => ?_)
        · refine rb_iconst C dX8_agreement_40 (v := 0) (by decide) ?_
          refine rb_istore C dX8_agreement_41 (Nat.le_of_ble_eq_true rfl) rfl (Lv' := [_, _, _, _, _, _]) rfl ?_
          refine rb_iload C dX8_agreement_43 rfl ?_
          refine rb_if_eq C 81 dX8_agreement_45 (by decide) (fun _ => ?_) (fun h9 => absurd (by decide) h9)
          refine rb_iload_n C dX8_agreement_81 rfl ?_
          refine rb_istore_n C dX8_agreement_82 (Nat.le_of_ble_eq_true rfl) rfl (Lv' := [_, _, _, _, _, _]) rfl ?_
          refine rb_iinc C dX8_agreement_83 rfl (v := _ + 1) rfl rfl (Lv' := [_, _, _, _, _, _]) rfl ?_
          refine rb_goto C 5 dX8_agreement_86 (by decide) ?_
          refine rb_W.unset 5 ?_
          rw [nI_1 i]
          exact ih (i + 1) s (by omega) (by rw [fo_s, ← hs]; exact Eq.symm ((if_pos h22).trans ((if_neg h33).trans (rfl))))
        · refine rb_iconst C dX8_agreement_36 (v := 1) (by decide) ?_
          refine rb_goto C 41 dX8_agreement_37 (by decide) ?_
          refine rb_istore C dX8_agreement_41 (Nat.le_of_ble_eq_true rfl) rfl (Lv' := [_, _, _, _, _, _]) rfl ?_
          refine rb_iload C dX8_agreement_43 rfl ?_
          refine rb_if_eq C 81 dX8_agreement_45 (by decide) (fun h9 => absurd h9 (by decide)) (fun _ => ?_)
          refine rb_aload_n C dX8_agreement_48 rfl ?_
          refine rw_getI C FR_X8_141 dX8_agreement_49 rfl (x := (W (16, 0, 0) 1)) (rfl) ?_
          refine rb_aload_n C dX8_agreement_52 rfl ?_
          refine rw_getP C FR_X8_32 dX8_agreement_53 rfl (o := some (14, 10, 0)) (hm.1 10 (by decide)) ?_
          refine rb_iload C dX8_agreement_56 rfl ?_
          refine rw_iald C (x := (W (14, 10, 0) i)) 30 i dX8_agreement_58 rfl (hm.2 10 (by decide)) (vp_in_nI (show i < 30 by have hc8 := vp_in_lt hM.2.2.2.2.2.2.1; omega) (by decide)) (nI_clamp (show i < 2 ^ 31 by have hc8 := vp_in_lt hM.2.2.2.2.2.2.1; omega)) (rfl) ?_
          refine rb_icmp_lt C 81 dX8_agreement_59 (by decide) (fun h59 => ?_) (fun h59 => ?_)
          · refine rb_iload_n C dX8_agreement_81 rfl ?_
            refine rb_istore_n C dX8_agreement_82 (Nat.le_of_ble_eq_true rfl) rfl (Lv' := [_, _, _, _, _, _]) rfl ?_
            refine rb_iinc C dX8_agreement_83 rfl (v := _ + 1) rfl rfl (Lv' := [_, _, _, _, _, _]) rfl ?_
            refine rb_goto C 5 dX8_agreement_86 (by decide) ?_
            refine rb_W.unset 5 ?_
            rw [nI_1 i]
            exact ih (i + 1) s (by omega) (by rw [fo_s, ← hs]; exact Eq.symm ((if_pos h22).trans ((if_pos h33).trans ((if_pos h59).trans (rfl)))))
          · refine rb_aload_n C dX8_agreement_62 rfl ?_
            refine rw_getI C FR_X8_141 dX8_agreement_63 rfl (x := (W (16, 0, 0) 1)) (rfl) ?_
            refine rb_aload_n C dX8_agreement_66 rfl ?_
            refine rw_getP C FR_X8_35 dX8_agreement_67 rfl (o := some (14, 11, 0)) (hm.1 11 (by decide)) ?_
            refine rb_iload C dX8_agreement_70 rfl ?_
            refine rw_iald C (x := (W (14, 11, 0) i)) 30 i dX8_agreement_72 rfl (hm.2 11 (by decide)) (vp_in_nI (show i < 30 by have hc8 := vp_in_lt hM.2.2.2.2.2.2.1; omega) (by decide)) (nI_clamp (show i < 2 ^ 31 by have hc8 := vp_in_lt hM.2.2.2.2.2.2.1; omega)) (rfl) ?_
            refine rb_icmp_ge C 81 dX8_agreement_73 (by decide) (fun h73 => ?_) (fun h73 => ?_)
            · refine rb_iload_n C dX8_agreement_81 rfl ?_
              refine rb_istore_n C dX8_agreement_82 (Nat.le_of_ble_eq_true rfl) rfl (Lv' := [_, _, _, _, _, _]) rfl ?_
              refine rb_iinc C dX8_agreement_83 rfl (v := _ + 1) rfl rfl (Lv' := [_, _, _, _, _, _]) rfl ?_
              refine rb_goto C 5 dX8_agreement_86 (by decide) ?_
              refine rb_W.unset 5 ?_
              rw [nI_1 i]
              exact ih (i + 1) s (by omega) (by rw [fo_s, ← hs]; exact Eq.symm ((if_pos h22).trans ((if_pos h33).trans ((if_neg h59).trans ((if_pos h73).trans (rfl))))))
            · refine rb_iload C dX8_agreement_76 rfl ?_
              refine rb_goto C 82 dX8_agreement_78 (by decide) ?_
              refine rb_istore_n C dX8_agreement_82 (Nat.le_of_ble_eq_true rfl) rfl (Lv' := [_, _, _, _, _, _]) rfl ?_
              refine rb_iinc C dX8_agreement_83 rfl (v := _ + 1) rfl rfl (Lv' := [_, _, _, _, _, _]) rfl ?_
              refine rb_goto C 5 dX8_agreement_86 (by decide) ?_
              refine rb_W.unset 5 ?_
              rw [nI_1 i]
              exact ih (i + 1) (nI i) (by omega) (by rw [fo_s, ← hs]; exact Eq.symm ((if_pos h22).trans ((if_pos h33).trans ((if_neg h59).trans ((if_neg h73).trans (rfl))))))
  exact loop (W (16, 0, 0) 7).toNatClampNeg 0 ((-1) : Int32) (Nat.zero_add _) (fo_0 _ _).symm

def m_empties_b (n : Int32) (i : Nat) (s : rb_I) : rb_I := (up2 s (14, 27, 0) (10 * n.toNatClampNeg + i) (-1))
def m_empties (W : rb_I) (n : Int32) : rb_I := (fo (m_empties_b n) 10 W)
set_option maxRecDepth 100000 in
set_option maxHeartbeats 4000000 in
theorem k_X8_empties (l : Launch) (X : rb_X) (G : rb_G) (W : rb_I) (n : Int32) (hm : MS G) (hn : vp_in n 6) : rb_N l X yX8_empties (.code yX8_empties cX8_empties 3 none) 1 12 0 0 [rbR (16, 0, 0), rbI n] (wI G W) (fun v9 G9 => v9 = none ∧ G9 = wI G (m_empties W n)) := by
  refine rb_startN RX8 rfl (by decide +kernel) rfl (Nat.le_of_ble_eq_true rfl) ?_
  intro Φ C E nm
  show rb_W Φ 0 0 0 [some (rbR (16, 0, 0)), some (rbI n), none] [] (wI G W)
  refine rb_iconst C dX8_empties_0 (v := 0) (by decide) ?_
  refine rb_istore_n C dX8_empties_1 (Nat.le_of_ble_eq_true rfl) rfl (Lv' := [_, _, _]) rfl ?_
  have loop : ∀ (d i : Nat) (s : rb_I), i + d = 10 → s = fo (m_empties_b n) i W → rb_W Φ 0 0 2 [some (rbR (16, 0, 0)), some (rbI n), some (rbI (nI i))] [] (wI G s) := by
    intro d
    induction d with
    | zero =>
      intro i s hi hs
      obtain rfl : i = 10 := by omega
      subst hs
      refine rb_iload_n C dX8_empties_2 rfl ?_
      refine rb_bipush C dX8_empties_3 (v := 10) (by decide) ?_
      refine rb_icmp_ge C 26 dX8_empties_5 (by decide) (fun _ => ?_) (fun h9 => absurd ((nI_le (a := 10) (b := 10) (Nat.le_refl _) (by decide))) h9)
      exact rb_vret C E dX8_empties_26 (Nat.le_of_ble_eq_true rfl) (Nat.le_of_ble_eq_true rfl) (pw_ (rfl))
    | succ d ih =>
      intro i s hi hs
      have hi9 : i < 10 := by omega
      refine rb_iload_n C dX8_empties_2 rfl ?_
      refine rb_bipush C dX8_empties_3 (v := 10) (by decide) ?_
      refine rb_icmp_ge C 26 dX8_empties_5 (by decide) (fun h9 => absurd h9 ((nI_ge (a := i) (b := 10) hi9 (by decide)))) (fun _ => ?_)
      refine rb_aload_n C dX8_empties_8 rfl ?_
      refine rw_getP C FR_X8_80 dX8_empties_9 rfl (o := some (14, 27, 0)) (hm.1 27 (by decide)) ?_
      refine rb_bipush C dX8_empties_12 (v := 10) (by decide) ?_
      refine rb_iload_n C dX8_empties_14 rfl ?_
      refine rb_imul C dX8_empties_15 ?_
      refine rb_iload_n C dX8_empties_16 rfl ?_
      refine rb_iadd C dX8_empties_17 ?_
      refine rb_iconst C dX8_empties_18 (v := (-1)) (by decide) ?_
      refine rw_iast C 60 (10 * n.toNatClampNeg + i) dX8_empties_19 rfl (hm.2 27 (by decide)) (ix_lin (N := 60) 10 10 rfl hn (vp_in_nI (show i < 10 by omega) (by decide)) (by decide) (by decide) (by decide)).1 ((ix_lin (N := 60) 10 10 rfl hn (vp_in_nI (show i < 10 by omega) (by decide)) (by decide) (by decide) (by decide)).2.trans (by rw [(show (n).toNatClampNeg = n.toNatClampNeg from rfl), (nI_clamp (show i < 2 ^ 31 by omega))])) ?_
      refine rb_iinc C dX8_empties_20 rfl (v := _ + 1) rfl rfl (Lv' := [_, _, _]) rfl ?_
      refine rb_goto C 2 dX8_empties_23 (by decide) ?_
      rw [nI_1 i]
      exact ih (i + 1) (up2 s (14, 27, 0) (10 * n.toNatClampNeg + i) (-1)) (by omega) (by rw [fo_s, ← hs]; exact Eq.symm (rfl))
  exact loop 10 0 W (Nat.zero_add _) (fo_0 _ _).symm

def m_minutesOf_b (W : rb_I) (visited : Int32) (its : Int32) (what : Int32) (i : Nat) (s : Int32) : Int32 := (if (m_isOf W (nI i) visited its) = 0 then (s + 0) else (if (W (14, 35, 0) i) = what then (s + (W (14, 32, 0) i)) else (s + 0)))
def m_minutesOf (W : rb_I) (visited : Int32) (its : Int32) (what : Int32) : Int32 := (fo (m_minutesOf_b W visited its what) (W (16, 0, 0) 29).toNatClampNeg (0 : Int32))
set_option maxRecDepth 100000 in
set_option maxHeartbeats 4000000 in
theorem k_X8_minutesOf (l : Launch) (X : rb_X) (G : rb_G) (W : rb_I) (visited : Int32) (its : Int32) (what : Int32) (hm : MS G) (hM : MI W) : rb_N l X yX8_minutesOf (.code yX8_minutesOf cX8_minutesOf 6 (some .int)) 2 35 0 0 [rbR (16, 0, 0), rbI visited, rbI its, rbI what] (wI G W) (fun v9 G9 => v9 = some (rbI (m_minutesOf W visited its what)) ∧ G9 = wI G W) := by
  refine rb_startN RX8 rfl (by decide +kernel) rfl (Nat.le_of_ble_eq_true rfl) ?_
  intro Φ C E nm
  show rb_W Φ 0 0 0 [some (rbR (16, 0, 0)), some (rbI visited), some (rbI its), some (rbI what), none, none] [] (wI G W)
  refine rb_iconst C dX8_minutesOf_0 (v := 0) (by decide) ?_
  refine rb_istore C dX8_minutesOf_1 (Nat.le_of_ble_eq_true rfl) rfl (Lv' := [_, _, _, _, _, _]) rfl ?_
  refine rb_iconst C dX8_minutesOf_3 (v := 0) (by decide) ?_
  refine rb_istore C dX8_minutesOf_4 (Nat.le_of_ble_eq_true rfl) rfl (Lv' := [_, _, _, _, _, _]) rfl ?_
  have loop : ∀ (d i : Nat) (s : Int32), i + d = (W (16, 0, 0) 29).toNatClampNeg → s = fo (m_minutesOf_b W visited its what) i (0 : Int32) → rb_W Φ 0 0 6 [some (rbR (16, 0, 0)), some (rbI visited), some (rbI its), some (rbI what), some (rbI s), some (rbI (nI i))] [] (wI G W) := by
    intro d
    induction d with
    | zero =>
      intro i s hi hs
      obtain rfl : i = (W (16, 0, 0) 29).toNatClampNeg := by omega
      subst hs
      refine rb_iload C dX8_minutesOf_6 rfl ?_
      refine rb_aload_n C dX8_minutesOf_8 rfl ?_
      refine rw_getI C FR_X8_169 dX8_minutesOf_9 rfl (x := (W (16, 0, 0) 29)) (rfl) ?_
      refine rb_icmp_ge C 59 dX8_minutesOf_12 (by decide) (fun _ => ?_) (fun h9 => absurd ((cnt_le hM.2.2.2.2.2.2.2.2.2.1)) h9)
      refine rb_iload C dX8_minutesOf_59 rfl ?_
      exact rb_iret C E dX8_minutesOf_61 (Nat.le_of_ble_eq_true rfl) (Nat.le_of_ble_eq_true rfl) (pv_ (rfl))
    | succ d ih =>
      intro i s hi hs
      have hi9 : i < (W (16, 0, 0) 29).toNatClampNeg := by omega
      refine rb_iload C dX8_minutesOf_6 rfl ?_
      refine rb_aload_n C dX8_minutesOf_8 rfl ?_
      refine rw_getI C FR_X8_169 dX8_minutesOf_9 rfl (x := (W (16, 0, 0) 29)) (rfl) ?_
      refine rb_icmp_ge C 59 dX8_minutesOf_12 (by decide) (fun h9 => absurd h9 ((cnt_nle hM.2.2.2.2.2.2.2.2.2.1 (by decide) hi9))) (fun _ => ?_)
      refine rb_iload C dX8_minutesOf_15 rfl ?_
      refine rb_aload_n C dX8_minutesOf_17 rfl ?_
      refine rb_iload C dX8_minutesOf_18 rfl ?_
      refine rb_iload_n C dX8_minutesOf_20 rfl ?_
      refine rb_iload_n C dX8_minutesOf_21 rfl ?_
      refine rb_callV C M_X8_188 (fun l X => (k_X8_isOf l X G W (nI i) visited its hm (vp_in_nI (show i < 400 by have hc8 := vp_in_lt hM.2.2.2.2.2.2.2.2.2.1; omega) (by decide))).m) rfl (Nat.le_of_ble_eq_true rfl) rfl dX8_minutesOf_22 rfl rfl rfl (Nat.le_of_ble_eq_true rfl) ⟨(Nat.le_of_ble_eq_true rfl), (Nat.le_of_ble_eq_true rfl)⟩ (Nat.le_of_ble_eq_true rfl) (Nat.le_of_ble_eq_true rfl) (fun v G' hp => ?_) (fun _ _ hp => hp.elim)
      obtain ⟨rfl, e9⟩ := hp
      rw [e9]
      clear e9 G'
      refine rb_if_eq C 49 dX8_minutesOf_25 (by decide) (fun h25 => ?_) (fun h25 => ?_)
      · refine rb_iconst C dX8_minutesOf_49 (v := 0) (by decide) ?_
        refine rb_iadd C dX8_minutesOf_50 ?_
        refine rb_istore C dX8_minutesOf_51 (Nat.le_of_ble_eq_true rfl) rfl (Lv' := [_, _, _, _, _, _]) rfl ?_
        refine rb_iinc C dX8_minutesOf_53 rfl (v := _ + 1) rfl rfl (Lv' := [_, _, _, _, _, _]) rfl ?_
        refine rb_goto C 6 dX8_minutesOf_56 (by decide) ?_
        rw [nI_1 i]
        exact ih (i + 1) (s + 0) (by omega) (by rw [fo_s, ← hs]; exact Eq.symm ((if_pos h25).trans (rfl)))
      · refine rb_aload_n C dX8_minutesOf_28 rfl ?_
        refine rw_getP C FR_X8_98 dX8_minutesOf_29 rfl (o := some (14, 35, 0)) (hm.1 35 (by decide)) ?_
        refine rb_iload C dX8_minutesOf_32 rfl ?_
        refine rw_iald C (x := (W (14, 35, 0) i)) 400 i dX8_minutesOf_34 rfl (hm.2 35 (by decide)) (vp_in_nI (show i < 400 by have hc8 := vp_in_lt hM.2.2.2.2.2.2.2.2.2.1; omega) (by decide)) (nI_clamp (show i < 2 ^ 31 by have hc8 := vp_in_lt hM.2.2.2.2.2.2.2.2.2.1; omega)) (rfl) ?_
        refine rb_iload_n C dX8_minutesOf_35 rfl ?_
        refine rb_icmp_ne C 49 dX8_minutesOf_36 (by decide) (fun h36 => ?_) (fun h36 => ?_)
        · refine rb_iconst C dX8_minutesOf_49 (v := 0) (by decide) ?_
          refine rb_iadd C dX8_minutesOf_50 ?_
          refine rb_istore C dX8_minutesOf_51 (Nat.le_of_ble_eq_true rfl) rfl (Lv' := [_, _, _, _, _, _]) rfl ?_
          refine rb_iinc C dX8_minutesOf_53 rfl (v := _ + 1) rfl rfl (Lv' := [_, _, _, _, _, _]) rfl ?_
          refine rb_goto C 6 dX8_minutesOf_56 (by decide) ?_
          rw [nI_1 i]
          exact ih (i + 1) (s + 0) (by omega) (by rw [fo_s, ← hs]; exact Eq.symm ((if_neg h25).trans ((if_neg h36).trans (rfl))))
        · refine rb_aload_n C dX8_minutesOf_39 rfl ?_
          refine rw_getP C FR_X8_89 dX8_minutesOf_40 rfl (o := some (14, 32, 0)) (hm.1 32 (by decide)) ?_
          refine rb_iload C dX8_minutesOf_43 rfl ?_
          refine rw_iald C (x := (W (14, 32, 0) i)) 400 i dX8_minutesOf_45 rfl (hm.2 32 (by decide)) (vp_in_nI (show i < 400 by have hc8 := vp_in_lt hM.2.2.2.2.2.2.2.2.2.1; omega) (by decide)) (nI_clamp (show i < 2 ^ 31 by have hc8 := vp_in_lt hM.2.2.2.2.2.2.2.2.2.1; omega)) (rfl) ?_
          refine rb_goto C 50 dX8_minutesOf_46 (by decide) ?_
          refine rb_iadd C dX8_minutesOf_50 ?_
          refine rb_istore C dX8_minutesOf_51 (Nat.le_of_ble_eq_true rfl) rfl (Lv' := [_, _, _, _, _, _]) rfl ?_
          refine rb_iinc C dX8_minutesOf_53 rfl (v := _ + 1) rfl rfl (Lv' := [_, _, _, _, _, _]) rfl ?_
          refine rb_goto C 6 dX8_minutesOf_56 (by decide) ?_
          rw [nI_1 i]
          exact ih (i + 1) (s + (W (14, 32, 0) i)) (by omega) (by rw [fo_s, ← hs]; exact Eq.symm ((if_neg h25).trans ((if_pos h36).trans (rfl))))
  exact loop (W (16, 0, 0) 29).toNatClampNeg 0 (0 : Int32) (Nat.zero_add _) (fo_0 _ _).symm

def m_reason (W : rb_I) (s : Int32) (n : Int32) : Int32 := (if (m_isIn (W (14, 2, 0) (W (14, 17, 0) s.toNatClampNeg).toNatClampNeg) n) = 0 then (1 : Int32) else (if (W (15, 3, 0) n.toNatClampNeg) = 0 then (if (m_isIn (W (14, 18, 0) s.toNatClampNeg) n) = 0 then (if n = (W (14, 16, 0) s.toNatClampNeg) then (0 : Int32) else (if (m_agreement W (W (14, 16, 0) s.toNatClampNeg) n) = (-1) then (4 : Int32) else (0 : Int32))) else (3 : Int32)) else (2 : Int32)))
set_option maxRecDepth 100000 in
set_option maxHeartbeats 4000000 in
theorem k_X8_reason (l : Launch) (X : rb_X) (G : rb_G) (W : rb_I) (s : Int32) (n : Int32) (hm : MS G) (hM : MI W) (hs : vp_in s 10) (hn : vp_in n 6) : rb_N l X yX8_reason (.code yX8_reason cX8_reason 3 (some .int)) 2 37 0 0 [rbR (16, 0, 0), rbI s, rbI n] (wI G W) (fun v9 G9 => v9 = some (rbI (m_reason W s n)) ∧ G9 = wI G W) := by
  refine rb_startN RX8 rfl (by decide +kernel) rfl (Nat.le_of_ble_eq_true rfl) ?_
  intro Φ C E nm
  show rb_W Φ 0 0 0 [some (rbR (16, 0, 0)), some (rbI s), some (rbI n)] [] (wI G W)
  refine rb_aload_n C dX8_reason_0 rfl ?_
  refine rw_getP C FR_X8_7 dX8_reason_1 rfl (o := some (14, 2, 0)) (hm.1 2 (by decide)) ?_
  refine rb_aload_n C dX8_reason_4 rfl ?_
  refine rw_getP C FR_X8_50 dX8_reason_5 rfl (o := some (14, 17, 0)) (hm.1 17 (by decide)) ?_
  refine rb_iload_n C dX8_reason_8 rfl ?_
  refine rw_iald C (x := (W (14, 17, 0) s.toNatClampNeg)) 10 s.toNatClampNeg dX8_reason_9 rfl (hm.2 17 (by decide)) hs rfl (rfl) ?_
  refine rw_iald C (x := (W (14, 2, 0) (W (14, 17, 0) s.toNatClampNeg).toNatClampNeg)) 8 (W (14, 17, 0) s.toNatClampNeg).toNatClampNeg dX8_reason_10 rfl (hm.2 2 (by decide)) (hM.2.1 s.toNatClampNeg) rfl (rfl) ?_
  refine rb_iload_n C dX8_reason_11 rfl ?_
  refine rb_callS C M_X8_125 (fun l X => (k_X8_isIn l X G W (W (14, 2, 0) (W (14, 17, 0) s.toNatClampNeg).toNatClampNeg) n).m) dX8_reason_12 rfl rfl rfl (Nat.le_of_ble_eq_true rfl) ⟨(Nat.le_of_ble_eq_true rfl), (Nat.le_of_ble_eq_true rfl)⟩ (Nat.le_of_ble_eq_true rfl) (Nat.le_of_ble_eq_true rfl) (fun v G' hp => ?_) (fun _ _ hp => hp.elim)
  obtain ⟨rfl, e9⟩ := hp
  rw [e9]
  clear e9 G'
  refine rb_if_ne C 20 dX8_reason_15 (by decide) (fun h15 => ?_) (fun h15 => ?_)
  · refine rb_aload_n C dX8_reason_20 rfl ?_
    refine rw_getP C FR_X8_13 dX8_reason_21 rfl (o := some (15, 3, 0)) (hm.1 3 (by decide)) ?_
    refine rb_iload_n C dX8_reason_24 rfl ?_
    refine rw_zald C (x := (W (15, 3, 0) n.toNatClampNeg)) 6 n.toNatClampNeg dX8_reason_25 rfl (hm.2 3 (by decide)) hn rfl (rfl) ?_
    refine rb_if_eq C 31 dX8_reason_26 (by decide) (fun h26 => ?_) (fun h26 => ?_)
    · refine rb_aload_n C dX8_reason_31 rfl ?_
      refine rw_getP C FR_X8_53 dX8_reason_32 rfl (o := some (14, 18, 0)) (hm.1 18 (by decide)) ?_
      refine rb_iload_n C dX8_reason_35 rfl ?_
      refine rw_iald C (x := (W (14, 18, 0) s.toNatClampNeg)) 10 s.toNatClampNeg dX8_reason_36 rfl (hm.2 18 (by decide)) hs rfl (rfl) ?_
      refine rb_iload_n C dX8_reason_37 rfl ?_
      refine rb_callS C M_X8_125 (fun l X => (k_X8_isIn l X G W (W (14, 18, 0) s.toNatClampNeg) n).m) dX8_reason_38 rfl rfl rfl (Nat.le_of_ble_eq_true rfl) ⟨(Nat.le_of_ble_eq_true rfl), (Nat.le_of_ble_eq_true rfl)⟩ (Nat.le_of_ble_eq_true rfl) (Nat.le_of_ble_eq_true rfl) (fun v G' hp => ?_) (fun _ _ hp => hp.elim)
      obtain ⟨rfl, e9⟩ := hp
      rw [e9]
      clear e9 G'
      refine rb_if_eq C 48 dX8_reason_41 (by decide) (fun h41 => ?_) (fun h41 => ?_)
      · refine rb_iload_n C dX8_reason_48 rfl ?_
        refine rb_aload_n C dX8_reason_49 rfl ?_
        refine rw_getP C FR_X8_47 dX8_reason_50 rfl (o := some (14, 16, 0)) (hm.1 16 (by decide)) ?_
        refine rb_iload_n C dX8_reason_53 rfl ?_
        refine rw_iald C (x := (W (14, 16, 0) s.toNatClampNeg)) 10 s.toNatClampNeg dX8_reason_54 rfl (hm.2 16 (by decide)) hs rfl (rfl) ?_
        refine rb_icmp_eq C 77 dX8_reason_55 (by decide) (fun h55 => ?_) (fun h55 => ?_)
        · refine rb_iconst C dX8_reason_77 (v := 0) (by decide) ?_
          exact rb_iret C E dX8_reason_78 (Nat.le_of_ble_eq_true rfl) (Nat.le_of_ble_eq_true rfl) (pv_ ((if_neg h15).trans ((if_pos h26).trans ((if_pos h41).trans ((if_pos h55).trans (rfl))))))
        · refine rb_aload_n C dX8_reason_58 rfl ?_
          refine rb_aload_n C dX8_reason_59 rfl ?_
          refine rw_getP C FR_X8_47 dX8_reason_60 rfl (o := some (14, 16, 0)) (hm.1 16 (by decide)) ?_
          refine rb_iload_n C dX8_reason_63 rfl ?_
          refine rw_iald C (x := (W (14, 16, 0) s.toNatClampNeg)) 10 s.toNatClampNeg dX8_reason_64 rfl (hm.2 16 (by decide)) hs rfl (rfl) ?_
          refine rb_iload_n C dX8_reason_65 rfl ?_
          refine rb_callV C M_X8_147 (fun l X => (k_X8_agreement l X G W (W (14, 16, 0) s.toNatClampNeg) n hm hM).m) rfl (Nat.le_of_ble_eq_true rfl) rfl dX8_reason_66 rfl rfl rfl (Nat.le_of_ble_eq_true rfl) ⟨(Nat.le_of_ble_eq_true rfl), (Nat.le_of_ble_eq_true rfl)⟩ (Nat.le_of_ble_eq_true rfl) (Nat.le_of_ble_eq_true rfl) (fun v G' hp => ?_) (fun _ _ hp => hp.elim)
          obtain ⟨rfl, e9⟩ := hp
          rw [e9]
          clear e9 G'
          refine rb_iconst C dX8_reason_69 (v := (-1)) (by decide) ?_
          refine rb_icmp_ne C 77 dX8_reason_70 (by decide) (fun h70 => ?_) (fun h70 => ?_)
          · refine rb_iconst C dX8_reason_77 (v := 0) (by decide) ?_
            exact rb_iret C E dX8_reason_78 (Nat.le_of_ble_eq_true rfl) (Nat.le_of_ble_eq_true rfl) (pv_ ((if_neg h15).trans ((if_pos h26).trans ((if_pos h41).trans ((if_neg h55).trans ((if_neg h70).trans (rfl)))))))
          · refine rb_iconst C dX8_reason_73 (v := 4) (by decide) ?_
            refine rb_goto C 78 dX8_reason_74 (by decide) ?_
            exact rb_iret C E dX8_reason_78 (Nat.le_of_ble_eq_true rfl) (Nat.le_of_ble_eq_true rfl) (pv_ ((if_neg h15).trans ((if_pos h26).trans ((if_pos h41).trans ((if_neg h55).trans ((if_pos h70).trans (rfl)))))))
      · refine rb_iconst C dX8_reason_44 (v := 3) (by decide) ?_
        refine rb_goto C 78 dX8_reason_45 (by decide) ?_
        exact rb_iret C E dX8_reason_78 (Nat.le_of_ble_eq_true rfl) (Nat.le_of_ble_eq_true rfl) (pv_ ((if_neg h15).trans ((if_pos h26).trans ((if_neg h41).trans (rfl)))))
    · refine rb_iconst C dX8_reason_29 (v := 2) (by decide) ?_
      exact rb_iret C E dX8_reason_30 (Nat.le_of_ble_eq_true rfl) (Nat.le_of_ble_eq_true rfl) (pv_ ((if_neg h15).trans ((if_neg h26).trans (rfl))))
  · refine rb_iconst C dX8_reason_18 (v := 1) (by decide) ?_
    exact rb_iret C E dX8_reason_19 (Nat.le_of_ble_eq_true rfl) (Nat.le_of_ble_eq_true rfl) (pv_ ((if_pos h15).trans (rfl)))

def m_isSteered (W : rb_I) (s : Int32) (n : Int32) : Int32 := (if (W (14, 4, 0) (W (14, 16, 0) s.toNatClampNeg).toNatClampNeg) = (-1) then (0 : Int32) else (if (W (14, 4, 0) (W (14, 16, 0) s.toNatClampNeg).toNatClampNeg) = n then (0 : Int32) else (if (m_reason W s (W (14, 4, 0) (W (14, 16, 0) s.toNatClampNeg).toNatClampNeg)) = 0 then (if (2 : Int32) ≤ (W (14, 20, 0) s.toNatClampNeg) then (0 : Int32) else (1 : Int32)) else (0 : Int32))))
theorem z_m_isSteered (W : rb_I) (s : Int32) (n : Int32) : m_isSteered W s n = 0 ∨ m_isSteered W s n = 1 := by
  unfold m_isSteered
  repeat' split
  all_goals first | exact Or.inl rfl | exact Or.inr rfl
set_option maxRecDepth 100000 in
set_option maxHeartbeats 4000000 in
theorem k_X8_isSteered (l : Launch) (X : rb_X) (G : rb_G) (W : rb_I) (s : Int32) (n : Int32) (hm : MS G) (hM : MI W) (hs : vp_in s 10) (hn : vp_in n 6) : rb_N l X yX8_isSteered (.code yX8_isSteered cX8_isSteered 4 (some .boolean)) 3 59 0 0 [rbR (16, 0, 0), rbI s, rbI n] (wI G W) (fun v9 G9 => v9 = some (rbI (m_isSteered W s n)) ∧ G9 = wI G W) := by
  refine rb_startN RX8 rfl (by decide +kernel) rfl (Nat.le_of_ble_eq_true rfl) ?_
  intro Φ C E nm
  show rb_W Φ 0 0 0 [some (rbR (16, 0, 0)), some (rbI s), some (rbI n), none] [] (wI G W)
  refine rb_aload_n C dX8_isSteered_0 rfl ?_
  refine rw_getP C FR_X8_17 dX8_isSteered_1 rfl (o := some (14, 4, 0)) (hm.1 4 (by decide)) ?_
  refine rb_aload_n C dX8_isSteered_4 rfl ?_
  refine rw_getP C FR_X8_47 dX8_isSteered_5 rfl (o := some (14, 16, 0)) (hm.1 16 (by decide)) ?_
  refine rb_iload_n C dX8_isSteered_8 rfl ?_
  refine rw_iald C (x := (W (14, 16, 0) s.toNatClampNeg)) 10 s.toNatClampNeg dX8_isSteered_9 rfl (hm.2 16 (by decide)) hs rfl (rfl) ?_
  refine rw_iald C (x := (W (14, 4, 0) (W (14, 16, 0) s.toNatClampNeg).toNatClampNeg)) 6 (W (14, 16, 0) s.toNatClampNeg).toNatClampNeg dX8_isSteered_10 rfl (hm.2 4 (by decide)) (hM.1 s.toNatClampNeg) rfl (rfl) ?_
  refine rb_istore_n C dX8_isSteered_11 (Nat.le_of_ble_eq_true rfl) rfl (Lv' := [_, _, _, _]) rfl ?_
  refine rb_iload_n C dX8_isSteered_12 rfl ?_
  refine rb_iconst C dX8_isSteered_13 (v := (-1)) (by decide) ?_
  refine rb_icmp_eq C 45 dX8_isSteered_14 (by decide) (fun h14 => ?_) (fun h14 => ?_)
  · refine rb_iconst C dX8_isSteered_45 (v := 0) (by decide) ?_
    exact rb_zret C E dX8_isSteered_46 (rfl) (Nat.le_of_ble_eq_true rfl) (Nat.le_of_ble_eq_true rfl) (pv_ ((if_pos h14).trans (rfl)))
  · refine rb_iload_n C dX8_isSteered_17 rfl ?_
    refine rb_iload_n C dX8_isSteered_18 rfl ?_
    refine rb_icmp_eq C 45 dX8_isSteered_19 (by decide) (fun h19 => ?_) (fun h19 => ?_)
    · refine rb_iconst C dX8_isSteered_45 (v := 0) (by decide) ?_
      exact rb_zret C E dX8_isSteered_46 (rfl) (Nat.le_of_ble_eq_true rfl) (Nat.le_of_ble_eq_true rfl) (pv_ ((if_neg h14).trans ((if_pos h19).trans (rfl))))
    · refine rb_aload_n C dX8_isSteered_22 rfl ?_
      refine rb_iload_n C dX8_isSteered_23 rfl ?_
      refine rb_iload_n C dX8_isSteered_24 rfl ?_
      refine rb_callV C M_X8_151 (fun l X => (k_X8_reason l X G W s (W (14, 4, 0) (W (14, 16, 0) s.toNatClampNeg).toNatClampNeg) hm hM hs ((hM.2.2.2.2.1 (W (14, 16, 0) s.toNatClampNeg).toNatClampNeg).resolve_left h14)).m) rfl (Nat.le_of_ble_eq_true rfl) rfl dX8_isSteered_25 rfl rfl rfl (Nat.le_of_ble_eq_true rfl) ⟨(Nat.le_of_ble_eq_true rfl), (Nat.le_of_ble_eq_true rfl)⟩ (Nat.le_of_ble_eq_true rfl) (Nat.le_of_ble_eq_true rfl) (fun v G' hp => ?_) (fun _ _ hp => hp.elim)
      obtain ⟨rfl, e9⟩ := hp
      rw [e9]
      clear e9 G'
      refine rb_if_ne C 45 dX8_isSteered_28 (by decide) (fun h28 => ?_) (fun h28 => ?_)
      · refine rb_iconst C dX8_isSteered_45 (v := 0) (by decide) ?_
        exact rb_zret C E dX8_isSteered_46 (rfl) (Nat.le_of_ble_eq_true rfl) (Nat.le_of_ble_eq_true rfl) (pv_ ((if_neg h14).trans ((if_neg h19).trans ((if_neg h28).trans (rfl)))))
      · refine rb_aload_n C dX8_isSteered_31 rfl ?_
        refine rw_getP C FR_X8_59 dX8_isSteered_32 rfl (o := some (14, 20, 0)) (hm.1 20 (by decide)) ?_
        refine rb_iload_n C dX8_isSteered_35 rfl ?_
        refine rw_iald C (x := (W (14, 20, 0) s.toNatClampNeg)) 10 s.toNatClampNeg dX8_isSteered_36 rfl (hm.2 20 (by decide)) hs rfl (rfl) ?_
        refine rb_iconst C dX8_isSteered_37 (v := 2) (by decide) ?_
        refine rb_icmp_ge C 45 dX8_isSteered_38 (by decide) (fun h38 => ?_) (fun h38 => ?_)
        · refine rb_iconst C dX8_isSteered_45 (v := 0) (by decide) ?_
          exact rb_zret C E dX8_isSteered_46 (rfl) (Nat.le_of_ble_eq_true rfl) (Nat.le_of_ble_eq_true rfl) (pv_ ((if_neg h14).trans ((if_neg h19).trans ((if_pos h28).trans ((if_pos h38).trans (rfl))))))
        · refine rb_iconst C dX8_isSteered_41 (v := 1) (by decide) ?_
          refine rb_goto C 46 dX8_isSteered_42 (by decide) ?_
          exact rb_zret C E dX8_isSteered_46 (rfl) (Nat.le_of_ble_eq_true rfl) (Nat.le_of_ble_eq_true rfl) (pv_ ((if_neg h14).trans ((if_neg h19).trans ((if_pos h28).trans ((if_neg h38).trans (rfl))))))

