def x0_owed_b (W : rb_I) (cn : Nat → Nat) (ag : Nat → Nat → Int32) (k : Nat) (i : Nat) (s : Int32) : Int32 := (s + (x4_owed W k i (ag k i) (x0_minutesThatAre W cn k (2 : Int32))))
def x0_owed (W : rb_I) (cn : Nat → Nat) (ag : Nat → Nat → Int32) (k : Nat) : Int32 := (fo (x0_owed_b W cn ag k) (cn (10 + k)) (0 : Int32))
set_option maxRecDepth 100000 in
set_option maxHeartbeats 4000000 in
theorem k_X0_owed (l : Launch) (X : rb_X) (G : rb_G) (W : rb_I) (cn : Nat → Nat) (ag : Nat → Nat → Int32) (hG : xCS G cn ag) (k : Nat) (hk : k < 36) (hw : W (4, 10 + k, 0) 2 = nI (cn (10 + k))) (hc9 : cn (10 + k) ≤ 400) : rb_N l X yX0_owed (.code yX0_owed cX0_owed 4 (some .int)) 5 100 0 0 [rbR (8, k, 0)] (wI G W) (fun v9 G9 => v9 = some (rbI (x0_owed W cn ag k)) ∧ G9 = wI G W) := by
  refine rb_startN RX0 rfl (by decide +kernel) rfl (Nat.le_of_ble_eq_true rfl) ?_
  intro Φ C E nm
  show rb_W Φ 0 0 0 [some (rbR (8, k, 0)), none, none, none] [] (wI G W)
  refine rb_aload_n C dX0_owed_0 rfl ?_
  refine rb_iconst C dX0_owed_1 (v := 2) (by decide) ?_
  refine rb_callV C M_X0_35 (fun l X => (k_X0_minutesThatAre l X G W cn ag hG k (2 : Int32) hk (hw) hc9).m) rfl (Nat.le_of_ble_eq_true rfl) rfl dX0_owed_2 rfl rfl rfl (Nat.le_of_ble_eq_true rfl) ⟨(Nat.le_of_ble_eq_true rfl), (Nat.le_of_ble_eq_true rfl)⟩ (Nat.le_of_ble_eq_true rfl) (Nat.le_of_ble_eq_true rfl) (fun v G' hp => ?_) (fun _ _ hp => hp.elim)
  obtain ⟨rfl, e9⟩ := hp
  rw [e9]
  clear e9 G'
  refine rb_istore_n C dX0_owed_5 (Nat.le_of_ble_eq_true rfl) rfl (Lv' := [_, _, _, _]) rfl ?_
  refine rb_iconst C dX0_owed_6 (v := 0) (by decide) ?_
  refine rb_istore_n C dX0_owed_7 (Nat.le_of_ble_eq_true rfl) rfl (Lv' := [_, _, _, _]) rfl ?_
  refine rb_iconst C dX0_owed_8 (v := 0) (by decide) ?_
  refine rb_istore_n C dX0_owed_9 (Nat.le_of_ble_eq_true rfl) rfl (Lv' := [_, _, _, _]) rfl ?_
  have loop : ∀ (d i : Nat) (s : Int32), i + d = (cn (10 + k)) → s = fo (x0_owed_b W cn ag k) i (0 : Int32) → rb_W Φ 0 0 10 [some (rbR (8, k, 0)), some (rbI (x0_minutesThatAre W cn k (2 : Int32))), some (rbI s), some (rbI (nI i))] [] (wI G W) := by
    intro d
    induction d with
    | zero =>
      intro i s hi hs
      obtain rfl : i = (cn (10 + k)) := by omega
      subst hs
      refine rb_iload_n C dX0_owed_10 rfl ?_
      refine rb_aload_n C dX0_owed_11 rfl ?_
      refine rw_getP C FR_X0_12 dX0_owed_12 rfl (o := some (4, (10 + k), 0)) (hG.2.2.2.2.2.1 k hk) ?_
      refine rb_callV C M_X0_18 (fun l X => (k_size l X G W (4, (10 + k), 0) (nI (cn (10 + k))) rfl (hw)).m) rfl (Nat.le_of_ble_eq_true rfl) rfl dX0_owed_15 rfl rfl rfl (Nat.le_of_ble_eq_true rfl) ⟨(Nat.le_of_ble_eq_true rfl), (Nat.le_of_ble_eq_true rfl)⟩ (Nat.le_of_ble_eq_true rfl) (Nat.le_of_ble_eq_true rfl) (fun v G' hp => ?_) (fun _ _ hp => hp.elim)
      obtain ⟨rfl, e9⟩ := hp
      rw [e9]
      clear e9 G'
      refine rb_icmp_ge C 45 dX0_owed_18 (by decide) (fun _ => ?_) (fun h9 => absurd ((nI_le (a := cn (10 + k)) (b := cn (10 + k)) (Nat.le_refl _) (by omega))) h9)
      refine rb_iload_n C dX0_owed_45 rfl ?_
      exact rb_iret C E dX0_owed_46 (Nat.le_of_ble_eq_true rfl) (Nat.le_of_ble_eq_true rfl) (pv_ (rfl))
    | succ d ih =>
      intro i s hi hs
      have hi9 : i < (cn (10 + k)) := by omega
      refine rb_iload_n C dX0_owed_10 rfl ?_
      refine rb_aload_n C dX0_owed_11 rfl ?_
      refine rw_getP C FR_X0_12 dX0_owed_12 rfl (o := some (4, (10 + k), 0)) (hG.2.2.2.2.2.1 k hk) ?_
      refine rb_callV C M_X0_18 (fun l X => (k_size l X G W (4, (10 + k), 0) (nI (cn (10 + k))) rfl (hw)).m) rfl (Nat.le_of_ble_eq_true rfl) rfl dX0_owed_15 rfl rfl rfl (Nat.le_of_ble_eq_true rfl) ⟨(Nat.le_of_ble_eq_true rfl), (Nat.le_of_ble_eq_true rfl)⟩ (Nat.le_of_ble_eq_true rfl) (Nat.le_of_ble_eq_true rfl) (fun v G' hp => ?_) (fun _ _ hp => hp.elim)
      obtain ⟨rfl, e9⟩ := hp
      rw [e9]
      clear e9 G'
      refine rb_icmp_ge C 45 dX0_owed_18 (by decide) (fun h9 => absurd h9 ((nI_ge (a := i) (b := cn (10 + k)) hi9 (by omega)))) (fun _ => ?_)
      refine rb_iload_n C dX0_owed_21 rfl ?_
      refine rb_aload_n C dX0_owed_22 rfl ?_
      refine rw_getP C FR_X0_12 dX0_owed_23 rfl (o := some (4, (10 + k), 0)) (hG.2.2.2.2.2.1 k hk) ?_
      refine rb_iload_n C dX0_owed_26 rfl ?_
      refine rb_callV C M_X0_22 (fun l X => (k_get l X G W (10 + k) (cn (10 + k)) i (nI i) (fun j => (12, k, j)) (hG.2.2.2.2.2.2.2.2.2.1 k hk) (hw) rfl hi9 (by omega)).m) rfl (Nat.le_of_ble_eq_true rfl) rfl dX0_owed_27 rfl rfl rfl (Nat.le_of_ble_eq_true rfl) ⟨(Nat.le_of_ble_eq_true rfl), (Nat.le_of_ble_eq_true rfl)⟩ (Nat.le_of_ble_eq_true rfl) (Nat.le_of_ble_eq_true rfl) (fun v G' hp => ?_) (fun _ _ hp => hp.elim)
      obtain ⟨rfl, e9⟩ := hp
      rw [e9]
      clear e9 G'
      refine rb_cast C (ci := 5) L_X0_26 rfl (by decide) dX0_owed_30 rfl ?_
      refine rb_iload_n C dX0_owed_33 rfl ?_
      refine rb_callV C M_X0_52 (fun l X => (k_X4_owed l X G W k i (ag k i) (x0_minutesThatAre W cn k (2 : Int32)) (hG.2.2.2.2.2.2.2.2.2.2.1 k i hk hi9).1).m) rfl (Nat.le_of_ble_eq_true rfl) rfl dX0_owed_34 rfl rfl rfl (Nat.le_of_ble_eq_true rfl) ⟨(Nat.le_of_ble_eq_true rfl), (Nat.le_of_ble_eq_true rfl)⟩ (Nat.le_of_ble_eq_true rfl) (Nat.le_of_ble_eq_true rfl) (fun v G' hp => ?_) (fun _ _ hp => hp.elim)
      obtain ⟨rfl, e9⟩ := hp
      rw [e9]
      clear e9 G'
      refine rb_iadd C dX0_owed_37 ?_
      refine rb_istore_n C dX0_owed_38 (Nat.le_of_ble_eq_true rfl) rfl (Lv' := [_, _, _, _]) rfl ?_
      refine rb_iinc C dX0_owed_39 rfl (v := _ + 1) rfl rfl (Lv' := [_, _, _, _]) rfl ?_
      refine rb_goto C 10 dX0_owed_42 (by decide) ?_
      rw [nI_1 i]
      exact ih (i + 1) (s + (x4_owed W k i (ag k i) (x0_minutesThatAre W cn k (2 : Int32)))) (by omega) (by rw [fo_s, ← hs]; exact Eq.symm (rfl))
  exact loop (cn (10 + k)) 0 (0 : Int32) (Nat.zero_add _) (fo_0 _ _).symm

def x0_owedIn_b (W : rb_I) (ag : Nat → Nat → Int32) (k : Nat) (fl : Int32) (mt : Int32) (i : Nat) (s : Int32) : Int32 := (if (W (12, k, i) 4) = fl then (s + (x4_owed W k i (ag k i) mt)) else s)
def x0_owedIn (W : rb_I) (cn : Nat → Nat) (ag : Nat → Nat → Int32) (k : Nat) (fl : Int32) (mt : Int32) : Int32 := (fo (x0_owedIn_b W ag k fl mt) (cn (10 + k)) (0 : Int32))
set_option maxRecDepth 100000 in
set_option maxHeartbeats 4000000 in
theorem k_X0_owedIn (l : Launch) (X : rb_X) (G : rb_G) (W : rb_I) (cn : Nat → Nat) (ag : Nat → Nat → Int32) (hG : xCS G cn ag) (k : Nat) (fl : Int32) (mt : Int32) (hk : k < 36) (hw : W (4, 10 + k, 0) 2 = nI (cn (10 + k))) (hc9 : cn (10 + k) ≤ 400) : rb_N l X yX0_owedIn (.code yX0_owedIn cX0_owedIn 6 (some .int)) 4 76 0 0 [rbR (8, k, 0), rbI fl, rbI mt] (wI G W) (fun v9 G9 => v9 = some (rbI (x0_owedIn W cn ag k fl mt)) ∧ G9 = wI G W) := by
  refine rb_startN RX0 rfl (by decide +kernel) rfl (Nat.le_of_ble_eq_true rfl) ?_
  intro Φ C E nm
  show rb_W Φ 0 0 0 [some (rbR (8, k, 0)), some (rbI fl), some (rbI mt), none, none, none] [] (wI G W)
  refine rb_iconst C dX0_owedIn_0 (v := 0) (by decide) ?_
  refine rb_istore_n C dX0_owedIn_1 (Nat.le_of_ble_eq_true rfl) rfl (Lv' := [_, _, _, _, _, _]) rfl ?_
  refine rb_iconst C dX0_owedIn_2 (v := 0) (by decide) ?_
  refine rb_istore C dX0_owedIn_3 (Nat.le_of_ble_eq_true rfl) rfl (Lv' := [_, _, _, _, _, _]) rfl ?_
  have loop : ∀ (d i : Nat) (s : Int32), i + d = (cn (10 + k)) → s = fo (x0_owedIn_b W ag k fl mt) i (0 : Int32) → rb_W Φ 0 0 5 [some (rbR (8, k, 0)), some (rbI fl), some (rbI mt), some (rbI s), some (rbI (nI i)), none] [] (wI G W) := by
    intro d
    induction d with
    | zero =>
      intro i s hi hs
      obtain rfl : i = (cn (10 + k)) := by omega
      subst hs
      refine rb_iload C dX0_owedIn_5 rfl ?_
      refine rb_aload_n C dX0_owedIn_7 rfl ?_
      refine rw_getP C FR_X0_12 dX0_owedIn_8 rfl (o := some (4, (10 + k), 0)) (hG.2.2.2.2.2.1 k hk) ?_
      refine rb_callV C M_X0_18 (fun l X => (k_size l X G W (4, (10 + k), 0) (nI (cn (10 + k))) rfl (hw)).m) rfl (Nat.le_of_ble_eq_true rfl) rfl dX0_owedIn_11 rfl rfl rfl (Nat.le_of_ble_eq_true rfl) ⟨(Nat.le_of_ble_eq_true rfl), (Nat.le_of_ble_eq_true rfl)⟩ (Nat.le_of_ble_eq_true rfl) (Nat.le_of_ble_eq_true rfl) (fun v G' hp => ?_) (fun _ _ hp => hp.elim)
      obtain ⟨rfl, e9⟩ := hp
      rw [e9]
      clear e9 G'
      refine rb_icmp_ge C 55 dX0_owedIn_14 (by decide) (fun _ => ?_) (fun h9 => absurd ((nI_le (a := cn (10 + k)) (b := cn (10 + k)) (Nat.le_refl _) (by omega))) h9)
      refine rb_iload_n C dX0_owedIn_55 rfl ?_
      exact rb_iret C E dX0_owedIn_56 (Nat.le_of_ble_eq_true rfl) (Nat.le_of_ble_eq_true rfl) (pv_ (rfl))
    | succ d ih =>
      intro i s hi hs
      have hi9 : i < (cn (10 + k)) := by omega
      refine rb_iload C dX0_owedIn_5 rfl ?_
      refine rb_aload_n C dX0_owedIn_7 rfl ?_
      refine rw_getP C FR_X0_12 dX0_owedIn_8 rfl (o := some (4, (10 + k), 0)) (hG.2.2.2.2.2.1 k hk) ?_
      refine rb_callV C M_X0_18 (fun l X => (k_size l X G W (4, (10 + k), 0) (nI (cn (10 + k))) rfl (hw)).m) rfl (Nat.le_of_ble_eq_true rfl) rfl dX0_owedIn_11 rfl rfl rfl (Nat.le_of_ble_eq_true rfl) ⟨(Nat.le_of_ble_eq_true rfl), (Nat.le_of_ble_eq_true rfl)⟩ (Nat.le_of_ble_eq_true rfl) (Nat.le_of_ble_eq_true rfl) (fun v G' hp => ?_) (fun _ _ hp => hp.elim)
      obtain ⟨rfl, e9⟩ := hp
      rw [e9]
      clear e9 G'
      refine rb_icmp_ge C 55 dX0_owedIn_14 (by decide) (fun h9 => absurd h9 ((nI_ge (a := i) (b := cn (10 + k)) hi9 (by omega)))) (fun _ => ?_)
      refine rb_aload_n C dX0_owedIn_17 rfl ?_
      refine rw_getP C FR_X0_12 dX0_owedIn_18 rfl (o := some (4, (10 + k), 0)) (hG.2.2.2.2.2.1 k hk) ?_
      refine rb_iload C dX0_owedIn_21 rfl ?_
      refine rb_callV C M_X0_22 (fun l X => (k_get l X G W (10 + k) (cn (10 + k)) i (nI i) (fun j => (12, k, j)) (hG.2.2.2.2.2.2.2.2.2.1 k hk) (hw) rfl hi9 (by omega)).m) rfl (Nat.le_of_ble_eq_true rfl) rfl dX0_owedIn_23 rfl rfl rfl (Nat.le_of_ble_eq_true rfl) ⟨(Nat.le_of_ble_eq_true rfl), (Nat.le_of_ble_eq_true rfl)⟩ (Nat.le_of_ble_eq_true rfl) (Nat.le_of_ble_eq_true rfl) (fun v G' hp => ?_) (fun _ _ hp => hp.elim)
      obtain ⟨rfl, e9⟩ := hp
      rw [e9]
      clear e9 G'
      refine rb_cast C (ci := 5) L_X0_26 rfl (by decide) dX0_owedIn_26 rfl ?_
      refine rb_astore C dX0_owedIn_29 (Nat.le_of_ble_eq_true rfl) rfl (Lv' := [_, _, _, _, _, _]) rfl ?_
      refine rb_aload C dX0_owedIn_31 rfl ?_
      refine rw_getI C FR_X0_42 dX0_owedIn_33 rfl (x := (W (12, k, i) 4)) (rfl) ?_
      refine rb_iload_n C dX0_owedIn_36 rfl ?_
      refine rb_icmp_ne C 49 dX0_owedIn_37 (by decide) (fun h37 => ?_) (fun h37 => ?_)
      · refine rb_iinc C dX0_owedIn_49 rfl (v := _ + 1) rfl rfl (Lv' := [_, _, _, _, _, _]) rfl ?_
        refine rb_goto C 5 dX0_owedIn_52 (by decide) ?_
        refine rb_W.unset 5 ?_
        rw [nI_1 i]
        exact ih (i + 1) s (by omega) (by rw [fo_s, ← hs]; exact Eq.symm ((if_neg h37).trans (rfl)))
      · refine rb_iload_n C dX0_owedIn_40 rfl ?_
        refine rb_aload C dX0_owedIn_41 rfl ?_
        refine rb_iload_n C dX0_owedIn_43 rfl ?_
        refine rb_callV C M_X0_52 (fun l X => (k_X4_owed l X G W k i (ag k i) mt (hG.2.2.2.2.2.2.2.2.2.2.1 k i hk hi9).1).m) rfl (Nat.le_of_ble_eq_true rfl) rfl dX0_owedIn_44 rfl rfl rfl (Nat.le_of_ble_eq_true rfl) ⟨(Nat.le_of_ble_eq_true rfl), (Nat.le_of_ble_eq_true rfl)⟩ (Nat.le_of_ble_eq_true rfl) (Nat.le_of_ble_eq_true rfl) (fun v G' hp => ?_) (fun _ _ hp => hp.elim)
        obtain ⟨rfl, e9⟩ := hp
        rw [e9]
        clear e9 G'
        refine rb_iadd C dX0_owedIn_47 ?_
        refine rb_istore_n C dX0_owedIn_48 (Nat.le_of_ble_eq_true rfl) rfl (Lv' := [_, _, _, _, _, _]) rfl ?_
        refine rb_iinc C dX0_owedIn_49 rfl (v := _ + 1) rfl rfl (Lv' := [_, _, _, _, _, _]) rfl ?_
        refine rb_goto C 5 dX0_owedIn_52 (by decide) ?_
        refine rb_W.unset 5 ?_
        rw [nI_1 i]
        exact ih (i + 1) (s + (x4_owed W k i (ag k i) mt)) (by omega) (by rw [fo_s, ← hs]; exact Eq.symm ((if_pos h37).trans (rfl)))
  exact loop (cn (10 + k)) 0 (0 : Int32) (Nat.zero_add _) (fo_0 _ _).symm

def x0_ofa_b (W : rb_I) (cn : Nat → Nat) (k : Nat) (i : Nat) (s : Int32) : Int32 := (s + (x0_minutesTakenIn W cn k (nI i)))
def x0_ofb_b (W : rb_I) (cn : Nat → Nat) (ag : Nat → Nat → Int32) (k : Nat) (i : Nat) (s : Int32) : Int32 := (s + (x0_owedIn W cn ag k (nI i) (fo (x0_ofa_b W cn k) (W (8, k, 0) 2).toNatClampNeg (0 : Int32))))
def x0_owedFileByFile (W : rb_I) (cn : Nat → Nat) (ag : Nat → Nat → Int32) (k : Nat) : Int32 := (fo (x0_ofb_b W cn ag k) (W (8, k, 0) 2).toNatClampNeg (0 : Int32))
set_option maxRecDepth 100000 in
set_option maxHeartbeats 4000000 in
theorem k_X0_owedFileByFile (l : Launch) (X : rb_X) (G : rb_G) (W : rb_I) (cn : Nat → Nat) (ag : Nat → Nat → Int32) (hG : xCS G cn ag) (k : Nat) (hk : k < 36) (hw : W (4, 10 + k, 0) 2 = nI (cn (10 + k))) (hc9 : cn (10 + k) ≤ 400) (ht : vp_in (W (8, k, 0) 2) 100) : rb_N l X yX0_owedFileByFile (.code yX0_owedFileByFile cX0_owedFileByFile 4 (some .int)) 5 101 0 0 [rbR (8, k, 0)] (wI G W) (fun v9 G9 => v9 = some (rbI (x0_owedFileByFile W cn ag k)) ∧ G9 = wI G W) := by
  refine rb_startN RX0 rfl (by decide +kernel) rfl (Nat.le_of_ble_eq_true rfl) ?_
  intro Φ C E nm
  show rb_W Φ 0 0 0 [some (rbR (8, k, 0)), none, none, none] [] (wI G W)
  refine rb_iconst C dX0_owedFileByFile_0 (v := 0) (by decide) ?_
  refine rb_istore_n C dX0_owedFileByFile_1 (Nat.le_of_ble_eq_true rfl) rfl (Lv' := [_, _, _, _]) rfl ?_
  refine rb_iconst C dX0_owedFileByFile_2 (v := 0) (by decide) ?_
  refine rb_istore_n C dX0_owedFileByFile_3 (Nat.le_of_ble_eq_true rfl) rfl (Lv' := [_, _, _, _]) rfl ?_
  have loop : ∀ (d i : Nat) (s : Int32), i + d = (W (8, k, 0) 2).toNatClampNeg → s = fo (x0_ofa_b W cn k) i (0 : Int32) → rb_W Φ 0 0 4 [some (rbR (8, k, 0)), some (rbI s), some (rbI (nI i)), none] [] (wI G W) := by
    intro d
    induction d with
    | zero =>
      intro i s hi hs
      obtain rfl : i = (W (8, k, 0) 2).toNatClampNeg := by omega
      subst hs
      refine rb_iload_n C dX0_owedFileByFile_4 rfl ?_
      refine rb_aload_n C dX0_owedFileByFile_5 rfl ?_
      refine rw_getI C FR_X0_45 dX0_owedFileByFile_6 rfl (x := (W (8, k, 0) 2)) (rfl) ?_
      refine rb_icmp_ge C 26 dX0_owedFileByFile_9 (by decide) (fun _ => ?_) (fun h9 => absurd ((cnt_le ht)) h9)
      refine rb_iconst C dX0_owedFileByFile_26 (v := 0) (by decide) ?_
      refine rb_istore_n C dX0_owedFileByFile_27 (Nat.le_of_ble_eq_true rfl) rfl (Lv' := [_, _, _, _]) rfl ?_
      refine rb_iconst C dX0_owedFileByFile_28 (v := 0) (by decide) ?_
      refine rb_istore_n C dX0_owedFileByFile_29 (Nat.le_of_ble_eq_true rfl) rfl (Lv' := [_, _, _, _]) rfl ?_
      have loop : ∀ (d i : Nat) (s : Int32), i + d = (W (8, k, 0) 2).toNatClampNeg → s = fo (x0_ofb_b W cn ag k) i (0 : Int32) → rb_W Φ 0 0 30 [some (rbR (8, k, 0)), some (rbI (fo (x0_ofa_b W cn k) (W (8, k, 0) 2).toNatClampNeg (0 : Int32))), some (rbI s), some (rbI (nI i))] [] (wI G W) := by
        intro d
        induction d with
        | zero =>
          intro i s hi hs
          obtain rfl : i = (W (8, k, 0) 2).toNatClampNeg := by omega
          subst hs
          refine rb_iload_n C dX0_owedFileByFile_30 rfl ?_
          refine rb_aload_n C dX0_owedFileByFile_31 rfl ?_
          refine rw_getI C FR_X0_45 dX0_owedFileByFile_32 rfl (x := (W (8, k, 0) 2)) (rfl) ?_
          refine rb_icmp_ge C 53 dX0_owedFileByFile_35 (by decide) (fun _ => ?_) (fun h9 => absurd ((cnt_le ht)) h9)
          refine rb_iload_n C dX0_owedFileByFile_53 rfl ?_
          exact rb_iret C E dX0_owedFileByFile_54 (Nat.le_of_ble_eq_true rfl) (Nat.le_of_ble_eq_true rfl) (pv_ (rfl))
        | succ d ih =>
          intro i s hi hs
          have hi9 : i < (W (8, k, 0) 2).toNatClampNeg := by omega
          refine rb_iload_n C dX0_owedFileByFile_30 rfl ?_
          refine rb_aload_n C dX0_owedFileByFile_31 rfl ?_
          refine rw_getI C FR_X0_45 dX0_owedFileByFile_32 rfl (x := (W (8, k, 0) 2)) (rfl) ?_
          refine rb_icmp_ge C 53 dX0_owedFileByFile_35 (by decide) (fun h9 => absurd h9 ((cnt_nle ht (by decide) hi9))) (fun _ => ?_)
          refine rb_iload_n C dX0_owedFileByFile_38 rfl ?_
          refine rb_aload_n C dX0_owedFileByFile_39 rfl ?_
          refine rb_iload_n C dX0_owedFileByFile_40 rfl ?_
          refine rb_iload_n C dX0_owedFileByFile_41 rfl ?_
          refine rb_callV C M_X0_58 (fun l X => (k_X0_owedIn l X G W cn ag hG k (nI i) (fo (x0_ofa_b W cn k) (W (8, k, 0) 2).toNatClampNeg (0 : Int32)) hk (hw) hc9).m) rfl (Nat.le_of_ble_eq_true rfl) rfl dX0_owedFileByFile_42 rfl rfl rfl (Nat.le_of_ble_eq_true rfl) ⟨(Nat.le_of_ble_eq_true rfl), (Nat.le_of_ble_eq_true rfl)⟩ (Nat.le_of_ble_eq_true rfl) (Nat.le_of_ble_eq_true rfl) (fun v G' hp => ?_) (fun _ _ hp => hp.elim)
          obtain ⟨rfl, e9⟩ := hp
          rw [e9]
          clear e9 G'
          refine rb_iadd C dX0_owedFileByFile_45 ?_
          refine rb_istore_n C dX0_owedFileByFile_46 (Nat.le_of_ble_eq_true rfl) rfl (Lv' := [_, _, _, _]) rfl ?_
          refine rb_iinc C dX0_owedFileByFile_47 rfl (v := _ + 1) rfl rfl (Lv' := [_, _, _, _]) rfl ?_
          refine rb_goto C 30 dX0_owedFileByFile_50 (by decide) ?_
          rw [nI_1 i]
          exact ih (i + 1) (s + (x0_owedIn W cn ag k (nI i) (fo (x0_ofa_b W cn k) (W (8, k, 0) 2).toNatClampNeg (0 : Int32)))) (by omega) (by rw [fo_s, ← hs]; exact Eq.symm (rfl))
      exact loop (W (8, k, 0) 2).toNatClampNeg 0 (0 : Int32) (Nat.zero_add _) (fo_0 _ _).symm
    | succ d ih =>
      intro i s hi hs
      have hi9 : i < (W (8, k, 0) 2).toNatClampNeg := by omega
      refine rb_iload_n C dX0_owedFileByFile_4 rfl ?_
      refine rb_aload_n C dX0_owedFileByFile_5 rfl ?_
      refine rw_getI C FR_X0_45 dX0_owedFileByFile_6 rfl (x := (W (8, k, 0) 2)) (rfl) ?_
      refine rb_icmp_ge C 26 dX0_owedFileByFile_9 (by decide) (fun h9 => absurd h9 ((cnt_nle ht (by decide) hi9))) (fun _ => ?_)
      refine rb_iload_n C dX0_owedFileByFile_12 rfl ?_
      refine rb_aload_n C dX0_owedFileByFile_13 rfl ?_
      refine rb_iload_n C dX0_owedFileByFile_14 rfl ?_
      refine rb_callV C M_X0_55 (fun l X => (k_X0_minutesTakenIn l X G W cn ag hG k (nI i) hk (hw) hc9).m) rfl (Nat.le_of_ble_eq_true rfl) rfl dX0_owedFileByFile_15 rfl rfl rfl (Nat.le_of_ble_eq_true rfl) ⟨(Nat.le_of_ble_eq_true rfl), (Nat.le_of_ble_eq_true rfl)⟩ (Nat.le_of_ble_eq_true rfl) (Nat.le_of_ble_eq_true rfl) (fun v G' hp => ?_) (fun _ _ hp => hp.elim)
      obtain ⟨rfl, e9⟩ := hp
      rw [e9]
      clear e9 G'
      refine rb_iadd C dX0_owedFileByFile_18 ?_
      refine rb_istore_n C dX0_owedFileByFile_19 (Nat.le_of_ble_eq_true rfl) rfl (Lv' := [_, _, _, _]) rfl ?_
      refine rb_iinc C dX0_owedFileByFile_20 rfl (v := _ + 1) rfl rfl (Lv' := [_, _, _, _]) rfl ?_
      refine rb_goto C 4 dX0_owedFileByFile_23 (by decide) ?_
      rw [nI_1 i]
      exact ih (i + 1) (s + (x0_minutesTakenIn W cn k (nI i))) (by omega) (by rw [fo_s, ← hs]; exact Eq.symm (rfl))
  exact loop (W (8, k, 0) 2).toNatClampNeg 0 (0 : Int32) (Nat.zero_add _) (fo_0 _ _).symm

