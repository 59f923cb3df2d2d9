def x7_hm (a b : Nat) : Nat := if b < a + 11 then b else a + 11
def x7_hr_b (cn : Nat → Nat) (a : Nat) (i : Nat) (s : rb_I) : rb_I := x7_beginHour s cn (nI ((a + i) * 60))
def x7_beginHours (W : rb_I) (cn : Nat → Nat) (a b : Nat) : rb_I := if x7_hm a b < b then x7_beginHour (fo (x7_hr_b cn a) (x7_hm a b + 1 - a) W) cn (nI (b * 60)) else fo (x7_hr_b cn a) (x7_hm a b + 1 - a) W
set_option maxRecDepth 100000 in
set_option maxHeartbeats 4000000 in
theorem k_X7_beginHours (l : Launch) (X : rb_X) (G : rb_G) (W : rb_I) (cn : Nat → Nat) (ag : Nat → Nat → Int32) (hG : xCS G cn ag) (a b : Nat) (hI : xCI W cn) (ha : a < 1000000) (hb : b < 1000000) : rb_N l X yX7_beginHours (.code yX7_beginHours cX7_beginHours 5 none) 6 122 0 0 [rbR (0, 0, 0), rbI (nI a), rbI (nI b)] (wI G W) (fun v9 G9 => v9 = none ∧ G9 = wI G (x7_beginHours W cn a b)) := by
  have hm9 : x7_hm a b ≤ b ∧ x7_hm a b ≤ a + 11 ∧ (x7_hm a b = b ∨ x7_hm a b = a + 11) := by
    unfold x7_hm
    split <;> omega
  have min9 : (if nI (a + 11) < nI b then nI (a + 11) else nI b) = nI (x7_hm a b) := by
    unfold x7_hm
    by_cases h : a + 11 < b
    · rw [if_pos (nI_lt h (by omega)), if_neg (by omega)]
    · rw [if_neg (nI_nlt (by omega) (by omega))]
      split
      · rfl
      · congr 1
        omega
  refine rb_startN RX7 rfl (by decide +kernel) rfl (Nat.le_of_ble_eq_true rfl) ?_
  intro Φ C E nm
  show rb_W Φ 0 0 0 [some (rbR (0, 0, 0)), some (rbI (nI a)), some (rbI (nI b)), none, none] [] (wI G W)
  have loop : ∀ (d i : Nat) (s : rb_I), i + d = (x7_hm a b + 1 - a) → s = fo (x7_hr_b cn a) i W → rb_W Φ 0 0 14 [some (rbR (0, 0, 0)), some (rbI (nI a)), some (rbI (nI b)), some (rbI (nI (x7_hm a b))), some (rbI (nI (a + i)))] [] (wI G s) := by
    intro d
    induction d with
    | zero =>
      intro i s hi hs
      have hIs : xCI s cn := by
        rw [hs]
        exact fo_inv (f := (x7_hr_b cn a)) (a := W) (P := fun w => xCI w cn) hI (fun i a h => ci_bh h) _
      have hi9 : i = (x7_hm a b + 1 - a) := by omega
      rw [hi9] at hs
      subst hs
      refine rb_iload C dX7_beginHours_14 rfl ?_
      refine rb_iload_n C dX7_beginHours_16 rfl ?_
      refine rb_icmp_gt C 35 dX7_beginHours_17 (by decide) (fun _ => ?_) (fun h9 => absurd (nI_lt (by omega) (by omega)) h9)
      refine rb_iload_n C dX7_beginHours_35 rfl ?_
      refine rb_iload_n C dX7_beginHours_36 rfl ?_
      refine rb_icmp_ge C 48 dX7_beginHours_37 (by decide) (fun h37 => ?_) (fun h37 => ?_)
      · exact rb_vret C E dX7_beginHours_48 (Nat.le_of_ble_eq_true rfl) (Nat.le_of_ble_eq_true rfl) (pw_ (if_neg (fun q => absurd h37 (nI_ge q (by omega)))))
      · refine rb_aload_n C dX7_beginHours_40 rfl ?_
        refine rb_iload_n C dX7_beginHours_41 rfl ?_
        refine rb_bipush C dX7_beginHours_42 (v := 60) (by decide) ?_
        refine rb_imul C dX7_beginHours_44 ?_
        rw [show (60 : Int32) = nI 60 from rfl, pk_mul]
        refine rb_callV C M_X7_311 (fun l X => (k_X7_beginHour l X G (fo (x7_hr_b cn a) (x7_hm a b + 1 - a) W) cn ag hG (nI (b * 60)) hIs).m) rfl (Nat.le_of_ble_eq_true rfl) rfl dX7_beginHours_45 rfl rfl rfl (Nat.le_of_ble_eq_true rfl) ⟨(Nat.le_of_ble_eq_true rfl), (Nat.le_of_ble_eq_true rfl)⟩ (Nat.le_of_ble_eq_true rfl) (Nat.le_of_ble_eq_true rfl) (fun v G' hp => ?_) (fun _ _ hp => hp.elim)
        obtain ⟨rfl, e9⟩ := hp
        rw [e9]
        clear e9 G'
        exact rb_vret C E dX7_beginHours_48 (Nat.le_of_ble_eq_true rfl) (Nat.le_of_ble_eq_true rfl) (pw_ (if_pos ((nI_ltI (by omega) (by omega)).mp (Int32.not_le.mp h37))))
    | succ d ih =>
      intro i s hi hs
      have hIs : xCI s cn := by
        rw [hs]
        exact fo_inv (f := (x7_hr_b cn a)) (a := W) (P := fun w => xCI w cn) hI (fun i a h => ci_bh h) _
      refine rb_iload C dX7_beginHours_14 rfl ?_
      refine rb_iload_n C dX7_beginHours_16 rfl ?_
      refine rb_icmp_gt C 35 dX7_beginHours_17 (by decide) (fun h9 => absurd h9 (nI_nlt (by omega) (by omega))) (fun _ => ?_)
      refine rb_aload_n C dX7_beginHours_20 rfl ?_
      refine rb_iload C dX7_beginHours_21 rfl ?_
      refine rb_bipush C dX7_beginHours_23 (v := 60) (by decide) ?_
      refine rb_imul C dX7_beginHours_25 ?_
      rw [show (60 : Int32) = nI 60 from rfl, pk_mul]
      refine rb_callV C M_X7_311 (fun l X => (k_X7_beginHour l X G s cn ag hG (nI ((a + i) * 60)) hIs).m) rfl (Nat.le_of_ble_eq_true rfl) rfl dX7_beginHours_26 rfl rfl rfl (Nat.le_of_ble_eq_true rfl) ⟨(Nat.le_of_ble_eq_true rfl), (Nat.le_of_ble_eq_true rfl)⟩ (Nat.le_of_ble_eq_true rfl) (Nat.le_of_ble_eq_true rfl) (fun v G' hp => ?_) (fun _ _ hp => hp.elim)
      obtain ⟨rfl, e9⟩ := hp
      rw [e9]
      clear e9 G'
      refine rb_iinc C dX7_beginHours_29 rfl (v := _ + 1) rfl rfl (Lv' := [_, _, _, _, _]) rfl ?_
      refine rb_goto C 14 dX7_beginHours_32 (by decide) ?_
      rw [nI_1 (a + i)]
      exact ih (i + 1) _ (by omega) (by rw [fo_s, ← hs]; rfl)
  refine rb_iload_n C dX7_beginHours_0 rfl ?_
  refine rb_iload_n C dX7_beginHours_1 rfl ?_
  refine rb_bipush C dX7_beginHours_2 (v := 12) (by decide) ?_
  refine rb_iadd C dX7_beginHours_4 ?_
  rw [show (12 : Int32) = nI 12 from rfl, nI_add]
  refine rb_iconst C dX7_beginHours_5 (v := 1) (by decide) ?_
  refine rb_isub C dX7_beginHours_6 ?_
  rw [show (1 : Int32) = nI 1 from rfl, pk_sub (by omega), show a + 12 - 1 = a + 11 by omega]
  refine rb_mmin C MM_X7_305 dX7_beginHours_7 rfl (Nat.le_of_ble_eq_true rfl) (Nat.le_of_ble_eq_true rfl) (Nat.le_of_ble_eq_true rfl) (Nat.le_of_ble_eq_true rfl) ?_
  rw [min9]
  refine rb_istore_n C dX7_beginHours_10 (Nat.le_of_ble_eq_true rfl) rfl (Lv' := [_, _, _, _, _]) rfl ?_
  refine rb_iload_n C dX7_beginHours_11 rfl ?_
  refine rb_istore C dX7_beginHours_12 (Nat.le_of_ble_eq_true rfl) rfl (Lv' := [_, _, _, _, _]) rfl ?_
  exact loop (x7_hm a b + 1 - a) 0 W (Nat.zero_add _) (fo_0 _ _).symm

