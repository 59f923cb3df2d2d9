def x7_file (W : rb_I) (cn : Nat → Nat) (vi : Int32) (ho : Int32) : rb_U := (if m_isNetwork vi = 0 then (1, (0 : Int32), W) else (if m_isNetwork ho = 0 then (1, (0 : Int32), W) else (if (x0_hasUnfiled W cn (6 * vi.toNatClampNeg + ho.toNatClampNeg)) = 0 then (3, (0 : Int32), W) else (if (W (8, (6 * vi.toNatClampNeg + ho.toNatClampNeg), 0) 1) < (20 : Int32) then (0, (x0_fileTheRest W cn (6 * vi.toNatClampNeg + ho.toNatClampNeg)).1, (x0_fileTheRest W cn (6 * vi.toNatClampNeg + ho.toNatClampNeg)).2) else (3, (0 : Int32), W)))))
set_option maxRecDepth 100000 in
set_option maxHeartbeats 4000000 in
theorem k_X7_file (l : Launch) (X : rb_X) (G : rb_G) (W : rb_I) (cn : Nat → Nat) (ag : Nat → Nat → Int32) (hG : xCS G cn ag) (vi : Int32) (ho : Int32) (hI : xCI W cn) : rb_M l X yX7_file (.code yX7_file cX7_file 4 (some .int)) 8 133 12 72 [rbR (0, 0, 0), rbI vi, rbI ho] (wI G W) (fun v9 G9 => (x7_file W cn vi ho).1 = 0 ∧ v9 = some (rbI (x7_file W cn vi ho).2.1) ∧ G9 = wI G (x7_file W cn vi ho).2.2) (fun e9 G9 => (x7_file W cn vi ho).1 = xc e9 ∧ G9 = wI G (x7_file W cn vi ho).2.2) := by
  have hc0 : cn 0 ≤ 30 := hI.2.2.2.2.2.2.2.2.1
  have hc1 : cn 1 ≤ 10 := hI.2.2.2.2.2.2.2.2.2.1
  have hc2 : cn 2 ≤ 200 := hI.2.2.2.2.2.2.2.2.2.2.1
  refine rb_startM RX7 rfl (by decide +kernel) rfl (Nat.le_of_ble_eq_true rfl) ?_
  intro Φ C E EX
  show rb_W Φ 0 0 0 [some (rbR (0, 0, 0)), some (rbI vi), some (rbI ho), none] [] (wI G W)
  refine rb_aload_n C dX7_file_0 rfl ?_
  refine rb_iload_n C dX7_file_1 rfl ?_
  refine rb_iload_n C dX7_file_2 rfl ?_
  refine rb_callV C M_X7_228 (fun l X => k_X7_accountOf l X G W cn ag hG vi ho) rfl (Nat.le_of_ble_eq_true rfl) rfl dX7_file_3 rfl rfl rfl (Nat.le_of_ble_eq_true rfl) ⟨(Nat.le_of_ble_eq_true rfl), (Nat.le_of_ble_eq_true rfl)⟩ (Nat.le_of_ble_eq_true rfl) (Nat.le_of_ble_eq_true rfl) (fun v G' hp => ?_) (fun e9 G' hp => by obtain ⟨rfl, hb9, e8⟩ := hp; rw [e8]; exact rb_out C EX (Nat.le_of_ble_eq_true rfl) (Nat.le_of_ble_eq_true rfl) (hb9.elim (fun h3a => px_1 ((if_pos h3a).trans (rfl))) (fun h3c => px_1 ((if_neg h3c.1).trans ((if_pos h3c.2).trans (rfl))))))
  obtain ⟨⟨h3a, h3b⟩, rfl, e9⟩ := hp
  rw [e9]
  clear e9 G'
  refine rb_astore_n C dX7_file_6 (Nat.le_of_ble_eq_true rfl) rfl (Lv' := [_, _, _, _]) rfl ?_
  refine rb_aload_n C dX7_file_7 rfl ?_
  refine rb_callV C M_X7_232 (fun l X => (k_X0_hasUnfiled l X G W cn ag hG (6 * vi.toNatClampNeg + ho.toNatClampNeg) (acc_lt h3a h3b) ((hI.1 (10 + (6 * vi.toNatClampNeg + ho.toNatClampNeg)) (Or.inr ⟨by omega, by have q9 := acc_lt h3a h3b; omega⟩))) (hI.2.2.2.2.2.2.2.2.2.2.2 (6 * vi.toNatClampNeg + ho.toNatClampNeg) (acc_lt h3a h3b))).m) rfl (Nat.le_of_ble_eq_true rfl) rfl dX7_file_8 rfl rfl rfl (Nat.le_of_ble_eq_true rfl) ⟨(Nat.le_of_ble_eq_true rfl), (Nat.le_of_ble_eq_true rfl)⟩ (Nat.le_of_ble_eq_true rfl) (Nat.le_of_ble_eq_true rfl) (fun v G' hp => ?_) (fun _ _ hp => hp.elim)
  obtain ⟨rfl, e9⟩ := hp
  rw [e9]
  clear e9 G'
  refine rb_if_ne C 24 dX7_file_11 (by decide) (fun h11 => ?_) (fun h11 => ?_)
  · refine rb_aload_n C dX7_file_24 rfl ?_
    refine rw_getI C FR_X7_237 dX7_file_25 rfl (x := (W (8, (6 * vi.toNatClampNeg + ho.toNatClampNeg), 0) 1)) (rfl) ?_
    refine rb_bipush C dX7_file_28 (v := 20) (by decide) ?_
    refine rb_callS C M_X7_96 (fun l X => k_X7_requireRoom l X G W (W (8, (6 * vi.toNatClampNeg + ho.toNatClampNeg), 0) 1) (20 : Int32)) dX7_file_30 rfl rfl rfl (Nat.le_of_ble_eq_true rfl) ⟨(Nat.le_of_ble_eq_true rfl), (Nat.le_of_ble_eq_true rfl)⟩ (Nat.le_of_ble_eq_true rfl) (Nat.le_of_ble_eq_true rfl) (fun v G' hp => ?_) (fun e9 G' hp => by obtain ⟨rfl, h30, e8⟩ := hp; rw [e8]; exact rb_out C EX (Nat.le_of_ble_eq_true rfl) (Nat.le_of_ble_eq_true rfl) (px_3 ((if_neg h3a).trans ((if_neg h3b).trans ((if_neg h11).trans ((if_neg h30).trans (rfl)))))))
    obtain ⟨h30, rfl, e9⟩ := hp
    rw [e9]
    clear e9 G'
    refine rb_aload_n C dX7_file_33 rfl ?_
    refine rb_callV C M_X7_240 (fun l X => (k_X0_fileTheRest l X G W cn ag hG (6 * vi.toNatClampNeg + ho.toNatClampNeg) (acc_lt h3a h3b) ((hI.1 (10 + (6 * vi.toNatClampNeg + ho.toNatClampNeg)) (Or.inr ⟨by omega, by have q9 := acc_lt h3a h3b; omega⟩))) (hI.2.2.2.2.2.2.2.2.2.2.2 (6 * vi.toNatClampNeg + ho.toNatClampNeg) (acc_lt h3a h3b))).m) rfl (Nat.le_of_ble_eq_true rfl) rfl dX7_file_34 rfl rfl rfl (Nat.le_of_ble_eq_true rfl) ⟨(Nat.le_of_ble_eq_true rfl), (Nat.le_of_ble_eq_true rfl)⟩ (Nat.le_of_ble_eq_true rfl) (Nat.le_of_ble_eq_true rfl) (fun v G' hp => ?_) (fun _ _ hp => hp.elim)
    obtain ⟨rfl, e9⟩ := hp
    rw [e9]
    clear e9 G'
    exact rb_iret C E dX7_file_37 (Nat.le_of_ble_eq_true rfl) (Nat.le_of_ble_eq_true rfl) (pt_ ((if_neg h3a).trans ((if_neg h3b).trans ((if_neg h11).trans ((if_pos h30).trans (rfl))))))
  · exact rb_throw C EX Thr_is (text := "no records are left to file") (by decide +kernel) dX7_file_14 dX7_file_17 dX7_file_18 dX7_file_20 dX7_file_23 rfl (Nat.le_of_ble_eq_true rfl) (Nat.le_of_ble_eq_true rfl) (Nat.le_of_ble_eq_true rfl) (Nat.le_of_ble_eq_true rfl) (px_3 ((if_neg h3a).trans ((if_neg h3b).trans ((if_pos h11).trans (rfl)))))

def x7_deliver (W : rb_I) (cn : Nat → Nat) (vi : Int32) (ho : Int32) (fl : Int32) : rb_U := (if m_isNetwork vi = 0 then (1, (0 : Int32), W) else (if m_isNetwork ho = 0 then (1, (0 : Int32), W) else (if fl < 0 then (1, (0 : Int32), W) else (if fl < (W (8, (6 * vi.toNatClampNeg + ho.toNatClampNeg), 0) 1) then (if (W (8, (6 * vi.toNatClampNeg + ho.toNatClampNeg), 0) 2) ≤ fl then (if fl ≤ (W (8, (6 * vi.toNatClampNeg + ho.toNatClampNeg), 0) 2) then (0, (x0_takeNextFile W cn (6 * vi.toNatClampNeg + ho.toNatClampNeg) (W (0, 0, 0) 6)).1, (x0_takeNextFile W cn (6 * vi.toNatClampNeg + ho.toNatClampNeg) (W (0, 0, 0) 6)).2) else (0, (-2), W)) else (0, (-1), W)) else (1, (0 : Int32), W)))))
set_option maxRecDepth 100000 in
set_option maxHeartbeats 4000000 in
theorem k_X7_deliver (l : Launch) (X : rb_X) (G : rb_G) (W : rb_I) (cn : Nat → Nat) (ag : Nat → Nat → Int32) (hG : xCS G cn ag) (vi : Int32) (ho : Int32) (fl : Int32) (hI : xCI W cn) : rb_M l X yX7_deliver (.code yX7_deliver cX7_deliver 5 (some .int)) 8 133 12 72 [rbR (0, 0, 0), rbI vi, rbI ho, rbI fl] (wI G W) (fun v9 G9 => (x7_deliver W cn vi ho fl).1 = 0 ∧ v9 = some (rbI (x7_deliver W cn vi ho fl).2.1) ∧ G9 = wI G (x7_deliver W cn vi ho fl).2.2) (fun e9 G9 => (x7_deliver W cn vi ho fl).1 = xc e9 ∧ G9 = wI G (x7_deliver W cn vi ho fl).2.2) := by
  have hc0 : cn 0 ≤ 30 := hI.2.2.2.2.2.2.2.2.1
  have hc1 : cn 1 ≤ 10 := hI.2.2.2.2.2.2.2.2.2.1
  have hc2 : cn 2 ≤ 200 := hI.2.2.2.2.2.2.2.2.2.2.1
  refine rb_startM RX7 rfl (by decide +kernel) rfl (Nat.le_of_ble_eq_true rfl) ?_
  intro Φ C E EX
  show rb_W Φ 0 0 0 [some (rbR (0, 0, 0)), some (rbI vi), some (rbI ho), some (rbI fl), none] [] (wI G W)
  refine rb_aload_n C dX7_deliver_0 rfl ?_
  refine rb_iload_n C dX7_deliver_1 rfl ?_
  refine rb_iload_n C dX7_deliver_2 rfl ?_
  refine rb_callV C M_X7_228 (fun l X => k_X7_accountOf l X G W cn ag hG vi ho) rfl (Nat.le_of_ble_eq_true rfl) rfl dX7_deliver_3 rfl rfl rfl (Nat.le_of_ble_eq_true rfl) ⟨(Nat.le_of_ble_eq_true rfl), (Nat.le_of_ble_eq_true rfl)⟩ (Nat.le_of_ble_eq_true rfl) (Nat.le_of_ble_eq_true rfl) (fun v G' hp => ?_) (fun e9 G' hp => by obtain ⟨rfl, hb9, e8⟩ := hp; rw [e8]; exact rb_out C EX (Nat.le_of_ble_eq_true rfl) (Nat.le_of_ble_eq_true rfl) (hb9.elim (fun h3a => px_1 ((if_pos h3a).trans (rfl))) (fun h3c => px_1 ((if_neg h3c.1).trans ((if_pos h3c.2).trans (rfl))))))
  obtain ⟨⟨h3a, h3b⟩, rfl, e9⟩ := hp
  rw [e9]
  clear e9 G'
  refine rb_astore C dX7_deliver_6 (Nat.le_of_ble_eq_true rfl) rfl (Lv' := [_, _, _, _, _]) rfl ?_
  refine rb_iload_n C dX7_deliver_8 rfl ?_
  refine rb_if_lt C 21 dX7_deliver_9 (by decide) (fun h9 => ?_) (fun h9 => ?_)
  · exact rb_throw C EX Thr_io (text := "no such file") (by decide +kernel) dX7_deliver_21 dX7_deliver_24 dX7_deliver_25 dX7_deliver_27 dX7_deliver_30 rfl (Nat.le_of_ble_eq_true rfl) (Nat.le_of_ble_eq_true rfl) (Nat.le_of_ble_eq_true rfl) (Nat.le_of_ble_eq_true rfl) (px_1 ((if_neg h3a).trans ((if_neg h3b).trans ((if_pos h9).trans (rfl)))))
  · refine rb_iload_n C dX7_deliver_12 rfl ?_
    refine rb_aload C dX7_deliver_13 rfl ?_
    refine rw_getI C FR_X7_237 dX7_deliver_15 rfl (x := (W (8, (6 * vi.toNatClampNeg + ho.toNatClampNeg), 0) 1)) (rfl) ?_
    refine rb_icmp_lt C 31 dX7_deliver_18 (by decide) (fun h18 => ?_) (fun h18 => ?_)
    · refine rb_iload_n C dX7_deliver_31 rfl ?_
      refine rb_aload C dX7_deliver_32 rfl ?_
      refine rw_getI C FR_X7_248 dX7_deliver_34 rfl (x := (W (8, (6 * vi.toNatClampNeg + ho.toNatClampNeg), 0) 2)) (rfl) ?_
      refine rb_icmp_ge C 42 dX7_deliver_37 (by decide) (fun h37 => ?_) (fun h37 => ?_)
      · refine rb_iload_n C dX7_deliver_42 rfl ?_
        refine rb_aload C dX7_deliver_43 rfl ?_
        refine rw_getI C FR_X7_248 dX7_deliver_45 rfl (x := (W (8, (6 * vi.toNatClampNeg + ho.toNatClampNeg), 0) 2)) (rfl) ?_
        refine rb_icmp_le C 54 dX7_deliver_48 (by decide) (fun h48 => ?_) (fun h48 => ?_)
        · refine rb_aload C dX7_deliver_54 rfl ?_
          refine rb_aload_n C dX7_deliver_56 rfl ?_
          refine rw_getI C FR_X7_160 dX7_deliver_57 rfl (x := (W (0, 0, 0) 6)) (rfl) ?_
          refine rb_callV C M_X7_251 (fun l X => (k_X0_takeNextFile l X G W cn ag hG (6 * vi.toNatClampNeg + ho.toNatClampNeg) (W (0, 0, 0) 6) (acc_lt h3a h3b) ((hI.1 (10 + (6 * vi.toNatClampNeg + ho.toNatClampNeg)) (Or.inr ⟨by omega, by have q9 := acc_lt h3a h3b; omega⟩))) (hI.2.2.2.2.2.2.2.2.2.2.2 (6 * vi.toNatClampNeg + ho.toNatClampNeg) (acc_lt h3a h3b))).m) rfl (Nat.le_of_ble_eq_true rfl) rfl dX7_deliver_60 rfl rfl rfl (Nat.le_of_ble_eq_true rfl) ⟨(Nat.le_of_ble_eq_true rfl), (Nat.le_of_ble_eq_true rfl)⟩ (Nat.le_of_ble_eq_true rfl) (Nat.le_of_ble_eq_true rfl) (fun v G' hp => ?_) (fun _ _ hp => hp.elim)
          obtain ⟨rfl, e9⟩ := hp
          rw [e9]
          clear e9 G'
          exact rb_iret C E dX7_deliver_63 (Nat.le_of_ble_eq_true rfl) (Nat.le_of_ble_eq_true rfl) (pt_ ((if_neg h3a).trans ((if_neg h3b).trans ((if_neg h9).trans ((if_pos h18).trans ((if_pos h37).trans ((if_pos h48).trans (rfl))))))))
        · refine rb_bipush C dX7_deliver_51 (v := (-2)) (by decide) ?_
          exact rb_iret C E dX7_deliver_53 (Nat.le_of_ble_eq_true rfl) (Nat.le_of_ble_eq_true rfl) (pt_ ((if_neg h3a).trans ((if_neg h3b).trans ((if_neg h9).trans ((if_pos h18).trans ((if_pos h37).trans ((if_neg h48).trans (rfl))))))))
      · refine rb_iconst C dX7_deliver_40 (v := (-1)) (by decide) ?_
        exact rb_iret C E dX7_deliver_41 (Nat.le_of_ble_eq_true rfl) (Nat.le_of_ble_eq_true rfl) (pt_ ((if_neg h3a).trans ((if_neg h3b).trans ((if_neg h9).trans ((if_pos h18).trans ((if_neg h37).trans (rfl)))))))
    · exact rb_throw C EX Thr_io (text := "no such file") (by decide +kernel) dX7_deliver_21 dX7_deliver_24 dX7_deliver_25 dX7_deliver_27 dX7_deliver_30 rfl (Nat.le_of_ble_eq_true rfl) (Nat.le_of_ble_eq_true rfl) (Nat.le_of_ble_eq_true rfl) (Nat.le_of_ble_eq_true rfl) (px_1 ((if_neg h3a).trans ((if_neg h3b).trans ((if_neg h9).trans ((if_neg h18).trans (rfl))))))

def x7_owes (W : rb_I) (cn : Nat → Nat) (ag : Nat → Nat → Int32) (ho : Int32) (vi : Int32) : rb_U := (if m_isNetwork vi = 0 then (1, (0 : Int32), W) else (if m_isNetwork ho = 0 then (1, (0 : Int32), W) else (0, (x0_owed W cn ag (6 * vi.toNatClampNeg + ho.toNatClampNeg)), W)))
set_option maxRecDepth 100000 in
set_option maxHeartbeats 4000000 in
theorem k_X7_owes (l : Launch) (X : rb_X) (G : rb_G) (W : rb_I) (cn : Nat → Nat) (ag : Nat → Nat → Int32) (hG : xCS G cn ag) (ho : Int32) (vi : Int32) (hI : xCI W cn) : rb_M l X yX7_owes (.code yX7_owes cX7_owes 3 (some .int)) 8 133 12 72 [rbR (0, 0, 0), rbI ho, rbI vi] (wI G W) (fun v9 G9 => (x7_owes W cn ag ho vi).1 = 0 ∧ v9 = some (rbI (x7_owes W cn ag ho vi).2.1) ∧ G9 = wI G (x7_owes W cn ag ho vi).2.2) (fun e9 G9 => (x7_owes W cn ag ho vi).1 = xc e9 ∧ G9 = wI G (x7_owes W cn ag ho vi).2.2) := by
  have hc0 : cn 0 ≤ 30 := hI.2.2.2.2.2.2.2.2.1
  have hc1 : cn 1 ≤ 10 := hI.2.2.2.2.2.2.2.2.2.1
  have hc2 : cn 2 ≤ 200 := hI.2.2.2.2.2.2.2.2.2.2.1
  refine rb_startM RX7 rfl (by decide +kernel) rfl (Nat.le_of_ble_eq_true rfl) ?_
  intro Φ C E EX
  show rb_W Φ 0 0 0 [some (rbR (0, 0, 0)), some (rbI ho), some (rbI vi)] [] (wI G W)
  refine rb_aload_n C dX7_owes_0 rfl ?_
  refine rb_iload_n C dX7_owes_1 rfl ?_
  refine rb_iload_n C dX7_owes_2 rfl ?_
  refine rb_callV C M_X7_228 (fun l X => k_X7_accountOf l X G W cn ag hG vi ho) rfl (Nat.le_of_ble_eq_true rfl) rfl dX7_owes_3 rfl rfl rfl (Nat.le_of_ble_eq_true rfl) ⟨(Nat.le_of_ble_eq_true rfl), (Nat.le_of_ble_eq_true rfl)⟩ (Nat.le_of_ble_eq_true rfl) (Nat.le_of_ble_eq_true rfl) (fun v G' hp => ?_) (fun e9 G' hp => by obtain ⟨rfl, hb9, e8⟩ := hp; rw [e8]; exact rb_out C EX (Nat.le_of_ble_eq_true rfl) (Nat.le_of_ble_eq_true rfl) (hb9.elim (fun h3a => px_1 ((if_pos h3a).trans (rfl))) (fun h3c => px_1 ((if_neg h3c.1).trans ((if_pos h3c.2).trans (rfl))))))
  obtain ⟨⟨h3a, h3b⟩, rfl, e9⟩ := hp
  rw [e9]
  clear e9 G'
  refine rb_callV C M_X7_254 (fun l X => (k_X0_owed l X G W cn ag hG (6 * vi.toNatClampNeg + ho.toNatClampNeg) (acc_lt h3a h3b) ((hI.1 (10 + (6 * vi.toNatClampNeg + ho.toNatClampNeg)) (Or.inr ⟨by omega, by have q9 := acc_lt h3a h3b; omega⟩))) (hI.2.2.2.2.2.2.2.2.2.2.2 (6 * vi.toNatClampNeg + ho.toNatClampNeg) (acc_lt h3a h3b))).m) rfl (Nat.le_of_ble_eq_true rfl) rfl dX7_owes_6 rfl rfl rfl (Nat.le_of_ble_eq_true rfl) ⟨(Nat.le_of_ble_eq_true rfl), (Nat.le_of_ble_eq_true rfl)⟩ (Nat.le_of_ble_eq_true rfl) (Nat.le_of_ble_eq_true rfl) (fun v G' hp => ?_) (fun _ _ hp => hp.elim)
  obtain ⟨rfl, e9⟩ := hp
  rw [e9]
  clear e9 G'
  exact rb_iret C E dX7_owes_9 (Nat.le_of_ble_eq_true rfl) (Nat.le_of_ble_eq_true rfl) (pt_ ((if_neg h3a).trans ((if_neg h3b).trans (rfl))))

def x7_owesAnew (W : rb_I) (cn : Nat → Nat) (ag : Nat → Nat → Int32) (ho : Int32) (vi : Int32) : rb_U := (if m_isNetwork vi = 0 then (1, (0 : Int32), W) else (if m_isNetwork ho = 0 then (1, (0 : Int32), W) else (0, (x0_owedFileByFile W cn ag (6 * vi.toNatClampNeg + ho.toNatClampNeg)), W)))
set_option maxRecDepth 100000 in
set_option maxHeartbeats 4000000 in
theorem k_X7_owesAnew (l : Launch) (X : rb_X) (G : rb_G) (W : rb_I) (cn : Nat → Nat) (ag : Nat → Nat → Int32) (hG : xCS G cn ag) (ho : Int32) (vi : Int32) (hI : xCI W cn) (hT : ∀ k, vp_in (W (8, k, 0) 2) 100) : rb_M l X yX7_owesAnew (.code yX7_owesAnew cX7_owesAnew 3 (some .int)) 8 133 12 72 [rbR (0, 0, 0), rbI ho, rbI vi] (wI G W) (fun v9 G9 => (x7_owesAnew W cn ag ho vi).1 = 0 ∧ v9 = some (rbI (x7_owesAnew W cn ag ho vi).2.1) ∧ G9 = wI G (x7_owesAnew W cn ag ho vi).2.2) (fun e9 G9 => (x7_owesAnew W cn ag ho vi).1 = xc e9 ∧ G9 = wI G (x7_owesAnew W cn ag ho vi).2.2) := by
  have hc0 : cn 0 ≤ 30 := hI.2.2.2.2.2.2.2.2.1
  have hc1 : cn 1 ≤ 10 := hI.2.2.2.2.2.2.2.2.2.1
  have hc2 : cn 2 ≤ 200 := hI.2.2.2.2.2.2.2.2.2.2.1
  refine rb_startM RX7 rfl (by decide +kernel) rfl (Nat.le_of_ble_eq_true rfl) ?_
  intro Φ C E EX
  show rb_W Φ 0 0 0 [some (rbR (0, 0, 0)), some (rbI ho), some (rbI vi)] [] (wI G W)
  refine rb_aload_n C dX7_owesAnew_0 rfl ?_
  refine rb_iload_n C dX7_owesAnew_1 rfl ?_
  refine rb_iload_n C dX7_owesAnew_2 rfl ?_
  refine rb_callV C M_X7_228 (fun l X => k_X7_accountOf l X G W cn ag hG vi ho) rfl (Nat.le_of_ble_eq_true rfl) rfl dX7_owesAnew_3 rfl rfl rfl (Nat.le_of_ble_eq_true rfl) ⟨(Nat.le_of_ble_eq_true rfl), (Nat.le_of_ble_eq_true rfl)⟩ (Nat.le_of_ble_eq_true rfl) (Nat.le_of_ble_eq_true rfl) (fun v G' hp => ?_) (fun e9 G' hp => by obtain ⟨rfl, hb9, e8⟩ := hp; rw [e8]; exact rb_out C EX (Nat.le_of_ble_eq_true rfl) (Nat.le_of_ble_eq_true rfl) (hb9.elim (fun h3a => px_1 ((if_pos h3a).trans (rfl))) (fun h3c => px_1 ((if_neg h3c.1).trans ((if_pos h3c.2).trans (rfl))))))
  obtain ⟨⟨h3a, h3b⟩, rfl, e9⟩ := hp
  rw [e9]
  clear e9 G'
  refine rb_callV C M_X7_257 (fun l X => (k_X0_owedFileByFile l X G W cn ag hG (6 * vi.toNatClampNeg + ho.toNatClampNeg) (acc_lt h3a h3b) ((hI.1 (10 + (6 * vi.toNatClampNeg + ho.toNatClampNeg)) (Or.inr ⟨by omega, by have q9 := acc_lt h3a h3b; omega⟩))) (hI.2.2.2.2.2.2.2.2.2.2.2 (6 * vi.toNatClampNeg + ho.toNatClampNeg) (acc_lt h3a h3b)) (hT (6 * vi.toNatClampNeg + ho.toNatClampNeg))).m) rfl (Nat.le_of_ble_eq_true rfl) rfl dX7_owesAnew_6 rfl rfl rfl (Nat.le_of_ble_eq_true rfl) ⟨(Nat.le_of_ble_eq_true rfl), (Nat.le_of_ble_eq_true rfl)⟩ (Nat.le_of_ble_eq_true rfl) (Nat.le_of_ble_eq_true rfl) (fun v G' hp => ?_) (fun _ _ hp => hp.elim)
  obtain ⟨rfl, e9⟩ := hp
  rw [e9]
  clear e9 G'
  exact rb_iret C E dX7_owesAnew_9 (Nat.le_of_ble_eq_true rfl) (Nat.le_of_ble_eq_true rfl) (pt_ ((if_neg h3a).trans ((if_neg h3b).trans (rfl))))

def x7_recorded (W : rb_I) (cn : Nat → Nat) (vi : Int32) (ho : Int32) (what : Int32) : rb_U := (if m_isNetwork vi = 0 then (1, (0 : Int32), W) else (if m_isNetwork ho = 0 then (1, (0 : Int32), W) else (if m_in what (0 : Int32) (3 : Int32) = 0 then (2, (0 : Int32), W) else (0, (x0_minutesThatAre W cn (6 * vi.toNatClampNeg + ho.toNatClampNeg) what), W))))
set_option maxRecDepth 100000 in
set_option maxHeartbeats 4000000 in
theorem k_X7_recorded (l : Launch) (X : rb_X) (G : rb_G) (W : rb_I) (cn : Nat → Nat) (ag : Nat → Nat → Int32) (hG : xCS G cn ag) (vi : Int32) (ho : Int32) (what : Int32) (hI : xCI W cn) : rb_M l X yX7_recorded (.code yX7_recorded cX7_recorded 5 (some .int)) 8 133 12 72 [rbR (0, 0, 0), rbI vi, rbI ho, rbI what] (wI G W) (fun v9 G9 => (x7_recorded W cn vi ho what).1 = 0 ∧ v9 = some (rbI (x7_recorded W cn vi ho what).2.1) ∧ G9 = wI G (x7_recorded W cn vi ho what).2.2) (fun e9 G9 => (x7_recorded W cn vi ho what).1 = xc e9 ∧ G9 = wI G (x7_recorded W cn vi ho what).2.2) := by
  have hc0 : cn 0 ≤ 30 := hI.2.2.2.2.2.2.2.2.1
  have hc1 : cn 1 ≤ 10 := hI.2.2.2.2.2.2.2.2.2.1
  have hc2 : cn 2 ≤ 200 := hI.2.2.2.2.2.2.2.2.2.2.1
  refine rb_startM RX7 rfl (by decide +kernel) rfl (Nat.le_of_ble_eq_true rfl) ?_
  intro Φ C E EX
  show rb_W Φ 0 0 0 [some (rbR (0, 0, 0)), some (rbI vi), some (rbI ho), some (rbI what), none] [] (wI G W)
  refine rb_aload_n C dX7_recorded_0 rfl ?_
  refine rb_iload_n C dX7_recorded_1 rfl ?_
  refine rb_iload_n C dX7_recorded_2 rfl ?_
  refine rb_callV C M_X7_228 (fun l X => k_X7_accountOf l X G W cn ag hG vi ho) rfl (Nat.le_of_ble_eq_true rfl) rfl dX7_recorded_3 rfl rfl rfl (Nat.le_of_ble_eq_true rfl) ⟨(Nat.le_of_ble_eq_true rfl), (Nat.le_of_ble_eq_true rfl)⟩ (Nat.le_of_ble_eq_true rfl) (Nat.le_of_ble_eq_true rfl) (fun v G' hp => ?_) (fun e9 G' hp => by obtain ⟨rfl, hb9, e8⟩ := hp; rw [e8]; exact rb_out C EX (Nat.le_of_ble_eq_true rfl) (Nat.le_of_ble_eq_true rfl) (hb9.elim (fun h3a => px_1 ((if_pos h3a).trans (rfl))) (fun h3c => px_1 ((if_neg h3c.1).trans ((if_pos h3c.2).trans (rfl))))))
  obtain ⟨⟨h3a, h3b⟩, rfl, e9⟩ := hp
  rw [e9]
  clear e9 G'
  refine rb_astore C dX7_recorded_6 (Nat.le_of_ble_eq_true rfl) rfl (Lv' := [_, _, _, _, _]) rfl ?_
  refine rb_iload_n C dX7_recorded_8 rfl ?_
  refine rb_iconst C dX7_recorded_9 (v := 0) (by decide) ?_
  refine rb_iconst C dX7_recorded_10 (v := 3) (by decide) ?_
  refine rb_callS C M_X7_44 (fun l X => k_X7_requireRange l X G W what (0 : Int32) (3 : Int32)) dX7_recorded_11 rfl rfl rfl (Nat.le_of_ble_eq_true rfl) ⟨(Nat.le_of_ble_eq_true rfl), (Nat.le_of_ble_eq_true rfl)⟩ (Nat.le_of_ble_eq_true rfl) (Nat.le_of_ble_eq_true rfl) (fun v G' hp => ?_) (fun e9 G' hp => by obtain ⟨rfl, h11, e8⟩ := hp; rw [e8]; exact rb_out C EX (Nat.le_of_ble_eq_true rfl) (Nat.le_of_ble_eq_true rfl) (px_2 ((if_neg h3a).trans ((if_neg h3b).trans ((if_pos h11).trans (rfl))))))
  obtain ⟨h11, rfl, e9⟩ := hp
  rw [e9]
  clear e9 G'
  refine rb_aload C dX7_recorded_14 rfl ?_
  refine rb_iload_n C dX7_recorded_16 rfl ?_
  refine rb_callV C M_X7_260 (fun l X => (k_X0_minutesThatAre l X G W cn ag hG (6 * vi.toNatClampNeg + ho.toNatClampNeg) what (acc_lt h3a h3b) ((hI.1 (10 + (6 * vi.toNatClampNeg + ho.toNatClampNeg)) (Or.inr ⟨by omega, by have q9 := acc_lt h3a h3b; omega⟩))) (hI.2.2.2.2.2.2.2.2.2.2.2 (6 * vi.toNatClampNeg + ho.toNatClampNeg) (acc_lt h3a h3b))).m) rfl (Nat.le_of_ble_eq_true rfl) rfl dX7_recorded_17 rfl rfl rfl (Nat.le_of_ble_eq_true rfl) ⟨(Nat.le_of_ble_eq_true rfl), (Nat.le_of_ble_eq_true rfl)⟩ (Nat.le_of_ble_eq_true rfl) (Nat.le_of_ble_eq_true rfl) (fun v G' hp => ?_) (fun _ _ hp => hp.elim)
  obtain ⟨rfl, e9⟩ := hp
  rw [e9]
  clear e9 G'
  exact rb_iret C E dX7_recorded_20 (Nat.le_of_ble_eq_true rfl) (Nat.le_of_ble_eq_true rfl) (pt_ ((if_neg h3a).trans ((if_neg h3b).trans ((if_neg h11).trans (rfl)))))

def x7_pa_b (W : rb_I) (u : Int32) (i : Nat) (s : Int32) : Int32 := (s + (x3_paidBy W i (W (9, u.toNatClampNeg, 0) 0)))
def x7_paidAnew (W : rb_I) (cn : Nat → Nat) (u : Int32) : rb_U := (if m_in u 0 (nI (cn 1) - 1) = 0 then (1, (0 : Int32), W) else (0, (fo (x7_pa_b W u) (cn 2) (0 : Int32)), W))
set_option maxRecDepth 100000 in
set_option maxHeartbeats 4000000 in
theorem k_X7_paidAnew (l : Launch) (X : rb_X) (G : rb_G) (W : rb_I) (cn : Nat → Nat) (ag : Nat → Nat → Int32) (hG : xCS G cn ag) (u : Int32) (hI : xCI W cn) : rb_M l X yX7_paidAnew (.code yX7_paidAnew cX7_paidAnew 5 (some .int)) 7 111 12 72 [rbR (0, 0, 0), rbI u] (wI G W) (fun v9 G9 => (x7_paidAnew W cn u).1 = 0 ∧ v9 = some (rbI (x7_paidAnew W cn u).2.1) ∧ G9 = wI G (x7_paidAnew W cn u).2.2) (fun e9 G9 => (x7_paidAnew W cn u).1 = xc e9 ∧ G9 = wI G (x7_paidAnew W cn u).2.2) := by
  have hc0 : cn 0 ≤ 30 := hI.2.2.2.2.2.2.2.2.1
  have hc1 : cn 1 ≤ 10 := hI.2.2.2.2.2.2.2.2.2.1
  have hc2 : cn 2 ≤ 200 := hI.2.2.2.2.2.2.2.2.2.2.1
  refine rb_startM RX7 rfl (by decide +kernel) rfl (Nat.le_of_ble_eq_true rfl) ?_
  intro Φ C E EX
  show rb_W Φ 0 0 0 [some (rbR (0, 0, 0)), some (rbI u), none, none, none] [] (wI G W)
  refine rb_aload_n C dX7_paidAnew_0 rfl ?_
  refine rb_iload_n C dX7_paidAnew_1 rfl ?_
  refine rb_callV C M_X7_135 (fun l X => k_X7_subscriberAt l X G W cn ag hG u ((hI.1 1 (by decide))) hc1) rfl (Nat.le_of_ble_eq_true rfl) rfl dX7_paidAnew_2 rfl rfl rfl (Nat.le_of_ble_eq_true rfl) ⟨(Nat.le_of_ble_eq_true rfl), (Nat.le_of_ble_eq_true rfl)⟩ (Nat.le_of_ble_eq_true rfl) (Nat.le_of_ble_eq_true rfl) (fun v G' hp => ?_) (fun e9 G' hp => by obtain ⟨rfl, h2, e8⟩ := hp; rw [e8]; exact rb_out C EX (Nat.le_of_ble_eq_true rfl) (Nat.le_of_ble_eq_true rfl) (px_1 ((if_pos h2).trans (rfl))))
  obtain ⟨h2, rfl, e9⟩ := hp
  rw [e9]
  clear e9 G'
  refine rw_getI C FR_X7_132 dX7_paidAnew_5 rfl (x := (W (9, u.toNatClampNeg, 0) 0)) (rfl) ?_
  refine rb_istore_n C dX7_paidAnew_8 (Nat.le_of_ble_eq_true rfl) rfl (Lv' := [_, _, _, _, _]) rfl ?_
  refine rb_iconst C dX7_paidAnew_9 (v := 0) (by decide) ?_
  refine rb_istore_n C dX7_paidAnew_10 (Nat.le_of_ble_eq_true rfl) rfl (Lv' := [_, _, _, _, _]) rfl ?_
  refine rb_iconst C dX7_paidAnew_11 (v := 0) (by decide) ?_
  refine rb_istore C dX7_paidAnew_12 (Nat.le_of_ble_eq_true rfl) rfl (Lv' := [_, _, _, _, _]) rfl ?_
  have loop : ∀ (d i : Nat) (s : Int32), i + d = (cn 2) → s = fo (x7_pa_b W u) i (0 : Int32) → rb_W Φ 1 6 14 [some (rbR (0, 0, 0)), some (rbI u), some (rbI (W (9, u.toNatClampNeg, 0) 0)), some (rbI s), some (rbI (nI i))] [] (wI G W) := by
    intro d
    induction d with
    | zero =>
      intro i s hi hs
      obtain rfl : i = (cn 2) := by omega
      subst hs
      refine rb_iload C dX7_paidAnew_14 rfl ?_
      refine rb_aload_n C dX7_paidAnew_16 rfl ?_
      refine rw_getP C FR_X7_35 dX7_paidAnew_17 rfl (o := some (4, 2, 0)) (hG.1 5 (by decide)) ?_
      refine rb_callV C M_X7_48 (fun l X => (k_size l X G W (4, 2, 0) (nI (cn 2)) rfl ((hI.1 2 (by decide)))).m) rfl (Nat.le_of_ble_eq_true rfl) rfl dX7_paidAnew_20 rfl rfl rfl (Nat.le_of_ble_eq_true rfl) ⟨(Nat.le_of_ble_eq_true rfl), (Nat.le_of_ble_eq_true rfl)⟩ (Nat.le_of_ble_eq_true rfl) (Nat.le_of_ble_eq_true rfl) (fun v G' hp => ?_) (fun _ _ hp => hp.elim)
      obtain ⟨rfl, e9⟩ := hp
      rw [e9]
      clear e9 G'
      refine rb_icmp_ge C 51 dX7_paidAnew_23 (by decide) (fun _ => ?_) (fun h9 => absurd ((nI_le (a := cn 2) (b := cn 2) (Nat.le_refl _) (by omega))) h9)
      refine rb_iload_n C dX7_paidAnew_51 rfl ?_
      exact rb_iret C E dX7_paidAnew_52 (Nat.le_of_ble_eq_true rfl) (Nat.le_of_ble_eq_true rfl) (pt_ ((if_neg h2).trans (rfl)))
    | succ d ih =>
      intro i s hi hs
      have hi9 : i < (cn 2) := by omega
      refine rb_iload C dX7_paidAnew_14 rfl ?_
      refine rb_aload_n C dX7_paidAnew_16 rfl ?_
      refine rw_getP C FR_X7_35 dX7_paidAnew_17 rfl (o := some (4, 2, 0)) (hG.1 5 (by decide)) ?_
      refine rb_callV C M_X7_48 (fun l X => (k_size l X G W (4, 2, 0) (nI (cn 2)) rfl ((hI.1 2 (by decide)))).m) rfl (Nat.le_of_ble_eq_true rfl) rfl dX7_paidAnew_20 rfl rfl rfl (Nat.le_of_ble_eq_true rfl) ⟨(Nat.le_of_ble_eq_true rfl), (Nat.le_of_ble_eq_true rfl)⟩ (Nat.le_of_ble_eq_true rfl) (Nat.le_of_ble_eq_true rfl) (fun v G' hp => ?_) (fun _ _ hp => hp.elim)
      obtain ⟨rfl, e9⟩ := hp
      rw [e9]
      clear e9 G'
      refine rb_icmp_ge C 51 dX7_paidAnew_23 (by decide) (fun h9 => absurd h9 ((nI_ge (a := i) (b := cn 2) hi9 (by omega)))) (fun _ => ?_)
      refine rb_iload_n C dX7_paidAnew_26 rfl ?_
      refine rb_aload_n C dX7_paidAnew_27 rfl ?_
      refine rw_getP C FR_X7_35 dX7_paidAnew_28 rfl (o := some (4, 2, 0)) (hG.1 5 (by decide)) ?_
      refine rb_iload C dX7_paidAnew_31 rfl ?_
      refine rb_callV C M_X7_52 (fun l X => (k_get l X G W 2 (cn 2) i (nI i) (fun j => (11, j, 0)) hG.2.2.2.2.2.2.2.2.1 ((hI.1 2 (by decide))) rfl hi9 (by omega)).m) rfl (Nat.le_of_ble_eq_true rfl) rfl dX7_paidAnew_33 rfl rfl rfl (Nat.le_of_ble_eq_true rfl) ⟨(Nat.le_of_ble_eq_true rfl), (Nat.le_of_ble_eq_true rfl)⟩ (Nat.le_of_ble_eq_true rfl) (Nat.le_of_ble_eq_true rfl) (fun v G' hp => ?_) (fun _ _ hp => hp.elim)
      obtain ⟨rfl, e9⟩ := hp
      rw [e9]
      clear e9 G'
      refine rb_cast C (ci := 4) L_X7_218 rfl (by decide) dX7_paidAnew_36 rfl ?_
      refine rb_iload_n C dX7_paidAnew_39 rfl ?_
      refine rb_callV C M_X7_225 (fun l X => (k_X3_paidBy l X G W i (W (9, u.toNatClampNeg, 0) 0)).m) rfl (Nat.le_of_ble_eq_true rfl) rfl dX7_paidAnew_40 rfl rfl rfl (Nat.le_of_ble_eq_true rfl) ⟨(Nat.le_of_ble_eq_true rfl), (Nat.le_of_ble_eq_true rfl)⟩ (Nat.le_of_ble_eq_true rfl) (Nat.le_of_ble_eq_true rfl) (fun v G' hp => ?_) (fun _ _ hp => hp.elim)
      obtain ⟨rfl, e9⟩ := hp
      rw [e9]
      clear e9 G'
      refine rb_iadd C dX7_paidAnew_43 ?_
      refine rb_istore_n C dX7_paidAnew_44 (Nat.le_of_ble_eq_true rfl) rfl (Lv' := [_, _, _, _, _]) rfl ?_
      refine rb_iinc C dX7_paidAnew_45 rfl (v := _ + 1) rfl rfl (Lv' := [_, _, _, _, _]) rfl ?_
      refine rb_goto C 14 dX7_paidAnew_48 (by decide) ?_
      rw [nI_1 i]
      exact ih (i + 1) (s + (x3_paidBy W i (W (9, u.toNatClampNeg, 0) 0))) (by omega) (by rw [fo_s, ← hs]; exact Eq.symm (rfl))
  exact loop (cn 2) 0 (0 : Int32) (Nat.zero_add _) (fo_0 _ _).symm

