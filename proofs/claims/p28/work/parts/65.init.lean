def gL1 (id : Nat) (G : rb_G) : rb_G := sP (sI (sN G (4, id, 0) 0) (4, id, 0) 0 0) (4, id, 0) 1 (some (19, 0, 0))
def gS3 (G : rb_G) : rb_G := sP (sN (sP (sN (sP (sN G (1, 0, 0) 8) (0, 0, 0) 0 (some (1, 0, 0))) (2, 0, 0) 6) (0, 0, 0) 1 (some (2, 0, 0))) (3, 0, 0) 36) (0, 0, 0) 2 (some (3, 0, 0))
def gS (G : rb_G) : rb_G := sP (gL1 2 (sP (gL1 1 (sP (gL1 0 (gS3 G)) (0, 0, 0) 3 (some (4, 0, 0)))) (0, 0, 0) 4 (some (4, 1, 0)))) (0, 0, 0) 5 (some (4, 2, 0))
theorem gS_D (G : rb_G) (r : rb_R) : gD (gS G) r = (r = (4, 2, 0) ∨ r = (4, 1, 0) ∨ r = (4, 0, 0) ∨ r = (3, 0, 0) ∨ r = (2, 0, 0) ∨ r = (1, 0, 0) ∨ gD G r) := rfl
theorem gS_net {G : rb_G} (hF : ∀ f i j, 0 < f → f < 17 → ¬ gD G (f, i, j)) : fNet 0 (gS G) := by
  refine ⟨?_, ?_, fun n _ => ?_⟩
  · unfold gS gL1 gS3 sP sN sI up2 gP
    simp
  · unfold gS gL1 gS3 sP sN sI gN
    simp
  · have a := hF 5 n 0 (by decide) (by decide)
    have b := hF 6 n 0 (by decide) (by decide)
    have c := hF 7 n 0 (by decide) (by decide)
    refine ⟨?_, ?_, ?_⟩ <;> rw [gS_D] <;> simp [a, b, c]
theorem gS_acc {G : rb_G} (hF : ∀ f i j, 0 < f → f < 17 → ¬ gD G (f, i, j)) (hE : gD G (19, 0, 0)) : fAcc 0 (fo nNet 6 (gS G)) := by
  have h0 : fAcc 0 (gS G) := by
    refine ⟨?_, ?_, ?_, fun n _ => ?_⟩
    · unfold gS gL1 gS3 sP sN sI up2 gP
      simp
    · unfold gS gL1 gS3 sP sN sI gN
      simp
    · rw [gS_D]; simp [hE]
    · have a := hF 8 n 0 (by decide) (by decide)
      have b := hF 4 (10 + n) 0 (by decide) (by decide)
      refine ⟨?_, ?_⟩ <;> rw [gS_D] <;> simp [a, b]
      omega
  refine fo_inv (f := nNet) (a := gS G) (P := fAcc 0) h0 (fun i G h => ?_) 6
  obtain ⟨h1, h2, h4, h3⟩ := h
  refine ⟨?_, ?_, ?_, fun n hn => ?_⟩
  · unfold nNet gNt gB wI sP sN up2 gP at *
    simpa using h1
  · unfold nNet gNt gB wI sP sN gN at *
    simpa using h2
  · rw [nNet_D]; exact Or.inr (Or.inr (Or.inr h4))
  · obtain ⟨a, b⟩ := h3 n hn
    refine ⟨?_, ?_⟩ <;> rw [nNet_D] <;> simp [a, b]
set_option maxRecDepth 100000 in
set_option maxHeartbeats 4000000 in
theorem k_X7_init (l : Launch) (X : rb_X) (G : rb_G) (hF : ∀ f i j, 0 < f → f < 17 → ¬ gD G (f, i, j)) (hE : gD G (19, 0, 0)) : rb_N l X yX7_init (.code yX7_init cX7_init 2 none) 8 250 96 383 [rbR (0, 0, 0)] G (fun v9 G9 => v9 = none ∧ G9 = fo nAcc 36 (fo nNet 6 (gS G))) := by
  refine rb_startN RX7 rfl (by decide +kernel) rfl (Nat.le_of_ble_eq_true rfl) ?_
  intro Φ C E nm
  show rb_W Φ 0 0 0 [some (rbR (0, 0, 0)), none] [] G
  have loop2 : ∀ (d i : Nat) (H : rb_G), i + d = 36 → H = fo nAcc i (fo nNet 6 (gS G)) → rb_W Φ (24 + 2 * i) (167 + 6 * i) 95 [some (rbR (0, 0, 0)), some (rbI (nI i))] [] H := by
    intro d
    induction d with
    | zero =>
      intro i H hi hs
      obtain rfl : i = 36 := by omega
      have hf : fAcc 36 H := by
        rw [hs]
        exact fo_inv' (f := nAcc) (P := fAcc) (N := 36) (gS_acc hF hE) (fun i _ G h => fAcc_s h) 36 (by omega)
      refine rb_iload_n C dX7_init_95 rfl ?_
      refine rb_aload_n C dX7_init_96 rfl ?_
      refine rb_getP C FR_X7_21 dX7_init_97 rfl (o := some (3, 0, 0)) hf.1 ?_
      refine rb_alen C dX7_init_100 rfl (by first | exact Or.inl rfl | exact Or.inr (Nat.le_of_ble_eq_true rfl)) (Nat.le_of_ble_eq_true rfl) ?_
      rw [hf.2.1]
      refine rb_icmp_ge C 123 dX7_init_101 (by decide) (fun _ => ?_) (fun h9 => absurd (nI_le (a := 36) (b := 36) (Nat.le_refl _) (by decide)) h9)
      exact rb_vret C E dX7_init_123 (Nat.le_of_ble_eq_true rfl) (Nat.le_of_ble_eq_true rfl) ⟨rfl, hs⟩
    | succ d ih =>
      intro i H hi hs
      have hi9 : i < 36 := by omega
      have hf : fAcc i H := by
        rw [hs]
        exact fo_inv' (f := nAcc) (P := fAcc) (N := 36) (gS_acc hF hE) (fun i _ G h => fAcc_s h) i (by omega)
      have hfs := hf.2.2.2 i (Nat.le_refl _)
      have hN : ∀ w, gN (wI (gAc (sN H (8, i, 0) 0) i) w) (3, 0, 0) = 36 := fun w => by
        have h2 := hf.2.1
        unfold gAc gLi wI sP sN gN at *
        simpa using h2
      refine rb_iload_n C dX7_init_95 rfl ?_
      refine rb_aload_n C dX7_init_96 rfl ?_
      refine rb_getP C FR_X7_21 dX7_init_97 rfl (o := some (3, 0, 0)) hf.1 ?_
      refine rb_alen C dX7_init_100 rfl (by first | exact Or.inl rfl | exact Or.inr (Nat.le_of_ble_eq_true rfl)) (Nat.le_of_ble_eq_true rfl) ?_
      rw [hf.2.1]
      refine rb_icmp_ge C 123 dX7_init_101 (by decide) (fun h9 => absurd h9 (nI_ge (a := i) (b := 36) hi9 (by decide))) (fun _ => ?_)
      refine rb_aload_n C dX7_init_104 rfl ?_
      refine rb_getP C FR_X7_21 dX7_init_105 rfl (o := some (3, 0, 0)) hf.1 ?_
      refine rb_iload_n C dX7_init_108 rfl ?_
      refine rb_new C (8, i, 0) K_X7_19 dX7_init_109 rfl (hfs.1) (by omega) (by omega) ?_
      refine rb_dup C dX7_init_112 rfl ?_
      refine rb_callIN C (fun _ _ h => h.2.2.2.2.2.2.1) NI_X0.1 NI_X0.2.1 NI_X0.2.2 rfl (by decide +kernel) (fun l X => k_X0_init l X (sN H (8, i, 0) 0) (gI (sN H (8, i, 0) 0)) i (fun q => q.elim (fun e => absurd (congrArg Prod.fst e) (show ¬ ((4 : Nat) = 8) by decide)) hfs.2) (Or.inr hf.2.2.1)) dX7_init_113 rfl rfl rfl (Nat.le_of_ble_eq_true rfl) ⟨(Nat.le_of_ble_eq_true rfl), (Nat.le_of_ble_eq_true rfl)⟩ (by omega) (by omega) (fun v G9 hp => ?_)
      obtain ⟨rfl, e9⟩ := hp
      rw [e9]
      clear e9 G9
      refine rb_aast C dX7_init_116 rfl rfl (Or.inr (Or.inl ⟨rfl, rfl⟩)) (by rw [hN]; exact vp_in_nI hi9 (by decide)) ?_
      rw [nI_clamp (show i < 2 ^ 31 by omega)]
      refine rb_iinc C dX7_init_117 rfl (v := _ + 1) rfl rfl (Lv' := [_, _]) rfl ?_
      refine rb_goto C 95 dX7_init_120 (by decide) ?_
      rw [nI_1 i]
      exact rb_W.room (ih (i + 1) _ (by omega) (by rw [fo_s, ← hs]; rfl)) (by omega) (by omega)
  have loop1 : ∀ (d i : Nat) (H : rb_G), i + d = 6 → H = fo nNet i (gS G) → rb_W Φ (6 + 3 * i) (59 + 18 * i) 65 [some (rbR (0, 0, 0)), some (rbI (nI i))] [] H := by
    intro d
    induction d with
    | zero =>
      intro i H hi hs
      obtain rfl : i = 6 := by omega
      have hf : fNet 6 H := by
        rw [hs]
        exact fo_inv' (f := nNet) (P := fNet) (N := 6) (gS_net hF) (fun i _ G h => fNet_s h) 6 (by omega)
      refine rb_iload_n C dX7_init_65 rfl ?_
      refine rb_aload_n C dX7_init_66 rfl ?_
      refine rb_getP C FR_X7_15 dX7_init_67 rfl (o := some (2, 0, 0)) hf.1 ?_
      refine rb_alen C dX7_init_70 rfl (by first | exact Or.inl rfl | exact Or.inr (Nat.le_of_ble_eq_true rfl)) (Nat.le_of_ble_eq_true rfl) ?_
      rw [hf.2.1]
      refine rb_icmp_ge C 93 dX7_init_71 (by decide) (fun _ => ?_) (fun h9 => absurd (nI_le (a := 6) (b := 6) (Nat.le_refl _) (by decide)) h9)
      refine rb_iconst C dX7_init_93 (v := 0) (by decide) ?_
      refine rb_istore_n C dX7_init_94 (Nat.le_of_ble_eq_true rfl) rfl (Lv' := [_, _]) rfl ?_
      exact rb_W.room (loop2 36 0 H (Nat.zero_add _) (hs.trans (fo_0 _ _).symm)) (by omega) (by omega)
    | succ d ih =>
      intro i H hi hs
      have hi9 : i < 6 := by omega
      have hf : fNet i H := by
        rw [hs]
        exact fo_inv' (f := nNet) (P := fNet) (N := 6) (gS_net hF) (fun i _ G h => fNet_s h) i (by omega)
      have hfs := hf.2.2 i (Nat.le_refl _)
      have hN : ∀ w, gN (wI (gNt (sN H (5, i, 0) 0) i) w) (2, 0, 0) = 6 := fun w => by
        have h2 := hf.2.1
        unfold gNt gB wI sP sN gN at *
        simpa using h2
      refine rb_iload_n C dX7_init_65 rfl ?_
      refine rb_aload_n C dX7_init_66 rfl ?_
      refine rb_getP C FR_X7_15 dX7_init_67 rfl (o := some (2, 0, 0)) hf.1 ?_
      refine rb_alen C dX7_init_70 rfl (by first | exact Or.inl rfl | exact Or.inr (Nat.le_of_ble_eq_true rfl)) (Nat.le_of_ble_eq_true rfl) ?_
      rw [hf.2.1]
      refine rb_icmp_ge C 93 dX7_init_71 (by decide) (fun h9 => absurd h9 (nI_ge (a := i) (b := 6) hi9 (by decide))) (fun _ => ?_)
      refine rb_aload_n C dX7_init_74 rfl ?_
      refine rb_getP C FR_X7_15 dX7_init_75 rfl (o := some (2, 0, 0)) hf.1 ?_
      refine rb_iload_n C dX7_init_78 rfl ?_
      refine rb_new C (5, i, 0) K_X7_13 dX7_init_79 rfl (hfs.1) (by omega) (by omega) ?_
      refine rb_dup C dX7_init_82 rfl ?_
      refine rb_callIN C (fun _ _ h => h.2.2.2.2.2.1) NI_X5.1 NI_X5.2.1 NI_X5.2.2 rfl (by decide +kernel) (fun l X => k_X5_init l X (sN H (5, i, 0) 0) (gI (sN H (5, i, 0) 0)) i (fun q => q.elim (fun e => absurd (congrArg Prod.fst e) (show ¬ ((6 : Nat) = 5) by decide)) hfs.2.1) (fun q => q.elim (fun e => absurd (congrArg Prod.fst e) (show ¬ ((7 : Nat) = 5) by decide)) hfs.2.2)) dX7_init_83 rfl rfl rfl (Nat.le_of_ble_eq_true rfl) ⟨(Nat.le_of_ble_eq_true rfl), (Nat.le_of_ble_eq_true rfl)⟩ (by omega) (by omega) (fun v G9 hp => ?_)
      obtain ⟨rfl, e9⟩ := hp
      rw [e9]
      clear e9 G9
      refine rb_aast C dX7_init_86 rfl rfl (Or.inl ⟨rfl, rfl⟩) (by rw [hN]; exact vp_in_nI hi9 (by decide)) ?_
      rw [nI_clamp (show i < 2 ^ 31 by omega)]
      refine rb_iinc C dX7_init_87 rfl (v := _ + 1) rfl rfl (Lv' := [_, _]) rfl ?_
      refine rb_goto C 65 dX7_init_90 (by decide) ?_
      rw [nI_1 i]
      exact rb_W.room (ih (i + 1) _ (by omega) (by rw [fo_s, ← hs]; rfl)) (by omega) (by omega)
  refine rb_aload_n C dX7_init_0 rfl ?_
  refine rb_objInit C M_X7_1 ts_oi ts_oc dX7_init_1 rfl (Nat.le_of_ble_eq_true rfl) (Nat.le_of_ble_eq_true rfl) ?_
  refine rb_aload_n C dX7_init_4 rfl ?_
  refine rb_bipush C dX7_init_5 (v := 8) (by decide) ?_
  refine rb_newaI C (1, 0, 0) 8 ts_arr_int dX7_init_7 rfl (hF _ _ _ (by decide) (by decide)) (by decide) (by decide) (by decide) (Nat.le_of_ble_eq_true rfl) (Nat.le_of_ble_eq_true rfl) ?_
  refine rb_putFP C nm F_X7_9 dX7_init_9 rfl rfl ?_
  refine rb_aload_n C dX7_init_12 rfl ?_
  refine rb_bipush C dX7_init_13 (v := 6) (by decide) ?_
  refine rb_anew C (2, 0, 0) 6 (k := 14) L_X7_13 (by decide) (by decide) dX7_init_15 rfl (fun q => by rcases q with q | q <;> first | exact hF _ _ _ (by decide) (by decide) q | exact absurd (congrArg Prod.fst q) (by decide) | exact absurd (congrArg (fun r : rb_R => r.2.1) q) (by decide)) (by decide) (by decide) (by decide) (Nat.le_of_ble_eq_true rfl) (Nat.le_of_ble_eq_true rfl) ?_
  refine rb_putFP C nm F_X7_15 dX7_init_18 rfl rfl ?_
  refine rb_aload_n C dX7_init_21 rfl ?_
  refine rb_bipush C dX7_init_22 (v := 36) (by decide) ?_
  refine rb_anew C (3, 0, 0) 36 (k := 15) L_X7_19 (by decide) (by decide) dX7_init_24 rfl (fun q => by rcases q with q | q | q <;> first | exact hF _ _ _ (by decide) (by decide) q | exact absurd (congrArg Prod.fst q) (by decide) | exact absurd (congrArg (fun r : rb_R => r.2.1) q) (by decide)) (by decide) (by decide) (by decide) (Nat.le_of_ble_eq_true rfl) (Nat.le_of_ble_eq_true rfl) ?_
  refine rb_putFP C nm F_X7_21 dX7_init_27 rfl rfl ?_
  refine rb_aload_n C dX7_init_30 rfl ?_
  refine rb_new C (4, 0, 0) K_X7_25 dX7_init_31 rfl (fun q => by rcases q with q | q | q | q <;> first | exact hF _ _ _ (by decide) (by decide) q | exact absurd (congrArg Prod.fst q) (by decide) | exact absurd (congrArg (fun r : rb_R => r.2.1) q) (by decide)) (Nat.le_of_ble_eq_true rfl) (Nat.le_of_ble_eq_true rfl) ?_
  refine rb_dup C dX7_init_34 rfl ?_
  refine rb_callI C M_X7_27 (fun l X => c_linit l X (4, 0, 0) _ rfl (by first | exact Or.inr (Or.inr (Or.inr (Or.inr (Or.inr (Or.inr hE))))) | exact Or.inr (Or.inr (Or.inr (Or.inr (Or.inr hE)))) | exact Or.inr (Or.inr (Or.inr (Or.inr hE))))) dX7_init_35 rfl rfl rfl (Nat.le_of_ble_eq_true rfl) ⟨(Nat.le_of_ble_eq_true rfl), (Nat.le_of_ble_eq_true rfl)⟩ (Nat.le_of_ble_eq_true rfl) (Nat.le_of_ble_eq_true rfl) (fun v G' hp => ?_)
  obtain ⟨rfl, e9⟩ := hp
  rw [e9]
  clear e9 G'
  refine rb_putFP C nm F_X7_28 dX7_init_38 rfl rfl ?_
  refine rb_aload_n C dX7_init_41 rfl ?_
  refine rb_new C (4, 1, 0) K_X7_25 dX7_init_42 rfl (fun q => by rcases q with q | q | q | q | q <;> first | exact hF _ _ _ (by decide) (by decide) q | exact absurd (congrArg Prod.fst q) (by decide) | exact absurd (congrArg (fun r : rb_R => r.2.1) q) (by decide)) (Nat.le_of_ble_eq_true rfl) (Nat.le_of_ble_eq_true rfl) ?_
  refine rb_dup C dX7_init_45 rfl ?_
  refine rb_callI C M_X7_27 (fun l X => c_linit l X (4, 1, 0) _ rfl (by first | exact Or.inr (Or.inr (Or.inr (Or.inr (Or.inr (Or.inr hE))))) | exact Or.inr (Or.inr (Or.inr (Or.inr (Or.inr hE)))) | exact Or.inr (Or.inr (Or.inr (Or.inr hE))))) dX7_init_46 rfl rfl rfl (Nat.le_of_ble_eq_true rfl) ⟨(Nat.le_of_ble_eq_true rfl), (Nat.le_of_ble_eq_true rfl)⟩ (Nat.le_of_ble_eq_true rfl) (Nat.le_of_ble_eq_true rfl) (fun v G' hp => ?_)
  obtain ⟨rfl, e9⟩ := hp
  rw [e9]
  clear e9 G'
  refine rb_putFP C nm F_X7_32 dX7_init_49 rfl rfl ?_
  refine rb_aload_n C dX7_init_52 rfl ?_
  refine rb_new C (4, 2, 0) K_X7_25 dX7_init_53 rfl (fun q => by rcases q with q | q | q | q | q | q <;> first | exact hF _ _ _ (by decide) (by decide) q | exact absurd (congrArg Prod.fst q) (by decide) | exact absurd (congrArg (fun r : rb_R => r.2.1) q) (by decide)) (Nat.le_of_ble_eq_true rfl) (Nat.le_of_ble_eq_true rfl) ?_
  refine rb_dup C dX7_init_56 rfl ?_
  refine rb_callI C M_X7_27 (fun l X => c_linit l X (4, 2, 0) _ rfl (by first | exact Or.inr (Or.inr (Or.inr (Or.inr (Or.inr (Or.inr hE))))) | exact Or.inr (Or.inr (Or.inr (Or.inr (Or.inr hE)))) | exact Or.inr (Or.inr (Or.inr (Or.inr hE))))) dX7_init_57 rfl rfl rfl (Nat.le_of_ble_eq_true rfl) ⟨(Nat.le_of_ble_eq_true rfl), (Nat.le_of_ble_eq_true rfl)⟩ (Nat.le_of_ble_eq_true rfl) (Nat.le_of_ble_eq_true rfl) (fun v G' hp => ?_)
  obtain ⟨rfl, e9⟩ := hp
  rw [e9]
  clear e9 G'
  refine rb_putFP C nm F_X7_35 dX7_init_60 rfl rfl ?_
  refine rb_iconst C dX7_init_63 (v := 0) (by decide) ?_
  refine rb_istore_n C dX7_init_64 (Nat.le_of_ble_eq_true rfl) rfl (Lv' := [_, _]) rfl ?_
  exact loop1 6 0 (gS G) (Nat.zero_add _) (fo_0 _ _).symm

