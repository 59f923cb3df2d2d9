theorem gz_D (r : rb_R) : gD gz r = (r = (18, 0, 0) ∨ r = (19, 0, 0) ∨ r = (21, 0, 0)) := rfl
theorem gz_hF : ∀ f i j, 0 < f → f < 17 → ¬ gD (sN gz (0, 0, 0) 0) (f, i, j) := fun f i j h0 h17 h => by
  rw [sy_D, gz_D] at h
  rcases h with h | h | h | h <;> (have := congrArg (fun r : rb_R => r.1) h; simp only at this; omega)
theorem gX_hF : ∀ a b c, a = 14 ∨ a = 15 → ¬ gD (sN gX (16, 0, 0) 0) (a, b, c) := fun a b c ha h => by
  rw [sy_D] at h
  rcases h with h | h
  · have := congrArg (fun r : rb_R => r.1) h
    simp only at this
    omega
  · have := gX_at.2.2.2.2.2.2.2.2.1 _ h
    simp only at this
    omega
theorem wI_D (G : rb_G) (w : rb_I) (r : rb_R) : gD (wI G w) r = gD G r := rfl
theorem g17_hF : ¬ gD (wI (gAs 33 (sN gX (16, 0, 0) 0)) (m_init (gI (gAs 33 (sN gX (16, 0, 0) 0))))) (17, 0, 0) := fun h => by
  rw [wI_D, gAs_D, sy_D] at h
  rcases h with ⟨i, hi, h⟩ | h | h
  · have := ga_1415 i hi
    rw [← h] at this
    exact absurd this (by decide)
  · exact absurd (congrArg (fun r : rb_R => r.1) h) (by decide)
  · have := gX_at.2.2.2.2.2.2.2.2.1 _ h
    simp only at this
    omega
theorem bgG_e : sN (wI (gAs 33 (sN gX (16, 0, 0) 0)) (m_init (gI (gAs 33 (sN gX (16, 0, 0) 0))))) (17, 0, 0) 1 = wI bgG (gI bgG) := (show _ = bgG from rfl).trans (wI_e bgG)
theorem gX_e : fo nAcc 36 (fo nNet 6 (gS (sN gz (0, 0, 0) 0))) = gX := rfl
set_option maxRecDepth 100000 in
set_option maxHeartbeats 4000000 in
theorem law_main {Φ : rb_F} (C : rb_C Φ RL cL_law 7 15 568 601024 7293034) {b L : Nat} {xs : Nat → Int32} (hs : rb_Scr Φ b L xs) (hL : L ≤ 4096) (fin : ∀ c s Lv G, c ≤ 601024 → s ≤ 7293034 → rb_W Φ c s 1933 Lv [rbI 1] G) : rb_W Φ 0 0 0 [some (rbR (18, 0, 0)), none, none, none, none, none, none] [] gz := by
  refine rb_new C (0, 0, 0) K_L_8 dL_law_0 rfl (fun h => by rw [gz_D] at h; rcases h with h | h | h <;> exact absurd (congrArg (fun r : rb_R => r.1) h) (by decide)) (Nat.le_of_ble_eq_true rfl) (Nat.le_of_ble_eq_true rfl) ?_
  refine rb_dup C dL_law_3 rfl ?_
  refine rb_callI C M_L_98 (fun l X => k_X7_init l X (sN gz (0, 0, 0) 0) gz_hF (Or.inr (Or.inr (Or.inl rfl)))) dL_law_4 rfl rfl rfl (Nat.le_of_ble_eq_true rfl) ⟨(Nat.le_of_ble_eq_true rfl), (Nat.le_of_ble_eq_true rfl)⟩ (Nat.le_of_ble_eq_true rfl) (Nat.le_of_ble_eq_true rfl) (fun v G' hp => ?_)
  obtain ⟨rfl, e9⟩ := hp
  rw [e9, gX_e]
  clear e9 G'
  refine rb_astore_n C dL_law_7 (Nat.le_of_ble_eq_true rfl) rfl (Lv' := [_, _, _, _, _, _, _]) rfl ?_
  refine rb_new C (16, 0, 0) K_L_99 dL_law_8 rfl (fun h => by have := gX_at.2.2.2.2.2.2.2.2.1 _ h; simp only at this; omega) (Nat.le_of_ble_eq_true rfl) (Nat.le_of_ble_eq_true rfl) ?_
  refine rb_dup C dL_law_11 rfl ?_
  refine rb_callI C M_L_101 (fun l X => k_X8_init l X (sN gX (16, 0, 0) 0) gX_hF) dL_law_12 rfl rfl rfl (Nat.le_of_ble_eq_true rfl) ⟨(Nat.le_of_ble_eq_true rfl), (Nat.le_of_ble_eq_true rfl)⟩ (Nat.le_of_ble_eq_true rfl) (Nat.le_of_ble_eq_true rfl) (fun v G' hp => ?_)
  obtain ⟨rfl, e9⟩ := hp
  rw [e9]
  clear e9 G'
  refine rb_astore_n C dL_law_15 (Nat.le_of_ble_eq_true rfl) rfl (Lv' := [_, _, _, _, _, _, _]) rfl ?_
  refine rb_iconst C dL_law_16 (v := 1) (by decide) ?_
  refine rb_newaL C (17, 0, 0) 1 ts_arr_long dL_law_17 rfl g17_hF (by decide) (by decide) (by decide) (Nat.le_of_ble_eq_true rfl) (Nat.le_of_ble_eq_true rfl) ?_
  rw [bgG_e]
  refine rb_astore_n C dL_law_19 (Nat.le_of_ble_eq_true rfl) rfl (Lv' := [_, _, _, _, _, _, _]) rfl ?_
  refine rb_iconst C dL_law_20 (v := 0) (by decide) ?_
  refine rb_istore C dL_law_21 (Nat.le_of_ble_eq_true rfl) rfl (Lv' := [_, _, _, _, _, _, _]) rfl ?_
  have h := law_loop C hs hL fin L 0 (by omega) (by decide) bgG (gI bgG) _ _ bg_lI
  have e0 : LV (8 * 0) = [some (rbR (18, 0, 0)), some (rbR (0, 0, 0)), some (rbR (16, 0, 0)), some (rbR (17, 0, 0)), some (rbI 0), none, none] := by
    unfold LV
    rw [show nI (8 * 0) = 0 from nI_0]
  rw [e0] at h
  exact rb_W.room h (Nat.le_of_ble_eq_true rfl) (Nat.le_of_ble_eq_true rfl)
theorem rb_fin {p : Program} {l : Launch} {e : Env} {s : State} {m : MethodId} {below : List Frame} {meth : Method} {c : Code} {b : Nat} {Q : State → Prop} {X : rb_X} {ad0 : rb_R → Nat}
    (hret : ∀ (H : Heap) (ls : Array Slot), W p l e room_1 s m #[Value.ref b] below meth c H [] 601024 7293034 Q (F0 m 1933 ls [.int 1])) : ∀ c' s' Lv G, c' ≤ 601024 → s' ≤ 7293034 → rb_W (p, l, e, room_1, s, m, #[Value.ref b], below, meth, c, Q, X, (fun q => s.heap.size ≤ q), ad0, gz) c' s' 1933 Lv [rbI 1] G := by
  intro c' s' Lv G hc hs ad H locs ls hP hn hS hl ho hv
  refine va_forget (fun q hq => hS.2.2 q hq) ?_
  exact W.widen hc hs (hret H ls)
theorem rb_begin {X : rb_X} {b : Nat} {A : Nat → Prop} {H : Heap} (hX : X.2.2.2.1 = b) : rb_P X (fun r => if r = (18, 0, 0) then b else if r = (19, 0, 0) then X.2.2.1 else X.2.2.2.2) A gz H := by
  have k20 : ∀ r, gD gz r → ¬ rb_k r.1 < 20 := fun r hr => by
    rw [gz_D] at hr
    rcases hr with hr | hr | hr <;> rw [hr] <;> decide
  refine ⟨fun r hr hk => absurd hk (k20 r hr), fun r r' hr _ hk _ _ => absurd hk (k20 r hr), fun r k r' _ h => (by cases h), ?_, ?_, ?_⟩
  · show (if ((19, 0, 0) : rb_R) = (18, 0, 0) then b else if ((19, 0, 0) : rb_R) = (19, 0, 0) then X.2.2.1 else X.2.2.2.2) = _
    rw [if_neg (by decide), if_pos rfl]
  · show (if ((18, 0, 0) : rb_R) = (18, 0, 0) then b else _) = _
    rw [if_pos rfl, hX]
  · show (if ((21, 0, 0) : rb_R) = (18, 0, 0) then b else if ((21, 0, 0) : rb_R) = (19, 0, 0) then X.2.2.1 else X.2.2.2.2) = _
    rw [if_neg (by decide), if_neg (by decide)]
