set_option maxRecDepth 100000 in
set_option maxHeartbeats 4000000 in
theorem law_main0 {Φ : rb_F} (C : rb_C Φ RL cL_law 54 15 568 734644 6897897) (fin : ∀ c s Lv G, c ≤ 734644 → s ≤ 6897897 → rb_W Φ c s 3361 Lv [rbI 1] G) : rb_W Φ 1000 10000 66 [some (rbR (18, 0, 0)), some (rbR (0, 0, 0)), some (rbR (14, 0, 0)), some (rbR (14, 1, 0)), some (rbR (14, 2, 0)), some (rbR (14, 3, 0)), some (rbR (14, 4, 0)), some (rbR (14, 5, 0)), some (rbR (14, 6, 0)), some (rbR (14, 7, 0)), some (rbR (14, 8, 0)), some (rbR (14, 9, 0)), none, none, none, none, none, none, none, none, none, none, none, none, none, none, none, none, none, none, none, none, none, none, none, none, none, none, none, none, none, none, none, none, none, none, none, none, none, none, none, none, none, none] [] (wI bgG (bW 0 0)) := by
  have hm := bg_P.2.2.2
  refine rb_iconst C dL_law_66 (v := 0) (by decide) ?_
  refine rb_istore C dL_law_67 (Nat.le_of_ble_eq_true rfl) rfl (Lv' := [_, _, _, _, _, _, _, _, _, _, _, _, _, _, _, _, _, _, _, _, _, _, _, _, _, _, _, _, _, _, _, _, _, _, _, _, _, _, _, _, _, _, _, _, _, _, _, _, _, _, _, _, _, _]) rfl ?_
  have loop69 : ∀ (dd : Nat) (q : Nat), q + dd = 36 → rb_W Φ 1000 10000 69 [some (rbR (18, 0, 0)), some (rbR (0, 0, 0)), some (rbR (14, 0, 0)), some (rbR (14, 1, 0)), some (rbR (14, 2, 0)), some (rbR (14, 3, 0)), some (rbR (14, 4, 0)), some (rbR (14, 5, 0)), some (rbR (14, 6, 0)), some (rbR (14, 7, 0)), some (rbR (14, 8, 0)), some (rbR (14, 9, 0)), some (rbI (nI q)), none, none, none, none, none, none, none, none, none, none, none, none, none, none, none, none, none, none, none, none, none, none, none, none, none, none, none, none, none, none, none, none, none, none, none, none, none, none, none, none, none] [] (wI bgG (bW q 0)) := by
    intro dd
    induction dd with
    | zero =>
      intro q hq
      obtain rfl : q = 36 := by omega
      refine rb_iload C dL_law_69 rfl ?_
      refine rb_bipush C dL_law_71 (v := 36) (by decide) ?_
      refine rb_icmp_ge C 88 dL_law_73 (by decide) (fun _ => ?_) (fun h9 => absurd ((by decide)) h9)
      refine rb_iconst C dL_law_88 (v := 0) (by decide) ?_
      refine rb_istore C dL_law_89 (Nat.le_of_ble_eq_true rfl) rfl (Lv' := [_, _, _, _, _, _, _, _, _, _, _, _, _, _, _, _, _, _, _, _, _, _, _, _, _, _, _, _, _, _, _, _, _, _, _, _, _, _, _, _, _, _, _, _, _, _, _, _, _, _, _, _, _, _]) rfl ?_
      have loop91 : ∀ (dd : Nat) (q : Nat), q + dd = 6 → rb_W Φ 1000 10000 91 [some (rbR (18, 0, 0)), some (rbR (0, 0, 0)), some (rbR (14, 0, 0)), some (rbR (14, 1, 0)), some (rbR (14, 2, 0)), some (rbR (14, 3, 0)), some (rbR (14, 4, 0)), some (rbR (14, 5, 0)), some (rbR (14, 6, 0)), some (rbR (14, 7, 0)), some (rbR (14, 8, 0)), some (rbR (14, 9, 0)), some (rbI (nI q)), none, none, none, none, none, none, none, none, none, none, none, none, none, none, none, none, none, none, none, none, none, none, none, none, none, none, none, none, none, none, none, none, none, none, none, none, none, none, none, none, none] [] (wI bgG (bW 36 q)) := by
        intro dd
        induction dd with
        | zero =>
          intro q hq
          obtain rfl : q = 6 := by omega
          refine rb_iload C dL_law_91 rfl ?_
          refine rb_bipush C dL_law_93 (v := 6) (by decide) ?_
          refine rb_icmp_ge C 145 dL_law_95 (by decide) (fun _ => ?_) (fun h9 => absurd ((by decide)) h9)
          refine rb_iconst C dL_law_145 (v := 0) (by decide) ?_
          refine rb_istore C dL_law_146 (Nat.le_of_ble_eq_true rfl) rfl (Lv' := [_, _, _, _, _, _, _, _, _, _, _, _, _, _, _, _, _, _, _, _, _, _, _, _, _, _, _, _, _, _, _, _, _, _, _, _, _, _, _, _, _, _, _, _, _, _, _, _, _, _, _, _, _, _]) rfl ?_
          exact rb_W.room (law_loop C fin 140 0 (by omega) bgG (bW 36 6) gM bg_J) (by omega) (by omega)
        | succ dd ih =>
          intro q hq
          refine rb_iload C dL_law_91 rfl ?_
          refine rb_bipush C dL_law_93 (v := 6) (by decide) ?_
          refine rb_icmp_ge C 145 dL_law_95 (by decide) (fun h9 => absurd h9 ((nI_ge (a := q) (b := 6) (by omega) (by omega)))) (fun _ => ?_)
          refine rb_aload_n C dL_law_98 rfl ?_
          refine rb_bipush C dL_law_99 (v := 6) (by decide) ?_
          refine rb_iload C dL_law_101 rfl ?_
          refine rq_iadd C (z := (nI (6 + q))) dL_law_103 (nI_add 6 q) ?_
          refine rb_iconst C dL_law_104 (v := (-1)) (by decide) ?_
          refine rw_iast C 44 (6 + q) dL_law_105 rfl (hm 0 (by decide)) (vp_in_nI (show 6 + q < 44 by omega) (by decide)) (nI_clamp (show 6 + q < 2 ^ 31 by omega)) ?_
          refine rb_aload_n C dL_law_106 rfl ?_
          refine rb_bipush C dL_law_107 (v := 26) (by decide) ?_
          refine rb_iconst C dL_law_109 (v := 3) (by decide) ?_
          refine rb_iload C dL_law_110 rfl ?_
          refine rq_imul C (z := (nI (3 * q))) dL_law_112 (pk_mul 3 q) ?_
          refine rq_iadd C (z := (nI (26 + 3 * q))) dL_law_113 (nI_add 26 (3 * q)) ?_
          refine rb_bipush C dL_law_114 (v := 10) (by decide) ?_
          refine rw_iast C 44 (26 + 3 * q) dL_law_116 rfl (hm 0 (by decide)) (vp_in_nI (show 26 + 3 * q < 44 by omega) (by decide)) (nI_clamp (show 26 + 3 * q < 2 ^ 31 by omega)) ?_
          refine rb_aload_n C dL_law_117 rfl ?_
          refine rb_bipush C dL_law_118 (v := 27) (by decide) ?_
          refine rb_iconst C dL_law_120 (v := 3) (by decide) ?_
          refine rb_iload C dL_law_121 rfl ?_
          refine rq_imul C (z := (nI (3 * q))) dL_law_123 (pk_mul 3 q) ?_
          refine rq_iadd C (z := (nI (27 + 3 * q))) dL_law_124 (nI_add 27 (3 * q)) ?_
          refine rb_bipush C dL_law_125 (v := 50) (by decide) ?_
          refine rw_iast C 44 (27 + 3 * q) dL_law_127 rfl (hm 0 (by decide)) (vp_in_nI (show 27 + 3 * q < 44 by omega) (by decide)) (nI_clamp (show 27 + 3 * q < 2 ^ 31 by omega)) ?_
          refine rb_aload_n C dL_law_128 rfl ?_
          refine rb_bipush C dL_law_129 (v := 28) (by decide) ?_
          refine rb_iconst C dL_law_131 (v := 3) (by decide) ?_
          refine rb_iload C dL_law_132 rfl ?_
          refine rq_imul C (z := (nI (3 * q))) dL_law_134 (pk_mul 3 q) ?_
          refine rq_iadd C (z := (nI (28 + 3 * q))) dL_law_135 (nI_add 28 (3 * q)) ?_
          refine rb_bipush C dL_law_136 (v := 20) (by decide) ?_
          refine rw_iast C 44 (28 + 3 * q) dL_law_138 rfl (hm 0 (by decide)) (vp_in_nI (show 28 + 3 * q < 44 by omega) (by decide)) (nI_clamp (show 28 + 3 * q < 2 ^ 31 by omega)) ?_
          refine rq_iinc C dL_law_139 rfl (v := (nI (q + 1))) (nI_1 q) rfl (Lv' := [_, _, _, _, _, _, _, _, _, _, _, _, _, _, _, _, _, _, _, _, _, _, _, _, _, _, _, _, _, _, _, _, _, _, _, _, _, _, _, _, _, _, _, _, _, _, _, _, _, _, _, _, _, _]) rfl ?_
          refine rb_goto C 91 dL_law_142 (by decide) ?_
          rw [bW_g q (by omega)]
          exact ih (q + 1) (by omega)
      have h0 := loop91 6 0 (by omega)
      rw [nI_0] at h0
      exact h0
    | succ dd ih =>
      intro q hq
      refine rb_iload C dL_law_69 rfl ?_
      refine rb_bipush C dL_law_71 (v := 36) (by decide) ?_
      refine rb_icmp_ge C 88 dL_law_73 (by decide) (fun h9 => absurd h9 ((nI_ge (a := q) (b := 36) (by omega) (by omega)))) (fun _ => ?_)
      refine rb_aload C dL_law_76 rfl ?_
      refine rb_iload C dL_law_78 rfl ?_
      refine rb_iconst C dL_law_80 (v := (-1)) (by decide) ?_
      refine rw_iast C 36 (q) dL_law_81 rfl (hm 2 (by decide)) (vp_in_nI (show q < 36 by omega) (by decide)) (nI_clamp (show q < 2 ^ 31 by omega)) ?_
      refine rq_iinc C dL_law_82 rfl (v := (nI (q + 1))) (nI_1 q) rfl (Lv' := [_, _, _, _, _, _, _, _, _, _, _, _, _, _, _, _, _, _, _, _, _, _, _, _, _, _, _, _, _, _, _, _, _, _, _, _, _, _, _, _, _, _, _, _, _, _, _, _, _, _, _, _, _, _]) rfl ?_
      refine rb_goto C 69 dL_law_85 (by decide) ?_
      rw [bW_b q]
      exact ih (q + 1) (by omega)
  have h0 := loop69 36 0 (by omega)
  rw [nI_0] at h0
  exact h0

theorem gz_D (r : rb_R) : gD gz r = (r = (18, 0, 0) ∨ r = (19, 0, 0) ∨ r = (21, 0, 0)) := rfl
theorem gz_hF : ∀ f i j, 0 < f → f < 17 → ¬ gD (sN gz (0, 0, 0) 0) (f, i, j) := fun f i j h0 h17 h => by
  rw [sy_D, gz_D] at h
  rcases h with h | h | h | h <;> (have := congrArg (fun r : rb_R => r.1) h; simp only at this; omega)
theorem gX_e : fo nAcc 36 (fo nNet 6 (gS (sN gz (0, 0, 0) 0))) = gA 0 := rfl
theorem wI_e (G : rb_G) : G = wI G (gI G) := rfl
theorem gA_e : gA 10 = wI bgG (bW 0 0) := (wI_e bgG).trans (by rw [bW_0])
set_option maxRecDepth 100000 in
set_option maxHeartbeats 4000000 in
theorem law_main {Φ : rb_F} (C : rb_C Φ RL cL_law 54 15 568 734644 6897897) (fin : ∀ c s Lv G, c ≤ 734644 → s ≤ 6897897 → rb_W Φ c s 3361 Lv [rbI 1] G) : rb_W Φ 0 0 0 [some (rbR (18, 0, 0)), none, none, none, none, none, none, none, none, none, none, none, none, none, none, none, none, none, none, none, none, none, none, none, none, none, none, none, none, none, none, none, none, none, none, none, none, none, none, none, none, none, none, none, none, none, none, none, none, none, none, none, none, none] [] gz := by
  refine rb_new C (0, 0, 0) K_L_9 dL_law_0 rfl (fun h => by rw [gz_D] at h; rcases h with h | h | h <;> exact absurd (congrArg (fun r : rb_R => r.1) h) (by decide)) (Nat.le_of_ble_eq_true rfl) (Nat.le_of_ble_eq_true rfl) ?_
  refine rb_dup C dL_law_3 rfl ?_
  refine rb_callI C M_L_138 (fun l X => k_X7_init l X (sN gz (0, 0, 0) 0) gz_hF (Or.inr (Or.inr (Or.inl rfl)))) dL_law_4 rfl rfl rfl (Nat.le_of_ble_eq_true rfl) ⟨(Nat.le_of_ble_eq_true rfl), (Nat.le_of_ble_eq_true rfl)⟩ (Nat.le_of_ble_eq_true rfl) (Nat.le_of_ble_eq_true rfl) (fun v G' hp => ?_)
  obtain ⟨rfl, e9⟩ := hp
  rw [e9, gX_e]
  clear e9 G'
  refine rb_astore_n C dL_law_7 (Nat.le_of_ble_eq_true rfl) rfl (Lv' := [_, _, _, _, _, _, _, _, _, _, _, _, _, _, _, _, _, _, _, _, _, _, _, _, _, _, _, _, _, _, _, _, _, _, _, _, _, _, _, _, _, _, _, _, _, _, _, _, _, _, _, _, _, _]) rfl ?_
  refine rb_bipush C dL_law_8 (v := 44) (by decide) ?_
  refine rb_newaI C (14, 0, 0) (llen 0) ts_arr_int dL_law_10 rfl (gA_f 0) (by decide) rfl (by decide) (Nat.le_of_ble_eq_true rfl) (Nat.le_of_ble_eq_true rfl) ?_
  rw [show sN (gA 0) (14, 0, 0) (llen 0) = gA 1 from rfl]
  refine rb_astore_n C dL_law_12 (Nat.le_of_ble_eq_true rfl) rfl (Lv' := [_, _, _, _, _, _, _, _, _, _, _, _, _, _, _, _, _, _, _, _, _, _, _, _, _, _, _, _, _, _, _, _, _, _, _, _, _, _, _, _, _, _, _, _, _, _, _, _, _, _, _, _, _, _]) rfl ?_
  refine rb_bipush C dL_law_13 (v := 48) (by decide) ?_
  refine rb_newaI C (14, 1, 0) (llen 1) ts_arr_int dL_law_15 rfl (gA_f 1) (by decide) rfl (by decide) (Nat.le_of_ble_eq_true rfl) (Nat.le_of_ble_eq_true rfl) ?_
  rw [show sN (gA 1) (14, 1, 0) (llen 1) = gA 2 from rfl]
  refine rb_astore_n C dL_law_17 (Nat.le_of_ble_eq_true rfl) rfl (Lv' := [_, _, _, _, _, _, _, _, _, _, _, _, _, _, _, _, _, _, _, _, _, _, _, _, _, _, _, _, _, _, _, _, _, _, _, _, _, _, _, _, _, _, _, _, _, _, _, _, _, _, _, _, _, _]) rfl ?_
  refine rb_bipush C dL_law_18 (v := 36) (by decide) ?_
  refine rb_newaI C (14, 2, 0) (llen 2) ts_arr_int dL_law_20 rfl (gA_f 2) (by decide) rfl (by decide) (Nat.le_of_ble_eq_true rfl) (Nat.le_of_ble_eq_true rfl) ?_
  rw [show sN (gA 2) (14, 2, 0) (llen 2) = gA 3 from rfl]
  refine rb_astore C dL_law_22 (Nat.le_of_ble_eq_true rfl) rfl (Lv' := [_, _, _, _, _, _, _, _, _, _, _, _, _, _, _, _, _, _, _, _, _, _, _, _, _, _, _, _, _, _, _, _, _, _, _, _, _, _, _, _, _, _, _, _, _, _, _, _, _, _, _, _, _, _]) rfl ?_
  refine rb_bipush C dL_law_24 (v := 60) (by decide) ?_
  refine rb_newaI C (14, 3, 0) (llen 3) ts_arr_int dL_law_26 rfl (gA_f 3) (by decide) rfl (by decide) (Nat.le_of_ble_eq_true rfl) (Nat.le_of_ble_eq_true rfl) ?_
  rw [show sN (gA 3) (14, 3, 0) (llen 3) = gA 4 from rfl]
  refine rb_astore C dL_law_28 (Nat.le_of_ble_eq_true rfl) rfl (Lv' := [_, _, _, _, _, _, _, _, _, _, _, _, _, _, _, _, _, _, _, _, _, _, _, _, _, _, _, _, _, _, _, _, _, _, _, _, _, _, _, _, _, _, _, _, _, _, _, _, _, _, _, _, _, _]) rfl ?_
  refine rb_bipush C dL_law_30 (v := 60) (by decide) ?_
  refine rb_newaI C (14, 4, 0) (llen 4) ts_arr_int dL_law_32 rfl (gA_f 4) (by decide) rfl (by decide) (Nat.le_of_ble_eq_true rfl) (Nat.le_of_ble_eq_true rfl) ?_
  rw [show sN (gA 4) (14, 4, 0) (llen 4) = gA 5 from rfl]
  refine rb_astore C dL_law_34 (Nat.le_of_ble_eq_true rfl) rfl (Lv' := [_, _, _, _, _, _, _, _, _, _, _, _, _, _, _, _, _, _, _, _, _, _, _, _, _, _, _, _, _, _, _, _, _, _, _, _, _, _, _, _, _, _, _, _, _, _, _, _, _, _, _, _, _, _]) rfl ?_
  refine rb_bipush C dL_law_36 (v := 60) (by decide) ?_
  refine rb_newaI C (14, 5, 0) (llen 5) ts_arr_int dL_law_38 rfl (gA_f 5) (by decide) rfl (by decide) (Nat.le_of_ble_eq_true rfl) (Nat.le_of_ble_eq_true rfl) ?_
  rw [show sN (gA 5) (14, 5, 0) (llen 5) = gA 6 from rfl]
  refine rb_astore C dL_law_40 (Nat.le_of_ble_eq_true rfl) rfl (Lv' := [_, _, _, _, _, _, _, _, _, _, _, _, _, _, _, _, _, _, _, _, _, _, _, _, _, _, _, _, _, _, _, _, _, _, _, _, _, _, _, _, _, _, _, _, _, _, _, _, _, _, _, _, _, _]) rfl ?_
  refine rb_bipush C dL_law_42 (v := 60) (by decide) ?_
  refine rb_newaI C (14, 6, 0) (llen 6) ts_arr_int dL_law_44 rfl (gA_f 6) (by decide) rfl (by decide) (Nat.le_of_ble_eq_true rfl) (Nat.le_of_ble_eq_true rfl) ?_
  rw [show sN (gA 6) (14, 6, 0) (llen 6) = gA 7 from rfl]
  refine rb_astore C dL_law_46 (Nat.le_of_ble_eq_true rfl) rfl (Lv' := [_, _, _, _, _, _, _, _, _, _, _, _, _, _, _, _, _, _, _, _, _, _, _, _, _, _, _, _, _, _, _, _, _, _, _, _, _, _, _, _, _, _, _, _, _, _, _, _, _, _, _, _, _, _]) rfl ?_
  refine rb_bipush C dL_law_48 (v := 60) (by decide) ?_
  refine rb_newaI C (14, 7, 0) (llen 7) ts_arr_int dL_law_50 rfl (gA_f 7) (by decide) rfl (by decide) (Nat.le_of_ble_eq_true rfl) (Nat.le_of_ble_eq_true rfl) ?_
  rw [show sN (gA 7) (14, 7, 0) (llen 7) = gA 8 from rfl]
  refine rb_astore C dL_law_52 (Nat.le_of_ble_eq_true rfl) rfl (Lv' := [_, _, _, _, _, _, _, _, _, _, _, _, _, _, _, _, _, _, _, _, _, _, _, _, _, _, _, _, _, _, _, _, _, _, _, _, _, _, _, _, _, _, _, _, _, _, _, _, _, _, _, _, _, _]) rfl ?_
  refine rb_bipush C dL_law_54 (v := 60) (by decide) ?_
  refine rb_newaI C (14, 8, 0) (llen 8) ts_arr_int dL_law_56 rfl (gA_f 8) (by decide) rfl (by decide) (Nat.le_of_ble_eq_true rfl) (Nat.le_of_ble_eq_true rfl) ?_
  rw [show sN (gA 8) (14, 8, 0) (llen 8) = gA 9 from rfl]
  refine rb_astore C dL_law_58 (Nat.le_of_ble_eq_true rfl) rfl (Lv' := [_, _, _, _, _, _, _, _, _, _, _, _, _, _, _, _, _, _, _, _, _, _, _, _, _, _, _, _, _, _, _, _, _, _, _, _, _, _, _, _, _, _, _, _, _, _, _, _, _, _, _, _, _, _]) rfl ?_
  refine rb_bipush C dL_law_60 (v := 48) (by decide) ?_
  refine rb_newaI C (14, 9, 0) (llen 9) ts_arr_int dL_law_62 rfl (gA_f 9) (by decide) rfl (by decide) (Nat.le_of_ble_eq_true rfl) (Nat.le_of_ble_eq_true rfl) ?_
  rw [show sN (gA 9) (14, 9, 0) (llen 9) = gA 10 from rfl]
  refine rb_astore C dL_law_64 (Nat.le_of_ble_eq_true rfl) rfl (Lv' := [_, _, _, _, _, _, _, _, _, _, _, _, _, _, _, _, _, _, _, _, _, _, _, _, _, _, _, _, _, _, _, _, _, _, _, _, _, _, _, _, _, _, _, _, _, _, _, _, _, _, _, _, _, _]) rfl ?_
  rw [gA_e]
  exact rb_W.room (law_main0 C fin) (Nat.le_of_ble_eq_true rfl) (Nat.le_of_ble_eq_true rfl)
theorem rb_fin {p : Program} {l : Launch} {e : Env} {s : State} {m : MethodId} {below : List Frame} {meth : Method} {c : Code} {b : Nat} {Q : State → Prop} {X : rb_X} {ad0 : rb_R → Nat}
    (hret : ∀ (H : Heap) (ls : Array Slot), W p l e room_1 s m #[Value.ref b] below meth c H [] 734644 6897897 Q (F0 m 3361 ls [.int 1])) : ∀ c' s' Lv G, c' ≤ 734644 → s' ≤ 6897897 → rb_W (p, l, e, room_1, s, m, #[Value.ref b], below, meth, c, Q, X, (fun q => s.heap.size ≤ q), ad0, gz) c' s' 3361 Lv [rbI 1] G := by
  intro c' s' Lv G hc hs ad H locs ls hP hn hS hl ho hv
  refine va_forget (fun q hq => hS.2.2 q hq) ?_
  exact W.widen hc hs (hret H ls)
theorem rb_begin {X : rb_X} {b : Nat} {A : Nat → Prop} {H : Heap} (hX : X.2.2.2.1 = b) : rb_P X (fun r => if r = (18, 0, 0) then b else if r = (19, 0, 0) then X.2.2.1 else X.2.2.2.2) A gz H := by
  have k20 : ∀ r, gD gz r → ¬ rb_k r.1 < 20 := fun r hr => by
    rw [gz_D] at hr
    rcases hr with hr | hr | hr <;> rw [hr] <;> decide
  refine ⟨fun r hr hk => absurd hk (k20 r hr), fun r r' hr _ hk _ _ => absurd hk (k20 r hr), fun r k r' _ h => (by cases h), ?_, ?_, ?_⟩
  · show (if ((19, 0, 0) : rb_R) = (18, 0, 0) then b else if ((19, 0, 0) : rb_R) = (19, 0, 0) then X.2.2.1 else X.2.2.2.2) = _
    rw [if_neg (by decide), if_pos rfl]
  · show (if ((18, 0, 0) : rb_R) = (18, 0, 0) then b else _) = _
    rw [if_pos rfl, hX]
  · show (if ((21, 0, 0) : rb_R) = (18, 0, 0) then b else if ((21, 0, 0) : rb_R) = (19, 0, 0) then X.2.2.1 else X.2.2.2.2) = _
    rw [if_neg (by decide), if_neg (by decide)]
