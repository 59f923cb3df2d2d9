theorem tb_out {x : Int32} (h : ∀ j, j < 25 → x ≠ nI j) : x.toInt < 0 ∨ 24 < x.toInt := by
  rcases Classical.em (x < 0) with q | q
  · exact Or.inl (by simpa using Int32.lt_iff_toInt_lt.mp q)
  · obtain ⟨j, hj, e⟩ := nI_of q
    refine Or.inr ?_
    rw [e, nI_toInt hj]
    have : ¬ j < 25 := fun z => h j z e
    omega
theorem rb_pcs {Φ : rb_F} {cells slots pc pc' : Nat} {Lv : List (Option rb_V)} {st : List rb_V} {G : rb_G} (e : pc = pc') (h : rb_W Φ cells slots pc' Lv st G) : rb_W Φ cells slots pc Lv st G := by rw [e]; exact h
set_option maxRecDepth 100000 in
set_option maxHeartbeats 4000000 in
theorem law_step {Φ : rb_F} {cells slots : Nat} (C : rb_C Φ RL cL_law 7 15 568 601024 7293034) {b L : Nat} {xs : Nat → Int32} (hs : rb_Scr Φ b L xs) {i : Nat} (hi : i + 8 ≤ L) (hL : L ≤ 4096) (hc : cells + 12 ≤ 601024) (hsl : slots + 2200 ≤ 7293034) {G : rb_G} {W : rb_I} {cn : Nat → Nat} {ag : Nat → Nat → Int32} (h : lI G W cn ag) (kk : ∀ G' W' cn' ag', lI G' W' cn' ag' → rb_W Φ (cells + 12) (slots + 2200) 1926 (LV i) [] (wI G' W')) : rb_W Φ cells slots 33 (LV i) [] (wI G W) := by
  refine rb_aload_n C dL_law_33 rfl ?_
  refine rb_iload C dL_law_34 rfl ?_
  refine rb_sld0 C hs hi hL dL_law_36 ?_
  refine rb_bipush C dL_law_37 (v := 31) (by decide) ?_
  refine rb_iand C dL_law_39 ?_
  generalize xs i &&& 31 = x at *
  rcases Classical.em (x = 0) with q0 | q0
  · refine rb_tableIn C 156 dL_law_40 (by rw [q0]; decide) (by rw [q0]; decide) (off := 116) (by rw [q0]; rfl) (by decide) ?_
    exact law_reach C hs hi hL hc hsl h kk
  rcases Classical.em (x = 1) with q1 | q1
  · refine rb_tableIn C 224 dL_law_40 (by rw [q1]; decide) (by rw [q1]; decide) (off := 184) (by rw [q1]; rfl) (by decide) ?_
    exact law_dead C hs hi hL hc hsl h kk
  rcases Classical.em (x = 2) with q2 | q2
  · refine rb_tableIn C 315 dL_law_40 (by rw [q2]; decide) (by rw [q2]; decide) (off := 275) (by rw [q2]; rfl) (by decide) ?_
    exact law_agree C hs hi hL hc hsl h kk
  rcases Classical.em (x = 3) with q3 | q3
  · refine rb_tableIn C 447 dL_law_40 (by rw [q3]; decide) (by rw [q3]; decide) (off := 407) (by rw [q3]; rfl) (by decide) ?_
    exact law_steer C hs hi hL hc hsl h kk
  rcases Classical.em (x = 4) with q4 | q4
  · refine rb_tableIn C 515 dL_law_40 (by rw [q4]; decide) (by rw [q4]; decide) (off := 475) (by rw [q4]; rfl) (by decide) ?_
    exact law_prices C hs hi hL hc hsl h kk
  rcases Classical.em (x = 5) with q5 | q5
  · refine rb_tableIn C 587 dL_law_40 (by rw [q5]; decide) (by rw [q5]; decide) (off := 547) (by rw [q5]; rfl) (by decide) ?_
    exact law_lose C hs hi hL hc hsl h kk
  rcases Classical.em (x = 6) with q6 | q6
  · refine rb_tableIn C 655 dL_law_40 (by rw [q6]; decide) (by rw [q6]; decide) (off := 615) (by rw [q6]; rfl) (by decide) ?_
    exact law_crash C hs hi hL hc hsl h kk
  rcases Classical.em (x = 7) with q7 | q7
  · refine rb_tableIn C 711 dL_law_40 (by rw [q7]; decide) (by rw [q7]; decide) (off := 671) (by rw [q7]; rfl) (by decide) ?_
    exact law_subscriber C hs hi hL hc hsl h kk
  rcases Classical.em (x = 8) with q8 | q8
  · refine rb_tableIn C 791 dL_law_40 (by rw [q8]; decide) (by rw [q8]; decide) (off := 751) (by rw [q8]; rfl) (by decide) ?_
    exact law_move C hs hi hL hc hsl h kk
  rcases Classical.em (x = 9) with q9 | q9
  · refine rb_tableIn C 859 dL_law_40 (by rw [q9]; decide) (by rw [q9]; decide) (off := 819) (by rw [q9]; rfl) (by decide) ?_
    exact law_off C hs hi hL hc hsl h kk
  rcases Classical.em (x = 10) with q10 | q10
  · refine rb_tableIn C 915 dL_law_40 (by rw [q10]; decide) (by rw [q10]; decide) (off := 875) (by rw [q10]; rfl) (by decide) ?_
    exact law_attach C hs hi hL hc hsl h kk
  rcases Classical.em (x = 11) with q11 | q11
  · refine rb_tableIn C 983 dL_law_40 (by rw [q11]; decide) (by rw [q11]; decide) (off := 943) (by rw [q11]; rfl) (by decide) ?_
    exact law_emergency C hs hi hL hc hsl h kk
  rcases Classical.em (x = 12) with q12 | q12
  · refine rb_tableIn C 1039 dL_law_40 (by rw [q12]; decide) (by rw [q12]; decide) (off := 999) (by rw [q12]; rfl) (by decide) ?_
    exact law_where C hs hi hL hc hsl h kk
  rcases Classical.em (x = 13) with q13 | q13
  · refine rb_tableIn C 1095 dL_law_40 (by rw [q13]; decide) (by rw [q13]; decide) (off := 1055) (by rw [q13]; rfl) (by decide) ?_
    exact law_contact C hs hi hL hc hsl h kk
  rcases Classical.em (x = 14) with q14 | q14
  · refine rb_tableIn C 1163 dL_law_40 (by rw [q14]; decide) (by rw [q14]; decide) (off := 1123) (by rw [q14]; rfl) (by decide) ?_
    exact law_agrees C hs hi hL hc hsl h kk
  rcases Classical.em (x = 15) with q15 | q15
  · refine rb_tableIn C 1226 dL_law_40 (by rw [q15]; decide) (by rw [q15]; decide) (off := 1186) (by rw [q15]; rfl) (by decide) ?_
    exact law_subscriberIs C hs hi hL hc hsl h kk
  rcases Classical.em (x = 16) with q16 | q16
  · refine rb_tableIn C 1294 dL_law_40 (by rw [q16]; decide) (by rw [q16]; decide) (off := 1254) (by rw [q16]; rfl) (by decide) ?_
    exact law_cap C hs hi hL hc hsl h kk
  rcases Classical.em (x = 17) with q17 | q17
  · refine rb_tableIn C 1370 dL_law_40 (by rw [q17]; decide) (by rw [q17]; decide) (off := 1330) (by rw [q17]; rfl) (by decide) ?_
    exact law_call C hs hi hL hc hsl h kk
  rcases Classical.em (x = 18) with q18 | q18
  · refine rb_tableIn C 1450 dL_law_40 (by rw [q18]; decide) (by rw [q18]; decide) (off := 1410) (by rw [q18]; rfl) (by decide) ?_
    exact law_paidAnew C hs hi hL hc hsl h kk
  rcases Classical.em (x = 19) with q19 | q19
  · refine rb_tableIn C 1506 dL_law_40 (by rw [q19]; decide) (by rw [q19]; decide) (off := 1466) (by rw [q19]; rfl) (by decide) ?_
    exact law_file C hs hi hL hc hsl h kk
  rcases Classical.em (x = 20) with q20 | q20
  · refine rb_tableIn C 1574 dL_law_40 (by rw [q20]; decide) (by rw [q20]; decide) (off := 1534) (by rw [q20]; rfl) (by decide) ?_
    exact law_deliver C hs hi hL hc hsl h kk
  rcases Classical.em (x = 21) with q21 | q21
  · refine rb_tableIn C 1654 dL_law_40 (by rw [q21]; decide) (by rw [q21]; decide) (off := 1614) (by rw [q21]; rfl) (by decide) ?_
    exact law_owes C hs hi hL hc hsl h kk
  rcases Classical.em (x = 22) with q22 | q22
  · refine rb_tableIn C 1722 dL_law_40 (by rw [q22]; decide) (by rw [q22]; decide) (off := 1682) (by rw [q22]; rfl) (by decide) ?_
    exact law_owesAnew C hs hi hL hc hsl h kk
  rcases Classical.em (x = 23) with q23 | q23
  · refine rb_tableIn C 1790 dL_law_40 (by rw [q23]; decide) (by rw [q23]; decide) (off := 1750) (by rw [q23]; rfl) (by decide) ?_
    exact law_recorded C hs hi hL hc hsl h kk
  rcases Classical.em (x = 24) with q24 | q24
  · refine rb_tableIn C 1870 dL_law_40 (by rw [q24]; decide) (by rw [q24]; decide) (off := 1830) (by rw [q24]; rfl) (by decide) ?_
    exact law_pass C hs hi hL hc hsl h kk
  refine rb_tableOut C 1926 dL_law_40 (tb_out (fun j hj e => ?_)) (by decide) (rb_W.room (kk G W cn ag h) (by omega) (by omega))
  rcases (by omega : j = 0 ∨ j = 1 ∨ j = 2 ∨ j = 3 ∨ j = 4 ∨ j = 5 ∨ j = 6 ∨ j = 7 ∨ j = 8 ∨ j = 9 ∨ j = 10 ∨ j = 11 ∨ j = 12 ∨ j = 13 ∨ j = 14 ∨ j = 15 ∨ j = 16 ∨ j = 17 ∨ j = 18 ∨ j = 19 ∨ j = 20 ∨ j = 21 ∨ j = 22 ∨ j = 23 ∨ j = 24) with rfl | rfl | rfl | rfl | rfl | rfl | rfl | rfl | rfl | rfl | rfl | rfl | rfl | rfl | rfl | rfl | rfl | rfl | rfl | rfl | rfl | rfl | rfl | rfl | rfl
  · exact q0 e
  · exact q1 e
  · exact q2 e
  · exact q3 e
  · exact q4 e
  · exact q5 e
  · exact q6 e
  · exact q7 e
  · exact q8 e
  · exact q9 e
  · exact q10 e
  · exact q11 e
  · exact q12 e
  · exact q13 e
  · exact q14 e
  · exact q15 e
  · exact q16 e
  · exact q17 e
  · exact q18 e
  · exact q19 e
  · exact q20 e
  · exact q21 e
  · exact q22 e
  · exact q23 e
  · exact q24 e
set_option maxRecDepth 100000 in
set_option maxHeartbeats 4000000 in
theorem law_loop {Φ : rb_F} (C : rb_C Φ RL cL_law 7 15 568 601024 7293034) {b L : Nat} {xs : Nat → Int32} (hs : rb_Scr Φ b L xs) (hL : L ≤ 4096) (fin : ∀ c s Lv G, c ≤ 601024 → s ≤ 7293034 → rb_W Φ c s 1933 Lv [rbI 1] G) : ∀ d j, L - 8 * j ≤ d → j ≤ 512 → ∀ G W cn ag, lI G W cn ag → rb_W Φ (1000 + 12 * j) (10000 + 2200 * j) 23 (LV (8 * j)) [] (wI G W) := by
  intro d
  induction d with
  | zero =>
    intro j hd hj G W cn ag h
    refine rb_iload C dL_law_23 rfl ?_
    refine rb_aload_n C dL_law_25 rfl ?_
    refine rb_slen C hs dL_law_26 ?_
    refine rb_bipush C dL_law_27 (v := 8) (by decide) ?_
    refine rb_isub C dL_law_29 ?_
    refine rb_icmp_gt C 1932 dL_law_30 (by decide) (fun _ => ?_) (fun h9 => absurd ?_ h9)
    · refine rb_iconst C dL_law_1932 (v := 1) (by decide) ?_
      exact fin _ _ _ _ (by omega) (by omega)
    · rw [Int32.lt_iff_toInt_lt, show (8 : Int32) = nI 8 from rfl, pk_sub_toInt (by omega) (by decide), nI_toInt (by omega)]
      omega
  | succ d ih =>
    intro j hd hj G W cn ag h
    refine rb_iload C dL_law_23 rfl ?_
    refine rb_aload_n C dL_law_25 rfl ?_
    refine rb_slen C hs dL_law_26 ?_
    refine rb_bipush C dL_law_27 (v := 8) (by decide) ?_
    refine rb_isub C dL_law_29 ?_
    refine rb_icmp_gt C 1932 dL_law_30 (by decide) (fun _ => ?_) (fun h9 => ?_)
    · refine rb_iconst C dL_law_1932 (v := 1) (by decide) ?_
      exact fin _ _ _ _ (by omega) (by omega)
    · rw [Int32.lt_iff_toInt_lt, show (8 : Int32) = nI 8 from rfl, pk_sub_toInt (by omega) (by decide), nI_toInt (by omega)] at h9
      refine law_step C hs (i := 8 * j) (by omega) hL (by omega) (by omega) h (fun G' W' cn' ag' h' => ?_)
      refine rb_iinc C dL_law_1926 rfl (v := _ + 8) rfl rfl (Lv' := [_, _, _, _, _, _, _]) rfl ?_
      refine rb_goto C 23 dL_law_1929 (by decide) ?_
      rw [show nI (8 * j) + 8 = nI (8 * (j + 1)) from nI_add (8 * j) 8]
      exact rb_W.room (ih (j + 1) (by omega) (by omega) G' W' cn' ag' h') (by omega) (by omega)
