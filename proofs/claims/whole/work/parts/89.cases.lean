set_option maxRecDepth 100000 in
set_option maxHeartbeats 4000000 in
theorem law_off {Φ : rb_F} {cells slots : Nat} (C : rb_C Φ RL cL_law 7 15 568 601024 7293034) {b L : Nat} {xs : Nat → Int32} (hs : rb_Scr Φ b L xs) {i : Nat} (hi : i + 8 ≤ L) (hL : L ≤ 4096) (hc : cells + 12 ≤ 601024) (hsl : slots + 2200 ≤ 7293034) {G : rb_G} {W : rb_I} {cn : Nat → Nat} {ag : Nat → Nat → Int32} (h : lI G W cn ag) (kk : ∀ G' W' cn' ag', lI G' W' cn' ag' → rb_W Φ (cells + 12) (slots + 2200) 1926 (LV i) [] (wI G' W')) : rb_W Φ cells slots 859 (LV i) [] (wI G W) := by
  obtain ⟨hG, hm, hJ, t, R, hx⟩ := h
  have hI : xCI W cn := hx.1.1
  show rb_W Φ cells slots 859 [some (rbR (18, 0, 0)), some (rbR (0, 0, 0)), some (rbR (16, 0, 0)), some (rbR (17, 0, 0)), some (rbI (nI i)), none, none] [] (wI G W)
  refine rb_aload_n C dL_law_859 rfl ?_
  refine rb_aload_n C dL_law_860 rfl ?_
  refine rb_iload C dL_law_861 rfl ?_
  refine rb_iconst C dL_law_863 (v := 1) (by decide) ?_
  refine rb_iadd C dL_law_864 ?_
  refine rb_sldk C hs (k := 1) rfl (by decide) hi hL dL_law_865 ?_
  refine rb_aload_n C dL_law_866 rfl ?_
  refine rb_callSW C M_L_141 (fun l X => k_L_off l X G W cn ag hG (xs (i + 1)) hI hJ) dL_law_867 rfl rfl rfl (Nat.le_of_ble_eq_true rfl) ⟨(Nat.le_of_ble_eq_true rfl), (Nat.le_of_ble_eq_true rfl)⟩ (by omega) (by omega) (fun v G' hp => ?_)
  have F1 := cd_off W cn (xs (i + 1))
  have F2 := xf_off W cn (xs (i + 1))
  obtain ⟨rfl, J, e9, hJv⟩ := hp
  rw [e9]
  clear e9 G'
  have hx1 := sx_w hx F2
  have K0 := s_off hx1 (xs (i + 1))
  have mff := mf_off (x7_off W cn (xs (i + 1))).2.2 (xs (i + 1))
  obtain ⟨o1, o2, t1, R1, hx9⟩ := K0
  have hM : MI (x7_off W cn (xs (i + 1))).2.2 := hx1.1.2.1
  generalize hF : (x7_off W cn (xs (i + 1))) = F at *
  refine rb_istore C dL_law_870 (Nat.le_of_ble_eq_true rfl) rfl (Lv' := [_, _, _, _, _, _, _]) rfl ?_
  refine rb_aload_n C dL_law_872 rfl ?_
  refine rb_aload_n C dL_law_873 rfl ?_
  refine rb_iload C dL_law_874 rfl ?_
  refine rb_iconst C dL_law_876 (v := 1) (by decide) ?_
  refine rb_iadd C dL_law_877 ?_
  refine rb_sldk C hs (k := 1) rfl (by decide) hi hL dL_law_878 ?_
  refine rb_callV C M_L_143 (fun l X => (k_X8_off l X (wJ G J) F.2.2 (xs (i + 1)) hm hM).m) rfl (Nat.le_of_ble_eq_true rfl) rfl dL_law_879 rfl rfl rfl (Nat.le_of_ble_eq_true rfl) ⟨(Nat.le_of_ble_eq_true rfl), (Nat.le_of_ble_eq_true rfl)⟩ (by omega) (by omega) (fun v G' hp => ?_) (fun _ _ hp => hp.elim)
  obtain ⟨rfl, e9⟩ := hp
  rw [e9]
  clear e9 G'
  generalize (m_off F.2.2 (xs (i + 1))) = b9 at *
  refine rb_istore C dL_law_882 (Nat.le_of_ble_eq_true rfl) rfl (Lv' := [_, _, _, _, _, _, _]) rfl ?_
  refine rb_aload_n C dL_law_884 rfl ?_
  refine rb_callV C M_L_108 (fun l X => (k_X8_thrown l X (wJ G J) b9.2).m) rfl (Nat.le_of_ble_eq_true rfl) rfl dL_law_885 rfl rfl rfl (Nat.le_of_ble_eq_true rfl) ⟨(Nat.le_of_ble_eq_true rfl), (Nat.le_of_ble_eq_true rfl)⟩ (by omega) (by omega) (fun v G' hp => ?_) (fun _ _ hp => hp.elim)
  obtain ⟨rfl, e9⟩ := hp
  rw [e9]
  clear e9 G'
  refine rb_iload C dL_law_888 rfl ?_
  refine rb_icmp_eq C 895 dL_law_890 (by decide) (fun _ => ?_) (fun h9 => absurd o1 h9)
  have fin : rb_W Φ (cells + 12) (slots + 72) 912 [some (rbR (18, 0, 0)), some (rbR (0, 0, 0)), some (rbR (16, 0, 0)), some (rbR (17, 0, 0)), some (rbI (nI i)), some (rbI (sq_3 F.1)), some (rbI b9.1)] [] (wI (wJ G J) b9.2) := by
    refine rb_goto C 1926 dL_law_912 (by decide) ?_
    refine rb_W.unset 5 ?_
    refine rb_W.unset 6 ?_
    exact rb_W.room (kk (wJ G J) b9.2 cn ag ⟨hG, hm, hJ, t1, R1, sx_both (xq_rf _) mff hx9⟩) (by omega) (by omega)
  refine rb_iload C dL_law_895 rfl ?_
  refine rb_if_ne C 912 dL_law_897 (by decide) (fun hk9 => fin) (fun hk9 => ?_)
  have f0 : F.1 = 0 := sq_3z (by omega) hk9
  refine rb_aload_n C dL_law_900 rfl ?_
  refine rb_iconst C dL_law_901 (v := 0) (by decide) ?_
  refine rb_lald C dL_law_902 rfl (vp_01 (hJ)) ?_
  refine rb_iload C dL_law_903 rfl ?_
  refine rb_i2l C dL_law_905 ?_
  refine rb_lcmp C dL_law_906 ?_
  have e : lg_cmp (J (17, 0, 0) 0) (Int32.toInt64 b9.1) = 0 := (lg_cmp_eq _ _).mpr ((hJv f0).trans (by rw [o2 f0]))
  exact rb_if_eq C 912 dL_law_907 (by decide) (fun _ => fin) (fun h9 => absurd e h9)
set_option maxRecDepth 100000 in
set_option maxHeartbeats 4000000 in
theorem law_attach {Φ : rb_F} {cells slots : Nat} (C : rb_C Φ RL cL_law 7 15 568 601024 7293034) {b L : Nat} {xs : Nat → Int32} (hs : rb_Scr Φ b L xs) {i : Nat} (hi : i + 8 ≤ L) (hL : L ≤ 4096) (hc : cells + 12 ≤ 601024) (hsl : slots + 2200 ≤ 7293034) {G : rb_G} {W : rb_I} {cn : Nat → Nat} {ag : Nat → Nat → Int32} (h : lI G W cn ag) (kk : ∀ G' W' cn' ag', lI G' W' cn' ag' → rb_W Φ (cells + 12) (slots + 2200) 1926 (LV i) [] (wI G' W')) : rb_W Φ cells slots 915 (LV i) [] (wI G W) := by
  obtain ⟨hG, hm, hJ, t, R, hx⟩ := h
  have hI : xCI W cn := hx.1.1
  show rb_W Φ cells slots 915 [some (rbR (18, 0, 0)), some (rbR (0, 0, 0)), some (rbR (16, 0, 0)), some (rbR (17, 0, 0)), some (rbI (nI i)), none, none] [] (wI G W)
  refine rb_aload_n C dL_law_915 rfl ?_
  refine rb_aload_n C dL_law_916 rfl ?_
  refine rb_iload C dL_law_917 rfl ?_
  refine rb_iconst C dL_law_919 (v := 1) (by decide) ?_
  refine rb_iadd C dL_law_920 ?_
  refine rb_sldk C hs (k := 1) rfl (by decide) hi hL dL_law_921 ?_
  refine rb_aload_n C dL_law_922 rfl ?_
  refine rb_iload C dL_law_923 rfl ?_
  refine rb_iconst C dL_law_925 (v := 2) (by decide) ?_
  refine rb_iadd C dL_law_926 ?_
  refine rb_sldk C hs (k := 2) rfl (by decide) hi hL dL_law_927 ?_
  refine rb_aload_n C dL_law_928 rfl ?_
  refine rb_callSW C M_L_144 (fun l X => k_L_attach l X G W cn ag hG (xs (i + 1)) (xs (i + 2)) hI hJ) dL_law_929 rfl rfl rfl (Nat.le_of_ble_eq_true rfl) ⟨(Nat.le_of_ble_eq_true rfl), (Nat.le_of_ble_eq_true rfl)⟩ (by omega) (by omega) (fun v G' hp => ?_)
  have F1 := cd_attach W cn (xs (i + 1)) (xs (i + 2))
  have F2 := xf_attach W cn (xs (i + 1)) (xs (i + 2))
  obtain ⟨rfl, J, e9, hJv⟩ := hp
  rw [e9]
  clear e9 G'
  have hx1 := sx_w hx F2
  have K0 := s_attach hx1 (xs (i + 1)) (xs (i + 2))
  have mff := mf_attach (x7_attach W cn (xs (i + 1)) (xs (i + 2))).2.2 (xs (i + 1)) (xs (i + 2))
  obtain ⟨o1, o2, t1, R1, hx9⟩ := K0
  have hM : MI (x7_attach W cn (xs (i + 1)) (xs (i + 2))).2.2 := hx1.1.2.1
  generalize hF : (x7_attach W cn (xs (i + 1)) (xs (i + 2))) = F at *
  refine rb_istore C dL_law_932 (Nat.le_of_ble_eq_true rfl) rfl (Lv' := [_, _, _, _, _, _, _]) rfl ?_
  refine rb_aload_n C dL_law_934 rfl ?_
  refine rb_aload_n C dL_law_935 rfl ?_
  refine rb_iload C dL_law_936 rfl ?_
  refine rb_iconst C dL_law_938 (v := 1) (by decide) ?_
  refine rb_iadd C dL_law_939 ?_
  refine rb_sldk C hs (k := 1) rfl (by decide) hi hL dL_law_940 ?_
  refine rb_aload_n C dL_law_941 rfl ?_
  refine rb_iload C dL_law_942 rfl ?_
  refine rb_iconst C dL_law_944 (v := 2) (by decide) ?_
  refine rb_iadd C dL_law_945 ?_
  refine rb_sldk C hs (k := 2) rfl (by decide) hi hL dL_law_946 ?_
  refine rb_callV C M_L_146 (fun l X => (k_X8_attach l X (wJ G J) F.2.2 (xs (i + 1)) (xs (i + 2)) hm hM).m) rfl (Nat.le_of_ble_eq_true rfl) rfl dL_law_947 rfl rfl rfl (Nat.le_of_ble_eq_true rfl) ⟨(Nat.le_of_ble_eq_true rfl), (Nat.le_of_ble_eq_true rfl)⟩ (by omega) (by omega) (fun v G' hp => ?_) (fun _ _ hp => hp.elim)
  obtain ⟨rfl, e9⟩ := hp
  rw [e9]
  clear e9 G'
  generalize (m_attach F.2.2 (xs (i + 1)) (xs (i + 2))) = b9 at *
  refine rb_istore C dL_law_950 (Nat.le_of_ble_eq_true rfl) rfl (Lv' := [_, _, _, _, _, _, _]) rfl ?_
  refine rb_aload_n C dL_law_952 rfl ?_
  refine rb_callV C M_L_108 (fun l X => (k_X8_thrown l X (wJ G J) b9.2).m) rfl (Nat.le_of_ble_eq_true rfl) rfl dL_law_953 rfl rfl rfl (Nat.le_of_ble_eq_true rfl) ⟨(Nat.le_of_ble_eq_true rfl), (Nat.le_of_ble_eq_true rfl)⟩ (by omega) (by omega) (fun v G' hp => ?_) (fun _ _ hp => hp.elim)
  obtain ⟨rfl, e9⟩ := hp
  rw [e9]
  clear e9 G'
  refine rb_iload C dL_law_956 rfl ?_
  refine rb_icmp_eq C 963 dL_law_958 (by decide) (fun _ => ?_) (fun h9 => absurd o1 h9)
  have fin : rb_W Φ (cells + 12) (slots + 72) 980 [some (rbR (18, 0, 0)), some (rbR (0, 0, 0)), some (rbR (16, 0, 0)), some (rbR (17, 0, 0)), some (rbI (nI i)), some (rbI (sq_2 F.1)), some (rbI b9.1)] [] (wI (wJ G J) b9.2) := by
    refine rb_goto C 1926 dL_law_980 (by decide) ?_
    refine rb_W.unset 5 ?_
    refine rb_W.unset 6 ?_
    exact rb_W.room (kk (wJ G J) b9.2 cn ag ⟨hG, hm, hJ, t1, R1, sx_both (xq_rf _) mff hx9⟩) (by omega) (by omega)
  refine rb_iload C dL_law_963 rfl ?_
  refine rb_if_ne C 980 dL_law_965 (by decide) (fun hk9 => fin) (fun hk9 => ?_)
  have f0 : F.1 = 0 := sq_2z F1 hk9
  refine rb_aload_n C dL_law_968 rfl ?_
  refine rb_iconst C dL_law_969 (v := 0) (by decide) ?_
  refine rb_lald C dL_law_970 rfl (vp_01 (hJ)) ?_
  refine rb_iload C dL_law_971 rfl ?_
  refine rb_i2l C dL_law_973 ?_
  refine rb_lcmp C dL_law_974 ?_
  have e : lg_cmp (J (17, 0, 0) 0) (Int32.toInt64 b9.1) = 0 := (lg_cmp_eq _ _).mpr ((hJv f0).trans (by rw [o2 f0]))
  exact rb_if_eq C 980 dL_law_975 (by decide) (fun _ => fin) (fun h9 => absurd e h9)
set_option maxRecDepth 100000 in
set_option maxHeartbeats 4000000 in
theorem law_emergency {Φ : rb_F} {cells slots : Nat} (C : rb_C Φ RL cL_law 7 15 568 601024 7293034) {b L : Nat} {xs : Nat → Int32} (hs : rb_Scr Φ b L xs) {i : Nat} (hi : i + 8 ≤ L) (hL : L ≤ 4096) (hc : cells + 12 ≤ 601024) (hsl : slots + 2200 ≤ 7293034) {G : rb_G} {W : rb_I} {cn : Nat → Nat} {ag : Nat → Nat → Int32} (h : lI G W cn ag) (kk : ∀ G' W' cn' ag', lI G' W' cn' ag' → rb_W Φ (cells + 12) (slots + 2200) 1926 (LV i) [] (wI G' W')) : rb_W Φ cells slots 983 (LV i) [] (wI G W) := by
  obtain ⟨hG, hm, hJ, t, R, hx⟩ := h
  have hI : xCI W cn := hx.1.1
  show rb_W Φ cells slots 983 [some (rbR (18, 0, 0)), some (rbR (0, 0, 0)), some (rbR (16, 0, 0)), some (rbR (17, 0, 0)), some (rbI (nI i)), none, none] [] (wI G W)
  refine rb_aload_n C dL_law_983 rfl ?_
  refine rb_aload_n C dL_law_984 rfl ?_
  refine rb_iload C dL_law_985 rfl ?_
  refine rb_iconst C dL_law_987 (v := 1) (by decide) ?_
  refine rb_iadd C dL_law_988 ?_
  refine rb_sldk C hs (k := 1) rfl (by decide) hi hL dL_law_989 ?_
  refine rb_aload_n C dL_law_990 rfl ?_
  refine rb_callSW C M_L_147 (fun l X => k_L_emergency l X G W cn ag hG (xs (i + 1)) hI hJ) dL_law_991 rfl rfl rfl (Nat.le_of_ble_eq_true rfl) ⟨(Nat.le_of_ble_eq_true rfl), (Nat.le_of_ble_eq_true rfl)⟩ (by omega) (by omega) (fun v G' hp => ?_)
  have F1 := cd_emergency W cn (xs (i + 1))
  have F2 := xf_emergency W cn (xs (i + 1))
  obtain ⟨rfl, J, e9, hJv⟩ := hp
  rw [e9]
  clear e9 G'
  have hx1 := sx_w hx F2
  have K0 := s_emergency hx1 (xs (i + 1))
  have mff := mf_emergency (x7_emergency W cn (xs (i + 1))).2.2 (xs (i + 1))
  obtain ⟨o1, o2, t1, R1, hx9⟩ := K0
  have hM : MI (x7_emergency W cn (xs (i + 1))).2.2 := hx1.1.2.1
  generalize hF : (x7_emergency W cn (xs (i + 1))) = F at *
  refine rb_istore C dL_law_994 (Nat.le_of_ble_eq_true rfl) rfl (Lv' := [_, _, _, _, _, _, _]) rfl ?_
  refine rb_aload_n C dL_law_996 rfl ?_
  refine rb_aload_n C dL_law_997 rfl ?_
  refine rb_iload C dL_law_998 rfl ?_
  refine rb_iconst C dL_law_1000 (v := 1) (by decide) ?_
  refine rb_iadd C dL_law_1001 ?_
  refine rb_sldk C hs (k := 1) rfl (by decide) hi hL dL_law_1002 ?_
  refine rb_callV C M_L_149 (fun l X => (k_X8_emergency l X (wJ G J) F.2.2 (xs (i + 1)) hm hM).m) rfl (Nat.le_of_ble_eq_true rfl) rfl dL_law_1003 rfl rfl rfl (Nat.le_of_ble_eq_true rfl) ⟨(Nat.le_of_ble_eq_true rfl), (Nat.le_of_ble_eq_true rfl)⟩ (by omega) (by omega) (fun v G' hp => ?_) (fun _ _ hp => hp.elim)
  obtain ⟨rfl, e9⟩ := hp
  rw [e9]
  clear e9 G'
  generalize (m_emergency F.2.2 (xs (i + 1))) = b9 at *
  refine rb_istore C dL_law_1006 (Nat.le_of_ble_eq_true rfl) rfl (Lv' := [_, _, _, _, _, _, _]) rfl ?_
  refine rb_aload_n C dL_law_1008 rfl ?_
  refine rb_callV C M_L_108 (fun l X => (k_X8_thrown l X (wJ G J) b9.2).m) rfl (Nat.le_of_ble_eq_true rfl) rfl dL_law_1009 rfl rfl rfl (Nat.le_of_ble_eq_true rfl) ⟨(Nat.le_of_ble_eq_true rfl), (Nat.le_of_ble_eq_true rfl)⟩ (by omega) (by omega) (fun v G' hp => ?_) (fun _ _ hp => hp.elim)
  obtain ⟨rfl, e9⟩ := hp
  rw [e9]
  clear e9 G'
  refine rb_iload C dL_law_1012 rfl ?_
  refine rb_icmp_eq C 1019 dL_law_1014 (by decide) (fun _ => ?_) (fun h9 => absurd o1 h9)
  have fin : rb_W Φ (cells + 12) (slots + 72) 1036 [some (rbR (18, 0, 0)), some (rbR (0, 0, 0)), some (rbR (16, 0, 0)), some (rbR (17, 0, 0)), some (rbI (nI i)), some (rbI (sq_3 F.1)), some (rbI b9.1)] [] (wI (wJ G J) b9.2) := by
    refine rb_goto C 1926 dL_law_1036 (by decide) ?_
    refine rb_W.unset 5 ?_
    refine rb_W.unset 6 ?_
    exact rb_W.room (kk (wJ G J) b9.2 cn ag ⟨hG, hm, hJ, t1, R1, sx_both (xq_rf _) mff hx9⟩) (by omega) (by omega)
  refine rb_iload C dL_law_1019 rfl ?_
  refine rb_if_ne C 1036 dL_law_1021 (by decide) (fun hk9 => fin) (fun hk9 => ?_)
  have f0 : F.1 = 0 := sq_3z (by omega) hk9
  refine rb_aload_n C dL_law_1024 rfl ?_
  refine rb_iconst C dL_law_1025 (v := 0) (by decide) ?_
  refine rb_lald C dL_law_1026 rfl (vp_01 (hJ)) ?_
  refine rb_iload C dL_law_1027 rfl ?_
  refine rb_i2l C dL_law_1029 ?_
  refine rb_lcmp C dL_law_1030 ?_
  have e : lg_cmp (J (17, 0, 0) 0) (Int32.toInt64 b9.1) = 0 := (lg_cmp_eq _ _).mpr ((hJv f0).trans (by rw [o2 f0]))
  exact rb_if_eq C 1036 dL_law_1031 (by decide) (fun _ => fin) (fun h9 => absurd e h9)
set_option maxRecDepth 100000 in
set_option maxHeartbeats 4000000 in
theorem law_where {Φ : rb_F} {cells slots : Nat} (C : rb_C Φ RL cL_law 7 15 568 601024 7293034) {b L : Nat} {xs : Nat → Int32} (hs : rb_Scr Φ b L xs) {i : Nat} (hi : i + 8 ≤ L) (hL : L ≤ 4096) (hc : cells + 12 ≤ 601024) (hsl : slots + 2200 ≤ 7293034) {G : rb_G} {W : rb_I} {cn : Nat → Nat} {ag : Nat → Nat → Int32} (h : lI G W cn ag) (kk : ∀ G' W' cn' ag', lI G' W' cn' ag' → rb_W Φ (cells + 12) (slots + 2200) 1926 (LV i) [] (wI G' W')) : rb_W Φ cells slots 1039 (LV i) [] (wI G W) := by
  obtain ⟨hG, hm, hJ, t, R, hx⟩ := h
  have hI : xCI W cn := hx.1.1
  show rb_W Φ cells slots 1039 [some (rbR (18, 0, 0)), some (rbR (0, 0, 0)), some (rbR (16, 0, 0)), some (rbR (17, 0, 0)), some (rbI (nI i)), none, none] [] (wI G W)
  refine rb_aload_n C dL_law_1039 rfl ?_
  refine rb_aload_n C dL_law_1040 rfl ?_
  refine rb_iload C dL_law_1041 rfl ?_
  refine rb_iconst C dL_law_1043 (v := 1) (by decide) ?_
  refine rb_iadd C dL_law_1044 ?_
  refine rb_sldk C hs (k := 1) rfl (by decide) hi hL dL_law_1045 ?_
  refine rb_aload_n C dL_law_1046 rfl ?_
  refine rb_callSW C M_L_150 (fun l X => k_L_where l X G W cn ag hG (xs (i + 1)) hI hJ) dL_law_1047 rfl rfl rfl (Nat.le_of_ble_eq_true rfl) ⟨(Nat.le_of_ble_eq_true rfl), (Nat.le_of_ble_eq_true rfl)⟩ (by omega) (by omega) (fun v G' hp => ?_)
  have F1 := cd_where W cn (xs (i + 1))
  have F2 := xf_where W cn (xs (i + 1))
  obtain ⟨rfl, J, e9, hJv⟩ := hp
  rw [e9]
  clear e9 G'
  have hx1 := sx_w hx F2
  have K0 := s_where hx1 (xs (i + 1))
  have mff := mf_where (x7_where W cn (xs (i + 1))).2.2 (xs (i + 1))
  obtain ⟨o1, o2, t1, R1, hx9⟩ := K0
  have hM : MI (x7_where W cn (xs (i + 1))).2.2 := hx1.1.2.1
  generalize hF : (x7_where W cn (xs (i + 1))) = F at *
  refine rb_istore C dL_law_1050 (Nat.le_of_ble_eq_true rfl) rfl (Lv' := [_, _, _, _, _, _, _]) rfl ?_
  refine rb_aload_n C dL_law_1052 rfl ?_
  refine rb_aload_n C dL_law_1053 rfl ?_
  refine rb_iload C dL_law_1054 rfl ?_
  refine rb_iconst C dL_law_1056 (v := 1) (by decide) ?_
  refine rb_iadd C dL_law_1057 ?_
  refine rb_sldk C hs (k := 1) rfl (by decide) hi hL dL_law_1058 ?_
  refine rb_callV C M_L_152 (fun l X => (k_X8_where l X (wJ G J) F.2.2 (xs (i + 1)) hm hM).m) rfl (Nat.le_of_ble_eq_true rfl) rfl dL_law_1059 rfl rfl rfl (Nat.le_of_ble_eq_true rfl) ⟨(Nat.le_of_ble_eq_true rfl), (Nat.le_of_ble_eq_true rfl)⟩ (by omega) (by omega) (fun v G' hp => ?_) (fun _ _ hp => hp.elim)
  obtain ⟨rfl, e9⟩ := hp
  rw [e9]
  clear e9 G'
  generalize (m_where F.2.2 (xs (i + 1))) = b9 at *
  refine rb_istore C dL_law_1062 (Nat.le_of_ble_eq_true rfl) rfl (Lv' := [_, _, _, _, _, _, _]) rfl ?_
  refine rb_aload_n C dL_law_1064 rfl ?_
  refine rb_callV C M_L_108 (fun l X => (k_X8_thrown l X (wJ G J) b9.2).m) rfl (Nat.le_of_ble_eq_true rfl) rfl dL_law_1065 rfl rfl rfl (Nat.le_of_ble_eq_true rfl) ⟨(Nat.le_of_ble_eq_true rfl), (Nat.le_of_ble_eq_true rfl)⟩ (by omega) (by omega) (fun v G' hp => ?_) (fun _ _ hp => hp.elim)
  obtain ⟨rfl, e9⟩ := hp
  rw [e9]
  clear e9 G'
  refine rb_iload C dL_law_1068 rfl ?_
  refine rb_icmp_eq C 1075 dL_law_1070 (by decide) (fun _ => ?_) (fun h9 => absurd o1 h9)
  have fin : rb_W Φ (cells + 12) (slots + 72) 1092 [some (rbR (18, 0, 0)), some (rbR (0, 0, 0)), some (rbR (16, 0, 0)), some (rbR (17, 0, 0)), some (rbI (nI i)), some (rbI (sq_3 F.1)), some (rbI b9.1)] [] (wI (wJ G J) b9.2) := by
    refine rb_goto C 1926 dL_law_1092 (by decide) ?_
    refine rb_W.unset 5 ?_
    refine rb_W.unset 6 ?_
    exact rb_W.room (kk (wJ G J) b9.2 cn ag ⟨hG, hm, hJ, t1, R1, sx_both (xq_rf _) mff hx9⟩) (by omega) (by omega)
  refine rb_iload C dL_law_1075 rfl ?_
  refine rb_if_ne C 1092 dL_law_1077 (by decide) (fun hk9 => fin) (fun hk9 => ?_)
  have f0 : F.1 = 0 := sq_3z (by omega) hk9
  refine rb_aload_n C dL_law_1080 rfl ?_
  refine rb_iconst C dL_law_1081 (v := 0) (by decide) ?_
  refine rb_lald C dL_law_1082 rfl (vp_01 (hJ)) ?_
  refine rb_iload C dL_law_1083 rfl ?_
  refine rb_i2l C dL_law_1085 ?_
  refine rb_lcmp C dL_law_1086 ?_
  have e : lg_cmp (J (17, 0, 0) 0) (Int32.toInt64 b9.1) = 0 := (lg_cmp_eq _ _).mpr ((hJv f0).trans (by rw [o2 f0]))
  exact rb_if_eq C 1092 dL_law_1087 (by decide) (fun _ => fin) (fun h9 => absurd e h9)
set_option maxRecDepth 100000 in
set_option maxHeartbeats 4000000 in
theorem law_contact {Φ : rb_F} {cells slots : Nat} (C : rb_C Φ RL cL_law 7 15 568 601024 7293034) {b L : Nat} {xs : Nat → Int32} (hs : rb_Scr Φ b L xs) {i : Nat} (hi : i + 8 ≤ L) (hL : L ≤ 4096) (hc : cells + 12 ≤ 601024) (hsl : slots + 2200 ≤ 7293034) {G : rb_G} {W : rb_I} {cn : Nat → Nat} {ag : Nat → Nat → Int32} (h : lI G W cn ag) (kk : ∀ G' W' cn' ag', lI G' W' cn' ag' → rb_W Φ (cells + 12) (slots + 2200) 1926 (LV i) [] (wI G' W')) : rb_W Φ cells slots 1095 (LV i) [] (wI G W) := by
  obtain ⟨hG, hm, hJ, t, R, hx⟩ := h
  have hI : xCI W cn := hx.1.1
  show rb_W Φ cells slots 1095 [some (rbR (18, 0, 0)), some (rbR (0, 0, 0)), some (rbR (16, 0, 0)), some (rbR (17, 0, 0)), some (rbI (nI i)), none, none] [] (wI G W)
  refine rb_aload_n C dL_law_1095 rfl ?_
  refine rb_aload_n C dL_law_1096 rfl ?_
  refine rb_iload C dL_law_1097 rfl ?_
  refine rb_iconst C dL_law_1099 (v := 1) (by decide) ?_
  refine rb_iadd C dL_law_1100 ?_
  refine rb_sldk C hs (k := 1) rfl (by decide) hi hL dL_law_1101 ?_
  refine rb_aload_n C dL_law_1102 rfl ?_
  refine rb_iload C dL_law_1103 rfl ?_
  refine rb_iconst C dL_law_1105 (v := 2) (by decide) ?_
  refine rb_iadd C dL_law_1106 ?_
  refine rb_sldk C hs (k := 2) rfl (by decide) hi hL dL_law_1107 ?_
  refine rb_aload_n C dL_law_1108 rfl ?_
  refine rb_callSW C M_L_153 (fun l X => k_L_contact l X G W cn ag hG (xs (i + 1)) (xs (i + 2)) hI hJ) dL_law_1109 rfl rfl rfl (Nat.le_of_ble_eq_true rfl) ⟨(Nat.le_of_ble_eq_true rfl), (Nat.le_of_ble_eq_true rfl)⟩ (by omega) (by omega) (fun v G' hp => ?_)
  have F1 := cd_contact W cn (xs (i + 1)) (xs (i + 2))
  have F2 := xf_contact W cn (xs (i + 1)) (xs (i + 2))
  obtain ⟨rfl, J, e9, hJv⟩ := hp
  rw [e9]
  clear e9 G'
  have hx1 := sx_w hx F2
  have K0 := s_contact hx1 (xs (i + 1)) (xs (i + 2))
  have mff := mf_contact (x7_contact W cn (xs (i + 1)) (xs (i + 2))).2.2 (xs (i + 1)) (xs (i + 2))
  obtain ⟨o1, o2, t1, R1, hx9⟩ := K0
  have hM : MI (x7_contact W cn (xs (i + 1)) (xs (i + 2))).2.2 := hx1.1.2.1
  generalize hF : (x7_contact W cn (xs (i + 1)) (xs (i + 2))) = F at *
  refine rb_istore C dL_law_1112 (Nat.le_of_ble_eq_true rfl) rfl (Lv' := [_, _, _, _, _, _, _]) rfl ?_
  refine rb_aload_n C dL_law_1114 rfl ?_
  refine rb_aload_n C dL_law_1115 rfl ?_
  refine rb_iload C dL_law_1116 rfl ?_
  refine rb_iconst C dL_law_1118 (v := 1) (by decide) ?_
  refine rb_iadd C dL_law_1119 ?_
  refine rb_sldk C hs (k := 1) rfl (by decide) hi hL dL_law_1120 ?_
  refine rb_aload_n C dL_law_1121 rfl ?_
  refine rb_iload C dL_law_1122 rfl ?_
  refine rb_iconst C dL_law_1124 (v := 2) (by decide) ?_
  refine rb_iadd C dL_law_1125 ?_
  refine rb_sldk C hs (k := 2) rfl (by decide) hi hL dL_law_1126 ?_
  refine rb_callV C M_L_155 (fun l X => (k_X8_contact l X (wJ G J) F.2.2 (xs (i + 1)) (xs (i + 2)) hm hM).m) rfl (Nat.le_of_ble_eq_true rfl) rfl dL_law_1127 rfl rfl rfl (Nat.le_of_ble_eq_true rfl) ⟨(Nat.le_of_ble_eq_true rfl), (Nat.le_of_ble_eq_true rfl)⟩ (by omega) (by omega) (fun v G' hp => ?_) (fun _ _ hp => hp.elim)
  obtain ⟨rfl, e9⟩ := hp
  rw [e9]
  clear e9 G'
  generalize (m_contact F.2.2 (xs (i + 1)) (xs (i + 2))) = b9 at *
  refine rb_istore C dL_law_1130 (Nat.le_of_ble_eq_true rfl) rfl (Lv' := [_, _, _, _, _, _, _]) rfl ?_
  refine rb_aload_n C dL_law_1132 rfl ?_
  refine rb_callV C M_L_108 (fun l X => (k_X8_thrown l X (wJ G J) b9.2).m) rfl (Nat.le_of_ble_eq_true rfl) rfl dL_law_1133 rfl rfl rfl (Nat.le_of_ble_eq_true rfl) ⟨(Nat.le_of_ble_eq_true rfl), (Nat.le_of_ble_eq_true rfl)⟩ (by omega) (by omega) (fun v G' hp => ?_) (fun _ _ hp => hp.elim)
  obtain ⟨rfl, e9⟩ := hp
  rw [e9]
  clear e9 G'
  refine rb_iload C dL_law_1136 rfl ?_
  refine rb_icmp_eq C 1143 dL_law_1138 (by decide) (fun _ => ?_) (fun h9 => absurd o1 h9)
  have fin : rb_W Φ (cells + 12) (slots + 72) 1160 [some (rbR (18, 0, 0)), some (rbR (0, 0, 0)), some (rbR (16, 0, 0)), some (rbR (17, 0, 0)), some (rbI (nI i)), some (rbI (sq_3 F.1)), some (rbI b9.1)] [] (wI (wJ G J) b9.2) := by
    refine rb_goto C 1926 dL_law_1160 (by decide) ?_
    refine rb_W.unset 5 ?_
    refine rb_W.unset 6 ?_
    exact rb_W.room (kk (wJ G J) b9.2 cn ag ⟨hG, hm, hJ, t1, R1, sx_both (xq_rf _) mff hx9⟩) (by omega) (by omega)
  refine rb_iload C dL_law_1143 rfl ?_
  refine rb_if_ne C 1160 dL_law_1145 (by decide) (fun hk9 => fin) (fun hk9 => ?_)
  have f0 : F.1 = 0 := sq_3z (by omega) hk9
  refine rb_aload_n C dL_law_1148 rfl ?_
  refine rb_iconst C dL_law_1149 (v := 0) (by decide) ?_
  refine rb_lald C dL_law_1150 rfl (vp_01 (hJ)) ?_
  refine rb_iload C dL_law_1151 rfl ?_
  refine rb_i2l C dL_law_1153 ?_
  refine rb_lcmp C dL_law_1154 ?_
  have e : lg_cmp (J (17, 0, 0) 0) (Int32.toInt64 b9.1) = 0 := (lg_cmp_eq _ _).mpr ((hJv f0).trans (by rw [o2 f0]))
  exact rb_if_eq C 1160 dL_law_1155 (by decide) (fun _ => fin) (fun h9 => absurd e h9)
set_option maxRecDepth 100000 in
set_option maxHeartbeats 4000000 in
theorem law_agrees {Φ : rb_F} {cells slots : Nat} (C : rb_C Φ RL cL_law 7 15 568 601024 7293034) {b L : Nat} {xs : Nat → Int32} (hs : rb_Scr Φ b L xs) {i : Nat} (hi : i + 8 ≤ L) (hL : L ≤ 4096) (hc : cells + 12 ≤ 601024) (hsl : slots + 2200 ≤ 7293034) {G : rb_G} {W : rb_I} {cn : Nat → Nat} {ag : Nat → Nat → Int32} (h : lI G W cn ag) (kk : ∀ G' W' cn' ag', lI G' W' cn' ag' → rb_W Φ (cells + 12) (slots + 2200) 1926 (LV i) [] (wI G' W')) : rb_W Φ cells slots 1163 (LV i) [] (wI G W) := by
  obtain ⟨hG, hm, hJ, t, R, hx⟩ := h
  have hI : xCI W cn := hx.1.1
  show rb_W Φ cells slots 1163 [some (rbR (18, 0, 0)), some (rbR (0, 0, 0)), some (rbR (16, 0, 0)), some (rbR (17, 0, 0)), some (rbI (nI i)), none, none] [] (wI G W)
  refine rb_aload_n C dL_law_1163 rfl ?_
  refine rb_aload_n C dL_law_1164 rfl ?_
  refine rb_iload C dL_law_1165 rfl ?_
  refine rb_iconst C dL_law_1167 (v := 1) (by decide) ?_
  refine rb_iadd C dL_law_1168 ?_
  refine rb_sldk C hs (k := 1) rfl (by decide) hi hL dL_law_1169 ?_
  refine rb_aload_n C dL_law_1170 rfl ?_
  refine rb_callSW C M_L_156 (fun l X => k_L_agrees l X G W cn ag hG (xs (i + 1)) hI hJ) dL_law_1171 rfl rfl rfl (Nat.le_of_ble_eq_true rfl) ⟨(Nat.le_of_ble_eq_true rfl), (Nat.le_of_ble_eq_true rfl)⟩ (by omega) (by omega) (fun v G' hp => ?_)
  have F1 := cd_agrees W cn (xs (i + 1))
  have F2 := xf_agrees W cn (xs (i + 1))
  obtain ⟨rfl, J, e9, hJv⟩ := hp
  rw [e9]
  clear e9 G'
  have hx1 := sx_w hx F2
  have K0 := s_agrees hx1 (xs (i + 1))
  have mff := mf_agrees (x7_agrees W cn (xs (i + 1))).2.2 (xs (i + 1))
  obtain ⟨o1, o2, t1, R1, hx9⟩ := K0
  have hM : MI (x7_agrees W cn (xs (i + 1))).2.2 := hx1.1.2.1
  generalize hF : (x7_agrees W cn (xs (i + 1))) = F at *
  refine rb_istore C dL_law_1174 (Nat.le_of_ble_eq_true rfl) rfl (Lv' := [_, _, _, _, _, _, _]) rfl ?_
  refine rb_aload_n C dL_law_1176 rfl ?_
  refine rb_aload_n C dL_law_1177 rfl ?_
  refine rb_iload C dL_law_1178 rfl ?_
  refine rb_iconst C dL_law_1180 (v := 1) (by decide) ?_
  refine rb_iadd C dL_law_1181 ?_
  refine rb_sldk C hs (k := 1) rfl (by decide) hi hL dL_law_1182 ?_
  refine rb_callV C M_L_158 (fun l X => (k_X8_agrees l X (wJ G J) F.2.2 (xs (i + 1)) hm hM).m) rfl (Nat.le_of_ble_eq_true rfl) rfl dL_law_1183 rfl rfl rfl (Nat.le_of_ble_eq_true rfl) ⟨(Nat.le_of_ble_eq_true rfl), (Nat.le_of_ble_eq_true rfl)⟩ (by omega) (by omega) (fun v G' hp => ?_) (fun _ _ hp => hp.elim)
  obtain ⟨rfl, e9⟩ := hp
  rw [e9]
  clear e9 G'
  generalize (m_agrees F.2.2 (xs (i + 1))) = b9 at *
  refine rb_istore C dL_law_1186 (Nat.le_of_ble_eq_true rfl) rfl (Lv' := [_, _, _, _, _, _, _]) rfl ?_
  refine rb_aload_n C dL_law_1188 rfl ?_
  refine rb_callV C M_L_108 (fun l X => (k_X8_thrown l X (wJ G J) b9.2).m) rfl (Nat.le_of_ble_eq_true rfl) rfl dL_law_1189 rfl rfl rfl (Nat.le_of_ble_eq_true rfl) ⟨(Nat.le_of_ble_eq_true rfl), (Nat.le_of_ble_eq_true rfl)⟩ (by omega) (by omega) (fun v G' hp => ?_) (fun _ _ hp => hp.elim)
  obtain ⟨rfl, e9⟩ := hp
  rw [e9]
  clear e9 G'
  refine rb_iload C dL_law_1192 rfl ?_
  refine rb_icmp_eq C 1199 dL_law_1194 (by decide) (fun _ => ?_) (fun h9 => absurd o1 h9)
  have fin : rb_W Φ (cells + 12) (slots + 72) 1223 [some (rbR (18, 0, 0)), some (rbR (0, 0, 0)), some (rbR (16, 0, 0)), some (rbR (17, 0, 0)), some (rbI (nI i)), some (rbI (sq_3 F.1)), some (rbI b9.1)] [] (wI (wJ G J) b9.2) := by
    refine rb_goto C 1926 dL_law_1223 (by decide) ?_
    refine rb_W.unset 5 ?_
    refine rb_W.unset 6 ?_
    exact rb_W.room (kk (wJ G J) b9.2 cn ag ⟨hG, hm, hJ, t1, R1, sx_both (xq_rf _) mff hx9⟩) (by omega) (by omega)
  refine rb_iload C dL_law_1199 rfl ?_
  refine rb_if_ne C 1223 dL_law_1201 (by decide) (fun hk9 => fin) (fun hk9 => ?_)
  have f0 : F.1 = 0 := sq_3z (by omega) hk9
  refine rb_aload_n C dL_law_1204 rfl ?_
  refine rb_iconst C dL_law_1205 (v := 0) (by decide) ?_
  refine rb_lald C dL_law_1206 rfl (vp_01 (hJ)) ?_
  refine rb_iload C dL_law_1207 rfl ?_
  have ej := hJv f0
  rw [o2 f0] at ej
  refine rb_if_eq C 1216 dL_law_1209 (by decide) (fun hz => ?_) (fun hz => ?_)
  · rw [if_pos hz] at ej
    refine rb_lconst C dL_law_1216 (v := 0) (by decide) ?_
    refine rb_lcmp C dL_law_1217 ?_
    have e : lg_cmp (J (17, 0, 0) 0) 0 = 0 := (lg_cmp_eq _ _).mpr ej
    exact rb_if_eq C 1223 dL_law_1218 (by decide) (fun _ => fin) (fun h9 => absurd e h9)
  · rw [if_neg hz] at ej
    refine rb_lconst C dL_law_1212 (v := 1) (by decide) ?_
    refine rb_goto C 1217 dL_law_1213 (by decide) ?_
    refine rb_lcmp C dL_law_1217 ?_
    have e : lg_cmp (J (17, 0, 0) 0) 1 = 0 := (lg_cmp_eq _ _).mpr ej
    exact rb_if_eq C 1223 dL_law_1218 (by decide) (fun _ => fin) (fun h9 => absurd e h9)
set_option maxRecDepth 100000 in
set_option maxHeartbeats 4000000 in
theorem law_subscriberIs {Φ : rb_F} {cells slots : Nat} (C : rb_C Φ RL cL_law 7 15 568 601024 7293034) {b L : Nat} {xs : Nat → Int32} (hs : rb_Scr Φ b L xs) {i : Nat} (hi : i + 8 ≤ L) (hL : L ≤ 4096) (hc : cells + 12 ≤ 601024) (hsl : slots + 2200 ≤ 7293034) {G : rb_G} {W : rb_I} {cn : Nat → Nat} {ag : Nat → Nat → Int32} (h : lI G W cn ag) (kk : ∀ G' W' cn' ag', lI G' W' cn' ag' → rb_W Φ (cells + 12) (slots + 2200) 1926 (LV i) [] (wI G' W')) : rb_W Φ cells slots 1226 (LV i) [] (wI G W) := by
  obtain ⟨hG, hm, hJ, t, R, hx⟩ := h
  have hI : xCI W cn := hx.1.1
  show rb_W Φ cells slots 1226 [some (rbR (18, 0, 0)), some (rbR (0, 0, 0)), some (rbR (16, 0, 0)), some (rbR (17, 0, 0)), some (rbI (nI i)), none, none] [] (wI G W)
  refine rb_aload_n C dL_law_1226 rfl ?_
  refine rb_aload_n C dL_law_1227 rfl ?_
  refine rb_iload C dL_law_1228 rfl ?_
  refine rb_iconst C dL_law_1230 (v := 1) (by decide) ?_
  refine rb_iadd C dL_law_1231 ?_
  refine rb_sldk C hs (k := 1) rfl (by decide) hi hL dL_law_1232 ?_
  refine rb_aload_n C dL_law_1233 rfl ?_
  refine rb_iload C dL_law_1234 rfl ?_
  refine rb_iconst C dL_law_1236 (v := 2) (by decide) ?_
  refine rb_iadd C dL_law_1237 ?_
  refine rb_sldk C hs (k := 2) rfl (by decide) hi hL dL_law_1238 ?_
  refine rb_aload_n C dL_law_1239 rfl ?_
  refine rb_callSW C M_L_159 (fun l X => k_L_subscriberIs l X G W cn ag hG (xs (i + 1)) (xs (i + 2)) hI hJ) dL_law_1240 rfl rfl rfl (Nat.le_of_ble_eq_true rfl) ⟨(Nat.le_of_ble_eq_true rfl), (Nat.le_of_ble_eq_true rfl)⟩ (by omega) (by omega) (fun v G' hp => ?_)
  have F1 := cd_subscriberIs W cn (xs (i + 1)) (xs (i + 2))
  have F2 := xf_subscriberIs W cn (xs (i + 1)) (xs (i + 2))
  obtain ⟨rfl, J, e9, hJv⟩ := hp
  rw [e9]
  clear e9 G'
  have hx1 := sx_w hx F2
  have K0 := s_subscriberIs hx1 (xs (i + 1)) (xs (i + 2))
  have mff := mf_subscriberIs (x7_subscriberIs W cn (xs (i + 1)) (xs (i + 2))).2.2 (xs (i + 1)) (xs (i + 2))
  obtain ⟨o1, o2, t1, R1, hx9⟩ := K0
  have hM : MI (x7_subscriberIs W cn (xs (i + 1)) (xs (i + 2))).2.2 := hx1.1.2.1
  generalize hF : (x7_subscriberIs W cn (xs (i + 1)) (xs (i + 2))) = F at *
  refine rb_istore C dL_law_1243 (Nat.le_of_ble_eq_true rfl) rfl (Lv' := [_, _, _, _, _, _, _]) rfl ?_
  refine rb_aload_n C dL_law_1245 rfl ?_
  refine rb_aload_n C dL_law_1246 rfl ?_
  refine rb_iload C dL_law_1247 rfl ?_
  refine rb_iconst C dL_law_1249 (v := 1) (by decide) ?_
  refine rb_iadd C dL_law_1250 ?_
  refine rb_sldk C hs (k := 1) rfl (by decide) hi hL dL_law_1251 ?_
  refine rb_aload_n C dL_law_1252 rfl ?_
  refine rb_iload C dL_law_1253 rfl ?_
  refine rb_iconst C dL_law_1255 (v := 2) (by decide) ?_
  refine rb_iadd C dL_law_1256 ?_
  refine rb_sldk C hs (k := 2) rfl (by decide) hi hL dL_law_1257 ?_
  refine rb_callV C M_L_161 (fun l X => (k_X8_subscriberIs l X (wJ G J) F.2.2 (xs (i + 1)) (xs (i + 2)) hm hM).m) rfl (Nat.le_of_ble_eq_true rfl) rfl dL_law_1258 rfl rfl rfl (Nat.le_of_ble_eq_true rfl) ⟨(Nat.le_of_ble_eq_true rfl), (Nat.le_of_ble_eq_true rfl)⟩ (by omega) (by omega) (fun v G' hp => ?_) (fun _ _ hp => hp.elim)
  obtain ⟨rfl, e9⟩ := hp
  rw [e9]
  clear e9 G'
  generalize (m_subscriberIs F.2.2 (xs (i + 1)) (xs (i + 2))) = b9 at *
  refine rb_istore C dL_law_1261 (Nat.le_of_ble_eq_true rfl) rfl (Lv' := [_, _, _, _, _, _, _]) rfl ?_
  refine rb_aload_n C dL_law_1263 rfl ?_
  refine rb_callV C M_L_108 (fun l X => (k_X8_thrown l X (wJ G J) b9.2).m) rfl (Nat.le_of_ble_eq_true rfl) rfl dL_law_1264 rfl rfl rfl (Nat.le_of_ble_eq_true rfl) ⟨(Nat.le_of_ble_eq_true rfl), (Nat.le_of_ble_eq_true rfl)⟩ (by omega) (by omega) (fun v G' hp => ?_) (fun _ _ hp => hp.elim)
  obtain ⟨rfl, e9⟩ := hp
  rw [e9]
  clear e9 G'
  refine rb_iload C dL_law_1267 rfl ?_
  refine rb_icmp_eq C 1274 dL_law_1269 (by decide) (fun _ => ?_) (fun h9 => absurd o1 h9)
  have fin : rb_W Φ (cells + 12) (slots + 72) 1291 [some (rbR (18, 0, 0)), some (rbR (0, 0, 0)), some (rbR (16, 0, 0)), some (rbR (17, 0, 0)), some (rbI (nI i)), some (rbI (sq_3 F.1)), some (rbI b9.1)] [] (wI (wJ G J) b9.2) := by
    refine rb_goto C 1926 dL_law_1291 (by decide) ?_
    refine rb_W.unset 5 ?_
    refine rb_W.unset 6 ?_
    exact rb_W.room (kk (wJ G J) b9.2 cn ag ⟨hG, hm, hJ, t1, R1, sx_both (xq_rf _) mff hx9⟩) (by omega) (by omega)
  refine rb_iload C dL_law_1274 rfl ?_
  refine rb_if_ne C 1291 dL_law_1276 (by decide) (fun hk9 => fin) (fun hk9 => ?_)
  have f0 : F.1 = 0 := sq_3z (by omega) hk9
  refine rb_aload_n C dL_law_1279 rfl ?_
  refine rb_iconst C dL_law_1280 (v := 0) (by decide) ?_
  refine rb_lald C dL_law_1281 rfl (vp_01 (hJ)) ?_
  refine rb_iload C dL_law_1282 rfl ?_
  refine rb_i2l C dL_law_1284 ?_
  refine rb_lcmp C dL_law_1285 ?_
  have e : lg_cmp (J (17, 0, 0) 0) (Int32.toInt64 b9.1) = 0 := (lg_cmp_eq _ _).mpr ((hJv f0).trans (by rw [o2 f0]))
  exact rb_if_eq C 1291 dL_law_1286 (by decide) (fun _ => fin) (fun h9 => absurd e h9)
set_option maxRecDepth 100000 in
set_option maxHeartbeats 4000000 in
theorem law_cap {Φ : rb_F} {cells slots : Nat} (C : rb_C Φ RL cL_law 7 15 568 601024 7293034) {b L : Nat} {xs : Nat → Int32} (hs : rb_Scr Φ b L xs) {i : Nat} (hi : i + 8 ≤ L) (hL : L ≤ 4096) (hc : cells + 12 ≤ 601024) (hsl : slots + 2200 ≤ 7293034) {G : rb_G} {W : rb_I} {cn : Nat → Nat} {ag : Nat → Nat → Int32} (h : lI G W cn ag) (kk : ∀ G' W' cn' ag', lI G' W' cn' ag' → rb_W Φ (cells + 12) (slots + 2200) 1926 (LV i) [] (wI G' W')) : rb_W Φ cells slots 1294 (LV i) [] (wI G W) := by
  obtain ⟨hG, hm, hJ, t, R, hx⟩ := h
  have hI : xCI W cn := hx.1.1
  show rb_W Φ cells slots 1294 [some (rbR (18, 0, 0)), some (rbR (0, 0, 0)), some (rbR (16, 0, 0)), some (rbR (17, 0, 0)), some (rbI (nI i)), none, none] [] (wI G W)
  refine rb_aload_n C dL_law_1294 rfl ?_
  refine rb_aload_n C dL_law_1295 rfl ?_
  refine rb_iload C dL_law_1296 rfl ?_
  refine rb_iconst C dL_law_1298 (v := 1) (by decide) ?_
  refine rb_iadd C dL_law_1299 ?_
  refine rb_sldk C hs (k := 1) rfl (by decide) hi hL dL_law_1300 ?_
  refine rb_aload_n C dL_law_1301 rfl ?_
  refine rb_iload C dL_law_1302 rfl ?_
  refine rb_iconst C dL_law_1304 (v := 2) (by decide) ?_
  refine rb_iadd C dL_law_1305 ?_
  refine rb_sldk C hs (k := 2) rfl (by decide) hi hL dL_law_1306 ?_
  refine rb_aload_n C dL_law_1307 rfl ?_
  refine rb_iload C dL_law_1308 rfl ?_
  refine rb_iconst C dL_law_1310 (v := 3) (by decide) ?_
  refine rb_iadd C dL_law_1311 ?_
  refine rb_sldk C hs (k := 3) rfl (by decide) hi hL dL_law_1312 ?_
  have jn : rb_W Φ cells slots 1321 [some (rbR (18, 0, 0)), some (rbR (0, 0, 0)), some (rbR (16, 0, 0)), some (rbR (17, 0, 0)), some (rbI (nI i)), none, none] [rbI (zb (xs (i + 3))), rbI (xs (i + 2)), rbI (xs (i + 1)), rbR (0, 0, 0)] (wI G W) := by
    refine rb_callSW C M_L_162 (fun l X => k_L_cap l X G W cn ag hG (xs (i + 1)) (xs (i + 2)) (zb (xs (i + 3))) hI (zb_01 _)) dL_law_1321 rfl rfl rfl (Nat.le_of_ble_eq_true rfl) ⟨(Nat.le_of_ble_eq_true rfl), (Nat.le_of_ble_eq_true rfl)⟩ (by omega) (by omega) (fun v G' hp => ?_)
    have F1 := cd_cap W cn (xs (i + 1)) (xs (i + 2)) (zb (xs (i + 3)))
    have F2 := xf_cap W cn (xs (i + 1)) (xs (i + 2)) (zb (xs (i + 3)))
    obtain ⟨rfl, e9⟩ := hp
    rw [e9]
    clear e9 G'
    have hx1 := sx_w hx F2
    have K0 := s_cap hx1 (xs (i + 1)) (xs (i + 2)) (zb (xs (i + 3))) (zb_01 _)
    have mff := mf_cap (x7_cap W cn (xs (i + 1)) (xs (i + 2)) (zb (xs (i + 3)))).2.2 (xs (i + 1)) (xs (i + 2)) (zb (xs (i + 3)))
    obtain ⟨o1, o2, t1, R1, hx9⟩ := K0
    have hM : MI (x7_cap W cn (xs (i + 1)) (xs (i + 2)) (zb (xs (i + 3)))).2.2 := hx1.1.2.1
    generalize hF : (x7_cap W cn (xs (i + 1)) (xs (i + 2)) (zb (xs (i + 3)))) = F at *
    refine rb_istore C dL_law_1324 (Nat.le_of_ble_eq_true rfl) rfl (Lv' := [_, _, _, _, _, _, _]) rfl ?_
    refine rb_aload_n C dL_law_1326 rfl ?_
    refine rb_aload_n C dL_law_1327 rfl ?_
    refine rb_iload C dL_law_1328 rfl ?_
    refine rb_iconst C dL_law_1330 (v := 1) (by decide) ?_
    refine rb_iadd C dL_law_1331 ?_
    refine rb_sldk C hs (k := 1) rfl (by decide) hi hL dL_law_1332 ?_
    refine rb_aload_n C dL_law_1333 rfl ?_
    refine rb_iload C dL_law_1334 rfl ?_
    refine rb_iconst C dL_law_1336 (v := 2) (by decide) ?_
    refine rb_iadd C dL_law_1337 ?_
    refine rb_sldk C hs (k := 2) rfl (by decide) hi hL dL_law_1338 ?_
    refine rb_aload_n C dL_law_1339 rfl ?_
    refine rb_iload C dL_law_1340 rfl ?_
    refine rb_iconst C dL_law_1342 (v := 3) (by decide) ?_
    refine rb_iadd C dL_law_1343 ?_
    refine rb_sldk C hs (k := 3) rfl (by decide) hi hL dL_law_1344 ?_
    have jn : rb_W Φ (cells + 12) (slots + 72) 1353 [some (rbR (18, 0, 0)), some (rbR (0, 0, 0)), some (rbR (16, 0, 0)), some (rbR (17, 0, 0)), some (rbI (nI i)), some (rbI (sq_3 F.1)), none] [rbI (zb (xs (i + 3))), rbI (xs (i + 2)), rbI (xs (i + 1)), rbR (16, 0, 0)] (wI G F.2.2) := by
      refine rb_callV C M_L_165 (fun l X => (k_X8_cap l X G F.2.2 (xs (i + 1)) (xs (i + 2)) (zb (xs (i + 3))) hm hM (zb_01 _)).m) rfl (Nat.le_of_ble_eq_true rfl) rfl dL_law_1353 rfl rfl rfl (Nat.le_of_ble_eq_true rfl) ⟨(Nat.le_of_ble_eq_true rfl), (Nat.le_of_ble_eq_true rfl)⟩ (by omega) (by omega) (fun v G' hp => ?_) (fun _ _ hp => hp.elim)
      obtain ⟨rfl, e9⟩ := hp
      rw [e9]
      clear e9 G'
      generalize (m_cap F.2.2 (xs (i + 1)) (xs (i + 2)) (zb (xs (i + 3)))) = b9 at *
      refine rb_aload_n C dL_law_1356 rfl ?_
      refine rb_callV C M_L_108 (fun l X => (k_X8_thrown l X G b9).m) rfl (Nat.le_of_ble_eq_true rfl) rfl dL_law_1357 rfl rfl rfl (Nat.le_of_ble_eq_true rfl) ⟨(Nat.le_of_ble_eq_true rfl), (Nat.le_of_ble_eq_true rfl)⟩ (by omega) (by omega) (fun v G' hp => ?_) (fun _ _ hp => hp.elim)
      obtain ⟨rfl, e9⟩ := hp
      rw [e9]
      clear e9 G'
      refine rb_iload C dL_law_1360 rfl ?_
      refine rb_icmp_eq C 1367 dL_law_1362 (by decide) (fun _ => ?_) (fun h9 => absurd o1 h9)
      refine rb_goto C 1926 dL_law_1367 (by decide) ?_
      refine rb_W.unset 5 ?_
      exact rb_W.room (kk G b9 cn ag ⟨hG, hm, hJ, t1, R1, sx_both (xq_rf _) mff hx9⟩) (by omega) (by omega)
    refine rb_if_eq C 1352 dL_law_1345 (by decide) (fun hz => ?_) (fun hz => ?_)
    · refine rb_iconst C dL_law_1352 (v := 0) (by decide) ?_
      rw [show zb (xs (i + 3)) = 0 from if_pos hz] at jn
      exact jn
    · refine rb_iconst C dL_law_1348 (v := 1) (by decide) ?_
      refine rb_goto C 1353 dL_law_1349 (by decide) ?_
      rw [show zb (xs (i + 3)) = 1 from if_neg hz] at jn
      exact jn
  refine rb_if_eq C 1320 dL_law_1313 (by decide) (fun hz => ?_) (fun hz => ?_)
  · refine rb_iconst C dL_law_1320 (v := 0) (by decide) ?_
    rw [show zb (xs (i + 3)) = 0 from if_pos hz] at jn
    exact jn
  · refine rb_iconst C dL_law_1316 (v := 1) (by decide) ?_
    refine rb_goto C 1321 dL_law_1317 (by decide) ?_
    rw [show zb (xs (i + 3)) = 1 from if_neg hz] at jn
    exact jn
