theorem law_17b0 {Φ : rb_F} {cells slots : Nat} (C : rb_C Φ RL cL_law 54 15 568 734644 6897897) (hc : cells + 12 ≤ 734644) (hsl : slots + 72 ≤ 6897897) {G : rb_G} {W M M9 : rb_I} (hL : LI G W M9) {S A R P t d Q : Nat} (hl : ly W M S A R P t d Q) (v u m21 : Int32) (k n i j s pay sc it f1 f2 f3 one two ho aa far : Nat) (hs : s < S) (hP9 : P ≤ 57) (hp : pay ≤ 15000) (hf : far < 2) (hab : m_isAbroad M (nI s) = nI far) (e16 : M (14, 16, 0) s = nI ho) (e19 : M (14, 19, 0) s = nI aa) (hho : ho < 6) (haa : aa < 6) (hit : 0 < it ∧ it ≤ 600) (kk : ∀ W', LI G W' M9 → ly W' (m_records (m_pays M (nI s) (nI pay)) (nI s) (nI it)) S A (R + far) (P + 1) t d Q → rb_W Φ cells slots 2595 [some (rbR (18, 0, 0)), some (rbR (0, 0, 0)), some (rbR (14, 0, 0)), some (rbR (14, 1, 0)), some (rbR (14, 2, 0)), some (rbR (14, 3, 0)), some (rbR (14, 4, 0)), some (rbR (14, 5, 0)), some (rbR (14, 6, 0)), some (rbR (14, 7, 0)), some (rbR (14, 8, 0)), some (rbR (14, 9, 0)), some (rbI (nI k)), some (rbI v), some (rbI u), some (rbI (nI n)), some (rbI (nI i)), some (rbI (nI j)), some (rbI 1), none, none, none, none, none, none, none, none, none, none, none, none, none, none, none, none, none, some (rbI (nI sc)), some (rbI (nI it)), some (rbI m21), some (rbI (nI f1)), some (rbI (nI f2)), some (rbI (nI pay)), some (rbI (nI two)), some (rbI (nI f3)), some (rbI 0), some (rbI (nI s)), some (rbI (nI far)), none, none, none, none, none, none, none] [] (wI G W')) : rb_W Φ cells slots 2463 [some (rbR (18, 0, 0)), some (rbR (0, 0, 0)), some (rbR (14, 0, 0)), some (rbR (14, 1, 0)), some (rbR (14, 2, 0)), some (rbR (14, 3, 0)), some (rbR (14, 4, 0)), some (rbR (14, 5, 0)), some (rbR (14, 6, 0)), some (rbR (14, 7, 0)), some (rbR (14, 8, 0)), some (rbR (14, 9, 0)), some (rbI (nI k)), some (rbI v), some (rbI u), some (rbI (nI n)), some (rbI (nI i)), some (rbI (nI j)), some (rbI 1), none, none, none, none, none, none, none, none, none, none, none, none, none, none, none, none, none, some (rbI (nI sc)), some (rbI (nI it)), some (rbI m21), some (rbI (nI f1)), some (rbI (nI f2)), some (rbI (nI pay)), some (rbI (nI two)), some (rbI (nI f3)), some (rbI 0), some (rbI (nI s)), some (rbI (nI far)), none, none, none, none, none, none, none] [] (wI G W) := by
  rcases (by omega : far = 0 ∨ far = 1) with rfl | rfl
  · exact law_17w00 C hc hsl hL hl v u m21 k n i j s pay sc it f1 f2 f3 one two 0 0 hs hP9 hp hab hit kk
  · exact law_17w01 C hc hsl hL hl v u m21 k n i j s pay sc it f1 f2 f3 one two ho aa hs hP9 hp (fun z => absurd (hab.symm.trans z) (by decide)) e16 e19 hho haa hit kk

theorem law_17b1 {Φ : rb_F} {cells slots : Nat} (C : rb_C Φ RL cL_law 54 15 568 734644 6897897) (hc : cells + 12 ≤ 734644) (hsl : slots + 72 ≤ 6897897) {G : rb_G} {W M M9 : rb_I} (hL : LI G W M9) {S A R P t d Q : Nat} (hl : ly W M S A R P t d Q) (v u m21 : Int32) (k n i j s pay sc it f1 f2 f3 one two ho aa far : Nat) (hs : s < S) (hP9 : P ≤ 57) (hp : pay ≤ 15000) (hf : far < 2) (hab : m_isAbroad M (nI s) = nI far) (e16 : M (14, 16, 0) s = nI ho) (e19 : M (14, 19, 0) s = nI aa) (hho : ho < 6) (haa : aa < 6) (hit : 0 < it ∧ it ≤ 600) (kk : ∀ W', LI G W' M9 → ly W' (m_records (m_pays M (nI s) (nI pay)) (nI s) (nI it)) S A (R + far) (P + 1) t d Q → rb_W Φ cells slots 2595 [some (rbR (18, 0, 0)), some (rbR (0, 0, 0)), some (rbR (14, 0, 0)), some (rbR (14, 1, 0)), some (rbR (14, 2, 0)), some (rbR (14, 3, 0)), some (rbR (14, 4, 0)), some (rbR (14, 5, 0)), some (rbR (14, 6, 0)), some (rbR (14, 7, 0)), some (rbR (14, 8, 0)), some (rbR (14, 9, 0)), some (rbI (nI k)), some (rbI v), some (rbI u), some (rbI (nI n)), some (rbI (nI i)), some (rbI (nI j)), some (rbI 1), none, none, none, none, none, none, none, none, none, none, none, none, none, none, none, none, none, some (rbI (nI sc)), some (rbI (nI it)), some (rbI m21), some (rbI (nI f1)), some (rbI (nI f2)), some (rbI (nI one)), some (rbI (nI pay)), some (rbI (nI f3)), some (rbI 1), some (rbI (nI s)), some (rbI (nI far)), none, none, none, none, none, none, none] [] (wI G W')) : rb_W Φ cells slots 2463 [some (rbR (18, 0, 0)), some (rbR (0, 0, 0)), some (rbR (14, 0, 0)), some (rbR (14, 1, 0)), some (rbR (14, 2, 0)), some (rbR (14, 3, 0)), some (rbR (14, 4, 0)), some (rbR (14, 5, 0)), some (rbR (14, 6, 0)), some (rbR (14, 7, 0)), some (rbR (14, 8, 0)), some (rbR (14, 9, 0)), some (rbI (nI k)), some (rbI v), some (rbI u), some (rbI (nI n)), some (rbI (nI i)), some (rbI (nI j)), some (rbI 1), none, none, none, none, none, none, none, none, none, none, none, none, none, none, none, none, none, some (rbI (nI sc)), some (rbI (nI it)), some (rbI m21), some (rbI (nI f1)), some (rbI (nI f2)), some (rbI (nI one)), some (rbI (nI pay)), some (rbI (nI f3)), some (rbI 1), some (rbI (nI s)), some (rbI (nI far)), none, none, none, none, none, none, none] [] (wI G W) := by
  rcases (by omega : far = 0 ∨ far = 1) with rfl | rfl
  · exact law_17w10 C hc hsl hL hl v u m21 k n i j s pay sc it f1 f2 f3 one two 0 0 hs hP9 hp hab hit kk
  · exact law_17w11 C hc hsl hL hl v u m21 k n i j s pay sc it f1 f2 f3 one two ho aa hs hP9 hp (fun z => absurd (hab.symm.trans z) (by decide)) e16 e19 hho haa hit kk

theorem cp_n {M : rb_I} {s ho f : Nat} (hs : s < 1000) (hho : ho < 6) (e16 : M (14, 16, 0) s = nI ho) (hf : (f = 0 ∧ M (14, 19, 0) s = M (14, 16, 0) s) ∨ (f = 1 ∧ ¬ M (14, 19, 0) s = M (14, 16, 0) s)) : m_cP M (nI s) = M (14, 5, 0) (3 * ho + f) := by
  unfold m_cP
  rw [ia_0 hs hf, cl_ (show s < 1000000 by omega), e16, cl_ (show ho < 1000000 by omega)]
  rcases hf with ⟨rfl, -⟩ | ⟨rfl, -⟩
  · exact if_pos rfl
  · exact if_neg (by decide)
theorem cq_n {M : rb_I} {s ho f : Nat} (hs : s < 1000) (hho : ho < 6) (e16 : M (14, 16, 0) s = nI ho) (hf : (f = 0 ∧ M (14, 19, 0) s = M (14, 16, 0) s) ∨ (f = 1 ∧ ¬ M (14, 19, 0) s = M (14, 16, 0) s)) : m_cQ M (nI s) = if f = 0 then 0 else M (14, 5, 0) (3 * ho + 2) := by
  unfold m_cQ
  rw [ia_0 hs hf, cl_ (show s < 1000000 by omega), e16, cl_ (show ho < 1000000 by omega)]
  rcases hf with ⟨rfl, -⟩ | ⟨rfl, -⟩
  · exact if_pos rfl
  · exact if_neg (by decide)

set_option maxRecDepth 100000 in
set_option maxHeartbeats 4000000 in
theorem law_17 {Φ : rb_F} {cells slots : Nat} (C : rb_C Φ RL cL_law 54 15 568 734644 6897897) (hc : cells + 90 ≤ 734644) (hsl : slots + 2600 ≤ 6897897) {G : rb_G} {W M : rb_I} (hL : LI G W M) {S A R P t d : Nat} (hl : lx W M S A R P t d) (v u : Int32) (k n i j : Nat) (hk : k < 140) (hn : n < 6) (hi : i < S ∨ S = 0 ∧ i = 0) (hj : j < S ∨ S = 0 ∧ j = 0) (kk : ∀ G' W' M', lJ G' W' M' → rb_W Φ (cells + 90) (slots + 2600) 3288 (LVE k v u) [] (wI G' W')) : rb_W Φ cells slots 2003 (LV0 k v u n i j) [] (wI G W) := by
  show rb_W Φ cells slots 2003 [some (rbR (18, 0, 0)), some (rbR (0, 0, 0)), some (rbR (14, 0, 0)), some (rbR (14, 1, 0)), some (rbR (14, 2, 0)), some (rbR (14, 3, 0)), some (rbR (14, 4, 0)), some (rbR (14, 5, 0)), some (rbR (14, 6, 0)), some (rbR (14, 7, 0)), some (rbR (14, 8, 0)), some (rbR (14, 9, 0)), some (rbI (nI k)), some (rbI v), some (rbI u), some (rbI (nI n)), some (rbI (nI i)), some (rbI (nI j)), some (rbI 1), none, none, none, none, none, none, none, none, none, none, none, none, none, none, none, none, none, none, none, none, none, none, none, none, none, none, none, none, none, none, none, none, none, none, none] [] (wI G W)
  have hm := hL.1
  obtain ⟨hS6, hA10, hRP, hP58, hP2, hd64, htm⟩ := lr_b hl
  refine rb_aload_n C dL_law_2003 rfl ?_
  refine rb_iconst C dL_law_2004 (v := 1) (by decide) ?_
  refine rw_iald C (x := (nI S)) 44 (1) dL_law_2005 rfl (hm 0 (by decide)) (show ¬ (((1 : Int32)) < 0 ∨ 44 ≤ (1 : Int32).toNatClampNeg) by decide) rfl ((lr_g1 hl)) ?_
  refine rb_iconst C dL_law_2006 (v := 2) (by decide) ?_
  refine rb_icmp_lt C 3288 dL_law_2007 (by decide) (fun h2007 => ?_) (fun h2007 => ?_)
  · replace h2007 := (nI_ltI (a := S) (b := 2) (by omega) (by omega)).mp h2007
    refine rb_W.unset 15 ?_
    refine rb_W.unset 16 ?_
    refine rb_W.unset 17 ?_
    exact rb_W.room (kk G W M ⟨hL, _, _, _, _, _, _, hl⟩) (by omega) (by omega)
  · replace h2007 := mt (nI_ltI (a := S) (b := 2) (by omega) (by omega)).mpr h2007
    have hi9 : i < S := by omega
    have hj9 : j < S := by omega
    obtain ⟨ho1, hho1, e16i⟩ := vp_nat (lr_ho hl hi9)
    obtain ⟨ho2, hho2, e16j⟩ := vp_nat (lr_ho hl hj9)
    refine rb_aload_n C dL_law_2010 rfl ?_
    refine rb_iconst C dL_law_2011 (v := 4) (by decide) ?_
    refine rw_iald C (x := (nI P)) 44 (4) dL_law_2012 rfl (hm 0 (by decide)) (show ¬ (((4 : Int32)) < 0 ∨ 44 ≤ (4 : Int32).toNatClampNeg) by decide) rfl ((lr_g4 hl)) ?_
    refine rb_bipush C dL_law_2013 (v := 56) (by decide) ?_
    refine rb_icmp_le C 2021 dL_law_2015 (by decide) (fun h2015 => ?_) (fun h2015 => ?_)
    · replace h2015 := (nI_leI (a := P) (b := 56) (by omega) (by omega)).mp h2015
      refine rb_iconst C dL_law_2021 (v := 1) (by decide) ?_
      refine rb_iload C dL_law_2022 rfl ?_
      refine rb_iload C dL_law_2024 rfl ?_
      refine rb_ldc C dL_law_2026 N_L_180 ?_
      refine rq_iand C (z := (u &&& (33554432 : Int32))) dL_law_2028 rfl ?_
      have mg2029 : ∀ (bz : Nat) (hbz : bz = 600 ∨ bz = 9000), rb_W Φ cells slots 2041 [some (rbR (18, 0, 0)), some (rbR (0, 0, 0)), some (rbR (14, 0, 0)), some (rbR (14, 1, 0)), some (rbR (14, 2, 0)), some (rbR (14, 3, 0)), some (rbR (14, 4, 0)), some (rbR (14, 5, 0)), some (rbR (14, 6, 0)), some (rbR (14, 7, 0)), some (rbR (14, 8, 0)), some (rbR (14, 9, 0)), some (rbI (nI k)), some (rbI v), some (rbI u), some (rbI (nI n)), some (rbI (nI i)), some (rbI (nI j)), some (rbI 1), none, none, none, none, none, none, none, none, none, none, none, none, none, none, none, none, none, none, none, none, none, none, none, none, none, none, none, none, none, none, none, none, none, none, none] [rbI (nI bz), rbI u, rbI 1] (wI G W) := by
        intro bz hbz
        refine rb_callS C M_L_124 (fun l X => (k_L_low l X G W _ bz (by omega) (by omega)).m) dL_law_2041 rfl rfl rfl (Nat.le_of_ble_eq_true rfl) ⟨(Nat.le_of_ble_eq_true rfl), (Nat.le_of_ble_eq_true rfl)⟩ (by omega) (by omega) (fun v G' hp => ?_) (fun _ _ hp => hp.elim)
        obtain ⟨z6, hz6, rfl, e9⟩ := hp
        rw [e9]
        clear e9 G'
        obtain ⟨sc, hsc⟩ : ∃ sc, sc = 1 + z6 := ⟨_, rfl⟩
        have hsc9 : 1 ≤ sc ∧ sc ≤ 9000 := by omega
        refine rq_iadd C (z := (nI sc)) dL_law_2044 (by rw [hsc]; exact nI_add 1 z6) ?_
        refine rb_istore C dL_law_2045 (Nat.le_of_ble_eq_true rfl) rfl (Lv' := [_, _, _, _, _, _, _, _, _, _, _, _, _, _, _, _, _, _, _, _, _, _, _, _, _, _, _, _, _, _, _, _, _, _, _, _, _, _, _, _, _, _, _, _, _, _, _, _, _, _, _, _, _, _]) rfl ?_
        refine rb_iload C dL_law_2047 rfl ?_
        refine rb_bipush C dL_law_2049 (v := 60) (by decide) ?_
        refine rq_idiv C (z := (nI (sc / 60))) dL_law_2051 (by decide) (pk_div (by omega) (by decide) (by decide)) ?_
        refine rb_iload C dL_law_2052 rfl ?_
        refine rb_bipush C dL_law_2054 (v := 60) (by decide) ?_
        refine rq_irem C (z := (nI (sc % 60))) dL_law_2056 (by decide) (pk_rem (by omega) (by decide) (by decide)) ?_
        have mg2057 : ∀ (zl : Nat) (hzl : sc / 60 + zl = (sc + 59) / 60), rb_W Φ (cells + 0) (slots + 0) 2065 [some (rbR (18, 0, 0)), some (rbR (0, 0, 0)), some (rbR (14, 0, 0)), some (rbR (14, 1, 0)), some (rbR (14, 2, 0)), some (rbR (14, 3, 0)), some (rbR (14, 4, 0)), some (rbR (14, 5, 0)), some (rbR (14, 6, 0)), some (rbR (14, 7, 0)), some (rbR (14, 8, 0)), some (rbR (14, 9, 0)), some (rbI (nI k)), some (rbI v), some (rbI u), some (rbI (nI n)), some (rbI (nI i)), some (rbI (nI j)), some (rbI 1), none, none, none, none, none, none, none, none, none, none, none, none, none, none, none, none, none, some (rbI (nI sc)), none, none, none, none, none, none, none, none, none, none, none, none, none, none, none, none, none] [rbI (nI zl), rbI (nI (sc / 60))] (wI G W) := by
          intro zl hzl
          obtain ⟨it, hit⟩ : ∃ it, it = (sc + 59) / 60 := ⟨_, rfl⟩
          have hit9 : 0 < it ∧ it ≤ 150 := by omega
          refine rq_iadd C (z := (nI it)) dL_law_2065 (by rw [nI_add, hzl, hit]) ?_
          refine rb_istore C dL_law_2066 (Nat.le_of_ble_eq_true rfl) rfl (Lv' := [_, _, _, _, _, _, _, _, _, _, _, _, _, _, _, _, _, _, _, _, _, _, _, _, _, _, _, _, _, _, _, _, _, _, _, _, _, _, _, _, _, _, _, _, _, _, _, _, _, _, _, _, _, _]) rfl ?_
          refine rb_iload C dL_law_2068 rfl ?_
          refine rb_iload C dL_law_2070 rfl ?_
          refine rb_icmp_ne C 2101 dL_law_2072 (by decide) (fun h2072 => ?_) (fun h2072 => ?_)
          · replace h2072 := mt (nI_eq (a := i) (b := j) (by omega) (by omega)).mpr h2072
            refine rb_aload_n C dL_law_2101 rfl ?_
            refine rb_bipush C dL_law_2102 (v := 8) (by decide) ?_
            refine rb_iload C dL_law_2104 rfl ?_
            refine rq_imul C (z := (nI (8 * j))) dL_law_2106 (pk_mul 8 j) ?_
            refine rb_iconst C dL_law_2107 (v := 5) (by decide) ?_
            refine rq_iadd C (z := (nI (8 * j + 5))) dL_law_2108 (nI_add (8 * j) 5) ?_
            refine rw_iald C (x := (M (14, 21, 0) j)) 48 (8 * j + 5) dL_law_2109 rfl (hm 1 (by decide)) (vp_in_nI (show 8 * j + 5 < 48 by omega) (by decide)) (nI_clamp (show 8 * j + 5 < 2 ^ 31 by omega)) ((lr_x5 hl (s := j) (by omega))) ?_
            refine rb_istore C dL_law_2110 (Nat.le_of_ble_eq_true rfl) rfl (Lv' := [_, _, _, _, _, _, _, _, _, _, _, _, _, _, _, _, _, _, _, _, _, _, _, _, _, _, _, _, _, _, _, _, _, _, _, _, _, _, _, _, _, _, _, _, _, _, _, _, _, _, _, _, _, _]) rfl ?_
            refine rb_aload_n C dL_law_2112 rfl ?_
            refine rb_bipush C dL_law_2113 (v := 8) (by decide) ?_
            refine rb_iload C dL_law_2115 rfl ?_
            refine rq_imul C (z := (nI (8 * i))) dL_law_2117 (pk_mul 8 i) ?_
            refine rb_iconst C dL_law_2118 (v := 3) (by decide) ?_
            refine rq_iadd C (z := (nI (8 * i + 3))) dL_law_2119 (nI_add (8 * i) 3) ?_
            refine rw_iald C (x := (M (14, 19, 0) i)) 48 (8 * i + 3) dL_law_2120 rfl (hm 1 (by decide)) (vp_in_nI (show 8 * i + 3 < 48 by omega) (by decide)) (nI_clamp (show 8 * i + 3 < 2 ^ 31 by omega)) ((lr_x3 hl (s := i) (by omega))) ?_
            refine rb_aload_n C dL_law_2121 rfl ?_
            refine rb_bipush C dL_law_2122 (v := 8) (by decide) ?_
            refine rb_iload C dL_law_2124 rfl ?_
            refine rq_imul C (z := (nI (8 * i))) dL_law_2126 (pk_mul 8 i) ?_
            refine rw_iald C (x := (M (14, 16, 0) i)) 48 (8 * i) dL_law_2127 rfl (hm 1 (by decide)) (vp_in_nI (show 8 * i < 48 by omega) (by decide)) (nI_clamp (show 8 * i < 2 ^ 31 by omega)) ((lr_x0 hl (s := i) (by omega))) ?_
            have mg2128 : ∀ (f1 : Nat) (hf1 : (f1 = 0 ∧ M (14, 19, 0) i = M (14, 16, 0) i) ∨ (f1 = 1 ∧ ¬ M (14, 19, 0) i = M (14, 16, 0) i)) (hf1b : f1 < 2), rb_W Φ (cells + 0) (slots + 0) 2136 [some (rbR (18, 0, 0)), some (rbR (0, 0, 0)), some (rbR (14, 0, 0)), some (rbR (14, 1, 0)), some (rbR (14, 2, 0)), some (rbR (14, 3, 0)), some (rbR (14, 4, 0)), some (rbR (14, 5, 0)), some (rbR (14, 6, 0)), some (rbR (14, 7, 0)), some (rbR (14, 8, 0)), some (rbR (14, 9, 0)), some (rbI (nI k)), some (rbI v), some (rbI u), some (rbI (nI n)), some (rbI (nI i)), some (rbI (nI j)), some (rbI 1), none, none, none, none, none, none, none, none, none, none, none, none, none, none, none, none, none, some (rbI (nI sc)), some (rbI (nI it)), some (rbI (M (14, 21, 0) j)), none, none, none, none, none, none, none, none, none, none, none, none, none, none, none] [rbI (nI f1)] (wI G W) := by
              intro f1 hf1 hf1b
              refine rb_istore C dL_law_2136 (Nat.le_of_ble_eq_true rfl) rfl (Lv' := [_, _, _, _, _, _, _, _, _, _, _, _, _, _, _, _, _, _, _, _, _, _, _, _, _, _, _, _, _, _, _, _, _, _, _, _, _, _, _, _, _, _, _, _, _, _, _, _, _, _, _, _, _, _]) rfl ?_
              refine rb_aload_n C dL_law_2138 rfl ?_
              refine rb_bipush C dL_law_2139 (v := 8) (by decide) ?_
              refine rb_iload C dL_law_2141 rfl ?_
              refine rq_imul C (z := (nI (8 * j))) dL_law_2143 (pk_mul 8 j) ?_
              refine rb_iconst C dL_law_2144 (v := 3) (by decide) ?_
              refine rq_iadd C (z := (nI (8 * j + 3))) dL_law_2145 (nI_add (8 * j) 3) ?_
              refine rw_iald C (x := (M (14, 19, 0) j)) 48 (8 * j + 3) dL_law_2146 rfl (hm 1 (by decide)) (vp_in_nI (show 8 * j + 3 < 48 by omega) (by decide)) (nI_clamp (show 8 * j + 3 < 2 ^ 31 by omega)) ((lr_x3 hl (s := j) (by omega))) ?_
              refine rb_aload_n C dL_law_2147 rfl ?_
              refine rb_bipush C dL_law_2148 (v := 8) (by decide) ?_
              refine rb_iload C dL_law_2150 rfl ?_
              refine rq_imul C (z := (nI (8 * j))) dL_law_2152 (pk_mul 8 j) ?_
              refine rw_iald C (x := (M (14, 16, 0) j)) 48 (8 * j) dL_law_2153 rfl (hm 1 (by decide)) (vp_in_nI (show 8 * j < 48 by omega) (by decide)) (nI_clamp (show 8 * j < 2 ^ 31 by omega)) ((lr_x0 hl (s := j) (by omega))) ?_
              have mg2154 : ∀ (f2 : Nat) (hf2 : (f2 = 0 ∧ M (14, 19, 0) j = M (14, 16, 0) j) ∨ (f2 = 1 ∧ ¬ M (14, 19, 0) j = M (14, 16, 0) j)) (hf2b : f2 < 2), rb_W Φ (cells + 0) (slots + 0) 2162 [some (rbR (18, 0, 0)), some (rbR (0, 0, 0)), some (rbR (14, 0, 0)), some (rbR (14, 1, 0)), some (rbR (14, 2, 0)), some (rbR (14, 3, 0)), some (rbR (14, 4, 0)), some (rbR (14, 5, 0)), some (rbR (14, 6, 0)), some (rbR (14, 7, 0)), some (rbR (14, 8, 0)), some (rbR (14, 9, 0)), some (rbI (nI k)), some (rbI v), some (rbI u), some (rbI (nI n)), some (rbI (nI i)), some (rbI (nI j)), some (rbI 1), none, none, none, none, none, none, none, none, none, none, none, none, none, none, none, none, none, some (rbI (nI sc)), some (rbI (nI it)), some (rbI (M (14, 21, 0) j)), some (rbI (nI f1)), none, none, none, none, none, none, none, none, none, none, none, none, none, none] [rbI (nI f2)] (wI G W) := by
                intro f2 hf2 hf2b
                refine rb_istore C dL_law_2162 (Nat.le_of_ble_eq_true rfl) rfl (Lv' := [_, _, _, _, _, _, _, _, _, _, _, _, _, _, _, _, _, _, _, _, _, _, _, _, _, _, _, _, _, _, _, _, _, _, _, _, _, _, _, _, _, _, _, _, _, _, _, _, _, _, _, _, _, _]) rfl ?_
                refine rb_iload C dL_law_2164 rfl ?_
                refine rb_aload_n C dL_law_2166 rfl ?_
                refine rb_bipush C dL_law_2167 (v := 26) (by decide) ?_
                refine rb_iconst C dL_law_2169 (v := 3) (by decide) ?_
                refine rb_aload_n C dL_law_2170 rfl ?_
                refine rb_bipush C dL_law_2171 (v := 8) (by decide) ?_
                refine rb_iload C dL_law_2173 rfl ?_
                refine rq_imul C (z := (nI (8 * i))) dL_law_2175 (pk_mul 8 i) ?_
                refine rw_iald C (x := (nI ho1)) 48 (8 * i) dL_law_2176 rfl (hm 1 (by decide)) (vp_in_nI (show 8 * i < 48 by omega) (by decide)) (nI_clamp (show 8 * i < 2 ^ 31 by omega)) ((lr_x0 hl hi9).trans e16i) ?_
                refine rq_imul C (z := (nI (3 * ho1))) dL_law_2177 (pk_mul 3 ho1) ?_
                refine rq_iadd C (z := (nI (26 + 3 * ho1))) dL_law_2178 (nI_add 26 (3 * ho1)) ?_
                refine rb_iload C dL_law_2179 rfl ?_
                have mg2181 : ∀ (fv : Nat) (hfv : fv = f1), rb_W Φ (cells + 0) (slots + 0) 2189 [some (rbR (18, 0, 0)), some (rbR (0, 0, 0)), some (rbR (14, 0, 0)), some (rbR (14, 1, 0)), some (rbR (14, 2, 0)), some (rbR (14, 3, 0)), some (rbR (14, 4, 0)), some (rbR (14, 5, 0)), some (rbR (14, 6, 0)), some (rbR (14, 7, 0)), some (rbR (14, 8, 0)), some (rbR (14, 9, 0)), some (rbI (nI k)), some (rbI v), some (rbI u), some (rbI (nI n)), some (rbI (nI i)), some (rbI (nI j)), some (rbI 1), none, none, none, none, none, none, none, none, none, none, none, none, none, none, none, none, none, some (rbI (nI sc)), some (rbI (nI it)), some (rbI (M (14, 21, 0) j)), some (rbI (nI f1)), some (rbI (nI f2)), none, none, none, none, none, none, none, none, none, none, none, none, none] [rbI (nI fv), rbI (nI (26 + 3 * ho1)), rbR (14, 0, 0), rbI (nI it)] (wI G W) := by
                  intro fv hfv
                  have hj1 : 3 * ho1 + f1 < 18 := by omega
                  obtain ⟨pr1, hpr1, epr1⟩ := vp_nat (lr_Q hl (j := 3 * ho1 + f1) hj1).2
                  refine rq_iadd C (z := (nI (26 + (3 * ho1 + f1)))) dL_law_2189 (by rw [hfv, nI_add, Nat.add_assoc]) ?_
                  refine rw_iald C (x := (nI pr1)) 44 (26 + (3 * ho1 + f1)) dL_law_2190 rfl (hm 0 (by decide)) (vp_in_nI (show 26 + (3 * ho1 + f1) < 44 by omega) (by decide)) (nI_clamp (show 26 + (3 * ho1 + f1) < 2 ^ 31 by omega)) ((lr_Q hl (j := 3 * ho1 + f1) hj1).1.trans epr1) ?_
                  obtain ⟨one, hone⟩ : ∃ one, one = it * pr1 := ⟨_, rfl⟩
                  have hone9 : one ≤ 15000 := by rw [hone]; exact Nat.le_trans (Nat.mul_le_mul hit9.2 (show pr1 ≤ 99 by omega)) (by decide)
                  have honeE : nI one = nI it * m_cP M (nI i) := by rw [cp_n (by omega) (by omega) e16i hf1, epr1, hone]; exact (pk_mul it pr1).symm
                  refine rq_imul C (z := (nI one)) dL_law_2191 (by rw [hone]; exact pk_mul it pr1) ?_
                  refine rb_istore C dL_law_2192 (Nat.le_of_ble_eq_true rfl) rfl (Lv' := [_, _, _, _, _, _, _, _, _, _, _, _, _, _, _, _, _, _, _, _, _, _, _, _, _, _, _, _, _, _, _, _, _, _, _, _, _, _, _, _, _, _, _, _, _, _, _, _, _, _, _, _, _, _]) rfl ?_
                  refine rb_iload C dL_law_2194 rfl ?_
                  have mg2196 : ∀ (two : Nat) (htwo : nI two = nI it * m_cQ M (nI j)) (htwo9 : two ≤ 15000), rb_W Φ (cells + 0) (slots + 0) 2220 [some (rbR (18, 0, 0)), some (rbR (0, 0, 0)), some (rbR (14, 0, 0)), some (rbR (14, 1, 0)), some (rbR (14, 2, 0)), some (rbR (14, 3, 0)), some (rbR (14, 4, 0)), some (rbR (14, 5, 0)), some (rbR (14, 6, 0)), some (rbR (14, 7, 0)), some (rbR (14, 8, 0)), some (rbR (14, 9, 0)), some (rbI (nI k)), some (rbI v), some (rbI u), some (rbI (nI n)), some (rbI (nI i)), some (rbI (nI j)), some (rbI 1), none, none, none, none, none, none, none, none, none, none, none, none, none, none, none, none, none, some (rbI (nI sc)), some (rbI (nI it)), some (rbI (M (14, 21, 0) j)), some (rbI (nI f1)), some (rbI (nI f2)), some (rbI (nI one)), none, none, none, none, none, none, none, none, none, none, none, none] [rbI (nI two)] (wI G W) := by
                    intro two htwo htwo9
                    refine rb_istore C dL_law_2220 (Nat.le_of_ble_eq_true rfl) rfl (Lv' := [_, _, _, _, _, _, _, _, _, _, _, _, _, _, _, _, _, _, _, _, _, _, _, _, _, _, _, _, _, _, _, _, _, _, _, _, _, _, _, _, _, _, _, _, _, _, _, _, _, _, _, _, _, _]) rfl ?_
                    refine rb_aload_n C dL_law_2222 rfl ?_
                    refine rb_bipush C dL_law_2223 (v := 8) (by decide) ?_
                    refine rb_iload C dL_law_2225 rfl ?_
                    refine rq_imul C (z := (nI (8 * i))) dL_law_2227 (pk_mul 8 i) ?_
                    refine rb_iconst C dL_law_2228 (v := 3) (by decide) ?_
                    refine rq_iadd C (z := (nI (8 * i + 3))) dL_law_2229 (nI_add (8 * i) 3) ?_
                    refine rw_iald C (x := (M (14, 19, 0) i)) 48 (8 * i + 3) dL_law_2230 rfl (hm 1 (by decide)) (vp_in_nI (show 8 * i + 3 < 48 by omega) (by decide)) (nI_clamp (show 8 * i + 3 < 2 ^ 31 by omega)) ((lr_x3 hl (s := i) (by omega))) ?_
                    refine rb_iconst C dL_law_2231 (v := (-1)) (by decide) ?_
                    have mg2232 : ∀ (m21 : Int32) (fl : Nat) (hfl : m_nobody M (nI i) (nI j) = nI fl) (hf4 : fl ≤ 4), rb_W Φ (cells + 0) (slots + 0) 2287 [some (rbR (18, 0, 0)), some (rbR (0, 0, 0)), some (rbR (14, 0, 0)), some (rbR (14, 1, 0)), some (rbR (14, 2, 0)), some (rbR (14, 3, 0)), some (rbR (14, 4, 0)), some (rbR (14, 5, 0)), some (rbR (14, 6, 0)), some (rbR (14, 7, 0)), some (rbR (14, 8, 0)), some (rbR (14, 9, 0)), some (rbI (nI k)), some (rbI v), some (rbI u), some (rbI (nI n)), some (rbI (nI i)), some (rbI (nI j)), some (rbI 1), none, none, none, none, none, none, none, none, none, none, none, none, none, none, none, none, none, some (rbI (nI sc)), some (rbI (nI it)), some (rbI m21), some (rbI (nI f1)), some (rbI (nI f2)), some (rbI (nI one)), some (rbI (nI two)), none, none, none, none, none, none, none, none, none, none, none] [rbI (nI fl)] (wI G W) := by
                      intro m21 fl hfl hf4
                      refine rb_istore C dL_law_2287 (Nat.le_of_ble_eq_true rfl) rfl (Lv' := [_, _, _, _, _, _, _, _, _, _, _, _, _, _, _, _, _, _, _, _, _, _, _, _, _, _, _, _, _, _, _, _, _, _, _, _, _, _, _, _, _, _, _, _, _, _, _, _, _, _, _, _, _, _]) rfl ?_
                      refine rb_iload C dL_law_2289 rfl ?_
                      have mg2291 : ∀ (f2q : Nat) (h2q : (f2q = fl ∧ (¬ fl = 0 ∨ m_isAbove M (nI i) (nI one) = 0)) ∨ (fl = 0 ∧ f2q = 5 ∧ ¬ m_isAbove M (nI i) (nI one) = 0)), rb_W Φ (cells + 0) (slots + 0) 2342 [some (rbR (18, 0, 0)), some (rbR (0, 0, 0)), some (rbR (14, 0, 0)), some (rbR (14, 1, 0)), some (rbR (14, 2, 0)), some (rbR (14, 3, 0)), some (rbR (14, 4, 0)), some (rbR (14, 5, 0)), some (rbR (14, 6, 0)), some (rbR (14, 7, 0)), some (rbR (14, 8, 0)), some (rbR (14, 9, 0)), some (rbI (nI k)), some (rbI v), some (rbI u), some (rbI (nI n)), some (rbI (nI i)), some (rbI (nI j)), some (rbI 1), none, none, none, none, none, none, none, none, none, none, none, none, none, none, none, none, none, some (rbI (nI sc)), some (rbI (nI it)), some (rbI m21), some (rbI (nI f1)), some (rbI (nI f2)), some (rbI (nI one)), some (rbI (nI two)), some (rbI (nI f2q)), none, none, none, none, none, none, none, none, none, none] [] (wI G W) := by
                        intro f2q h2q
                        refine rb_iload C dL_law_2342 rfl ?_
                        have mg2344 : ∀ (f3 : Nat) (h3q : (f3 = f2q ∧ (¬ f2q = 0 ∨ m_isAbove M (nI j) (nI two) = 0)) ∨ (f2q = 0 ∧ f3 = 6 ∧ ¬ m_isAbove M (nI j) (nI two) = 0)), rb_W Φ (cells + 0) (slots + 0) 2396 [some (rbR (18, 0, 0)), some (rbR (0, 0, 0)), some (rbR (14, 0, 0)), some (rbR (14, 1, 0)), some (rbR (14, 2, 0)), some (rbR (14, 3, 0)), some (rbR (14, 4, 0)), some (rbR (14, 5, 0)), some (rbR (14, 6, 0)), some (rbR (14, 7, 0)), some (rbR (14, 8, 0)), some (rbR (14, 9, 0)), some (rbI (nI k)), some (rbI v), some (rbI u), some (rbI (nI n)), some (rbI (nI i)), some (rbI (nI j)), some (rbI 1), none, none, none, none, none, none, none, none, none, none, none, none, none, none, none, none, none, some (rbI (nI sc)), some (rbI (nI it)), some (rbI m21), some (rbI (nI f1)), some (rbI (nI f2)), some (rbI (nI one)), some (rbI (nI two)), some (rbI (nI f3)), none, none, none, none, none, none, none, none, none, none] [] (wI G W) := by
                          intro f3 h3q
                          refine rb_aload_n C dL_law_2396 rfl ?_
                          refine rb_iload C dL_law_2397 rfl ?_
                          refine rb_iload C dL_law_2399 rfl ?_
                          refine rb_iload C dL_law_2401 rfl ?_
                          refine rb_callSW C M_L_184 (fun l X => c_call l X G W M hL hl hi9 hj9 h2072 hsc9 hit (by omega) honeE htwo hfl hf4 h2q h3q) dL_law_2403 rfl rfl rfl (Nat.le_of_ble_eq_true rfl) ⟨(Nat.le_of_ble_eq_true rfl), (Nat.le_of_ble_eq_true rfl)⟩ (by omega) (by omega) (fun v G' hp => ?_)
                          obtain ⟨rfl, G2, W2, e9, hL2, hw2⟩ := hp
                          rw [e9]
                          clear e9 G'
                          have hl2 := lx_lw hl hw2
                          have hm := hL2.1
                          refine rb_iload C dL_law_2406 rfl ?_
                          refine rb_icmp_ne C 2415 dL_law_2408 (by decide) (fun h9 => absurd (rfl) h9) (fun _ => ?_)
                          refine rb_iconst C dL_law_2411 (v := 1) (by decide) ?_
                          refine rb_goto C 2416 dL_law_2412 (by decide) ?_
                          refine rb_istore C dL_law_2416 (Nat.le_of_ble_eq_true rfl) rfl (Lv' := [_, _, _, _, _, _, _, _, _, _, _, _, _, _, _, _, _, _, _, _, _, _, _, _, _, _, _, _, _, _, _, _, _, _, _, _, _, _, _, _, _, _, _, _, _, _, _, _, _, _, _, _, _, _]) rfl ?_
                          refine rb_iload C dL_law_2418 rfl ?_
                          refine rb_if_le C 2426 dL_law_2420 (by decide) (fun h2420 => ?_) (fun h2420 => ?_)
                          · replace h2420 := (nI_leI (a := f3) (b := 0) (by omega) (by omega)).mp h2420
                            have e3 : f3 = 0 := by omega
                            rw [if_pos e3] at hL2
                            have e2 : f2q = 0 := by rcases h3q with ⟨a, -⟩ | ⟨-, a, -⟩ <;> omega
                            have e1 : fl = 0 := by rcases h2q with ⟨a, -⟩ | ⟨a, -, -⟩ <;> omega
                            obtain ⟨-, q1, q2⟩ := nob_le (M := M) (s := nI i) (o := nI j) (by rw [hfl, e1]; decide)
                            rw [cl_ (by omega)] at q1 q2
                            obtain ⟨aa1, haa1, e19a⟩ := at6_nat (lr_at hl2 hi9) q1
                            obtain ⟨aa2, haa2, e19b⟩ := at6_nat (lr_at hl2 hj9) q2
                            refine rb_iconst C dL_law_2426 (v := 0) (by decide) ?_
                            refine rb_istore C dL_law_2427 (Nat.le_of_ble_eq_true rfl) rfl (Lv' := [_, _, _, _, _, _, _, _, _, _, _, _, _, _, _, _, _, _, _, _, _, _, _, _, _, _, _, _, _, _, _, _, _, _, _, _, _, _, _, _, _, _, _, _, _, _, _, _, _, _, _, _, _, _]) rfl ?_
                            refine rb_iload C dL_law_2429 rfl ?_
                            refine rb_iconst C dL_law_2431 (v := 2) (by decide) ?_
                            refine rb_icmp_ge C 2601 dL_law_2432 (by decide) (fun h9 => absurd h9 (by decide)) (fun _ => ?_)
                            refine rb_iload C dL_law_2435 rfl ?_
                            refine rb_if_ne C 2445 dL_law_2437 (by decide) (fun h9 => absurd (by decide) h9) (fun _ => ?_)
                            refine rb_iload C dL_law_2440 rfl ?_
                            refine rb_goto C 2447 dL_law_2442 (by decide) ?_
                            refine rb_istore C dL_law_2447 (Nat.le_of_ble_eq_true rfl) rfl (Lv' := [_, _, _, _, _, _, _, _, _, _, _, _, _, _, _, _, _, _, _, _, _, _, _, _, _, _, _, _, _, _, _, _, _, _, _, _, _, _, _, _, _, _, _, _, _, _, _, _, _, _, _, _, _, _]) rfl ?_
                            refine rb_iload C dL_law_2449 rfl ?_
                            refine rb_if_ne C 2459 dL_law_2451 (by decide) (fun h9 => absurd (by decide) h9) (fun _ => ?_)
                            refine rb_iload C dL_law_2454 rfl ?_
                            refine rb_goto C 2461 dL_law_2456 (by decide) ?_
                            refine rb_istore C dL_law_2461 (Nat.le_of_ble_eq_true rfl) rfl (Lv' := [_, _, _, _, _, _, _, _, _, _, _, _, _, _, _, _, _, _, _, _, _, _, _, _, _, _, _, _, _, _, _, _, _, _, _, _, _, _, _, _, _, _, _, _, _, _, _, _, _, _, _, _, _, _]) rfl ?_
                            have ly0 := ly_lx (lx_thr hl2 0)
                            refine law_17b0 C (by omega) (by omega) hL2 (M := (up2 M (16, 0, 0) 0 0)) ly0 v u m21 k n i j i one sc it f1 f2 f3 one two ho1 aa1 f1 hi9 (by omega) hone9 hf1b ((ia_thr _ _ _).trans (ia_0 (by omega) hf1)) ((up2_n _ _ _ _ (by simp)).trans e16i) ((up2_n _ _ _ _ (by simp)).trans e19a) (by omega) haa1 (by omega) (fun W70 hL70 hl70 => ?_)
                            refine rq_iinc C dL_law_2595 rfl (v := (1 : Int32)) (by decide) rfl (Lv' := [_, _, _, _, _, _, _, _, _, _, _, _, _, _, _, _, _, _, _, _, _, _, _, _, _, _, _, _, _, _, _, _, _, _, _, _, _, _, _, _, _, _, _, _, _, _, _, _, _, _, _, _, _, _]) rfl ?_
                            refine rb_goto C 2429 dL_law_2598 (by decide) ?_
                            refine rb_iload C dL_law_2429 rfl ?_
                            refine rb_iconst C dL_law_2431 (v := 2) (by decide) ?_
                            refine rb_icmp_ge C 2601 dL_law_2432 (by decide) (fun h9 => absurd h9 (by decide)) (fun _ => ?_)
                            refine rb_iload C dL_law_2435 rfl ?_
                            refine rb_if_ne C 2445 dL_law_2437 (by decide) (fun _ => ?_) (fun h9 => absurd h9 (by decide))
                            refine rb_iload C dL_law_2445 rfl ?_
                            refine rb_istore C dL_law_2447 (Nat.le_of_ble_eq_true rfl) rfl (Lv' := [_, _, _, _, _, _, _, _, _, _, _, _, _, _, _, _, _, _, _, _, _, _, _, _, _, _, _, _, _, _, _, _, _, _, _, _, _, _, _, _, _, _, _, _, _, _, _, _, _, _, _, _, _, _]) rfl ?_
                            refine rb_iload C dL_law_2449 rfl ?_
                            refine rb_if_ne C 2459 dL_law_2451 (by decide) (fun _ => ?_) (fun h9 => absurd h9 (by decide))
                            refine rb_iload C dL_law_2459 rfl ?_
                            refine rb_istore C dL_law_2461 (Nat.le_of_ble_eq_true rfl) rfl (Lv' := [_, _, _, _, _, _, _, _, _, _, _, _, _, _, _, _, _, _, _, _, _, _, _, _, _, _, _, _, _, _, _, _, _, _, _, _, _, _, _, _, _, _, _, _, _, _, _, _, _, _, _, _, _, _]) rfl ?_
                            refine law_17b1 C (by omega) (by omega) hL70 (M := (m_records (m_pays (up2 M (16, 0, 0) 0 0) (nI i) (nI one)) (nI i) (nI it))) hl70 v u m21 k n i j j two sc it f1 f2 f3 one two ho2 aa2 f2 hj9 (by omega) htwo9 hf2b ((abr_o (fun k => (r_o 16 k (by decide)).trans (p_o 16 k (by decide))) (fun k => (r_o 19 k (by decide)).trans (p_o 19 k (by decide)))).trans ((ia_thr _ _ _).trans (ia_0 (by omega) hf2))) ((r_o 16 _ (by decide)).trans ((p_o 16 _ (by decide)).trans ((up2_n _ _ _ _ (by simp)).trans e16j))) ((r_o 19 _ (by decide)).trans ((p_o 19 _ (by decide)).trans ((up2_n _ _ _ _ (by simp)).trans e19b))) (by omega) haa2 (by omega) (fun W71 hL71 hl71 => ?_)
                            refine rq_iinc C dL_law_2595 rfl (v := (2 : Int32)) (by decide) rfl (Lv' := [_, _, _, _, _, _, _, _, _, _, _, _, _, _, _, _, _, _, _, _, _, _, _, _, _, _, _, _, _, _, _, _, _, _, _, _, _, _, _, _, _, _, _, _, _, _, _, _, _, _, _, _, _, _]) rfl ?_
                            refine rb_goto C 2429 dL_law_2598 (by decide) ?_
                            refine rb_iload C dL_law_2429 rfl ?_
                            refine rb_iconst C dL_law_2431 (v := 2) (by decide) ?_
                            refine rb_icmp_ge C 2601 dL_law_2432 (by decide) (fun _ => ?_) (fun h9 => absurd (by decide) h9)
                            refine rb_goto C 3288 dL_law_2601 (by decide) ?_
                            refine rb_W.unset 15 ?_
                            refine rb_W.unset 16 ?_
                            refine rb_W.unset 17 ?_
                            refine rb_W.unset 36 ?_
                            refine rb_W.unset 37 ?_
                            refine rb_W.unset 38 ?_
                            refine rb_W.unset 39 ?_
                            refine rb_W.unset 40 ?_
                            refine rb_W.unset 41 ?_
                            refine rb_W.unset 42 ?_
                            refine rb_W.unset 43 ?_
                            refine rb_W.unset 44 ?_
                            refine rb_W.unset 45 ?_
                            refine rb_W.unset 46 ?_
                            exact rb_W.room (kk G2 W71 (m_cF (up2 M (16, 0, 0) 0 0) (nI i) (nI j) (nI it) (nI one) (nI two)) ⟨hL71, _, _, _, _, _, _, (lx_call rfl hl71 (by omega) (by omega))⟩) (by omega) (by omega)
                          · replace h2420 := mt (nI_leI (a := f3) (b := 0) (by omega) (by omega)).mpr h2420
                            rw [if_neg (show ¬ f3 = 0 by omega)] at hL2
                            refine rb_goto C 3288 dL_law_2423 (by decide) ?_
                            refine rb_W.unset 15 ?_
                            refine rb_W.unset 16 ?_
                            refine rb_W.unset 17 ?_
                            refine rb_W.unset 36 ?_
                            refine rb_W.unset 37 ?_
                            refine rb_W.unset 38 ?_
                            refine rb_W.unset 39 ?_
                            refine rb_W.unset 40 ?_
                            refine rb_W.unset 41 ?_
                            refine rb_W.unset 42 ?_
                            refine rb_W.unset 43 ?_
                            exact rb_W.room (kk G2 W2 (up2 M (16, 0, 0) 0 0) ⟨hL2, _, _, _, _, _, _, (lx_thr hl2 0)⟩) (by omega) (by omega)
                        refine rb_if_ne C 2396 dL_law_2344 (by decide) (fun h2344 => ?_) (fun h2344 => ?_)
                        · replace h2344 := mt (nI_eq (a := f2q) (b := 0) (by omega) (by omega)).mpr h2344
                          exact mg2344 f2q (Or.inl ⟨rfl, Or.inl h2344⟩)
                        · replace h2344 := (nI_eq (a := f2q) (b := 0) (by omega) (by omega)).mp h2344
                          refine rb_iload C dL_law_2347 rfl ?_
                          refine rb_if_eq C 2396 dL_law_2349 (by decide) (fun h2349 => ?_) (fun h2349 => ?_)
                          · replace h2349 := (nI_eq (a := f2) (b := 0) (by omega) (by omega)).mp h2349
                            exact mg2344 f2q (Or.inl ⟨rfl, Or.inr (abv_0a (by rw [ia_0 (by omega) hf2, h2349]))⟩)
                          · replace h2349 := mt (nI_eq (a := f2) (b := 0) (by omega) (by omega)).mpr h2349
                            refine rb_aload_n C dL_law_2352 rfl ?_
                            refine rb_bipush C dL_law_2353 (v := 8) (by decide) ?_
                            refine rb_iload C dL_law_2355 rfl ?_
                            refine rq_imul C (z := (nI (8 * j))) dL_law_2357 (pk_mul 8 j) ?_
                            refine rb_bipush C dL_law_2358 (v := 7) (by decide) ?_
                            refine rq_iadd C (z := (nI (8 * j + 7))) dL_law_2360 (nI_add (8 * j) 7) ?_
                            refine rw_iald C (x := (M (15, 23, 0) j)) 48 (8 * j + 7) dL_law_2361 rfl (hm 1 (by decide)) (vp_in_nI (show 8 * j + 7 < 48 by omega) (by decide)) (nI_clamp (show 8 * j + 7 < 2 ^ 31 by omega)) ((lr_x7 hl (s := j) (by omega))) ?_
                            refine rb_if_ne C 2396 dL_law_2362 (by decide) (fun h2362 => ?_) (fun h2362 => ?_)
                            · exact mg2344 f2q (Or.inl ⟨rfl, Or.inr (abv_0b (by omega) h2362)⟩)
                            · refine rb_iload C dL_law_2365 rfl ?_
                              refine rb_iconst C dL_law_2367 (v := 1) (by decide) ?_
                              refine rb_aload C dL_law_2368 rfl ?_
                              refine rb_aload C dL_law_2370 rfl ?_
                              refine rb_aload_n C dL_law_2372 rfl ?_
                              refine rb_callS C M_L_106 (fun l X => (q_month l X G W M hm hl hj9).m) dL_law_2373 rfl rfl rfl (Nat.le_of_ble_eq_true rfl) ⟨(Nat.le_of_ble_eq_true rfl), (Nat.le_of_ble_eq_true rfl)⟩ (by omega) (by omega) (fun v G' hp => ?_) (fun _ _ hp => hp.elim)
                              obtain ⟨rfl, e9⟩ := hp
                              rw [e9]
                              clear e9 G'
                              refine rb_iload C dL_law_2376 rfl ?_
                              refine rq_iadd C (z := ((m_abroadOf M (nI j)) + (nI two))) dL_law_2378 rfl ?_
                              refine rb_aload_n C dL_law_2379 rfl ?_
                              refine rb_bipush C dL_law_2380 (v := 8) (by decide) ?_
                              refine rb_iload C dL_law_2382 rfl ?_
                              refine rq_imul C (z := (nI (8 * j))) dL_law_2384 (pk_mul 8 j) ?_
                              refine rb_bipush C dL_law_2385 (v := 6) (by decide) ?_
                              refine rq_iadd C (z := (nI (8 * j + 6))) dL_law_2387 (nI_add (8 * j) 6) ?_
                              refine rw_iald C (x := (M (14, 22, 0) j)) 48 (8 * j + 6) dL_law_2388 rfl (hm 1 (by decide)) (vp_in_nI (show 8 * j + 6 < 48 by omega) (by decide)) (nI_clamp (show 8 * j + 6 < 2 ^ 31 by omega)) ((lr_x6 hl (s := j) (by omega))) ?_
                              refine rb_icmp_le C 2396 dL_law_2389 (by decide) (fun h2389 => ?_) (fun h2389 => ?_)
                              · exact mg2344 f2q (Or.inl ⟨rfl, Or.inr (abv_0c (by omega) h2389)⟩)
                              · refine rb_bipush C dL_law_2392 (v := 6) (by decide) ?_
                                refine rb_istore C dL_law_2394 (Nat.le_of_ble_eq_true rfl) rfl (Lv' := [_, _, _, _, _, _, _, _, _, _, _, _, _, _, _, _, _, _, _, _, _, _, _, _, _, _, _, _, _, _, _, _, _, _, _, _, _, _, _, _, _, _, _, _, _, _, _, _, _, _, _, _, _, _]) rfl ?_
                                exact mg2344 6 (Or.inr ⟨by omega, rfl, abv_1 (by omega) (ia_0 (by omega) hf2) (by omega) h2362 h2389⟩)
                      refine rb_if_ne C 2342 dL_law_2291 (by decide) (fun h2291 => ?_) (fun h2291 => ?_)
                      · replace h2291 := mt (nI_eq (a := fl) (b := 0) (by omega) (by omega)).mpr h2291
                        exact mg2291 fl (Or.inl ⟨rfl, Or.inl h2291⟩)
                      · replace h2291 := (nI_eq (a := fl) (b := 0) (by omega) (by omega)).mp h2291
                        refine rb_iload C dL_law_2294 rfl ?_
                        refine rb_if_eq C 2342 dL_law_2296 (by decide) (fun h2296 => ?_) (fun h2296 => ?_)
                        · replace h2296 := (nI_eq (a := f1) (b := 0) (by omega) (by omega)).mp h2296
                          exact mg2291 fl (Or.inl ⟨rfl, Or.inr (abv_0a (by rw [ia_0 (by omega) hf1, h2296]))⟩)
                        · replace h2296 := mt (nI_eq (a := f1) (b := 0) (by omega) (by omega)).mpr h2296
                          refine rb_aload_n C dL_law_2299 rfl ?_
                          refine rb_bipush C dL_law_2300 (v := 8) (by decide) ?_
                          refine rb_iload C dL_law_2302 rfl ?_
                          refine rq_imul C (z := (nI (8 * i))) dL_law_2304 (pk_mul 8 i) ?_
                          refine rb_bipush C dL_law_2305 (v := 7) (by decide) ?_
                          refine rq_iadd C (z := (nI (8 * i + 7))) dL_law_2307 (nI_add (8 * i) 7) ?_
                          refine rw_iald C (x := (M (15, 23, 0) i)) 48 (8 * i + 7) dL_law_2308 rfl (hm 1 (by decide)) (vp_in_nI (show 8 * i + 7 < 48 by omega) (by decide)) (nI_clamp (show 8 * i + 7 < 2 ^ 31 by omega)) ((lr_x7 hl (s := i) (by omega))) ?_
                          refine rb_if_ne C 2342 dL_law_2309 (by decide) (fun h2309 => ?_) (fun h2309 => ?_)
                          · exact mg2291 fl (Or.inl ⟨rfl, Or.inr (abv_0b (by omega) h2309)⟩)
                          · refine rb_iload C dL_law_2312 rfl ?_
                            refine rb_iconst C dL_law_2314 (v := 1) (by decide) ?_
                            refine rb_aload C dL_law_2315 rfl ?_
                            refine rb_aload C dL_law_2317 rfl ?_
                            refine rb_aload_n C dL_law_2319 rfl ?_
                            refine rb_callS C M_L_106 (fun l X => (q_month l X G W M hm hl hi9).m) dL_law_2320 rfl rfl rfl (Nat.le_of_ble_eq_true rfl) ⟨(Nat.le_of_ble_eq_true rfl), (Nat.le_of_ble_eq_true rfl)⟩ (by omega) (by omega) (fun v G' hp => ?_) (fun _ _ hp => hp.elim)
                            obtain ⟨rfl, e9⟩ := hp
                            rw [e9]
                            clear e9 G'
                            refine rb_iload C dL_law_2323 rfl ?_
                            refine rq_iadd C (z := ((m_abroadOf M (nI i)) + (nI one))) dL_law_2325 rfl ?_
                            refine rb_aload_n C dL_law_2326 rfl ?_
                            refine rb_bipush C dL_law_2327 (v := 8) (by decide) ?_
                            refine rb_iload C dL_law_2329 rfl ?_
                            refine rq_imul C (z := (nI (8 * i))) dL_law_2331 (pk_mul 8 i) ?_
                            refine rb_bipush C dL_law_2332 (v := 6) (by decide) ?_
                            refine rq_iadd C (z := (nI (8 * i + 6))) dL_law_2334 (nI_add (8 * i) 6) ?_
                            refine rw_iald C (x := (M (14, 22, 0) i)) 48 (8 * i + 6) dL_law_2335 rfl (hm 1 (by decide)) (vp_in_nI (show 8 * i + 6 < 48 by omega) (by decide)) (nI_clamp (show 8 * i + 6 < 2 ^ 31 by omega)) ((lr_x6 hl (s := i) (by omega))) ?_
                            refine rb_icmp_le C 2342 dL_law_2336 (by decide) (fun h2336 => ?_) (fun h2336 => ?_)
                            · exact mg2291 fl (Or.inl ⟨rfl, Or.inr (abv_0c (by omega) h2336)⟩)
                            · refine rb_iconst C dL_law_2339 (v := 5) (by decide) ?_
                              refine rb_istore C dL_law_2340 (Nat.le_of_ble_eq_true rfl) rfl (Lv' := [_, _, _, _, _, _, _, _, _, _, _, _, _, _, _, _, _, _, _, _, _, _, _, _, _, _, _, _, _, _, _, _, _, _, _, _, _, _, _, _, _, _, _, _, _, _, _, _, _, _, _, _, _, _]) rfl ?_
                              exact mg2291 5 (Or.inr ⟨by omega, rfl, abv_1 (by omega) (ia_0 (by omega) hf1) (by omega) h2309 h2336⟩)
                    refine rb_icmp_ne C 2239 dL_law_2232 (by decide) (fun h2232 => ?_) (fun h2232 => ?_)
                    · refine rb_iload C dL_law_2239 rfl ?_
                      refine rb_iconst C dL_law_2241 (v := (-1)) (by decide) ?_
                      refine rb_icmp_ne C 2249 dL_law_2242 (by decide) (fun h2242 => ?_) (fun h2242 => ?_)
                      · obtain ⟨nt, hnt, ent⟩ := at6_nat (lr_nt hl hj9) h2242
                        rw [ent]
                        refine rb_aload C dL_law_2249 rfl ?_
                        refine rb_bipush C dL_law_2251 (v := 6) (by decide) ?_
                        refine rb_iload C dL_law_2253 rfl ?_
                        refine rq_imul C (z := (nI (6 * nt))) dL_law_2255 (pk_mul 6 nt) ?_
                        refine rb_iload C dL_law_2256 rfl ?_
                        refine rq_iadd C (z := (nI (6 * nt + j))) dL_law_2258 (nI_add (6 * nt) j) ?_
                        refine rw_iald C (x := (M (14, 27, 0) (10 * nt + j))) 36 (6 * nt + j) dL_law_2259 rfl (hm 2 (by decide)) (vp_in_nI (show 6 * nt + j < 36 by omega) (by decide)) (nI_clamp (show 6 * nt + j < 2 ^ 31 by omega)) ((lr_bk hl (n := nt) (s := j) (by omega) (by omega))) ?_
                        refine rb_iconst C dL_law_2260 (v := (-1)) (by decide) ?_
                        refine rb_icmp_ne C 2268 dL_law_2261 (by decide) (fun h2261 => ?_) (fun h2261 => ?_)
                        · refine rb_aload_n C dL_law_2268 rfl ?_
                          refine rb_bipush C dL_law_2269 (v := 8) (by decide) ?_
                          refine rb_iload C dL_law_2271 rfl ?_
                          refine rq_imul C (z := (nI (8 * j))) dL_law_2273 (pk_mul 8 j) ?_
                          refine rb_iconst C dL_law_2274 (v := 3) (by decide) ?_
                          refine rq_iadd C (z := (nI (8 * j + 3))) dL_law_2275 (nI_add (8 * j) 3) ?_
                          refine rw_iald C (x := (M (14, 19, 0) j)) 48 (8 * j + 3) dL_law_2276 rfl (hm 1 (by decide)) (vp_in_nI (show 8 * j + 3 < 48 by omega) (by decide)) (nI_clamp (show 8 * j + 3 < 2 ^ 31 by omega)) ((lr_x3 hl (s := j) (by omega))) ?_
                          refine rb_iload C dL_law_2277 rfl ?_
                          refine rb_icmp_eq C 2286 dL_law_2279 (by decide) (fun h2279 => ?_) (fun h2279 => ?_)
                          · refine rb_iconst C dL_law_2286 (v := 0) (by decide) ?_
                            exact mg2232 _ 0 (by rw [nb_n (by omega) (by omega), if_neg h2232, if_neg h2242, ent, cl_ (by omega), if_neg h2261, if_pos h2279]; rfl) (by decide)
                          · refine rb_iconst C dL_law_2282 (v := 4) (by decide) ?_
                            refine rb_goto C 2287 dL_law_2283 (by decide) ?_
                            exact mg2232 _ 4 (by rw [nb_n (by omega) (by omega), if_neg h2232, if_neg h2242, ent, cl_ (by omega), if_neg h2261, if_neg h2279]; rfl) (by decide)
                        · refine rb_iconst C dL_law_2264 (v := 3) (by decide) ?_
                          refine rb_goto C 2287 dL_law_2265 (by decide) ?_
                          exact mg2232 _ 3 (by rw [nb_n (by omega) (by omega), if_neg h2232, if_neg h2242, ent, cl_ (by omega), if_pos h2261]; rfl) (by decide)
                      · refine rb_iconst C dL_law_2245 (v := 2) (by decide) ?_
                        refine rb_goto C 2287 dL_law_2246 (by decide) ?_
                        exact mg2232 _ 2 (by rw [nb_n (by omega) (by omega), if_neg h2232, if_pos h2242]; rfl) (by decide)
                    · refine rb_iconst C dL_law_2235 (v := 1) (by decide) ?_
                      refine rb_goto C 2287 dL_law_2236 (by decide) ?_
                      exact mg2232 _ 1 (by rw [nb_n (by omega) (by omega), if_pos h2232]; rfl) (by decide)
                  refine rb_if_eq C 2219 dL_law_2196 (by decide) (fun h2196 => ?_) (fun h2196 => ?_)
                  · replace h2196 := (nI_eq (a := f2) (b := 0) (by omega) (by omega)).mp h2196
                    refine rb_iconst C dL_law_2219 (v := 0) (by decide) ?_
                    exact mg2196 0 (by rw [cq_n (by omega) (by omega) e16j hf2, if_pos h2196]; exact Int32.mul_zero.symm) (by decide)
                  · replace h2196 := mt (nI_eq (a := f2) (b := 0) (by omega) (by omega)).mpr h2196
                    refine rb_iload C dL_law_2199 rfl ?_
                    refine rb_aload_n C dL_law_2201 rfl ?_
                    refine rb_bipush C dL_law_2202 (v := 28) (by decide) ?_
                    refine rb_iconst C dL_law_2204 (v := 3) (by decide) ?_
                    refine rb_aload_n C dL_law_2205 rfl ?_
                    refine rb_bipush C dL_law_2206 (v := 8) (by decide) ?_
                    refine rb_iload C dL_law_2208 rfl ?_
                    refine rq_imul C (z := (nI (8 * j))) dL_law_2210 (pk_mul 8 j) ?_
                    refine rw_iald C (x := (nI ho2)) 48 (8 * j) dL_law_2211 rfl (hm 1 (by decide)) (vp_in_nI (show 8 * j < 48 by omega) (by decide)) (nI_clamp (show 8 * j < 2 ^ 31 by omega)) ((lr_x0 hl hj9).trans e16j) ?_
                    refine rq_imul C (z := (nI (3 * ho2))) dL_law_2212 (pk_mul 3 ho2) ?_
                    refine rq_iadd C (z := (nI (28 + 3 * ho2))) dL_law_2213 (nI_add 28 (3 * ho2)) ?_
                    have hj2 : 3 * ho2 + 2 < 18 := by omega
                    obtain ⟨pr2, hpr2, epr2⟩ := vp_nat (lr_Q hl (j := 3 * ho2 + 2) hj2).2
                    have epr3 := (lr_Q hl (j := 3 * ho2 + 2) hj2).1.trans epr2
                    rw [show 26 + (3 * ho2 + 2) = 28 + 3 * ho2 by omega] at epr3
                    refine rw_iald C (x := (nI pr2)) 44 (28 + 3 * ho2) dL_law_2214 rfl (hm 0 (by decide)) (vp_in_nI (show 28 + 3 * ho2 < 44 by omega) (by decide)) (nI_clamp (show 28 + 3 * ho2 < 2 ^ 31 by omega)) (epr3) ?_
                    refine rq_imul C (z := (nI (it * pr2))) dL_law_2215 (pk_mul it pr2) ?_
                    refine rb_goto C 2220 dL_law_2216 (by decide) ?_
                    exact mg2196 (it * pr2) (by rw [cq_n (by omega) (by omega) e16j hf2, if_neg h2196, epr2]; exact (pk_mul it pr2).symm) (Nat.le_trans (Nat.mul_le_mul hit9.2 (show pr2 ≤ 99 by omega)) (by decide))
                refine rb_if_eq C 2188 dL_law_2181 (by decide) (fun h2181 => ?_) (fun h2181 => ?_)
                · replace h2181 := (nI_eq (a := f1) (b := 0) (by omega) (by omega)).mp h2181
                  refine rb_iconst C dL_law_2188 (v := 0) (by decide) ?_
                  exact mg2181 0 (by omega)
                · replace h2181 := mt (nI_eq (a := f1) (b := 0) (by omega) (by omega)).mpr h2181
                  refine rb_iconst C dL_law_2184 (v := 1) (by decide) ?_
                  refine rb_goto C 2189 dL_law_2185 (by decide) ?_
                  exact mg2181 1 (by omega)
              refine rb_icmp_eq C 2161 dL_law_2154 (by decide) (fun h2154 => ?_) (fun h2154 => ?_)
              · refine rb_iconst C dL_law_2161 (v := 0) (by decide) ?_
                exact mg2154 0 (Or.inl ⟨rfl, h2154⟩) (by decide)
              · refine rb_iconst C dL_law_2157 (v := 1) (by decide) ?_
                refine rb_goto C 2162 dL_law_2158 (by decide) ?_
                exact mg2154 1 (Or.inr ⟨rfl, h2154⟩) (by decide)
            refine rb_icmp_eq C 2135 dL_law_2128 (by decide) (fun h2128 => ?_) (fun h2128 => ?_)
            · refine rb_iconst C dL_law_2135 (v := 0) (by decide) ?_
              exact mg2128 0 (Or.inl ⟨rfl, h2128⟩) (by decide)
            · refine rb_iconst C dL_law_2131 (v := 1) (by decide) ?_
              refine rb_goto C 2136 dL_law_2132 (by decide) ?_
              exact mg2128 1 (Or.inr ⟨rfl, h2128⟩) (by decide)
          · replace h2072 := (nI_eq (a := i) (b := j) (by omega) (by omega)).mp h2072
            rw [show j = i from h2072.symm]
            refine rb_aload_n C dL_law_2075 rfl ?_
            refine rb_iload C dL_law_2076 rfl ?_
            refine rb_iload C dL_law_2078 rfl ?_
            refine rb_iload C dL_law_2080 rfl ?_
            refine rb_callSW C M_L_184 (fun l X => c_callX l X G W M hL hl (i := i) (sc := sc) hi9) dL_law_2082 rfl rfl rfl (Nat.le_of_ble_eq_true rfl) ⟨(Nat.le_of_ble_eq_true rfl), (Nat.le_of_ble_eq_true rfl)⟩ (by omega) (by omega) (fun v G' hp => ?_)
            obtain ⟨rfl, G5, W5, e9, hL5, hw5⟩ := hp
            rw [e9]
            clear e9 G'
            have hl5 := lx_lw hl hw5
            have hm := hL5.1
            refine rb_sipush C dL_law_2085 (v := (-7200)) (by decide) ?_
            refine rb_icmp_ne C 2095 dL_law_2088 (by decide) (fun h9 => absurd (by decide) h9) (fun _ => ?_)
            refine rb_iconst C dL_law_2091 (v := 1) (by decide) ?_
            refine rb_goto C 2096 dL_law_2092 (by decide) ?_
            refine rb_istore C dL_law_2096 (Nat.le_of_ble_eq_true rfl) rfl (Lv' := [_, _, _, _, _, _, _, _, _, _, _, _, _, _, _, _, _, _, _, _, _, _, _, _, _, _, _, _, _, _, _, _, _, _, _, _, _, _, _, _, _, _, _, _, _, _, _, _, _, _, _, _, _, _]) rfl ?_
            refine rb_goto C 3288 dL_law_2098 (by decide) ?_
            refine rb_W.unset 15 ?_
            refine rb_W.unset 16 ?_
            refine rb_W.unset 17 ?_
            refine rb_W.unset 36 ?_
            refine rb_W.unset 37 ?_
            exact rb_W.room (kk G5 W5 (up2 M (16, 0, 0) 0 2) ⟨hL5, _, _, _, _, _, _, (lx_thr hl5 2)⟩) (by omega) (by omega)
        refine rb_if_ne C 2064 dL_law_2057 (by decide) (fun h2057 => ?_) (fun h2057 => ?_)
        · replace h2057 := mt (nI_eq (a := sc % 60) (b := 0) (by omega) (by omega)).mpr h2057
          refine rb_iconst C dL_law_2064 (v := 1) (by decide) ?_
          exact mg2057 1 (by omega)
        · replace h2057 := (nI_eq (a := sc % 60) (b := 0) (by omega) (by omega)).mp h2057
          refine rb_iconst C dL_law_2060 (v := 0) (by decide) ?_
          refine rb_goto C 2065 dL_law_2061 (by decide) ?_
          exact mg2057 0 (by omega)
      refine rb_if_ne C 2038 dL_law_2029 (by decide) (fun h2029 => ?_) (fun h2029 => ?_)
      · refine rb_sipush C dL_law_2038 (v := 9000) (by decide) ?_
        exact mg2029 9000 (by omega)
      · refine rb_sipush C dL_law_2032 (v := 600) (by decide) ?_
        refine rb_goto C 2041 dL_law_2035 (by decide) ?_
        exact mg2029 600 (by omega)
    · replace h2015 := mt (nI_leI (a := P) (b := 56) (by omega) (by omega)).mpr h2015
      refine rb_goto C 3288 dL_law_2018 (by decide) ?_
      refine rb_W.unset 15 ?_
      refine rb_W.unset 16 ?_
      refine rb_W.unset 17 ?_
      exact rb_W.room (kk G W M ⟨hL, _, _, _, _, _, _, hl⟩) (by omega) (by omega)

