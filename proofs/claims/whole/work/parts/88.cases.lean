set_option maxRecDepth 100000 in
set_option maxHeartbeats 4000000 in
theorem law_reach {Φ : rb_F} {cells slots : Nat} (C : rb_C Φ RL cL_law 7 15 568 601024 7293034) {b L : Nat} {xs : Nat → Int32} (hs : rb_Scr Φ b L xs) {i : Nat} (hi : i + 8 ≤ L) (hL : L ≤ 4096) (hc : cells + 12 ≤ 601024) (hsl : slots + 2200 ≤ 7293034) {G : rb_G} {W : rb_I} {cn : Nat → Nat} {ag : Nat → Nat → Int32} (h : lI G W cn ag) (kk : ∀ G' W' cn' ag', lI G' W' cn' ag' → rb_W Φ (cells + 12) (slots + 2200) 1926 (LV i) [] (wI G' W')) : rb_W Φ cells slots 156 (LV i) [] (wI G W) := by
  obtain ⟨hG, hm, hJ, t, R, hx⟩ := h
  have hI : xCI W cn := hx.1.1
  show rb_W Φ cells slots 156 [some (rbR (18, 0, 0)), some (rbR (0, 0, 0)), some (rbR (16, 0, 0)), some (rbR (17, 0, 0)), some (rbI (nI i)), none, none] [] (wI G W)
  refine rb_aload_n C dL_law_156 rfl ?_
  refine rb_aload_n C dL_law_157 rfl ?_
  refine rb_iload C dL_law_158 rfl ?_
  refine rb_iconst C dL_law_160 (v := 1) (by decide) ?_
  refine rb_iadd C dL_law_161 ?_
  refine rb_sldk C hs (k := 1) rfl (by decide) hi hL dL_law_162 ?_
  refine rb_aload_n C dL_law_163 rfl ?_
  refine rb_iload C dL_law_164 rfl ?_
  refine rb_iconst C dL_law_166 (v := 2) (by decide) ?_
  refine rb_iadd C dL_law_167 ?_
  refine rb_sldk C hs (k := 2) rfl (by decide) hi hL dL_law_168 ?_
  refine rb_aload_n C dL_law_169 rfl ?_
  refine rb_callSW C M_L_102 (fun l X => k_L_reach l X G W cn ag hG (xs (i + 1)) (xs (i + 2)) hI hJ) dL_law_170 rfl rfl rfl (Nat.le_of_ble_eq_true rfl) ⟨(Nat.le_of_ble_eq_true rfl), (Nat.le_of_ble_eq_true rfl)⟩ (by omega) (by omega) (fun v G' hp => ?_)
  have F1 := cd_reach W cn (xs (i + 1)) (xs (i + 2))
  have F2 := xf_reach W cn (xs (i + 1)) (xs (i + 2))
  obtain ⟨rfl, J, e9, hJv⟩ := hp
  rw [e9]
  clear e9 G'
  have hx1 := sx_w hx F2
  have K0 := s_reach hx1 (xs (i + 1)) (xs (i + 2))
  have mff := mf_reach (x7_reach W cn (xs (i + 1)) (xs (i + 2))).2.2 (xs (i + 1)) (xs (i + 2))
  obtain ⟨o1, o2, t1, R1, hx9⟩ := K0
  have hM : MI (x7_reach W cn (xs (i + 1)) (xs (i + 2))).2.2 := hx1.1.2.1
  generalize hF : (x7_reach W cn (xs (i + 1)) (xs (i + 2))) = F at *
  refine rb_istore C dL_law_173 (Nat.le_of_ble_eq_true rfl) rfl (Lv' := [_, _, _, _, _, _, _]) rfl ?_
  refine rb_aload_n C dL_law_175 rfl ?_
  refine rb_aload_n C dL_law_176 rfl ?_
  refine rb_iload C dL_law_177 rfl ?_
  refine rb_iconst C dL_law_179 (v := 1) (by decide) ?_
  refine rb_iadd C dL_law_180 ?_
  refine rb_sldk C hs (k := 1) rfl (by decide) hi hL dL_law_181 ?_
  refine rb_aload_n C dL_law_182 rfl ?_
  refine rb_iload C dL_law_183 rfl ?_
  refine rb_iconst C dL_law_185 (v := 2) (by decide) ?_
  refine rb_iadd C dL_law_186 ?_
  refine rb_sldk C hs (k := 2) rfl (by decide) hi hL dL_law_187 ?_
  refine rb_callV C M_L_107 (fun l X => (k_X8_reach l X (wJ G J) F.2.2 (xs (i + 1)) (xs (i + 2)) hm hM).m) rfl (Nat.le_of_ble_eq_true rfl) rfl dL_law_188 rfl rfl rfl (Nat.le_of_ble_eq_true rfl) ⟨(Nat.le_of_ble_eq_true rfl), (Nat.le_of_ble_eq_true rfl)⟩ (by omega) (by omega) (fun v G' hp => ?_) (fun _ _ hp => hp.elim)
  obtain ⟨rfl, e9⟩ := hp
  rw [e9]
  clear e9 G'
  generalize (m_reach F.2.2 (xs (i + 1)) (xs (i + 2))) = b9 at *
  refine rb_istore C dL_law_191 (Nat.le_of_ble_eq_true rfl) rfl (Lv' := [_, _, _, _, _, _, _]) rfl ?_
  refine rb_aload_n C dL_law_193 rfl ?_
  refine rb_callV C M_L_108 (fun l X => (k_X8_thrown l X (wJ G J) b9.2).m) rfl (Nat.le_of_ble_eq_true rfl) rfl dL_law_194 rfl rfl rfl (Nat.le_of_ble_eq_true rfl) ⟨(Nat.le_of_ble_eq_true rfl), (Nat.le_of_ble_eq_true rfl)⟩ (by omega) (by omega) (fun v G' hp => ?_) (fun _ _ hp => hp.elim)
  obtain ⟨rfl, e9⟩ := hp
  rw [e9]
  clear e9 G'
  refine rb_iload C dL_law_197 rfl ?_
  refine rb_icmp_eq C 204 dL_law_199 (by decide) (fun _ => ?_) (fun h9 => absurd o1 h9)
  have fin : rb_W Φ (cells + 12) (slots + 72) 221 [some (rbR (18, 0, 0)), some (rbR (0, 0, 0)), some (rbR (16, 0, 0)), some (rbR (17, 0, 0)), some (rbI (nI i)), some (rbI (sq_3 F.1)), some (rbI b9.1)] [] (wI (wJ G J) b9.2) := by
    refine rb_goto C 1926 dL_law_221 (by decide) ?_
    refine rb_W.unset 5 ?_
    refine rb_W.unset 6 ?_
    exact rb_W.room (kk (wJ G J) b9.2 cn ag ⟨hG, hm, hJ, t1, R1, sx_both (xq_rf _) mff hx9⟩) (by omega) (by omega)
  refine rb_iload C dL_law_204 rfl ?_
  refine rb_if_ne C 221 dL_law_206 (by decide) (fun hk9 => fin) (fun hk9 => ?_)
  have f0 : F.1 = 0 := sq_3z (by omega) hk9
  refine rb_aload_n C dL_law_209 rfl ?_
  refine rb_iconst C dL_law_210 (v := 0) (by decide) ?_
  refine rb_lald C dL_law_211 rfl (vp_01 (hJ)) ?_
  refine rb_iload C dL_law_212 rfl ?_
  refine rb_i2l C dL_law_214 ?_
  refine rb_lcmp C dL_law_215 ?_
  have e : lg_cmp (J (17, 0, 0) 0) (Int32.toInt64 b9.1) = 0 := (lg_cmp_eq _ _).mpr ((hJv f0).trans (by rw [o2 f0]))
  exact rb_if_eq C 221 dL_law_216 (by decide) (fun _ => fin) (fun h9 => absurd e h9)
set_option maxRecDepth 100000 in
set_option maxHeartbeats 4000000 in
theorem law_dead {Φ : rb_F} {cells slots : Nat} (C : rb_C Φ RL cL_law 7 15 568 601024 7293034) {b L : Nat} {xs : Nat → Int32} (hs : rb_Scr Φ b L xs) {i : Nat} (hi : i + 8 ≤ L) (hL : L ≤ 4096) (hc : cells + 12 ≤ 601024) (hsl : slots + 2200 ≤ 7293034) {G : rb_G} {W : rb_I} {cn : Nat → Nat} {ag : Nat → Nat → Int32} (h : lI G W cn ag) (kk : ∀ G' W' cn' ag', lI G' W' cn' ag' → rb_W Φ (cells + 12) (slots + 2200) 1926 (LV i) [] (wI G' W')) : rb_W Φ cells slots 224 (LV i) [] (wI G W) := by
  obtain ⟨hG, hm, hJ, t, R, hx⟩ := h
  have hI : xCI W cn := hx.1.1
  show rb_W Φ cells slots 224 [some (rbR (18, 0, 0)), some (rbR (0, 0, 0)), some (rbR (16, 0, 0)), some (rbR (17, 0, 0)), some (rbI (nI i)), none, none] [] (wI G W)
  refine rb_aload_n C dL_law_224 rfl ?_
  refine rb_aload_n C dL_law_225 rfl ?_
  refine rb_iload C dL_law_226 rfl ?_
  refine rb_iconst C dL_law_228 (v := 1) (by decide) ?_
  refine rb_iadd C dL_law_229 ?_
  refine rb_sldk C hs (k := 1) rfl (by decide) hi hL dL_law_230 ?_
  refine rb_aload_n C dL_law_231 rfl ?_
  refine rb_iload C dL_law_232 rfl ?_
  refine rb_iconst C dL_law_234 (v := 2) (by decide) ?_
  refine rb_iadd C dL_law_235 ?_
  refine rb_sldk C hs (k := 2) rfl (by decide) hi hL dL_law_236 ?_
  have jn : rb_W Φ cells slots 245 [some (rbR (18, 0, 0)), some (rbR (0, 0, 0)), some (rbR (16, 0, 0)), some (rbR (17, 0, 0)), some (rbI (nI i)), none, none] [rbI (zb (xs (i + 2))), rbI (xs (i + 1)), rbR (0, 0, 0)] (wI G W) := by
    refine rb_aload_n C dL_law_245 rfl ?_
    refine rb_callSW C M_L_112 (fun l X => k_L_dead l X G W cn ag hG (xs (i + 1)) (zb (xs (i + 2))) hI (zb_01 _) hJ) dL_law_246 rfl rfl rfl (Nat.le_of_ble_eq_true rfl) ⟨(Nat.le_of_ble_eq_true rfl), (Nat.le_of_ble_eq_true rfl)⟩ (by omega) (by omega) (fun v G' hp => ?_)
    have F1 := cd_dead W cn (xs (i + 1)) (zb (xs (i + 2)))
    have F2 := xf_dead W cn (xs (i + 1)) (zb (xs (i + 2)))
    obtain ⟨rfl, J, e9, hJv⟩ := hp
    rw [e9]
    clear e9 G'
    have hx1 := sx_w hx F2
    have K0 := s_dead hx1 (xs (i + 1)) (zb (xs (i + 2))) (zb_01 _)
    have mff := mf_dead (x7_dead W cn (xs (i + 1)) (zb (xs (i + 2)))).2.2 (xs (i + 1)) (zb (xs (i + 2)))
    obtain ⟨o1, o2, t1, R1, hx9⟩ := K0
    have hM : MI (x7_dead W cn (xs (i + 1)) (zb (xs (i + 2)))).2.2 := hx1.1.2.1
    generalize hF : (x7_dead W cn (xs (i + 1)) (zb (xs (i + 2)))) = F at *
    refine rb_istore C dL_law_249 (Nat.le_of_ble_eq_true rfl) rfl (Lv' := [_, _, _, _, _, _, _]) rfl ?_
    refine rb_aload_n C dL_law_251 rfl ?_
    refine rb_aload_n C dL_law_252 rfl ?_
    refine rb_iload C dL_law_253 rfl ?_
    refine rb_iconst C dL_law_255 (v := 1) (by decide) ?_
    refine rb_iadd C dL_law_256 ?_
    refine rb_sldk C hs (k := 1) rfl (by decide) hi hL dL_law_257 ?_
    refine rb_aload_n C dL_law_258 rfl ?_
    refine rb_iload C dL_law_259 rfl ?_
    refine rb_iconst C dL_law_261 (v := 2) (by decide) ?_
    refine rb_iadd C dL_law_262 ?_
    refine rb_sldk C hs (k := 2) rfl (by decide) hi hL dL_law_263 ?_
    have jn : rb_W Φ (cells + 12) (slots + 72) 272 [some (rbR (18, 0, 0)), some (rbR (0, 0, 0)), some (rbR (16, 0, 0)), some (rbR (17, 0, 0)), some (rbI (nI i)), some (rbI (sq_3 F.1)), none] [rbI (zb (xs (i + 2))), rbI (xs (i + 1)), rbR (16, 0, 0)] (wI (wJ G J) F.2.2) := by
      refine rb_callV C M_L_115 (fun l X => (k_X8_dead l X (wJ G J) F.2.2 (xs (i + 1)) (zb (xs (i + 2))) hm hM (zb_01 _)).m) rfl (Nat.le_of_ble_eq_true rfl) rfl dL_law_272 rfl rfl rfl (Nat.le_of_ble_eq_true rfl) ⟨(Nat.le_of_ble_eq_true rfl), (Nat.le_of_ble_eq_true rfl)⟩ (by omega) (by omega) (fun v G' hp => ?_) (fun _ _ hp => hp.elim)
      obtain ⟨rfl, e9⟩ := hp
      rw [e9]
      clear e9 G'
      generalize (m_dead F.2.2 (xs (i + 1)) (zb (xs (i + 2)))) = b9 at *
      refine rb_istore C dL_law_275 (Nat.le_of_ble_eq_true rfl) rfl (Lv' := [_, _, _, _, _, _, _]) rfl ?_
      refine rb_aload_n C dL_law_277 rfl ?_
      refine rb_callV C M_L_108 (fun l X => (k_X8_thrown l X (wJ G J) b9.2).m) rfl (Nat.le_of_ble_eq_true rfl) rfl dL_law_278 rfl rfl rfl (Nat.le_of_ble_eq_true rfl) ⟨(Nat.le_of_ble_eq_true rfl), (Nat.le_of_ble_eq_true rfl)⟩ (by omega) (by omega) (fun v G' hp => ?_) (fun _ _ hp => hp.elim)
      obtain ⟨rfl, e9⟩ := hp
      rw [e9]
      clear e9 G'
      refine rb_iload C dL_law_281 rfl ?_
      refine rb_icmp_eq C 288 dL_law_283 (by decide) (fun _ => ?_) (fun h9 => absurd o1 h9)
      have fin : rb_W Φ (cells + 12) (slots + 72) 312 [some (rbR (18, 0, 0)), some (rbR (0, 0, 0)), some (rbR (16, 0, 0)), some (rbR (17, 0, 0)), some (rbI (nI i)), some (rbI (sq_3 F.1)), some (rbI b9.1)] [] (wI (wJ G J) b9.2) := by
        refine rb_goto C 1926 dL_law_312 (by decide) ?_
        refine rb_W.unset 5 ?_
        refine rb_W.unset 6 ?_
        exact rb_W.room (kk (wJ G J) b9.2 cn ag ⟨hG, hm, hJ, t1, R1, sx_both (xq_rf _) mff hx9⟩) (by omega) (by omega)
      refine rb_iload C dL_law_288 rfl ?_
      refine rb_if_ne C 312 dL_law_290 (by decide) (fun hk9 => fin) (fun hk9 => ?_)
      have f0 : F.1 = 0 := sq_3z (by omega) hk9
      refine rb_aload_n C dL_law_293 rfl ?_
      refine rb_iconst C dL_law_294 (v := 0) (by decide) ?_
      refine rb_lald C dL_law_295 rfl (vp_01 (hJ)) ?_
      refine rb_iload C dL_law_296 rfl ?_
      have ej := hJv f0
      rw [o2 f0] at ej
      refine rb_if_eq C 305 dL_law_298 (by decide) (fun hz => ?_) (fun hz => ?_)
      · rw [if_pos hz] at ej
        refine rb_lconst C dL_law_305 (v := 0) (by decide) ?_
        refine rb_lcmp C dL_law_306 ?_
        have e : lg_cmp (J (17, 0, 0) 0) 0 = 0 := (lg_cmp_eq _ _).mpr ej
        exact rb_if_eq C 312 dL_law_307 (by decide) (fun _ => fin) (fun h9 => absurd e h9)
      · rw [if_neg hz] at ej
        refine rb_lconst C dL_law_301 (v := 1) (by decide) ?_
        refine rb_goto C 306 dL_law_302 (by decide) ?_
        refine rb_lcmp C dL_law_306 ?_
        have e : lg_cmp (J (17, 0, 0) 0) 1 = 0 := (lg_cmp_eq _ _).mpr ej
        exact rb_if_eq C 312 dL_law_307 (by decide) (fun _ => fin) (fun h9 => absurd e h9)
    refine rb_if_eq C 271 dL_law_264 (by decide) (fun hz => ?_) (fun hz => ?_)
    · refine rb_iconst C dL_law_271 (v := 0) (by decide) ?_
      rw [show zb (xs (i + 2)) = 0 from if_pos hz] at jn
      exact jn
    · refine rb_iconst C dL_law_267 (v := 1) (by decide) ?_
      refine rb_goto C 272 dL_law_268 (by decide) ?_
      rw [show zb (xs (i + 2)) = 1 from if_neg hz] at jn
      exact jn
  refine rb_if_eq C 244 dL_law_237 (by decide) (fun hz => ?_) (fun hz => ?_)
  · refine rb_iconst C dL_law_244 (v := 0) (by decide) ?_
    rw [show zb (xs (i + 2)) = 0 from if_pos hz] at jn
    exact jn
  · refine rb_iconst C dL_law_240 (v := 1) (by decide) ?_
    refine rb_goto C 245 dL_law_241 (by decide) ?_
    rw [show zb (xs (i + 2)) = 1 from if_neg hz] at jn
    exact jn
set_option maxRecDepth 100000 in
set_option maxHeartbeats 4000000 in
theorem law_agree {Φ : rb_F} {cells slots : Nat} (C : rb_C Φ RL cL_law 7 15 568 601024 7293034) {b L : Nat} {xs : Nat → Int32} (hs : rb_Scr Φ b L xs) {i : Nat} (hi : i + 8 ≤ L) (hL : L ≤ 4096) (hc : cells + 12 ≤ 601024) (hsl : slots + 2200 ≤ 7293034) {G : rb_G} {W : rb_I} {cn : Nat → Nat} {ag : Nat → Nat → Int32} (h : lI G W cn ag) (kk : ∀ G' W' cn' ag', lI G' W' cn' ag' → rb_W Φ (cells + 12) (slots + 2200) 1926 (LV i) [] (wI G' W')) : rb_W Φ cells slots 315 (LV i) [] (wI G W) := by
  obtain ⟨hG, hm, hJ, t, R, hx⟩ := h
  have hI : xCI W cn := hx.1.1
  show rb_W Φ cells slots 315 [some (rbR (18, 0, 0)), some (rbR (0, 0, 0)), some (rbR (16, 0, 0)), some (rbR (17, 0, 0)), some (rbI (nI i)), none, none] [] (wI G W)
  refine rb_aload_n C dL_law_315 rfl ?_
  refine rb_aload_n C dL_law_316 rfl ?_
  refine rb_iload C dL_law_317 rfl ?_
  refine rb_iconst C dL_law_319 (v := 1) (by decide) ?_
  refine rb_iadd C dL_law_320 ?_
  refine rb_sldk C hs (k := 1) rfl (by decide) hi hL dL_law_321 ?_
  refine rb_aload_n C dL_law_322 rfl ?_
  refine rb_iload C dL_law_323 rfl ?_
  refine rb_iconst C dL_law_325 (v := 2) (by decide) ?_
  refine rb_iadd C dL_law_326 ?_
  refine rb_sldk C hs (k := 2) rfl (by decide) hi hL dL_law_327 ?_
  refine rb_aload_n C dL_law_328 rfl ?_
  refine rb_iload C dL_law_329 rfl ?_
  refine rb_iconst C dL_law_331 (v := 3) (by decide) ?_
  refine rb_iadd C dL_law_332 ?_
  refine rb_sldk C hs (k := 3) rfl (by decide) hi hL dL_law_333 ?_
  refine rb_aload_n C dL_law_334 rfl ?_
  refine rb_iload C dL_law_335 rfl ?_
  refine rb_iconst C dL_law_337 (v := 4) (by decide) ?_
  refine rb_iadd C dL_law_338 ?_
  refine rb_sldk C hs (k := 4) rfl (by decide) hi hL dL_law_339 ?_
  refine rb_aload_n C dL_law_340 rfl ?_
  refine rb_iload C dL_law_341 rfl ?_
  refine rb_iconst C dL_law_343 (v := 5) (by decide) ?_
  refine rb_iadd C dL_law_344 ?_
  refine rb_sldk C hs (k := 5) rfl (by decide) hi hL dL_law_345 ?_
  refine rb_aload_n C dL_law_346 rfl ?_
  refine rb_iload C dL_law_347 rfl ?_
  refine rb_bipush C dL_law_349 (v := 6) (by decide) ?_
  refine rb_iadd C dL_law_351 ?_
  refine rb_sldk C hs (k := 6) rfl (by decide) hi hL dL_law_352 ?_
  refine rb_aload_n C dL_law_353 rfl ?_
  refine rb_iload C dL_law_354 rfl ?_
  refine rb_bipush C dL_law_356 (v := 7) (by decide) ?_
  refine rb_iadd C dL_law_358 ?_
  refine rb_sldk C hs (k := 7) rfl (by decide) hi hL dL_law_359 ?_
  refine rb_aload_n C dL_law_360 rfl ?_
  refine rb_callSW C M_L_116 (fun l X => k_L_agree l X G W cn ag hG (xs (i + 1)) (xs (i + 2)) (xs (i + 3)) (xs (i + 4)) (xs (i + 5)) (xs (i + 6)) (xs (i + 7)) hI hm hJ) dL_law_361 rfl rfl rfl (Nat.le_of_ble_eq_true rfl) ⟨(Nat.le_of_ble_eq_true rfl), (Nat.le_of_ble_eq_true rfl)⟩ (by omega) (by omega) (fun v G' hp => ?_)
  have F1 := cd_agree W cn (xs (i + 1)) (xs (i + 2)) (xs (i + 3)) (xs (i + 4)) (xs (i + 5)) (xs (i + 6)) (xs (i + 7))
  have F2 := xf_agree W cn (xs (i + 1)) (xs (i + 2)) (xs (i + 3)) (xs (i + 4)) (xs (i + 5)) (xs (i + 6)) (xs (i + 7))
  obtain ⟨rfl, hp⟩ := hp
  rcases hp with ⟨f1, e9⟩ | ⟨f1, G1, W1, J, e9, q1, hK, hC1, hJv⟩
  · rw [e9]
    clear e9 G'
    have hx1 := sx_w hx F2
    have K0 := s_agree hx1 (xs (i + 1)) (xs (i + 2)) (xs (i + 3)) (xs (i + 4)) (xs (i + 5)) (xs (i + 6)) (xs (i + 7))
    have mff := mf_agree (x7_agree W cn (xs (i + 1)) (xs (i + 2)) (xs (i + 3)) (xs (i + 4)) (xs (i + 5)) (xs (i + 6)) (xs (i + 7))).2.2 (xs (i + 1)) (xs (i + 2)) (xs (i + 3)) (xs (i + 4)) (xs (i + 5)) (xs (i + 6)) (xs (i + 7))
    obtain ⟨o1, o2, t1, R1, hx9⟩ := K0
    rw [if_neg f1] at hx9
    have hM : MI (x7_agree W cn (xs (i + 1)) (xs (i + 2)) (xs (i + 3)) (xs (i + 4)) (xs (i + 5)) (xs (i + 6)) (xs (i + 7))).2.2 := hx1.1.2.1
    generalize hF : (x7_agree W cn (xs (i + 1)) (xs (i + 2)) (xs (i + 3)) (xs (i + 4)) (xs (i + 5)) (xs (i + 6)) (xs (i + 7))) = F at *
    refine rb_istore C dL_law_364 (Nat.le_of_ble_eq_true rfl) rfl (Lv' := [_, _, _, _, _, _, _]) rfl ?_
    refine rb_aload_n C dL_law_366 rfl ?_
    refine rb_aload_n C dL_law_367 rfl ?_
    refine rb_iload C dL_law_368 rfl ?_
    refine rb_iconst C dL_law_370 (v := 1) (by decide) ?_
    refine rb_iadd C dL_law_371 ?_
    refine rb_sldk C hs (k := 1) rfl (by decide) hi hL dL_law_372 ?_
    refine rb_aload_n C dL_law_373 rfl ?_
    refine rb_iload C dL_law_374 rfl ?_
    refine rb_iconst C dL_law_376 (v := 2) (by decide) ?_
    refine rb_iadd C dL_law_377 ?_
    refine rb_sldk C hs (k := 2) rfl (by decide) hi hL dL_law_378 ?_
    refine rb_aload_n C dL_law_379 rfl ?_
    refine rb_iload C dL_law_380 rfl ?_
    refine rb_iconst C dL_law_382 (v := 3) (by decide) ?_
    refine rb_iadd C dL_law_383 ?_
    refine rb_sldk C hs (k := 3) rfl (by decide) hi hL dL_law_384 ?_
    refine rb_aload_n C dL_law_385 rfl ?_
    refine rb_iload C dL_law_386 rfl ?_
    refine rb_iconst C dL_law_388 (v := 4) (by decide) ?_
    refine rb_iadd C dL_law_389 ?_
    refine rb_sldk C hs (k := 4) rfl (by decide) hi hL dL_law_390 ?_
    refine rb_aload_n C dL_law_391 rfl ?_
    refine rb_iload C dL_law_392 rfl ?_
    refine rb_iconst C dL_law_394 (v := 5) (by decide) ?_
    refine rb_iadd C dL_law_395 ?_
    refine rb_sldk C hs (k := 5) rfl (by decide) hi hL dL_law_396 ?_
    refine rb_aload_n C dL_law_397 rfl ?_
    refine rb_iload C dL_law_398 rfl ?_
    refine rb_bipush C dL_law_400 (v := 6) (by decide) ?_
    refine rb_iadd C dL_law_402 ?_
    refine rb_sldk C hs (k := 6) rfl (by decide) hi hL dL_law_403 ?_
    refine rb_aload_n C dL_law_404 rfl ?_
    refine rb_iload C dL_law_405 rfl ?_
    refine rb_bipush C dL_law_407 (v := 7) (by decide) ?_
    refine rb_iadd C dL_law_409 ?_
    refine rb_sldk C hs (k := 7) rfl (by decide) hi hL dL_law_410 ?_
    refine rb_callV C M_L_119 (fun l X => (k_X8_agree l X G F.2.2 (xs (i + 1)) (xs (i + 2)) (xs (i + 3)) (xs (i + 4)) (xs (i + 5)) (xs (i + 6)) (xs (i + 7)) hm hM).m) rfl (Nat.le_of_ble_eq_true rfl) rfl dL_law_411 rfl rfl rfl (Nat.le_of_ble_eq_true rfl) ⟨(Nat.le_of_ble_eq_true rfl), (Nat.le_of_ble_eq_true rfl)⟩ (by omega) (by omega) (fun v G' hp => ?_) (fun _ _ hp => hp.elim)
    obtain ⟨rfl, e9⟩ := hp
    rw [e9]
    clear e9 G'
    generalize (m_agree F.2.2 (xs (i + 1)) (xs (i + 2)) (xs (i + 3)) (xs (i + 4)) (xs (i + 5)) (xs (i + 6)) (xs (i + 7))) = b9 at *
    refine rb_istore C dL_law_414 (Nat.le_of_ble_eq_true rfl) rfl (Lv' := [_, _, _, _, _, _, _]) rfl ?_
    refine rb_aload_n C dL_law_416 rfl ?_
    refine rb_callV C M_L_108 (fun l X => (k_X8_thrown l X G b9.2).m) rfl (Nat.le_of_ble_eq_true rfl) rfl dL_law_417 rfl rfl rfl (Nat.le_of_ble_eq_true rfl) ⟨(Nat.le_of_ble_eq_true rfl), (Nat.le_of_ble_eq_true rfl)⟩ (by omega) (by omega) (fun v G' hp => ?_) (fun _ _ hp => hp.elim)
    obtain ⟨rfl, e9⟩ := hp
    rw [e9]
    clear e9 G'
    refine rb_iload C dL_law_420 rfl ?_
    refine rb_icmp_eq C 427 dL_law_422 (by decide) (fun _ => ?_) (fun h9 => absurd o1 h9)
    have fin : rb_W Φ (cells + 12) (slots + 800) 444 [some (rbR (18, 0, 0)), some (rbR (0, 0, 0)), some (rbR (16, 0, 0)), some (rbR (17, 0, 0)), some (rbI (nI i)), some (rbI (sq_3 F.1)), some (rbI b9.1)] [] (wI G b9.2) := by
      refine rb_goto C 1926 dL_law_444 (by decide) ?_
      refine rb_W.unset 5 ?_
      refine rb_W.unset 6 ?_
      exact rb_W.room (kk G b9.2 cn ag ⟨hG, hm, hJ, t1, R1, sx_both (xq_rf _) mff hx9⟩) (by omega) (by omega)
    refine rb_iload C dL_law_427 rfl ?_
    refine rb_if_ne C 444 dL_law_429 (by decide) (fun hk9 => fin) (fun hk9 => ?_)
    have f0 : F.1 = 0 := sq_3z (by omega) hk9
    exact absurd f0 f1
  · rw [e9]
    clear e9 G'
    have hx1 := sx_w hx (xf_tr F2 (xf_xq q1))
    have K0 := s_agree hx1 (xs (i + 1)) (xs (i + 2)) (xs (i + 3)) (xs (i + 4)) (xs (i + 5)) (xs (i + 6)) (xs (i + 7))
    have mff := mf_agree W1 (xs (i + 1)) (xs (i + 2)) (xs (i + 3)) (xs (i + 4)) (xs (i + 5)) (xs (i + 6)) (xs (i + 7))
    obtain ⟨o1, o2, t1, R1, hx9⟩ := K0
    rw [if_pos f1] at hx9
    have hM : MI W1 := hx1.1.2.1
    generalize hF : (x7_agree W cn (xs (i + 1)) (xs (i + 2)) (xs (i + 3)) (xs (i + 4)) (xs (i + 5)) (xs (i + 6)) (xs (i + 7))) = F at *
    refine rb_istore C dL_law_364 (Nat.le_of_ble_eq_true rfl) rfl (Lv' := [_, _, _, _, _, _, _]) rfl ?_
    refine rb_aload_n C dL_law_366 rfl ?_
    refine rb_aload_n C dL_law_367 rfl ?_
    refine rb_iload C dL_law_368 rfl ?_
    refine rb_iconst C dL_law_370 (v := 1) (by decide) ?_
    refine rb_iadd C dL_law_371 ?_
    refine rb_sldk C hs (k := 1) rfl (by decide) hi hL dL_law_372 ?_
    refine rb_aload_n C dL_law_373 rfl ?_
    refine rb_iload C dL_law_374 rfl ?_
    refine rb_iconst C dL_law_376 (v := 2) (by decide) ?_
    refine rb_iadd C dL_law_377 ?_
    refine rb_sldk C hs (k := 2) rfl (by decide) hi hL dL_law_378 ?_
    refine rb_aload_n C dL_law_379 rfl ?_
    refine rb_iload C dL_law_380 rfl ?_
    refine rb_iconst C dL_law_382 (v := 3) (by decide) ?_
    refine rb_iadd C dL_law_383 ?_
    refine rb_sldk C hs (k := 3) rfl (by decide) hi hL dL_law_384 ?_
    refine rb_aload_n C dL_law_385 rfl ?_
    refine rb_iload C dL_law_386 rfl ?_
    refine rb_iconst C dL_law_388 (v := 4) (by decide) ?_
    refine rb_iadd C dL_law_389 ?_
    refine rb_sldk C hs (k := 4) rfl (by decide) hi hL dL_law_390 ?_
    refine rb_aload_n C dL_law_391 rfl ?_
    refine rb_iload C dL_law_392 rfl ?_
    refine rb_iconst C dL_law_394 (v := 5) (by decide) ?_
    refine rb_iadd C dL_law_395 ?_
    refine rb_sldk C hs (k := 5) rfl (by decide) hi hL dL_law_396 ?_
    refine rb_aload_n C dL_law_397 rfl ?_
    refine rb_iload C dL_law_398 rfl ?_
    refine rb_bipush C dL_law_400 (v := 6) (by decide) ?_
    refine rb_iadd C dL_law_402 ?_
    refine rb_sldk C hs (k := 6) rfl (by decide) hi hL dL_law_403 ?_
    refine rb_aload_n C dL_law_404 rfl ?_
    refine rb_iload C dL_law_405 rfl ?_
    refine rb_bipush C dL_law_407 (v := 7) (by decide) ?_
    refine rb_iadd C dL_law_409 ?_
    refine rb_sldk C hs (k := 7) rfl (by decide) hi hL dL_law_410 ?_
    refine rb_callV C M_L_119 (fun l X => (k_X8_agree l X (wJ G1 J) W1 (xs (i + 1)) (xs (i + 2)) (xs (i + 3)) (xs (i + 4)) (xs (i + 5)) (xs (i + 6)) (xs (i + 7)) hK.1 hM).m) rfl (Nat.le_of_ble_eq_true rfl) rfl dL_law_411 rfl rfl rfl (Nat.le_of_ble_eq_true rfl) ⟨(Nat.le_of_ble_eq_true rfl), (Nat.le_of_ble_eq_true rfl)⟩ (by omega) (by omega) (fun v G' hp => ?_) (fun _ _ hp => hp.elim)
    obtain ⟨rfl, e9⟩ := hp
    rw [e9]
    clear e9 G'
    generalize (m_agree W1 (xs (i + 1)) (xs (i + 2)) (xs (i + 3)) (xs (i + 4)) (xs (i + 5)) (xs (i + 6)) (xs (i + 7))) = b9 at *
    refine rb_istore C dL_law_414 (Nat.le_of_ble_eq_true rfl) rfl (Lv' := [_, _, _, _, _, _, _]) rfl ?_
    refine rb_aload_n C dL_law_416 rfl ?_
    refine rb_callV C M_L_108 (fun l X => (k_X8_thrown l X (wJ G1 J) b9.2).m) rfl (Nat.le_of_ble_eq_true rfl) rfl dL_law_417 rfl rfl rfl (Nat.le_of_ble_eq_true rfl) ⟨(Nat.le_of_ble_eq_true rfl), (Nat.le_of_ble_eq_true rfl)⟩ (by omega) (by omega) (fun v G' hp => ?_) (fun _ _ hp => hp.elim)
    obtain ⟨rfl, e9⟩ := hp
    rw [e9]
    clear e9 G'
    refine rb_iload C dL_law_420 rfl ?_
    refine rb_icmp_eq C 427 dL_law_422 (by decide) (fun _ => ?_) (fun h9 => absurd o1 h9)
    have fin : rb_W Φ (cells + 12) (slots + 800) 444 [some (rbR (18, 0, 0)), some (rbR (0, 0, 0)), some (rbR (16, 0, 0)), some (rbR (17, 0, 0)), some (rbI (nI i)), some (rbI (sq_3 F.1)), some (rbI b9.1)] [] (wI (wJ G1 J) b9.2) := by
      refine rb_goto C 1926 dL_law_444 (by decide) ?_
      refine rb_W.unset 5 ?_
      refine rb_W.unset 6 ?_
      exact rb_W.room (kk (wJ G1 J) b9.2 (bump cn 0) ag ⟨hC1, hK.1, hK.2.trans hJ, t1, R1, sx_both q1 mff hx9⟩) (by omega) (by omega)
    refine rb_iload C dL_law_427 rfl ?_
    refine rb_if_ne C 444 dL_law_429 (by decide) (fun hk9 => fin) (fun hk9 => ?_)
    have f0 : F.1 = 0 := sq_3z (by omega) hk9
    refine rb_aload_n C dL_law_432 rfl ?_
    refine rb_iconst C dL_law_433 (v := 0) (by decide) ?_
    refine rb_lald C dL_law_434 rfl (vp_01 (hK.2.trans hJ)) ?_
    refine rb_iload C dL_law_435 rfl ?_
    refine rb_i2l C dL_law_437 ?_
    refine rb_lcmp C dL_law_438 ?_
    have e : lg_cmp (J (17, 0, 0) 0) (Int32.toInt64 b9.1) = 0 := (lg_cmp_eq _ _).mpr ((hJv).trans (by rw [o2 f0]))
    exact rb_if_eq C 444 dL_law_439 (by decide) (fun _ => fin) (fun h9 => absurd e h9)
set_option maxRecDepth 100000 in
set_option maxHeartbeats 4000000 in
theorem law_steer {Φ : rb_F} {cells slots : Nat} (C : rb_C Φ RL cL_law 7 15 568 601024 7293034) {b L : Nat} {xs : Nat → Int32} (hs : rb_Scr Φ b L xs) {i : Nat} (hi : i + 8 ≤ L) (hL : L ≤ 4096) (hc : cells + 12 ≤ 601024) (hsl : slots + 2200 ≤ 7293034) {G : rb_G} {W : rb_I} {cn : Nat → Nat} {ag : Nat → Nat → Int32} (h : lI G W cn ag) (kk : ∀ G' W' cn' ag', lI G' W' cn' ag' → rb_W Φ (cells + 12) (slots + 2200) 1926 (LV i) [] (wI G' W')) : rb_W Φ cells slots 447 (LV i) [] (wI G W) := by
  obtain ⟨hG, hm, hJ, t, R, hx⟩ := h
  have hI : xCI W cn := hx.1.1
  show rb_W Φ cells slots 447 [some (rbR (18, 0, 0)), some (rbR (0, 0, 0)), some (rbR (16, 0, 0)), some (rbR (17, 0, 0)), some (rbI (nI i)), none, none] [] (wI G W)
  refine rb_aload_n C dL_law_447 rfl ?_
  refine rb_aload_n C dL_law_448 rfl ?_
  refine rb_iload C dL_law_449 rfl ?_
  refine rb_iconst C dL_law_451 (v := 1) (by decide) ?_
  refine rb_iadd C dL_law_452 ?_
  refine rb_sldk C hs (k := 1) rfl (by decide) hi hL dL_law_453 ?_
  refine rb_aload_n C dL_law_454 rfl ?_
  refine rb_iload C dL_law_455 rfl ?_
  refine rb_iconst C dL_law_457 (v := 2) (by decide) ?_
  refine rb_iadd C dL_law_458 ?_
  refine rb_sldk C hs (k := 2) rfl (by decide) hi hL dL_law_459 ?_
  refine rb_aload_n C dL_law_460 rfl ?_
  refine rb_callSW C M_L_120 (fun l X => k_L_steer l X G W cn ag hG (xs (i + 1)) (xs (i + 2)) hI hJ) dL_law_461 rfl rfl rfl (Nat.le_of_ble_eq_true rfl) ⟨(Nat.le_of_ble_eq_true rfl), (Nat.le_of_ble_eq_true rfl)⟩ (by omega) (by omega) (fun v G' hp => ?_)
  have F1 := cd_steer W cn (xs (i + 1)) (xs (i + 2))
  have F2 := xf_steer W cn (xs (i + 1)) (xs (i + 2))
  obtain ⟨rfl, J, e9, hJv⟩ := hp
  rw [e9]
  clear e9 G'
  have hx1 := sx_w hx F2
  have K0 := s_steer hx1 (xs (i + 1)) (xs (i + 2))
  have mff := mf_steer (x7_steer W cn (xs (i + 1)) (xs (i + 2))).2.2 (xs (i + 1)) (xs (i + 2))
  obtain ⟨o1, o2, t1, R1, hx9⟩ := K0
  have hM : MI (x7_steer W cn (xs (i + 1)) (xs (i + 2))).2.2 := hx1.1.2.1
  generalize hF : (x7_steer W cn (xs (i + 1)) (xs (i + 2))) = F at *
  refine rb_istore C dL_law_464 (Nat.le_of_ble_eq_true rfl) rfl (Lv' := [_, _, _, _, _, _, _]) rfl ?_
  refine rb_aload_n C dL_law_466 rfl ?_
  refine rb_aload_n C dL_law_467 rfl ?_
  refine rb_iload C dL_law_468 rfl ?_
  refine rb_iconst C dL_law_470 (v := 1) (by decide) ?_
  refine rb_iadd C dL_law_471 ?_
  refine rb_sldk C hs (k := 1) rfl (by decide) hi hL dL_law_472 ?_
  refine rb_aload_n C dL_law_473 rfl ?_
  refine rb_iload C dL_law_474 rfl ?_
  refine rb_iconst C dL_law_476 (v := 2) (by decide) ?_
  refine rb_iadd C dL_law_477 ?_
  refine rb_sldk C hs (k := 2) rfl (by decide) hi hL dL_law_478 ?_
  refine rb_callV C M_L_122 (fun l X => (k_X8_steer l X (wJ G J) F.2.2 (xs (i + 1)) (xs (i + 2)) hm hM).m) rfl (Nat.le_of_ble_eq_true rfl) rfl dL_law_479 rfl rfl rfl (Nat.le_of_ble_eq_true rfl) ⟨(Nat.le_of_ble_eq_true rfl), (Nat.le_of_ble_eq_true rfl)⟩ (by omega) (by omega) (fun v G' hp => ?_) (fun _ _ hp => hp.elim)
  obtain ⟨rfl, e9⟩ := hp
  rw [e9]
  clear e9 G'
  generalize (m_steer F.2.2 (xs (i + 1)) (xs (i + 2))) = b9 at *
  refine rb_istore C dL_law_482 (Nat.le_of_ble_eq_true rfl) rfl (Lv' := [_, _, _, _, _, _, _]) rfl ?_
  refine rb_aload_n C dL_law_484 rfl ?_
  refine rb_callV C M_L_108 (fun l X => (k_X8_thrown l X (wJ G J) b9.2).m) rfl (Nat.le_of_ble_eq_true rfl) rfl dL_law_485 rfl rfl rfl (Nat.le_of_ble_eq_true rfl) ⟨(Nat.le_of_ble_eq_true rfl), (Nat.le_of_ble_eq_true rfl)⟩ (by omega) (by omega) (fun v G' hp => ?_) (fun _ _ hp => hp.elim)
  obtain ⟨rfl, e9⟩ := hp
  rw [e9]
  clear e9 G'
  refine rb_iload C dL_law_488 rfl ?_
  refine rb_icmp_eq C 495 dL_law_490 (by decide) (fun _ => ?_) (fun h9 => absurd o1 h9)
  have fin : rb_W Φ (cells + 12) (slots + 72) 512 [some (rbR (18, 0, 0)), some (rbR (0, 0, 0)), some (rbR (16, 0, 0)), some (rbR (17, 0, 0)), some (rbI (nI i)), some (rbI (sq_3 F.1)), some (rbI b9.1)] [] (wI (wJ G J) b9.2) := by
    refine rb_goto C 1926 dL_law_512 (by decide) ?_
    refine rb_W.unset 5 ?_
    refine rb_W.unset 6 ?_
    exact rb_W.room (kk (wJ G J) b9.2 cn ag ⟨hG, hm, hJ, t1, R1, sx_both (xq_rf _) mff hx9⟩) (by omega) (by omega)
  refine rb_iload C dL_law_495 rfl ?_
  refine rb_if_ne C 512 dL_law_497 (by decide) (fun hk9 => fin) (fun hk9 => ?_)
  have f0 : F.1 = 0 := sq_3z (by omega) hk9
  refine rb_aload_n C dL_law_500 rfl ?_
  refine rb_iconst C dL_law_501 (v := 0) (by decide) ?_
  refine rb_lald C dL_law_502 rfl (vp_01 (hJ)) ?_
  refine rb_iload C dL_law_503 rfl ?_
  refine rb_i2l C dL_law_505 ?_
  refine rb_lcmp C dL_law_506 ?_
  have e : lg_cmp (J (17, 0, 0) 0) (Int32.toInt64 b9.1) = 0 := (lg_cmp_eq _ _).mpr ((hJv f0).trans (by rw [o2 f0]))
  exact rb_if_eq C 512 dL_law_507 (by decide) (fun _ => fin) (fun h9 => absurd e h9)
set_option maxRecDepth 100000 in
set_option maxHeartbeats 4000000 in
theorem law_prices {Φ : rb_F} {cells slots : Nat} (C : rb_C Φ RL cL_law 7 15 568 601024 7293034) {b L : Nat} {xs : Nat → Int32} (hs : rb_Scr Φ b L xs) {i : Nat} (hi : i + 8 ≤ L) (hL : L ≤ 4096) (hc : cells + 12 ≤ 601024) (hsl : slots + 2200 ≤ 7293034) {G : rb_G} {W : rb_I} {cn : Nat → Nat} {ag : Nat → Nat → Int32} (h : lI G W cn ag) (kk : ∀ G' W' cn' ag', lI G' W' cn' ag' → rb_W Φ (cells + 12) (slots + 2200) 1926 (LV i) [] (wI G' W')) : rb_W Φ cells slots 515 (LV i) [] (wI G W) := by
  obtain ⟨hG, hm, hJ, t, R, hx⟩ := h
  have hI : xCI W cn := hx.1.1
  show rb_W Φ cells slots 515 [some (rbR (18, 0, 0)), some (rbR (0, 0, 0)), some (rbR (16, 0, 0)), some (rbR (17, 0, 0)), some (rbI (nI i)), none, none] [] (wI G W)
  refine rb_aload_n C dL_law_515 rfl ?_
  refine rb_aload_n C dL_law_516 rfl ?_
  refine rb_iload C dL_law_517 rfl ?_
  refine rb_iconst C dL_law_519 (v := 1) (by decide) ?_
  refine rb_iadd C dL_law_520 ?_
  refine rb_sldk C hs (k := 1) rfl (by decide) hi hL dL_law_521 ?_
  refine rb_aload_n C dL_law_522 rfl ?_
  refine rb_iload C dL_law_523 rfl ?_
  refine rb_iconst C dL_law_525 (v := 2) (by decide) ?_
  refine rb_iadd C dL_law_526 ?_
  refine rb_sldk C hs (k := 2) rfl (by decide) hi hL dL_law_527 ?_
  refine rb_aload_n C dL_law_528 rfl ?_
  refine rb_iload C dL_law_529 rfl ?_
  refine rb_iconst C dL_law_531 (v := 3) (by decide) ?_
  refine rb_iadd C dL_law_532 ?_
  refine rb_sldk C hs (k := 3) rfl (by decide) hi hL dL_law_533 ?_
  refine rb_aload_n C dL_law_534 rfl ?_
  refine rb_iload C dL_law_535 rfl ?_
  refine rb_iconst C dL_law_537 (v := 4) (by decide) ?_
  refine rb_iadd C dL_law_538 ?_
  refine rb_sldk C hs (k := 4) rfl (by decide) hi hL dL_law_539 ?_
  refine rb_callSW C M_L_123 (fun l X => k_L_prices l X G W cn ag hG (xs (i + 1)) (xs (i + 2)) (xs (i + 3)) (xs (i + 4)) hI) dL_law_540 rfl rfl rfl (Nat.le_of_ble_eq_true rfl) ⟨(Nat.le_of_ble_eq_true rfl), (Nat.le_of_ble_eq_true rfl)⟩ (by omega) (by omega) (fun v G' hp => ?_)
  have F1 := cd_prices W cn (xs (i + 1)) (xs (i + 2)) (xs (i + 3)) (xs (i + 4))
  have F2 := xf_prices W cn (xs (i + 1)) (xs (i + 2)) (xs (i + 3)) (xs (i + 4))
  obtain ⟨rfl, e9⟩ := hp
  rw [e9]
  clear e9 G'
  have hx1 := sx_w hx F2
  have K0 := s_prices hx1 (xs (i + 1)) (xs (i + 2)) (xs (i + 3)) (xs (i + 4))
  have mff := mf_prices (x7_prices W cn (xs (i + 1)) (xs (i + 2)) (xs (i + 3)) (xs (i + 4))).2.2 (xs (i + 1)) (xs (i + 2)) (xs (i + 3)) (xs (i + 4))
  obtain ⟨o1, o2, t1, R1, hx9⟩ := K0
  have hM : MI (x7_prices W cn (xs (i + 1)) (xs (i + 2)) (xs (i + 3)) (xs (i + 4))).2.2 := hx1.1.2.1
  generalize hF : (x7_prices W cn (xs (i + 1)) (xs (i + 2)) (xs (i + 3)) (xs (i + 4))) = F at *
  refine rb_istore C dL_law_543 (Nat.le_of_ble_eq_true rfl) rfl (Lv' := [_, _, _, _, _, _, _]) rfl ?_
  refine rb_aload_n C dL_law_545 rfl ?_
  refine rb_aload_n C dL_law_546 rfl ?_
  refine rb_iload C dL_law_547 rfl ?_
  refine rb_iconst C dL_law_549 (v := 1) (by decide) ?_
  refine rb_iadd C dL_law_550 ?_
  refine rb_sldk C hs (k := 1) rfl (by decide) hi hL dL_law_551 ?_
  refine rb_aload_n C dL_law_552 rfl ?_
  refine rb_iload C dL_law_553 rfl ?_
  refine rb_iconst C dL_law_555 (v := 2) (by decide) ?_
  refine rb_iadd C dL_law_556 ?_
  refine rb_sldk C hs (k := 2) rfl (by decide) hi hL dL_law_557 ?_
  refine rb_aload_n C dL_law_558 rfl ?_
  refine rb_iload C dL_law_559 rfl ?_
  refine rb_iconst C dL_law_561 (v := 3) (by decide) ?_
  refine rb_iadd C dL_law_562 ?_
  refine rb_sldk C hs (k := 3) rfl (by decide) hi hL dL_law_563 ?_
  refine rb_aload_n C dL_law_564 rfl ?_
  refine rb_iload C dL_law_565 rfl ?_
  refine rb_iconst C dL_law_567 (v := 4) (by decide) ?_
  refine rb_iadd C dL_law_568 ?_
  refine rb_sldk C hs (k := 4) rfl (by decide) hi hL dL_law_569 ?_
  refine rb_callV C M_L_126 (fun l X => (k_X8_prices l X G F.2.2 (xs (i + 1)) (xs (i + 2)) (xs (i + 3)) (xs (i + 4)) hm hM).m) rfl (Nat.le_of_ble_eq_true rfl) rfl dL_law_570 rfl rfl rfl (Nat.le_of_ble_eq_true rfl) ⟨(Nat.le_of_ble_eq_true rfl), (Nat.le_of_ble_eq_true rfl)⟩ (by omega) (by omega) (fun v G' hp => ?_) (fun _ _ hp => hp.elim)
  obtain ⟨rfl, e9⟩ := hp
  rw [e9]
  clear e9 G'
  generalize (m_prices F.2.2 (xs (i + 1)) (xs (i + 2)) (xs (i + 3)) (xs (i + 4))) = b9 at *
  refine rb_aload_n C dL_law_573 rfl ?_
  refine rb_callV C M_L_108 (fun l X => (k_X8_thrown l X G b9).m) rfl (Nat.le_of_ble_eq_true rfl) rfl dL_law_574 rfl rfl rfl (Nat.le_of_ble_eq_true rfl) ⟨(Nat.le_of_ble_eq_true rfl), (Nat.le_of_ble_eq_true rfl)⟩ (by omega) (by omega) (fun v G' hp => ?_) (fun _ _ hp => hp.elim)
  obtain ⟨rfl, e9⟩ := hp
  rw [e9]
  clear e9 G'
  refine rb_iload C dL_law_577 rfl ?_
  refine rb_icmp_eq C 584 dL_law_579 (by decide) (fun _ => ?_) (fun h9 => absurd o1 h9)
  refine rb_goto C 1926 dL_law_584 (by decide) ?_
  refine rb_W.unset 5 ?_
  exact rb_W.room (kk G b9 cn ag ⟨hG, hm, hJ, t1, R1, sx_both (xq_rf _) mff hx9⟩) (by omega) (by omega)
set_option maxRecDepth 100000 in
set_option maxHeartbeats 4000000 in
theorem law_lose {Φ : rb_F} {cells slots : Nat} (C : rb_C Φ RL cL_law 7 15 568 601024 7293034) {b L : Nat} {xs : Nat → Int32} (hs : rb_Scr Φ b L xs) {i : Nat} (hi : i + 8 ≤ L) (hL : L ≤ 4096) (hc : cells + 12 ≤ 601024) (hsl : slots + 2200 ≤ 7293034) {G : rb_G} {W : rb_I} {cn : Nat → Nat} {ag : Nat → Nat → Int32} (h : lI G W cn ag) (kk : ∀ G' W' cn' ag', lI G' W' cn' ag' → rb_W Φ (cells + 12) (slots + 2200) 1926 (LV i) [] (wI G' W')) : rb_W Φ cells slots 587 (LV i) [] (wI G W) := by
  obtain ⟨hG, hm, hJ, t, R, hx⟩ := h
  have hI : xCI W cn := hx.1.1
  show rb_W Φ cells slots 587 [some (rbR (18, 0, 0)), some (rbR (0, 0, 0)), some (rbR (16, 0, 0)), some (rbR (17, 0, 0)), some (rbI (nI i)), none, none] [] (wI G W)
  refine rb_aload_n C dL_law_587 rfl ?_
  refine rb_aload_n C dL_law_588 rfl ?_
  refine rb_iload C dL_law_589 rfl ?_
  refine rb_iconst C dL_law_591 (v := 1) (by decide) ?_
  refine rb_iadd C dL_law_592 ?_
  refine rb_sldk C hs (k := 1) rfl (by decide) hi hL dL_law_593 ?_
  refine rb_aload_n C dL_law_594 rfl ?_
  refine rb_iload C dL_law_595 rfl ?_
  refine rb_iconst C dL_law_597 (v := 2) (by decide) ?_
  refine rb_iadd C dL_law_598 ?_
  refine rb_sldk C hs (k := 2) rfl (by decide) hi hL dL_law_599 ?_
  refine rb_aload_n C dL_law_600 rfl ?_
  refine rb_callSW C M_L_127 (fun l X => k_L_lose l X G W cn ag hG (xs (i + 1)) (xs (i + 2)) hI hJ) dL_law_601 rfl rfl rfl (Nat.le_of_ble_eq_true rfl) ⟨(Nat.le_of_ble_eq_true rfl), (Nat.le_of_ble_eq_true rfl)⟩ (by omega) (by omega) (fun v G' hp => ?_)
  have F1 := cd_lose W cn (xs (i + 1)) (xs (i + 2))
  have F2 := xf_lose W cn (xs (i + 1)) (xs (i + 2))
  obtain ⟨rfl, J, e9, hJv⟩ := hp
  rw [e9]
  clear e9 G'
  have hx1 := sx_w hx F2
  have K0 := s_lose hx1 (xs (i + 1)) (xs (i + 2))
  have mff := mf_lose (x7_lose W cn (xs (i + 1)) (xs (i + 2))).2.2 (xs (i + 1)) (xs (i + 2))
  obtain ⟨o1, o2, t1, R1, hx9⟩ := K0
  have hM : MI (x7_lose W cn (xs (i + 1)) (xs (i + 2))).2.2 := hx1.1.2.1
  generalize hF : (x7_lose W cn (xs (i + 1)) (xs (i + 2))) = F at *
  refine rb_istore C dL_law_604 (Nat.le_of_ble_eq_true rfl) rfl (Lv' := [_, _, _, _, _, _, _]) rfl ?_
  refine rb_aload_n C dL_law_606 rfl ?_
  refine rb_aload_n C dL_law_607 rfl ?_
  refine rb_iload C dL_law_608 rfl ?_
  refine rb_iconst C dL_law_610 (v := 1) (by decide) ?_
  refine rb_iadd C dL_law_611 ?_
  refine rb_sldk C hs (k := 1) rfl (by decide) hi hL dL_law_612 ?_
  refine rb_aload_n C dL_law_613 rfl ?_
  refine rb_iload C dL_law_614 rfl ?_
  refine rb_iconst C dL_law_616 (v := 2) (by decide) ?_
  refine rb_iadd C dL_law_617 ?_
  refine rb_sldk C hs (k := 2) rfl (by decide) hi hL dL_law_618 ?_
  refine rb_callV C M_L_129 (fun l X => (k_X8_lose l X (wJ G J) F.2.2 (xs (i + 1)) (xs (i + 2)) hm hM).m) rfl (Nat.le_of_ble_eq_true rfl) rfl dL_law_619 rfl rfl rfl (Nat.le_of_ble_eq_true rfl) ⟨(Nat.le_of_ble_eq_true rfl), (Nat.le_of_ble_eq_true rfl)⟩ (by omega) (by omega) (fun v G' hp => ?_) (fun _ _ hp => hp.elim)
  obtain ⟨rfl, e9⟩ := hp
  rw [e9]
  clear e9 G'
  generalize (m_lose F.2.2 (xs (i + 1)) (xs (i + 2))) = b9 at *
  refine rb_istore C dL_law_622 (Nat.le_of_ble_eq_true rfl) rfl (Lv' := [_, _, _, _, _, _, _]) rfl ?_
  refine rb_aload_n C dL_law_624 rfl ?_
  refine rb_callV C M_L_108 (fun l X => (k_X8_thrown l X (wJ G J) b9.2).m) rfl (Nat.le_of_ble_eq_true rfl) rfl dL_law_625 rfl rfl rfl (Nat.le_of_ble_eq_true rfl) ⟨(Nat.le_of_ble_eq_true rfl), (Nat.le_of_ble_eq_true rfl)⟩ (by omega) (by omega) (fun v G' hp => ?_) (fun _ _ hp => hp.elim)
  obtain ⟨rfl, e9⟩ := hp
  rw [e9]
  clear e9 G'
  refine rb_iload C dL_law_628 rfl ?_
  refine rb_icmp_eq C 635 dL_law_630 (by decide) (fun _ => ?_) (fun h9 => absurd o1 h9)
  have fin : rb_W Φ (cells + 12) (slots + 72) 652 [some (rbR (18, 0, 0)), some (rbR (0, 0, 0)), some (rbR (16, 0, 0)), some (rbR (17, 0, 0)), some (rbI (nI i)), some (rbI (sq_3 F.1)), some (rbI b9.1)] [] (wI (wJ G J) b9.2) := by
    refine rb_goto C 1926 dL_law_652 (by decide) ?_
    refine rb_W.unset 5 ?_
    refine rb_W.unset 6 ?_
    exact rb_W.room (kk (wJ G J) b9.2 cn ag ⟨hG, hm, hJ, t1, R1, sx_both (xq_rf _) mff hx9⟩) (by omega) (by omega)
  refine rb_iload C dL_law_635 rfl ?_
  refine rb_if_ne C 652 dL_law_637 (by decide) (fun hk9 => fin) (fun hk9 => ?_)
  have f0 : F.1 = 0 := sq_3z (by omega) hk9
  refine rb_aload_n C dL_law_640 rfl ?_
  refine rb_iconst C dL_law_641 (v := 0) (by decide) ?_
  refine rb_lald C dL_law_642 rfl (vp_01 (hJ)) ?_
  refine rb_iload C dL_law_643 rfl ?_
  refine rb_i2l C dL_law_645 ?_
  refine rb_lcmp C dL_law_646 ?_
  have e : lg_cmp (J (17, 0, 0) 0) (Int32.toInt64 b9.1) = 0 := (lg_cmp_eq _ _).mpr ((hJv f0).trans (by rw [o2 f0]))
  exact rb_if_eq C 652 dL_law_647 (by decide) (fun _ => fin) (fun h9 => absurd e h9)
set_option maxRecDepth 100000 in
set_option maxHeartbeats 4000000 in
theorem law_crash {Φ : rb_F} {cells slots : Nat} (C : rb_C Φ RL cL_law 7 15 568 601024 7293034) {b L : Nat} {xs : Nat → Int32} (hs : rb_Scr Φ b L xs) {i : Nat} (hi : i + 8 ≤ L) (hL : L ≤ 4096) (hc : cells + 12 ≤ 601024) (hsl : slots + 2200 ≤ 7293034) {G : rb_G} {W : rb_I} {cn : Nat → Nat} {ag : Nat → Nat → Int32} (h : lI G W cn ag) (kk : ∀ G' W' cn' ag', lI G' W' cn' ag' → rb_W Φ (cells + 12) (slots + 2200) 1926 (LV i) [] (wI G' W')) : rb_W Φ cells slots 655 (LV i) [] (wI G W) := by
  obtain ⟨hG, hm, hJ, t, R, hx⟩ := h
  have hI : xCI W cn := hx.1.1
  show rb_W Φ cells slots 655 [some (rbR (18, 0, 0)), some (rbR (0, 0, 0)), some (rbR (16, 0, 0)), some (rbR (17, 0, 0)), some (rbI (nI i)), none, none] [] (wI G W)
  refine rb_aload_n C dL_law_655 rfl ?_
  refine rb_aload_n C dL_law_656 rfl ?_
  refine rb_iload C dL_law_657 rfl ?_
  refine rb_iconst C dL_law_659 (v := 1) (by decide) ?_
  refine rb_iadd C dL_law_660 ?_
  refine rb_sldk C hs (k := 1) rfl (by decide) hi hL dL_law_661 ?_
  refine rb_aload_n C dL_law_662 rfl ?_
  refine rb_callSW C M_L_130 (fun l X => k_L_crash l X G W cn ag hG (xs (i + 1)) hI hJ) dL_law_663 rfl rfl rfl (Nat.le_of_ble_eq_true rfl) ⟨(Nat.le_of_ble_eq_true rfl), (Nat.le_of_ble_eq_true rfl)⟩ (by omega) (by omega) (fun v G' hp => ?_)
  have F1 := cd_crash W cn (xs (i + 1))
  have F2 := xf_crash W cn (xs (i + 1))
  obtain ⟨rfl, J, e9, hJv⟩ := hp
  rw [e9]
  clear e9 G'
  have hx1 := sx_w hx F2
  have K0 := s_crash hx1 (xs (i + 1))
  have mff := mf_crash (x7_crash W cn (xs (i + 1))).2.2 (xs (i + 1))
  obtain ⟨o1, o2, t1, R1, hx9⟩ := K0
  have hM : MI (x7_crash W cn (xs (i + 1))).2.2 := hx1.1.2.1
  generalize hF : (x7_crash W cn (xs (i + 1))) = F at *
  refine rb_istore C dL_law_666 (Nat.le_of_ble_eq_true rfl) rfl (Lv' := [_, _, _, _, _, _, _]) rfl ?_
  refine rb_aload_n C dL_law_668 rfl ?_
  refine rb_aload_n C dL_law_669 rfl ?_
  refine rb_iload C dL_law_670 rfl ?_
  refine rb_iconst C dL_law_672 (v := 1) (by decide) ?_
  refine rb_iadd C dL_law_673 ?_
  refine rb_sldk C hs (k := 1) rfl (by decide) hi hL dL_law_674 ?_
  refine rb_callV C M_L_133 (fun l X => (k_X8_crash l X (wJ G J) F.2.2 (xs (i + 1)) hm hM).m) rfl (Nat.le_of_ble_eq_true rfl) rfl dL_law_675 rfl rfl rfl (Nat.le_of_ble_eq_true rfl) ⟨(Nat.le_of_ble_eq_true rfl), (Nat.le_of_ble_eq_true rfl)⟩ (by omega) (by omega) (fun v G' hp => ?_) (fun _ _ hp => hp.elim)
  obtain ⟨rfl, e9⟩ := hp
  rw [e9]
  clear e9 G'
  generalize (m_crash F.2.2 (xs (i + 1))) = b9 at *
  refine rb_istore C dL_law_678 (Nat.le_of_ble_eq_true rfl) rfl (Lv' := [_, _, _, _, _, _, _]) rfl ?_
  refine rb_aload_n C dL_law_680 rfl ?_
  refine rb_callV C M_L_108 (fun l X => (k_X8_thrown l X (wJ G J) b9.2).m) rfl (Nat.le_of_ble_eq_true rfl) rfl dL_law_681 rfl rfl rfl (Nat.le_of_ble_eq_true rfl) ⟨(Nat.le_of_ble_eq_true rfl), (Nat.le_of_ble_eq_true rfl)⟩ (by omega) (by omega) (fun v G' hp => ?_) (fun _ _ hp => hp.elim)
  obtain ⟨rfl, e9⟩ := hp
  rw [e9]
  clear e9 G'
  refine rb_iload C dL_law_684 rfl ?_
  refine rb_icmp_eq C 691 dL_law_686 (by decide) (fun _ => ?_) (fun h9 => absurd o1 h9)
  have fin : rb_W Φ (cells + 12) (slots + 72) 708 [some (rbR (18, 0, 0)), some (rbR (0, 0, 0)), some (rbR (16, 0, 0)), some (rbR (17, 0, 0)), some (rbI (nI i)), some (rbI (sq_3 F.1)), some (rbI b9.1)] [] (wI (wJ G J) b9.2) := by
    refine rb_goto C 1926 dL_law_708 (by decide) ?_
    refine rb_W.unset 5 ?_
    refine rb_W.unset 6 ?_
    exact rb_W.room (kk (wJ G J) b9.2 cn ag ⟨hG, hm, hJ, t1, R1, sx_both (xq_rf _) mff hx9⟩) (by omega) (by omega)
  refine rb_iload C dL_law_691 rfl ?_
  refine rb_if_ne C 708 dL_law_693 (by decide) (fun hk9 => fin) (fun hk9 => ?_)
  have f0 : F.1 = 0 := sq_3z (by omega) hk9
  refine rb_aload_n C dL_law_696 rfl ?_
  refine rb_iconst C dL_law_697 (v := 0) (by decide) ?_
  refine rb_lald C dL_law_698 rfl (vp_01 (hJ)) ?_
  refine rb_iload C dL_law_699 rfl ?_
  refine rb_i2l C dL_law_701 ?_
  refine rb_lcmp C dL_law_702 ?_
  have e : lg_cmp (J (17, 0, 0) 0) (Int32.toInt64 b9.1) = 0 := (lg_cmp_eq _ _).mpr ((hJv f0).trans (by rw [o2 f0]))
  exact rb_if_eq C 708 dL_law_703 (by decide) (fun _ => fin) (fun h9 => absurd e h9)
set_option maxRecDepth 100000 in
set_option maxHeartbeats 4000000 in
theorem law_subscriber {Φ : rb_F} {cells slots : Nat} (C : rb_C Φ RL cL_law 7 15 568 601024 7293034) {b L : Nat} {xs : Nat → Int32} (hs : rb_Scr Φ b L xs) {i : Nat} (hi : i + 8 ≤ L) (hL : L ≤ 4096) (hc : cells + 12 ≤ 601024) (hsl : slots + 2200 ≤ 7293034) {G : rb_G} {W : rb_I} {cn : Nat → Nat} {ag : Nat → Nat → Int32} (h : lI G W cn ag) (kk : ∀ G' W' cn' ag', lI G' W' cn' ag' → rb_W Φ (cells + 12) (slots + 2200) 1926 (LV i) [] (wI G' W')) : rb_W Φ cells slots 711 (LV i) [] (wI G W) := by
  obtain ⟨hG, hm, hJ, t, R, hx⟩ := h
  have hI : xCI W cn := hx.1.1
  show rb_W Φ cells slots 711 [some (rbR (18, 0, 0)), some (rbR (0, 0, 0)), some (rbR (16, 0, 0)), some (rbR (17, 0, 0)), some (rbI (nI i)), none, none] [] (wI G W)
  refine rb_aload_n C dL_law_711 rfl ?_
  refine rb_aload_n C dL_law_712 rfl ?_
  refine rb_iload C dL_law_713 rfl ?_
  refine rb_iconst C dL_law_715 (v := 1) (by decide) ?_
  refine rb_iadd C dL_law_716 ?_
  refine rb_sldk C hs (k := 1) rfl (by decide) hi hL dL_law_717 ?_
  refine rb_aload_n C dL_law_718 rfl ?_
  refine rb_iload C dL_law_719 rfl ?_
  refine rb_iconst C dL_law_721 (v := 2) (by decide) ?_
  refine rb_iadd C dL_law_722 ?_
  refine rb_sldk C hs (k := 2) rfl (by decide) hi hL dL_law_723 ?_
  refine rb_aload_n C dL_law_724 rfl ?_
  refine rb_iload C dL_law_725 rfl ?_
  refine rb_iconst C dL_law_727 (v := 3) (by decide) ?_
  refine rb_iadd C dL_law_728 ?_
  refine rb_sldk C hs (k := 3) rfl (by decide) hi hL dL_law_729 ?_
  refine rb_aload_n C dL_law_730 rfl ?_
  refine rb_callSW C M_L_134 (fun l X => k_L_subscriber l X G W cn ag hG (xs (i + 1)) (xs (i + 2)) (xs (i + 3)) hI hm hJ) dL_law_731 rfl rfl rfl (Nat.le_of_ble_eq_true rfl) ⟨(Nat.le_of_ble_eq_true rfl), (Nat.le_of_ble_eq_true rfl)⟩ (by omega) (by omega) (fun v G' hp => ?_)
  have F1 := cd_subscriber W cn (xs (i + 1)) (xs (i + 2)) (xs (i + 3))
  have F2 := xf_subscriber W cn (xs (i + 1)) (xs (i + 2)) (xs (i + 3))
  obtain ⟨rfl, hp⟩ := hp
  rcases hp with ⟨f1, e9⟩ | ⟨f1, G1, W1, J, e9, q1, hK, hC1, hJv⟩
  · rw [e9]
    clear e9 G'
    have hx1 := sx_w hx F2
    have K0 := s_subscriber hx1 (xs (i + 1)) (xs (i + 2)) (xs (i + 3))
    have mff := mf_subscriber (x7_subscriber W cn (xs (i + 1)) (xs (i + 2)) (xs (i + 3))).2.2 (xs (i + 1)) (xs (i + 2)) (xs (i + 3))
    obtain ⟨o1, o2, t1, R1, hx9⟩ := K0
    rw [if_neg f1] at hx9
    have hM : MI (x7_subscriber W cn (xs (i + 1)) (xs (i + 2)) (xs (i + 3))).2.2 := hx1.1.2.1
    generalize hF : (x7_subscriber W cn (xs (i + 1)) (xs (i + 2)) (xs (i + 3))) = F at *
    refine rb_istore C dL_law_734 (Nat.le_of_ble_eq_true rfl) rfl (Lv' := [_, _, _, _, _, _, _]) rfl ?_
    refine rb_aload_n C dL_law_736 rfl ?_
    refine rb_aload_n C dL_law_737 rfl ?_
    refine rb_iload C dL_law_738 rfl ?_
    refine rb_iconst C dL_law_740 (v := 1) (by decide) ?_
    refine rb_iadd C dL_law_741 ?_
    refine rb_sldk C hs (k := 1) rfl (by decide) hi hL dL_law_742 ?_
    refine rb_aload_n C dL_law_743 rfl ?_
    refine rb_iload C dL_law_744 rfl ?_
    refine rb_iconst C dL_law_746 (v := 2) (by decide) ?_
    refine rb_iadd C dL_law_747 ?_
    refine rb_sldk C hs (k := 2) rfl (by decide) hi hL dL_law_748 ?_
    refine rb_aload_n C dL_law_749 rfl ?_
    refine rb_iload C dL_law_750 rfl ?_
    refine rb_iconst C dL_law_752 (v := 3) (by decide) ?_
    refine rb_iadd C dL_law_753 ?_
    refine rb_sldk C hs (k := 3) rfl (by decide) hi hL dL_law_754 ?_
    refine rb_callV C M_L_137 (fun l X => (k_X8_subscriber l X G F.2.2 (xs (i + 1)) (xs (i + 2)) (xs (i + 3)) hm hM).m) rfl (Nat.le_of_ble_eq_true rfl) rfl dL_law_755 rfl rfl rfl (Nat.le_of_ble_eq_true rfl) ⟨(Nat.le_of_ble_eq_true rfl), (Nat.le_of_ble_eq_true rfl)⟩ (by omega) (by omega) (fun v G' hp => ?_) (fun _ _ hp => hp.elim)
    obtain ⟨rfl, e9⟩ := hp
    rw [e9]
    clear e9 G'
    generalize (m_subscriber F.2.2 (xs (i + 1)) (xs (i + 2)) (xs (i + 3))) = b9 at *
    refine rb_istore C dL_law_758 (Nat.le_of_ble_eq_true rfl) rfl (Lv' := [_, _, _, _, _, _, _]) rfl ?_
    refine rb_aload_n C dL_law_760 rfl ?_
    refine rb_callV C M_L_108 (fun l X => (k_X8_thrown l X G b9.2).m) rfl (Nat.le_of_ble_eq_true rfl) rfl dL_law_761 rfl rfl rfl (Nat.le_of_ble_eq_true rfl) ⟨(Nat.le_of_ble_eq_true rfl), (Nat.le_of_ble_eq_true rfl)⟩ (by omega) (by omega) (fun v G' hp => ?_) (fun _ _ hp => hp.elim)
    obtain ⟨rfl, e9⟩ := hp
    rw [e9]
    clear e9 G'
    refine rb_iload C dL_law_764 rfl ?_
    refine rb_icmp_eq C 771 dL_law_766 (by decide) (fun _ => ?_) (fun h9 => absurd o1 h9)
    have fin : rb_W Φ (cells + 12) (slots + 800) 788 [some (rbR (18, 0, 0)), some (rbR (0, 0, 0)), some (rbR (16, 0, 0)), some (rbR (17, 0, 0)), some (rbI (nI i)), some (rbI (sq_3 F.1)), some (rbI b9.1)] [] (wI G b9.2) := by
      refine rb_goto C 1926 dL_law_788 (by decide) ?_
      refine rb_W.unset 5 ?_
      refine rb_W.unset 6 ?_
      exact rb_W.room (kk G b9.2 cn ag ⟨hG, hm, hJ, t1, R1, sx_both (xq_rf _) mff hx9⟩) (by omega) (by omega)
    refine rb_iload C dL_law_771 rfl ?_
    refine rb_if_ne C 788 dL_law_773 (by decide) (fun hk9 => fin) (fun hk9 => ?_)
    have f0 : F.1 = 0 := sq_3z (by omega) hk9
    exact absurd f0 f1
  · rw [e9]
    clear e9 G'
    have hx1 := sx_w hx (xf_tr F2 (xf_xq q1))
    have K0 := s_subscriber hx1 (xs (i + 1)) (xs (i + 2)) (xs (i + 3))
    have mff := mf_subscriber W1 (xs (i + 1)) (xs (i + 2)) (xs (i + 3))
    obtain ⟨o1, o2, t1, R1, hx9⟩ := K0
    rw [if_pos f1] at hx9
    have hM : MI W1 := hx1.1.2.1
    generalize hF : (x7_subscriber W cn (xs (i + 1)) (xs (i + 2)) (xs (i + 3))) = F at *
    refine rb_istore C dL_law_734 (Nat.le_of_ble_eq_true rfl) rfl (Lv' := [_, _, _, _, _, _, _]) rfl ?_
    refine rb_aload_n C dL_law_736 rfl ?_
    refine rb_aload_n C dL_law_737 rfl ?_
    refine rb_iload C dL_law_738 rfl ?_
    refine rb_iconst C dL_law_740 (v := 1) (by decide) ?_
    refine rb_iadd C dL_law_741 ?_
    refine rb_sldk C hs (k := 1) rfl (by decide) hi hL dL_law_742 ?_
    refine rb_aload_n C dL_law_743 rfl ?_
    refine rb_iload C dL_law_744 rfl ?_
    refine rb_iconst C dL_law_746 (v := 2) (by decide) ?_
    refine rb_iadd C dL_law_747 ?_
    refine rb_sldk C hs (k := 2) rfl (by decide) hi hL dL_law_748 ?_
    refine rb_aload_n C dL_law_749 rfl ?_
    refine rb_iload C dL_law_750 rfl ?_
    refine rb_iconst C dL_law_752 (v := 3) (by decide) ?_
    refine rb_iadd C dL_law_753 ?_
    refine rb_sldk C hs (k := 3) rfl (by decide) hi hL dL_law_754 ?_
    refine rb_callV C M_L_137 (fun l X => (k_X8_subscriber l X (wJ G1 J) W1 (xs (i + 1)) (xs (i + 2)) (xs (i + 3)) hK.1 hM).m) rfl (Nat.le_of_ble_eq_true rfl) rfl dL_law_755 rfl rfl rfl (Nat.le_of_ble_eq_true rfl) ⟨(Nat.le_of_ble_eq_true rfl), (Nat.le_of_ble_eq_true rfl)⟩ (by omega) (by omega) (fun v G' hp => ?_) (fun _ _ hp => hp.elim)
    obtain ⟨rfl, e9⟩ := hp
    rw [e9]
    clear e9 G'
    generalize (m_subscriber W1 (xs (i + 1)) (xs (i + 2)) (xs (i + 3))) = b9 at *
    refine rb_istore C dL_law_758 (Nat.le_of_ble_eq_true rfl) rfl (Lv' := [_, _, _, _, _, _, _]) rfl ?_
    refine rb_aload_n C dL_law_760 rfl ?_
    refine rb_callV C M_L_108 (fun l X => (k_X8_thrown l X (wJ G1 J) b9.2).m) rfl (Nat.le_of_ble_eq_true rfl) rfl dL_law_761 rfl rfl rfl (Nat.le_of_ble_eq_true rfl) ⟨(Nat.le_of_ble_eq_true rfl), (Nat.le_of_ble_eq_true rfl)⟩ (by omega) (by omega) (fun v G' hp => ?_) (fun _ _ hp => hp.elim)
    obtain ⟨rfl, e9⟩ := hp
    rw [e9]
    clear e9 G'
    refine rb_iload C dL_law_764 rfl ?_
    refine rb_icmp_eq C 771 dL_law_766 (by decide) (fun _ => ?_) (fun h9 => absurd o1 h9)
    have fin : rb_W Φ (cells + 12) (slots + 800) 788 [some (rbR (18, 0, 0)), some (rbR (0, 0, 0)), some (rbR (16, 0, 0)), some (rbR (17, 0, 0)), some (rbI (nI i)), some (rbI (sq_3 F.1)), some (rbI b9.1)] [] (wI (wJ G1 J) b9.2) := by
      refine rb_goto C 1926 dL_law_788 (by decide) ?_
      refine rb_W.unset 5 ?_
      refine rb_W.unset 6 ?_
      exact rb_W.room (kk (wJ G1 J) b9.2 (bump cn 1) ag ⟨hC1, hK.1, hK.2.trans hJ, t1, R1, sx_both q1 mff hx9⟩) (by omega) (by omega)
    refine rb_iload C dL_law_771 rfl ?_
    refine rb_if_ne C 788 dL_law_773 (by decide) (fun hk9 => fin) (fun hk9 => ?_)
    have f0 : F.1 = 0 := sq_3z (by omega) hk9
    refine rb_aload_n C dL_law_776 rfl ?_
    refine rb_iconst C dL_law_777 (v := 0) (by decide) ?_
    refine rb_lald C dL_law_778 rfl (vp_01 (hK.2.trans hJ)) ?_
    refine rb_iload C dL_law_779 rfl ?_
    refine rb_i2l C dL_law_781 ?_
    refine rb_lcmp C dL_law_782 ?_
    have e : lg_cmp (J (17, 0, 0) 0) (Int32.toInt64 b9.1) = 0 := (lg_cmp_eq _ _).mpr ((hJv).trans (by rw [o2 f0]))
    exact rb_if_eq C 788 dL_law_783 (by decide) (fun _ => fin) (fun h9 => absurd e h9)
set_option maxRecDepth 100000 in
set_option maxHeartbeats 4000000 in
theorem law_move {Φ : rb_F} {cells slots : Nat} (C : rb_C Φ RL cL_law 7 15 568 601024 7293034) {b L : Nat} {xs : Nat → Int32} (hs : rb_Scr Φ b L xs) {i : Nat} (hi : i + 8 ≤ L) (hL : L ≤ 4096) (hc : cells + 12 ≤ 601024) (hsl : slots + 2200 ≤ 7293034) {G : rb_G} {W : rb_I} {cn : Nat → Nat} {ag : Nat → Nat → Int32} (h : lI G W cn ag) (kk : ∀ G' W' cn' ag', lI G' W' cn' ag' → rb_W Φ (cells + 12) (slots + 2200) 1926 (LV i) [] (wI G' W')) : rb_W Φ cells slots 791 (LV i) [] (wI G W) := by
  obtain ⟨hG, hm, hJ, t, R, hx⟩ := h
  have hI : xCI W cn := hx.1.1
  show rb_W Φ cells slots 791 [some (rbR (18, 0, 0)), some (rbR (0, 0, 0)), some (rbR (16, 0, 0)), some (rbR (17, 0, 0)), some (rbI (nI i)), none, none] [] (wI G W)
  refine rb_aload_n C dL_law_791 rfl ?_
  refine rb_aload_n C dL_law_792 rfl ?_
  refine rb_iload C dL_law_793 rfl ?_
  refine rb_iconst C dL_law_795 (v := 1) (by decide) ?_
  refine rb_iadd C dL_law_796 ?_
  refine rb_sldk C hs (k := 1) rfl (by decide) hi hL dL_law_797 ?_
  refine rb_aload_n C dL_law_798 rfl ?_
  refine rb_iload C dL_law_799 rfl ?_
  refine rb_iconst C dL_law_801 (v := 2) (by decide) ?_
  refine rb_iadd C dL_law_802 ?_
  refine rb_sldk C hs (k := 2) rfl (by decide) hi hL dL_law_803 ?_
  refine rb_aload_n C dL_law_804 rfl ?_
  refine rb_callSW C M_L_138 (fun l X => k_L_move l X G W cn ag hG (xs (i + 1)) (xs (i + 2)) hI hJ) dL_law_805 rfl rfl rfl (Nat.le_of_ble_eq_true rfl) ⟨(Nat.le_of_ble_eq_true rfl), (Nat.le_of_ble_eq_true rfl)⟩ (by omega) (by omega) (fun v G' hp => ?_)
  have F1 := cd_move W cn (xs (i + 1)) (xs (i + 2))
  have F2 := xf_move W cn (xs (i + 1)) (xs (i + 2))
  obtain ⟨rfl, J, e9, hJv⟩ := hp
  rw [e9]
  clear e9 G'
  have hx1 := sx_w hx F2
  have K0 := s_move hx1 (xs (i + 1)) (xs (i + 2))
  have mff := mf_move (x7_move W cn (xs (i + 1)) (xs (i + 2))).2.2 (xs (i + 1)) (xs (i + 2))
  obtain ⟨o1, o2, t1, R1, hx9⟩ := K0
  have hM : MI (x7_move W cn (xs (i + 1)) (xs (i + 2))).2.2 := hx1.1.2.1
  generalize hF : (x7_move W cn (xs (i + 1)) (xs (i + 2))) = F at *
  refine rb_istore C dL_law_808 (Nat.le_of_ble_eq_true rfl) rfl (Lv' := [_, _, _, _, _, _, _]) rfl ?_
  refine rb_aload_n C dL_law_810 rfl ?_
  refine rb_aload_n C dL_law_811 rfl ?_
  refine rb_iload C dL_law_812 rfl ?_
  refine rb_iconst C dL_law_814 (v := 1) (by decide) ?_
  refine rb_iadd C dL_law_815 ?_
  refine rb_sldk C hs (k := 1) rfl (by decide) hi hL dL_law_816 ?_
  refine rb_aload_n C dL_law_817 rfl ?_
  refine rb_iload C dL_law_818 rfl ?_
  refine rb_iconst C dL_law_820 (v := 2) (by decide) ?_
  refine rb_iadd C dL_law_821 ?_
  refine rb_sldk C hs (k := 2) rfl (by decide) hi hL dL_law_822 ?_
  refine rb_callV C M_L_140 (fun l X => (k_X8_move l X (wJ G J) F.2.2 (xs (i + 1)) (xs (i + 2)) hm hM).m) rfl (Nat.le_of_ble_eq_true rfl) rfl dL_law_823 rfl rfl rfl (Nat.le_of_ble_eq_true rfl) ⟨(Nat.le_of_ble_eq_true rfl), (Nat.le_of_ble_eq_true rfl)⟩ (by omega) (by omega) (fun v G' hp => ?_) (fun _ _ hp => hp.elim)
  obtain ⟨rfl, e9⟩ := hp
  rw [e9]
  clear e9 G'
  generalize (m_move F.2.2 (xs (i + 1)) (xs (i + 2))) = b9 at *
  refine rb_istore C dL_law_826 (Nat.le_of_ble_eq_true rfl) rfl (Lv' := [_, _, _, _, _, _, _]) rfl ?_
  refine rb_aload_n C dL_law_828 rfl ?_
  refine rb_callV C M_L_108 (fun l X => (k_X8_thrown l X (wJ G J) b9.2).m) rfl (Nat.le_of_ble_eq_true rfl) rfl dL_law_829 rfl rfl rfl (Nat.le_of_ble_eq_true rfl) ⟨(Nat.le_of_ble_eq_true rfl), (Nat.le_of_ble_eq_true rfl)⟩ (by omega) (by omega) (fun v G' hp => ?_) (fun _ _ hp => hp.elim)
  obtain ⟨rfl, e9⟩ := hp
  rw [e9]
  clear e9 G'
  refine rb_iload C dL_law_832 rfl ?_
  refine rb_icmp_eq C 839 dL_law_834 (by decide) (fun _ => ?_) (fun h9 => absurd o1 h9)
  have fin : rb_W Φ (cells + 12) (slots + 72) 856 [some (rbR (18, 0, 0)), some (rbR (0, 0, 0)), some (rbR (16, 0, 0)), some (rbR (17, 0, 0)), some (rbI (nI i)), some (rbI (sq_3 F.1)), some (rbI b9.1)] [] (wI (wJ G J) b9.2) := by
    refine rb_goto C 1926 dL_law_856 (by decide) ?_
    refine rb_W.unset 5 ?_
    refine rb_W.unset 6 ?_
    exact rb_W.room (kk (wJ G J) b9.2 cn ag ⟨hG, hm, hJ, t1, R1, sx_both (xq_rf _) mff hx9⟩) (by omega) (by omega)
  refine rb_iload C dL_law_839 rfl ?_
  refine rb_if_ne C 856 dL_law_841 (by decide) (fun hk9 => fin) (fun hk9 => ?_)
  have f0 : F.1 = 0 := sq_3z (by omega) hk9
  refine rb_aload_n C dL_law_844 rfl ?_
  refine rb_iconst C dL_law_845 (v := 0) (by decide) ?_
  refine rb_lald C dL_law_846 rfl (vp_01 (hJ)) ?_
  refine rb_iload C dL_law_847 rfl ?_
  refine rb_i2l C dL_law_849 ?_
  refine rb_lcmp C dL_law_850 ?_
  have e : lg_cmp (J (17, 0, 0) 0) (Int32.toInt64 b9.1) = 0 := (lg_cmp_eq _ _).mpr ((hJv f0).trans (by rw [o2 f0]))
  exact rb_if_eq C 856 dL_law_851 (by decide) (fun _ => fin) (fun h9 => absurd e h9)
