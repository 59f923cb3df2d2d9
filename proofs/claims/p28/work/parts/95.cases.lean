set_option maxRecDepth 100000 in
set_option maxHeartbeats 4000000 in
theorem law_5 {Φ : rb_F} {cells slots : Nat} (C : rb_C Φ RL cL_law 54 15 568 734644 6897897) (hc : cells + 90 ≤ 734644) (hsl : slots + 2600 ≤ 6897897) {G : rb_G} {W M : rb_I} (hL : LI G W M) {S A R P t d : Nat} (hl : lx W M S A R P t d) (v u : Int32) (k n i j : Nat) (hk : k < 140) (hn : n < 6) (hi : i < S ∨ S = 0 ∧ i = 0) (hj : j < S ∨ S = 0 ∧ j = 0) (kk : ∀ G' W' M', lJ G' W' M' → rb_W Φ (cells + 90) (slots + 2600) 3288 (LVE k v u) [] (wI G' W')) : rb_W Φ cells slots 1100 (LV0 k v u n i j) [] (wI G W) := by
  show rb_W Φ cells slots 1100 [some (rbR (18, 0, 0)), some (rbR (0, 0, 0)), some (rbR (14, 0, 0)), some (rbR (14, 1, 0)), some (rbR (14, 2, 0)), some (rbR (14, 3, 0)), some (rbR (14, 4, 0)), some (rbR (14, 5, 0)), some (rbR (14, 6, 0)), some (rbR (14, 7, 0)), some (rbR (14, 8, 0)), some (rbR (14, 9, 0)), some (rbI (nI k)), some (rbI v), some (rbI u), some (rbI (nI n)), some (rbI (nI i)), some (rbI (nI j)), some (rbI 1), none, none, none, none, none, none, none, none, none, none, none, none, none, none, none, none, none, none, none, none, none, none, none, none, none, none, none, none, none, none, none, none, none, none, none] [] (wI G W)
  have hm := hL.1
  obtain ⟨hS6, hA10, hRP, hP58, hP2, hd64, htm⟩ := lr_b hl
  refine rb_bipush C dL_law_1100 (v := 26) (by decide) ?_
  refine rb_iconst C dL_law_1102 (v := 3) (by decide) ?_
  refine rb_iload C dL_law_1103 rfl ?_
  refine rb_iconst C dL_law_1105 (v := 3) (by decide) ?_
  refine rb_callS C M_L_124 (fun l X => (k_L_low l X G W _ 3 (by decide) (by decide)).m) dL_law_1106 rfl rfl rfl (Nat.le_of_ble_eq_true rfl) ⟨(Nat.le_of_ble_eq_true rfl), (Nat.le_of_ble_eq_true rfl)⟩ (by omega) (by omega) (fun v G' hp => ?_) (fun _ _ hp => hp.elim)
  obtain ⟨h9, hh9, rfl, e9⟩ := hp
  rw [e9]
  clear e9 G'
  refine rq_imul C (z := (nI (3 * h9))) dL_law_1109 (pk_mul 3 h9) ?_
  refine rq_iadd C (z := (nI (26 + 3 * h9))) dL_law_1110 (nI_add 26 (3 * h9)) ?_
  refine rb_istore C dL_law_1111 (Nat.le_of_ble_eq_true rfl) rfl (Lv' := [_, _, _, _, _, _, _, _, _, _, _, _, _, _, _, _, _, _, _, _, _, _, _, _, _, _, _, _, _, _, _, _, _, _, _, _, _, _, _, _, _, _, _, _, _, _, _, _, _, _, _, _, _, _]) rfl ?_
  refine rb_iconst C dL_law_1113 (v := 0) (by decide) ?_
  refine rb_istore C dL_law_1114 (Nat.le_of_ble_eq_true rfl) rfl (Lv' := [_, _, _, _, _, _, _, _, _, _, _, _, _, _, _, _, _, _, _, _, _, _, _, _, _, _, _, _, _, _, _, _, _, _, _, _, _, _, _, _, _, _, _, _, _, _, _, _, _, _, _, _, _, _]) rfl ?_
  refine rb_iload C dL_law_1116 rfl ?_
  refine rb_iconst C dL_law_1118 (v := 3) (by decide) ?_
  refine rb_icmp_ge C 1149 dL_law_1119 (by decide) (fun h9 => absurd h9 (by decide)) (fun _ => ?_)
  refine rb_aload_n C dL_law_1122 rfl ?_
  refine rb_iload C dL_law_1123 rfl ?_
  refine rb_iload C dL_law_1125 rfl ?_
  refine rq_iadd C (z := (nI (26 + (3 * h9 + 0)))) dL_law_1127 ((nI_add (26 + 3 * h9) 0).trans (by rw [Nat.add_assoc])) ?_
  refine rb_iload C dL_law_1128 rfl ?_
  refine rb_iconst C dL_law_1130 (v := 4) (by decide) ?_
  refine rb_iconst C dL_law_1131 (v := 3) (by decide) ?_
  refine rb_iload C dL_law_1132 rfl ?_
  refine rq_imul C (z := (0 : Int32)) dL_law_1134 (by decide) ?_
  refine rq_iadd C (z := (4 : Int32)) dL_law_1135 (by decide) ?_
  refine rq_ishr C (z := (u >>> ((4 : Int32) &&& 31))) dL_law_1136 rfl ?_
  refine rb_bipush C dL_law_1137 (v := 100) (by decide) ?_
  refine rb_callS C M_L_124 (fun l X => (k_L_low l X G W _ 100 (by decide) (by decide)).m) dL_law_1139 rfl rfl rfl (Nat.le_of_ble_eq_true rfl) ⟨(Nat.le_of_ble_eq_true rfl), (Nat.le_of_ble_eq_true rfl)⟩ (by omega) (by omega) (fun v G' hp => ?_) (fun _ _ hp => hp.elim)
  obtain ⟨a0, ha0, rfl, e9⟩ := hp
  rw [e9]
  clear e9 G'
  refine rw_iast C 44 (26 + (3 * h9 + 0)) dL_law_1142 rfl (hm 0 (by decide)) (vp_in_nI (show 26 + (3 * h9 + 0) < 44 by omega) (by decide)) (nI_clamp (show 26 + (3 * h9 + 0) < 2 ^ 31 by omega)) ?_
  have hl3 := lu_pri (lx_thr hl 0) (j := 3 * h9 + 0) (by omega) (v := nI a0) (vp_in_nI ha0 (by decide))
  have hL3 := LI_up hL 0 (26 + (3 * h9 + 0)) (nI a0)
  generalize up2 W (14, 0, 0) (26 + (3 * h9 + 0)) (nI a0) = W3 at hl3 hL3 ⊢
  refine rq_iinc C dL_law_1143 rfl (v := (1 : Int32)) (by decide) rfl (Lv' := [_, _, _, _, _, _, _, _, _, _, _, _, _, _, _, _, _, _, _, _, _, _, _, _, _, _, _, _, _, _, _, _, _, _, _, _, _, _, _, _, _, _, _, _, _, _, _, _, _, _, _, _, _, _]) rfl ?_
  refine rb_goto C 1116 dL_law_1146 (by decide) ?_
  refine rb_iload C dL_law_1116 rfl ?_
  refine rb_iconst C dL_law_1118 (v := 3) (by decide) ?_
  refine rb_icmp_ge C 1149 dL_law_1119 (by decide) (fun h9 => absurd h9 (by decide)) (fun _ => ?_)
  refine rb_aload_n C dL_law_1122 rfl ?_
  refine rb_iload C dL_law_1123 rfl ?_
  refine rb_iload C dL_law_1125 rfl ?_
  refine rq_iadd C (z := (nI (26 + (3 * h9 + 1)))) dL_law_1127 ((nI_add (26 + 3 * h9) 1).trans (by rw [Nat.add_assoc])) ?_
  refine rb_iload C dL_law_1128 rfl ?_
  refine rb_iconst C dL_law_1130 (v := 4) (by decide) ?_
  refine rb_iconst C dL_law_1131 (v := 3) (by decide) ?_
  refine rb_iload C dL_law_1132 rfl ?_
  refine rq_imul C (z := (3 : Int32)) dL_law_1134 (by decide) ?_
  refine rq_iadd C (z := (7 : Int32)) dL_law_1135 (by decide) ?_
  refine rq_ishr C (z := (u >>> ((7 : Int32) &&& 31))) dL_law_1136 rfl ?_
  refine rb_bipush C dL_law_1137 (v := 100) (by decide) ?_
  refine rb_callS C M_L_124 (fun l X => (k_L_low l X G W3 _ 100 (by decide) (by decide)).m) dL_law_1139 rfl rfl rfl (Nat.le_of_ble_eq_true rfl) ⟨(Nat.le_of_ble_eq_true rfl), (Nat.le_of_ble_eq_true rfl)⟩ (by omega) (by omega) (fun v G' hp => ?_) (fun _ _ hp => hp.elim)
  obtain ⟨a1, ha1, rfl, e9⟩ := hp
  rw [e9]
  clear e9 G'
  refine rw_iast C 44 (26 + (3 * h9 + 1)) dL_law_1142 rfl (hm 0 (by decide)) (vp_in_nI (show 26 + (3 * h9 + 1) < 44 by omega) (by decide)) (nI_clamp (show 26 + (3 * h9 + 1) < 2 ^ 31 by omega)) ?_
  have hl5 := lu_pri hl3 (j := 3 * h9 + 1) (by omega) (v := nI a1) (vp_in_nI ha1 (by decide))
  have hL5 := LI_up hL3 0 (26 + (3 * h9 + 1)) (nI a1)
  generalize up2 W3 (14, 0, 0) (26 + (3 * h9 + 1)) (nI a1) = W5 at hl5 hL5 ⊢
  refine rq_iinc C dL_law_1143 rfl (v := (2 : Int32)) (by decide) rfl (Lv' := [_, _, _, _, _, _, _, _, _, _, _, _, _, _, _, _, _, _, _, _, _, _, _, _, _, _, _, _, _, _, _, _, _, _, _, _, _, _, _, _, _, _, _, _, _, _, _, _, _, _, _, _, _, _]) rfl ?_
  refine rb_goto C 1116 dL_law_1146 (by decide) ?_
  refine rb_iload C dL_law_1116 rfl ?_
  refine rb_iconst C dL_law_1118 (v := 3) (by decide) ?_
  refine rb_icmp_ge C 1149 dL_law_1119 (by decide) (fun h9 => absurd h9 (by decide)) (fun _ => ?_)
  refine rb_aload_n C dL_law_1122 rfl ?_
  refine rb_iload C dL_law_1123 rfl ?_
  refine rb_iload C dL_law_1125 rfl ?_
  refine rq_iadd C (z := (nI (26 + (3 * h9 + 2)))) dL_law_1127 ((nI_add (26 + 3 * h9) 2).trans (by rw [Nat.add_assoc])) ?_
  refine rb_iload C dL_law_1128 rfl ?_
  refine rb_iconst C dL_law_1130 (v := 4) (by decide) ?_
  refine rb_iconst C dL_law_1131 (v := 3) (by decide) ?_
  refine rb_iload C dL_law_1132 rfl ?_
  refine rq_imul C (z := (6 : Int32)) dL_law_1134 (by decide) ?_
  refine rq_iadd C (z := (10 : Int32)) dL_law_1135 (by decide) ?_
  refine rq_ishr C (z := (u >>> ((10 : Int32) &&& 31))) dL_law_1136 rfl ?_
  refine rb_bipush C dL_law_1137 (v := 100) (by decide) ?_
  refine rb_callS C M_L_124 (fun l X => (k_L_low l X G W5 _ 100 (by decide) (by decide)).m) dL_law_1139 rfl rfl rfl (Nat.le_of_ble_eq_true rfl) ⟨(Nat.le_of_ble_eq_true rfl), (Nat.le_of_ble_eq_true rfl)⟩ (by omega) (by omega) (fun v G' hp => ?_) (fun _ _ hp => hp.elim)
  obtain ⟨a2, ha2, rfl, e9⟩ := hp
  rw [e9]
  clear e9 G'
  refine rw_iast C 44 (26 + (3 * h9 + 2)) dL_law_1142 rfl (hm 0 (by decide)) (vp_in_nI (show 26 + (3 * h9 + 2) < 44 by omega) (by decide)) (nI_clamp (show 26 + (3 * h9 + 2) < 2 ^ 31 by omega)) ?_
  have hl7 := lu_pri hl5 (j := 3 * h9 + 2) (by omega) (v := nI a2) (vp_in_nI ha2 (by decide))
  have hL7 := LI_up hL5 0 (26 + (3 * h9 + 2)) (nI a2)
  generalize up2 W5 (14, 0, 0) (26 + (3 * h9 + 2)) (nI a2) = W7 at hl7 hL7 ⊢
  refine rq_iinc C dL_law_1143 rfl (v := (3 : Int32)) (by decide) rfl (Lv' := [_, _, _, _, _, _, _, _, _, _, _, _, _, _, _, _, _, _, _, _, _, _, _, _, _, _, _, _, _, _, _, _, _, _, _, _, _, _, _, _, _, _, _, _, _, _, _, _, _, _, _, _, _, _]) rfl ?_
  refine rb_goto C 1116 dL_law_1146 (by decide) ?_
  refine rb_iload C dL_law_1116 rfl ?_
  refine rb_iconst C dL_law_1118 (v := 3) (by decide) ?_
  refine rb_icmp_ge C 1149 dL_law_1119 (by decide) (fun _ => ?_) (fun h9 => absurd (by decide) h9)
  refine rb_aload_n C dL_law_1149 rfl ?_
  refine rb_iload C dL_law_1150 rfl ?_
  refine rb_bipush C dL_law_1152 (v := 26) (by decide) ?_
  refine rq_isub C (z := (nI (3 * h9))) dL_law_1154 (by rw [show (26 : Int32) = nI 26 from rfl, pk_sub (by omega), Nat.add_sub_cancel_left]) ?_
  refine rb_iconst C dL_law_1155 (v := 3) (by decide) ?_
  refine rq_idiv C (z := (nI h9)) dL_law_1156 (by decide) ((pk_div (a := 3 * h9) (d := 3) (by omega) (by decide) (by decide)).trans (by rw [Nat.mul_div_cancel_left _ (by decide)])) ?_
  refine rb_aload_n C dL_law_1157 rfl ?_
  refine rb_iload C dL_law_1158 rfl ?_
  refine rw_iald C (x := (nI a0)) 44 (26 + 3 * h9) dL_law_1160 rfl (hm 0 (by decide)) (vp_in_nI (show 26 + 3 * h9 < 44 by omega) (by decide)) (nI_clamp (show 26 + 3 * h9 < 2 ^ 31 by omega)) (((lr_Q hl7 (j := 3 * h9) (by omega)).1).trans (by simp [up2])) ?_
  refine rb_aload_n C dL_law_1161 rfl ?_
  refine rb_iload C dL_law_1162 rfl ?_
  refine rb_iconst C dL_law_1164 (v := 1) (by decide) ?_
  refine rq_iadd C (z := (nI (26 + 3 * h9 + 1))) dL_law_1165 (nI_add (26 + 3 * h9) 1) ?_
  refine rw_iald C (x := (nI a1)) 44 (26 + 3 * h9 + 1) dL_law_1166 rfl (hm 0 (by decide)) (vp_in_nI (show 26 + 3 * h9 + 1 < 44 by omega) (by decide)) (nI_clamp (show 26 + 3 * h9 + 1 < 2 ^ 31 by omega)) ((by rw [Nat.add_assoc]; exact ((lr_Q hl7 (j := 3 * h9 + 1) (by omega)).1).trans (by simp [up2]))) ?_
  refine rb_aload_n C dL_law_1167 rfl ?_
  refine rb_iload C dL_law_1168 rfl ?_
  refine rb_iconst C dL_law_1170 (v := 2) (by decide) ?_
  refine rq_iadd C (z := (nI (26 + 3 * h9 + 2))) dL_law_1171 (nI_add (26 + 3 * h9) 2) ?_
  refine rw_iald C (x := (nI a2)) 44 (26 + 3 * h9 + 2) dL_law_1172 rfl (hm 0 (by decide)) (vp_in_nI (show 26 + 3 * h9 + 2 < 44 by omega) (by decide)) (nI_clamp (show 26 + 3 * h9 + 2 < 2 ^ 31 by omega)) ((by rw [Nat.add_assoc]; exact ((lr_Q hl7 (j := 3 * h9 + 2) (by omega)).1).trans (by simp [up2]))) ?_
  refine rb_callSW C M_L_158 (fun l X => c_prices l X G W7 M hL7 hl (h9 := h9) (by omega) ha0 ha1 ha2) dL_law_1173 rfl rfl rfl (Nat.le_of_ble_eq_true rfl) ⟨(Nat.le_of_ble_eq_true rfl), (Nat.le_of_ble_eq_true rfl)⟩ (by omega) (by omega) (fun v G' hp => ?_)
  obtain ⟨rfl, G8, W8, e9, hL8, hw8⟩ := hp
  rw [e9]
  clear e9 G'
  have hl8 := lx_lw hl7 hw8
  have hm := hL8.1
  refine rb_if_ne C 1183 dL_law_1176 (by decide) (fun h9 => absurd (by decide) h9) (fun _ => ?_)
  refine rb_iconst C dL_law_1179 (v := 1) (by decide) ?_
  refine rb_goto C 1184 dL_law_1180 (by decide) ?_
  refine rb_istore C dL_law_1184 (Nat.le_of_ble_eq_true rfl) rfl (Lv' := [_, _, _, _, _, _, _, _, _, _, _, _, _, _, _, _, _, _, _, _, _, _, _, _, _, _, _, _, _, _, _, _, _, _, _, _, _, _, _, _, _, _, _, _, _, _, _, _, _, _, _, _, _, _]) rfl ?_
  refine rb_goto C 3288 dL_law_1186 (by decide) ?_
  refine rb_W.unset 15 ?_
  refine rb_W.unset 16 ?_
  refine rb_W.unset 17 ?_
  refine rb_W.unset 32 ?_
  refine rb_W.unset 33 ?_
  exact rb_W.room (kk G8 W8 (up2 (up2 (up2 (up2 M (16, 0, 0) 0 0) (14, 5, 0) (3 * h9 + 0) (nI a0)) (14, 5, 0) (3 * h9 + 1) (nI a1)) (14, 5, 0) (3 * h9 + 2) (nI a2)) ⟨hL8, _, _, _, _, _, _, hl8⟩) (by omega) (by omega)

set_option maxRecDepth 100000 in
set_option maxHeartbeats 4000000 in
theorem law_6 {Φ : rb_F} {cells slots : Nat} (C : rb_C Φ RL cL_law 54 15 568 734644 6897897) (hc : cells + 90 ≤ 734644) (hsl : slots + 2600 ≤ 6897897) {G : rb_G} {W M : rb_I} (hL : LI G W M) {S A R P t d : Nat} (hl : lx W M S A R P t d) (v u : Int32) (k n i j : Nat) (hk : k < 140) (hn : n < 6) (hi : i < S ∨ S = 0 ∧ i = 0) (hj : j < S ∨ S = 0 ∧ j = 0) (kk : ∀ G' W' M', lJ G' W' M' → rb_W Φ (cells + 90) (slots + 2600) 3288 (LVE k v u) [] (wI G' W')) : rb_W Φ cells slots 1189 (LV0 k v u n i j) [] (wI G W) := by
  show rb_W Φ cells slots 1189 [some (rbR (18, 0, 0)), some (rbR (0, 0, 0)), some (rbR (14, 0, 0)), some (rbR (14, 1, 0)), some (rbR (14, 2, 0)), some (rbR (14, 3, 0)), some (rbR (14, 4, 0)), some (rbR (14, 5, 0)), some (rbR (14, 6, 0)), some (rbR (14, 7, 0)), some (rbR (14, 8, 0)), some (rbR (14, 9, 0)), some (rbI (nI k)), some (rbI v), some (rbI u), some (rbI (nI n)), some (rbI (nI i)), some (rbI (nI j)), some (rbI 1), none, none, none, none, none, none, none, none, none, none, none, none, none, none, none, none, none, none, none, none, none, none, none, none, none, none, none, none, none, none, none, none, none, none, none] [] (wI G W)
  have hm := hL.1
  obtain ⟨hS6, hA10, hRP, hP58, hP2, hd64, htm⟩ := lr_b hl
  refine rb_iload C dL_law_1189 rfl ?_
  refine rb_iconst C dL_law_1191 (v := 4) (by decide) ?_
  refine rb_callS C M_L_124 (fun l X => (k_L_low l X G W _ 4 (by decide) (by decide)).m) dL_law_1192 rfl rfl rfl (Nat.le_of_ble_eq_true rfl) ⟨(Nat.le_of_ble_eq_true rfl), (Nat.le_of_ble_eq_true rfl)⟩ (by omega) (by omega) (fun v G' hp => ?_) (fun _ _ hp => hp.elim)
  obtain ⟨m9, hm9, rfl, e9⟩ := hp
  rw [e9]
  clear e9 G'
  refine rb_istore C dL_law_1195 (Nat.le_of_ble_eq_true rfl) rfl (Lv' := [_, _, _, _, _, _, _, _, _, _, _, _, _, _, _, _, _, _, _, _, _, _, _, _, _, _, _, _, _, _, _, _, _, _, _, _, _, _, _, _, _, _, _, _, _, _, _, _, _, _, _, _, _, _]) rfl ?_
  refine rb_aload_n C dL_law_1197 rfl ?_
  refine rb_iload C dL_law_1198 rfl ?_
  refine rb_iload C dL_law_1200 rfl ?_
  refine rb_callSW C M_L_161 (fun l X => c_lose l X G W M hL hl (n := n) (m := m9) hn (by omega)) dL_law_1202 rfl rfl rfl (Nat.le_of_ble_eq_true rfl) ⟨(Nat.le_of_ble_eq_true rfl), (Nat.le_of_ble_eq_true rfl)⟩ (by omega) (by omega) (fun v G' hp => ?_)
  obtain ⟨rfl, G2, W2, e9, hL2, hw2⟩ := hp
  rw [e9]
  clear e9 G'
  have hl2 := lx_lw hl hw2
  have hm := hL2.1
  refine rb_aload_n C dL_law_1205 rfl ?_
  refine rb_bipush C dL_law_1206 (v := 12) (by decide) ?_
  refine rb_iload C dL_law_1208 rfl ?_
  refine rq_iadd C (z := (nI (12 + n))) dL_law_1210 (nI_add 12 n) ?_
  refine rw_iald C (x := (M (14, 6, 0) n)) 44 (12 + n) dL_law_1211 rfl (hm 0 (by decide)) (vp_in_nI (show 12 + n < 44 by omega) (by decide)) (nI_clamp (show 12 + n < 2 ^ 31 by omega)) ((lr_N hl2 (n := n) (by omega)).2.2.2.1) ?_
  refine rb_icmp_ne C 1219 dL_law_1212 (by decide) (fun h9 => absurd (rfl) h9) (fun _ => ?_)
  refine rb_iconst C dL_law_1215 (v := 1) (by decide) ?_
  refine rb_goto C 1220 dL_law_1216 (by decide) ?_
  refine rb_istore C dL_law_1220 (Nat.le_of_ble_eq_true rfl) rfl (Lv' := [_, _, _, _, _, _, _, _, _, _, _, _, _, _, _, _, _, _, _, _, _, _, _, _, _, _, _, _, _, _, _, _, _, _, _, _, _, _, _, _, _, _, _, _, _, _, _, _, _, _, _, _, _, _]) rfl ?_
  refine rb_aload_n C dL_law_1222 rfl ?_
  refine rb_bipush C dL_law_1223 (v := 12) (by decide) ?_
  refine rb_iload C dL_law_1225 rfl ?_
  refine rq_iadd C (z := (nI (12 + n))) dL_law_1227 (nI_add 12 n) ?_
  refine rb_iload C dL_law_1228 rfl ?_
  refine rw_iast C 44 (12 + n) dL_law_1230 rfl (hm 0 (by decide)) (vp_in_nI (show 12 + n < 44 by omega) (by decide)) (nI_clamp (show 12 + n < 2 ^ 31 by omega)) ?_
  have hl3 := lu_los (lx_thr hl2 0) (j := n) hn (v := nI m9) (vp_in_nI (by omega) (by decide))
  have hL3 := LI_up hL2 0 (12 + n) (nI m9)
  generalize up2 W2 (14, 0, 0) (12 + n) (nI m9) = W3 at hl3 hL3 ⊢
  refine rb_goto C 3288 dL_law_1231 (by decide) ?_
  refine rb_W.unset 15 ?_
  refine rb_W.unset 16 ?_
  refine rb_W.unset 17 ?_
  refine rb_W.unset 33 ?_
  exact rb_W.room (kk G2 W3 (up2 (up2 M (16, 0, 0) 0 0) (14, 6, 0) n (nI m9)) ⟨hL3, _, _, _, _, _, _, hl3⟩) (by omega) (by omega)

set_option maxRecDepth 100000 in
set_option maxHeartbeats 4000000 in
theorem law_9 {Φ : rb_F} {cells slots : Nat} (C : rb_C Φ RL cL_law 54 15 568 734644 6897897) (hc : cells + 90 ≤ 734644) (hsl : slots + 2600 ≤ 6897897) {G : rb_G} {W M : rb_I} (hL : LI G W M) {S A R P t d : Nat} (hl : lx W M S A R P t d) (v u : Int32) (k n i j : Nat) (hk : k < 140) (hn : n < 6) (hi : i < S ∨ S = 0 ∧ i = 0) (hj : j < S ∨ S = 0 ∧ j = 0) (kk : ∀ G' W' M', lJ G' W' M' → rb_W Φ (cells + 90) (slots + 2600) 3288 (LVE k v u) [] (wI G' W')) : rb_W Φ cells slots 1372 (LV0 k v u n i j) [] (wI G W) := by
  show rb_W Φ cells slots 1372 [some (rbR (18, 0, 0)), some (rbR (0, 0, 0)), some (rbR (14, 0, 0)), some (rbR (14, 1, 0)), some (rbR (14, 2, 0)), some (rbR (14, 3, 0)), some (rbR (14, 4, 0)), some (rbR (14, 5, 0)), some (rbR (14, 6, 0)), some (rbR (14, 7, 0)), some (rbR (14, 8, 0)), some (rbR (14, 9, 0)), some (rbI (nI k)), some (rbI v), some (rbI u), some (rbI (nI n)), some (rbI (nI i)), some (rbI (nI j)), some (rbI 1), none, none, none, none, none, none, none, none, none, none, none, none, none, none, none, none, none, none, none, none, none, none, none, none, none, none, none, none, none, none, none, none, none, none, none] [] (wI G W)
  have hm := hL.1
  obtain ⟨hS6, hA10, hRP, hP58, hP2, hd64, htm⟩ := lr_b hl
  refine rb_aload_n C dL_law_1372 rfl ?_
  refine rb_iconst C dL_law_1373 (v := 1) (by decide) ?_
  refine rw_iald C (x := (nI S)) 44 (1) dL_law_1374 rfl (hm 0 (by decide)) (show ¬ (((1 : Int32)) < 0 ∨ 44 ≤ (1 : Int32).toNatClampNeg) by decide) rfl ((lr_g1 hl)) ?_
  refine rb_if_ne C 1381 dL_law_1375 (by decide) (fun h1375 => ?_) (fun h1375 => ?_)
  · replace h1375 := mt (nI_eq (a := S) (b := 0) (by omega) (by omega)).mpr h1375
    have hi9 : i < S := by omega
    refine rb_aload_n C dL_law_1381 rfl ?_
    refine rb_bipush C dL_law_1382 (v := 8) (by decide) ?_
    refine rb_iload C dL_law_1384 rfl ?_
    refine rq_imul C (z := (nI (8 * i))) dL_law_1386 (pk_mul 8 i) ?_
    refine rb_iconst C dL_law_1387 (v := 1) (by decide) ?_
    refine rq_iadd C (z := (nI (8 * i + 1))) dL_law_1388 (nI_add (8 * i) 1) ?_
    refine rb_iload C dL_law_1389 rfl ?_
    refine rb_iconst C dL_law_1391 (v := 4) (by decide) ?_
    refine rb_callS C M_L_124 (fun l X => (k_L_low l X G W _ 4 (by decide) (by decide)).m) dL_law_1392 rfl rfl rfl (Nat.le_of_ble_eq_true rfl) ⟨(Nat.le_of_ble_eq_true rfl), (Nat.le_of_ble_eq_true rfl)⟩ (by omega) (by omega) (fun v G' hp => ?_) (fun _ _ hp => hp.elim)
    obtain ⟨pl, hpl, rfl, e9⟩ := hp
    rw [e9]
    clear e9 G'
    refine rw_iast C 48 (8 * i + 1) dL_law_1395 rfl (hm 1 (by decide)) (vp_in_nI (show 8 * i + 1 < 48 by omega) (by decide)) (nI_clamp (show 8 * i + 1 < 2 ^ 31 by omega)) ?_
    have hl2 := lu_pl (lx_thr hl 0) (j := i) hi9 (v := nI pl) (vp_in_nI hpl (by decide))
    have hL2 := LI_up hL 1 (8 * i + 1) (nI pl)
    generalize up2 W (14, 1, 0) (8 * i + 1) (nI pl) = W2 at hl2 hL2 ⊢
    refine rb_aload_n C dL_law_1396 rfl ?_
    refine rb_bipush C dL_law_1397 (v := 8) (by decide) ?_
    refine rb_iload C dL_law_1399 rfl ?_
    refine rq_imul C (z := (nI (8 * i))) dL_law_1401 (pk_mul 8 i) ?_
    refine rb_iconst C dL_law_1402 (v := 4) (by decide) ?_
    refine rq_iadd C (z := (nI (8 * i + 4))) dL_law_1403 (nI_add (8 * i) 4) ?_
    refine rb_iconst C dL_law_1404 (v := 0) (by decide) ?_
    refine rw_iast C 48 (8 * i + 4) dL_law_1405 rfl (hm 1 (by decide)) (vp_in_nI (show 8 * i + 4 < 48 by omega) (by decide)) (nI_clamp (show 8 * i + 4 < 2 ^ 31 by omega)) ?_
    have hl3 := lu_st hl2 (j := i) hi9 (v := 0)
    have hL3 := LI_up hL2 1 (8 * i + 4) 0
    generalize up2 W2 (14, 1, 0) (8 * i + 4) 0 = W3 at hl3 hL3 ⊢
    refine rb_aload_n C dL_law_1406 rfl ?_
    refine rb_bipush C dL_law_1407 (v := 8) (by decide) ?_
    refine rb_iload C dL_law_1409 rfl ?_
    refine rq_imul C (z := (nI (8 * i))) dL_law_1411 (pk_mul 8 i) ?_
    refine rb_iconst C dL_law_1412 (v := 3) (by decide) ?_
    refine rq_iadd C (z := (nI (8 * i + 3))) dL_law_1413 (nI_add (8 * i) 3) ?_
    refine rw_iald C (x := (M (14, 19, 0) i)) 48 (8 * i + 3) dL_law_1414 rfl (hm 1 (by decide)) (vp_in_nI (show 8 * i + 3 < 48 by omega) (by decide)) (nI_clamp (show 8 * i + 3 < 2 ^ 31 by omega)) ((lr_x3 hl3 hi9).trans (by simp [up2])) ?_
    refine rb_iconst C dL_law_1415 (v := (-1)) (by decide) ?_
    refine rb_icmp_eq C 1458 dL_law_1416 (by decide) (fun h1416 => ?_) (fun h1416 => ?_)
    · refine rb_aload_n C dL_law_1458 rfl ?_
      refine rb_iload C dL_law_1459 rfl ?_
      refine rb_aload_n C dL_law_1461 rfl ?_
      refine rb_bipush C dL_law_1462 (v := 8) (by decide) ?_
      refine rb_iload C dL_law_1464 rfl ?_
      refine rq_imul C (z := (nI (8 * i))) dL_law_1466 (pk_mul 8 i) ?_
      refine rb_iconst C dL_law_1467 (v := 1) (by decide) ?_
      refine rq_iadd C (z := (nI (8 * i + 1))) dL_law_1468 (nI_add (8 * i) 1) ?_
      refine rw_iald C (x := (nI pl)) 48 (8 * i + 1) dL_law_1469 rfl (hm 1 (by decide)) (vp_in_nI (show 8 * i + 1 < 48 by omega) (by decide)) (nI_clamp (show 8 * i + 1 < 2 ^ 31 by omega)) ((lr_x1 hl3 hi9).trans (by simp [up2])) ?_
      refine rb_callSW C M_L_165 (fun l X => c_moveA l X G W3 M hL3 hl (s := i) (pl := pl) hi9 (by omega) (Or.inl h1416)) dL_law_1470 rfl rfl rfl (Nat.le_of_ble_eq_true rfl) ⟨(Nat.le_of_ble_eq_true rfl), (Nat.le_of_ble_eq_true rfl)⟩ (by omega) (by omega) (fun v G' hp => ?_)
      obtain ⟨rfl, G4, W4, e9, hL4, hw4⟩ := hp
      rw [e9]
      clear e9 G'
      have hl4 := lx_lw hl3 hw4
      have hm := hL4.1
      refine rb_aload_n C dL_law_1473 rfl ?_
      refine rb_bipush C dL_law_1474 (v := 8) (by decide) ?_
      refine rb_iload C dL_law_1476 rfl ?_
      refine rq_imul C (z := (nI (8 * i))) dL_law_1478 (pk_mul 8 i) ?_
      refine rb_iconst C dL_law_1479 (v := 3) (by decide) ?_
      refine rq_iadd C (z := (nI (8 * i + 3))) dL_law_1480 (nI_add (8 * i) 3) ?_
      refine rw_iald C (x := (M (14, 19, 0) i)) 48 (8 * i + 3) dL_law_1481 rfl (hm 1 (by decide)) (vp_in_nI (show 8 * i + 3 < 48 by omega) (by decide)) (nI_clamp (show 8 * i + 3 < 2 ^ 31 by omega)) ((lr_x3 hl4 hi9).trans (by simp [up2])) ?_
      refine rb_icmp_ne C 1489 dL_law_1482 (by decide) (fun h9 => absurd (rfl) h9) (fun _ => ?_)
      refine rb_iconst C dL_law_1485 (v := 1) (by decide) ?_
      refine rb_goto C 1490 dL_law_1486 (by decide) ?_
      refine rb_istore C dL_law_1490 (Nat.le_of_ble_eq_true rfl) rfl (Lv' := [_, _, _, _, _, _, _, _, _, _, _, _, _, _, _, _, _, _, _, _, _, _, _, _, _, _, _, _, _, _, _, _, _, _, _, _, _, _, _, _, _, _, _, _, _, _, _, _, _, _, _, _, _, _]) rfl ?_
      refine rb_goto C 3288 dL_law_1492 (by decide) ?_
      refine rb_W.unset 15 ?_
      refine rb_W.unset 16 ?_
      refine rb_W.unset 17 ?_
      exact rb_W.room (kk G4 W4 (up2 (up2 (up2 M (16, 0, 0) 0 0) (14, 17, 0) i (nI pl)) (14, 20, 0) i 0) ⟨hL4, _, _, _, _, _, _, hl4⟩) (by omega) (by omega)
    · refine rb_aload_n C dL_law_1419 rfl ?_
      refine rb_bipush C dL_law_1420 (v := 18) (by decide) ?_
      refine rb_aload_n C dL_law_1422 rfl ?_
      refine rb_bipush C dL_law_1423 (v := 8) (by decide) ?_
      refine rb_iload C dL_law_1425 rfl ?_
      refine rq_imul C (z := (nI (8 * i))) dL_law_1427 (pk_mul 8 i) ?_
      refine rb_iconst C dL_law_1428 (v := 1) (by decide) ?_
      refine rq_iadd C (z := (nI (8 * i + 1))) dL_law_1429 (nI_add (8 * i) 1) ?_
      refine rw_iald C (x := (nI pl)) 48 (8 * i + 1) dL_law_1430 rfl (hm 1 (by decide)) (vp_in_nI (show 8 * i + 1 < 48 by omega) (by decide)) (nI_clamp (show 8 * i + 1 < 2 ^ 31 by omega)) ((lr_x1 hl3 hi9).trans (by simp [up2])) ?_
      refine rq_iadd C (z := (nI (18 + pl))) dL_law_1431 (nI_add 18 pl) ?_
      refine rw_iald C (x := (M (14, 2, 0) pl)) 44 (18 + pl) dL_law_1432 rfl (hm 0 (by decide)) (vp_in_nI (show 18 + pl < 44 by omega) (by decide)) (nI_clamp (show 18 + pl < 2 ^ 31 by omega)) (((lr_R hl3 (p := pl) (by omega)).1).trans (by simp [up2])) ?_
      refine rb_aload_n C dL_law_1433 rfl ?_
      refine rb_bipush C dL_law_1434 (v := 8) (by decide) ?_
      refine rb_iload C dL_law_1436 rfl ?_
      refine rq_imul C (z := (nI (8 * i))) dL_law_1438 (pk_mul 8 i) ?_
      refine rb_iconst C dL_law_1439 (v := 3) (by decide) ?_
      refine rq_iadd C (z := (nI (8 * i + 3))) dL_law_1440 (nI_add (8 * i) 3) ?_
      refine rw_iald C (x := (M (14, 19, 0) i)) 48 (8 * i + 3) dL_law_1441 rfl (hm 1 (by decide)) (vp_in_nI (show 8 * i + 3 < 48 by omega) (by decide)) (nI_clamp (show 8 * i + 3 < 2 ^ 31 by omega)) ((lr_x3 hl3 hi9).trans (by simp [up2])) ?_
      refine rq_ishr C (z := ((M (14, 2, 0) pl) >>> ((M (14, 19, 0) i) &&& 31))) dL_law_1442 rfl ?_
      refine rb_iconst C dL_law_1443 (v := 1) (by decide) ?_
      refine rq_iand C (z := (((M (14, 2, 0) pl) >>> ((M (14, 19, 0) i) &&& 31)) &&& (1 : Int32))) dL_law_1444 rfl ?_
      refine rb_if_ne C 1458 dL_law_1445 (by decide) (fun h1445 => ?_) (fun h1445 => ?_)
      · refine rb_aload_n C dL_law_1458 rfl ?_
        refine rb_iload C dL_law_1459 rfl ?_
        refine rb_aload_n C dL_law_1461 rfl ?_
        refine rb_bipush C dL_law_1462 (v := 8) (by decide) ?_
        refine rb_iload C dL_law_1464 rfl ?_
        refine rq_imul C (z := (nI (8 * i))) dL_law_1466 (pk_mul 8 i) ?_
        refine rb_iconst C dL_law_1467 (v := 1) (by decide) ?_
        refine rq_iadd C (z := (nI (8 * i + 1))) dL_law_1468 (nI_add (8 * i) 1) ?_
        refine rw_iald C (x := (nI pl)) 48 (8 * i + 1) dL_law_1469 rfl (hm 1 (by decide)) (vp_in_nI (show 8 * i + 1 < 48 by omega) (by decide)) (nI_clamp (show 8 * i + 1 < 2 ^ 31 by omega)) ((lr_x1 hl3 hi9).trans (by simp [up2])) ?_
        refine rb_callSW C M_L_165 (fun l X => c_moveA l X G W3 M hL3 hl (s := i) (pl := pl) hi9 (by omega) (Or.inr (isIn_1 h1445))) dL_law_1470 rfl rfl rfl (Nat.le_of_ble_eq_true rfl) ⟨(Nat.le_of_ble_eq_true rfl), (Nat.le_of_ble_eq_true rfl)⟩ (by omega) (by omega) (fun v G' hp => ?_)
        obtain ⟨rfl, G5, W5, e9, hL5, hw5⟩ := hp
        rw [e9]
        clear e9 G'
        have hl5 := lx_lw hl3 hw5
        have hm := hL5.1
        refine rb_aload_n C dL_law_1473 rfl ?_
        refine rb_bipush C dL_law_1474 (v := 8) (by decide) ?_
        refine rb_iload C dL_law_1476 rfl ?_
        refine rq_imul C (z := (nI (8 * i))) dL_law_1478 (pk_mul 8 i) ?_
        refine rb_iconst C dL_law_1479 (v := 3) (by decide) ?_
        refine rq_iadd C (z := (nI (8 * i + 3))) dL_law_1480 (nI_add (8 * i) 3) ?_
        refine rw_iald C (x := (M (14, 19, 0) i)) 48 (8 * i + 3) dL_law_1481 rfl (hm 1 (by decide)) (vp_in_nI (show 8 * i + 3 < 48 by omega) (by decide)) (nI_clamp (show 8 * i + 3 < 2 ^ 31 by omega)) ((lr_x3 hl5 hi9).trans (by simp [up2])) ?_
        refine rb_icmp_ne C 1489 dL_law_1482 (by decide) (fun h9 => absurd (rfl) h9) (fun _ => ?_)
        refine rb_iconst C dL_law_1485 (v := 1) (by decide) ?_
        refine rb_goto C 1490 dL_law_1486 (by decide) ?_
        refine rb_istore C dL_law_1490 (Nat.le_of_ble_eq_true rfl) rfl (Lv' := [_, _, _, _, _, _, _, _, _, _, _, _, _, _, _, _, _, _, _, _, _, _, _, _, _, _, _, _, _, _, _, _, _, _, _, _, _, _, _, _, _, _, _, _, _, _, _, _, _, _, _, _, _, _]) rfl ?_
        refine rb_goto C 3288 dL_law_1492 (by decide) ?_
        refine rb_W.unset 15 ?_
        refine rb_W.unset 16 ?_
        refine rb_W.unset 17 ?_
        exact rb_W.room (kk G5 W5 (up2 (up2 (up2 M (16, 0, 0) 0 0) (14, 17, 0) i (nI pl)) (14, 20, 0) i 0) ⟨hL5, _, _, _, _, _, _, hl5⟩) (by omega) (by omega)
      · refine rb_aload_n C dL_law_1448 rfl ?_
        refine rb_bipush C dL_law_1449 (v := 8) (by decide) ?_
        refine rb_iload C dL_law_1451 rfl ?_
        refine rq_imul C (z := (nI (8 * i))) dL_law_1453 (pk_mul 8 i) ?_
        refine rb_iconst C dL_law_1454 (v := 3) (by decide) ?_
        refine rq_iadd C (z := (nI (8 * i + 3))) dL_law_1455 (nI_add (8 * i) 3) ?_
        refine rb_iconst C dL_law_1456 (v := (-1)) (by decide) ?_
        refine rw_iast C 48 (8 * i + 3) dL_law_1457 rfl (hm 1 (by decide)) (vp_in_nI (show 8 * i + 3 < 48 by omega) (by decide)) (nI_clamp (show 8 * i + 3 < 2 ^ 31 by omega)) ?_
        have hl6 := lu_at hl3 (j := i) hi9 (v := -1) (Or.inl rfl)
        have hL6 := LI_up hL3 1 (8 * i + 3) (-1)
        generalize up2 W3 (14, 1, 0) (8 * i + 3) (-1) = W6 at hl6 hL6 ⊢
        refine rb_aload_n C dL_law_1458 rfl ?_
        refine rb_iload C dL_law_1459 rfl ?_
        refine rb_aload_n C dL_law_1461 rfl ?_
        refine rb_bipush C dL_law_1462 (v := 8) (by decide) ?_
        refine rb_iload C dL_law_1464 rfl ?_
        refine rq_imul C (z := (nI (8 * i))) dL_law_1466 (pk_mul 8 i) ?_
        refine rb_iconst C dL_law_1467 (v := 1) (by decide) ?_
        refine rq_iadd C (z := (nI (8 * i + 1))) dL_law_1468 (nI_add (8 * i) 1) ?_
        refine rw_iald C (x := (nI pl)) 48 (8 * i + 1) dL_law_1469 rfl (hm 1 (by decide)) (vp_in_nI (show 8 * i + 1 < 48 by omega) (by decide)) (nI_clamp (show 8 * i + 1 < 2 ^ 31 by omega)) ((lr_x1 hl6 hi9).trans (by simp [up2])) ?_
        refine rb_callSW C M_L_165 (fun l X => c_moveB l X G W6 M hL6 hl (s := i) (pl := pl) hi9 (by omega) h1416 (isIn_0 h1445)) dL_law_1470 rfl rfl rfl (Nat.le_of_ble_eq_true rfl) ⟨(Nat.le_of_ble_eq_true rfl), (Nat.le_of_ble_eq_true rfl)⟩ (by omega) (by omega) (fun v G' hp => ?_)
        obtain ⟨rfl, G7, W7, e9, hL7, hw7⟩ := hp
        rw [e9]
        clear e9 G'
        have hl7 := lx_lw hl6 hw7
        have hm := hL7.1
        refine rb_aload_n C dL_law_1473 rfl ?_
        refine rb_bipush C dL_law_1474 (v := 8) (by decide) ?_
        refine rb_iload C dL_law_1476 rfl ?_
        refine rq_imul C (z := (nI (8 * i))) dL_law_1478 (pk_mul 8 i) ?_
        refine rb_iconst C dL_law_1479 (v := 3) (by decide) ?_
        refine rq_iadd C (z := (nI (8 * i + 3))) dL_law_1480 (nI_add (8 * i) 3) ?_
        refine rw_iald C (x := (-1 : Int32)) 48 (8 * i + 3) dL_law_1481 rfl (hm 1 (by decide)) (vp_in_nI (show 8 * i + 3 < 48 by omega) (by decide)) (nI_clamp (show 8 * i + 3 < 2 ^ 31 by omega)) ((lr_x3 hl7 hi9).trans (by simp [up2])) ?_
        refine rb_icmp_ne C 1489 dL_law_1482 (by decide) (fun h9 => absurd (by decide) h9) (fun _ => ?_)
        refine rb_iconst C dL_law_1485 (v := 1) (by decide) ?_
        refine rb_goto C 1490 dL_law_1486 (by decide) ?_
        refine rb_istore C dL_law_1490 (Nat.le_of_ble_eq_true rfl) rfl (Lv' := [_, _, _, _, _, _, _, _, _, _, _, _, _, _, _, _, _, _, _, _, _, _, _, _, _, _, _, _, _, _, _, _, _, _, _, _, _, _, _, _, _, _, _, _, _, _, _, _, _, _, _, _, _, _]) rfl ?_
        refine rb_goto C 3288 dL_law_1492 (by decide) ?_
        refine rb_W.unset 15 ?_
        refine rb_W.unset 16 ?_
        refine rb_W.unset 17 ?_
        exact rb_W.room (kk G7 W7 (up2 (up2 (up2 (up2 M (16, 0, 0) 0 0) (14, 17, 0) i (nI pl)) (14, 20, 0) i 0) (14, 19, 0) i (-1)) ⟨hL7, _, _, _, _, _, _, hl7⟩) (by omega) (by omega)
  · replace h1375 := (nI_eq (a := S) (b := 0) (by omega) (by omega)).mp h1375
    refine rb_goto C 3288 dL_law_1378 (by decide) ?_
    refine rb_W.unset 15 ?_
    refine rb_W.unset 16 ?_
    refine rb_W.unset 17 ?_
    exact rb_W.room (kk G W M ⟨hL, _, _, _, _, _, _, hl⟩) (by omega) (by omega)

set_option maxRecDepth 100000 in
set_option maxHeartbeats 4000000 in
theorem law_10 {Φ : rb_F} {cells slots : Nat} (C : rb_C Φ RL cL_law 54 15 568 734644 6897897) (hc : cells + 90 ≤ 734644) (hsl : slots + 2600 ≤ 6897897) {G : rb_G} {W M : rb_I} (hL : LI G W M) {S A R P t d : Nat} (hl : lx W M S A R P t d) (v u : Int32) (k n i j : Nat) (hk : k < 140) (hn : n < 6) (hi : i < S ∨ S = 0 ∧ i = 0) (hj : j < S ∨ S = 0 ∧ j = 0) (kk : ∀ G' W' M', lJ G' W' M' → rb_W Φ (cells + 90) (slots + 2600) 3288 (LVE k v u) [] (wI G' W')) : rb_W Φ cells slots 1495 (LV0 k v u n i j) [] (wI G W) := by
  show rb_W Φ cells slots 1495 [some (rbR (18, 0, 0)), some (rbR (0, 0, 0)), some (rbR (14, 0, 0)), some (rbR (14, 1, 0)), some (rbR (14, 2, 0)), some (rbR (14, 3, 0)), some (rbR (14, 4, 0)), some (rbR (14, 5, 0)), some (rbR (14, 6, 0)), some (rbR (14, 7, 0)), some (rbR (14, 8, 0)), some (rbR (14, 9, 0)), some (rbI (nI k)), some (rbI v), some (rbI u), some (rbI (nI n)), some (rbI (nI i)), some (rbI (nI j)), some (rbI 1), none, none, none, none, none, none, none, none, none, none, none, none, none, none, none, none, none, none, none, none, none, none, none, none, none, none, none, none, none, none, none, none, none, none, none] [] (wI G W)
  have hm := hL.1
  obtain ⟨hS6, hA10, hRP, hP58, hP2, hd64, htm⟩ := lr_b hl
  refine rb_aload_n C dL_law_1495 rfl ?_
  refine rb_iconst C dL_law_1496 (v := 1) (by decide) ?_
  refine rw_iald C (x := (nI S)) 44 (1) dL_law_1497 rfl (hm 0 (by decide)) (show ¬ (((1 : Int32)) < 0 ∨ 44 ≤ (1 : Int32).toNatClampNeg) by decide) rfl ((lr_g1 hl)) ?_
  refine rb_if_eq C 3288 dL_law_1498 (by decide) (fun h1498 => ?_) (fun h1498 => ?_)
  · replace h1498 := (nI_eq (a := S) (b := 0) (by omega) (by omega)).mp h1498
    refine rb_W.unset 15 ?_
    refine rb_W.unset 16 ?_
    refine rb_W.unset 17 ?_
    exact rb_W.room (kk G W M ⟨hL, _, _, _, _, _, _, hl⟩) (by omega) (by omega)
  · replace h1498 := mt (nI_eq (a := S) (b := 0) (by omega) (by omega)).mpr h1498
    have hi9 : i < S := by omega
    refine rb_iload C dL_law_1501 rfl ?_
    refine rb_bipush C dL_law_1503 (v := 6) (by decide) ?_
    refine rq_iand C (z := (u &&& (6 : Int32))) dL_law_1505 rfl ?_
    refine rb_if_le C 1512 dL_law_1506 (by decide) (fun h1506 => ?_) (fun h1506 => ?_)
    · refine rb_aload_n C dL_law_1512 rfl ?_
      refine rb_iload C dL_law_1513 rfl ?_
      refine rb_callSW C M_L_167 (fun l X => c_off l X G W M hL hl (s := i) hi9) dL_law_1515 rfl rfl rfl (Nat.le_of_ble_eq_true rfl) ⟨(Nat.le_of_ble_eq_true rfl), (Nat.le_of_ble_eq_true rfl)⟩ (by omega) (by omega) (fun v G' hp => ?_)
      obtain ⟨rfl, G1, W1, e9, hL1, hw1⟩ := hp
      rw [e9]
      clear e9 G'
      have hl1 := lx_lw hl hw1
      have hm := hL1.1
      refine rb_aload_n C dL_law_1518 rfl ?_
      refine rb_bipush C dL_law_1519 (v := 8) (by decide) ?_
      refine rb_iload C dL_law_1521 rfl ?_
      refine rq_imul C (z := (nI (8 * i))) dL_law_1523 (pk_mul 8 i) ?_
      refine rb_iconst C dL_law_1524 (v := 3) (by decide) ?_
      refine rq_iadd C (z := (nI (8 * i + 3))) dL_law_1525 (nI_add (8 * i) 3) ?_
      refine rw_iald C (x := (M (14, 19, 0) i)) 48 (8 * i + 3) dL_law_1526 rfl (hm 1 (by decide)) (vp_in_nI (show 8 * i + 3 < 48 by omega) (by decide)) (nI_clamp (show 8 * i + 3 < 2 ^ 31 by omega)) ((lr_x3 hl1 (s := i) (by omega))) ?_
      refine rb_icmp_ne C 1534 dL_law_1527 (by decide) (fun h9 => absurd (rfl) h9) (fun _ => ?_)
      refine rb_iconst C dL_law_1530 (v := 1) (by decide) ?_
      refine rb_goto C 1535 dL_law_1531 (by decide) ?_
      refine rb_istore C dL_law_1535 (Nat.le_of_ble_eq_true rfl) rfl (Lv' := [_, _, _, _, _, _, _, _, _, _, _, _, _, _, _, _, _, _, _, _, _, _, _, _, _, _, _, _, _, _, _, _, _, _, _, _, _, _, _, _, _, _, _, _, _, _, _, _, _, _, _, _, _, _]) rfl ?_
      refine rb_aload_n C dL_law_1537 rfl ?_
      refine rb_bipush C dL_law_1538 (v := 8) (by decide) ?_
      refine rb_iload C dL_law_1540 rfl ?_
      refine rq_imul C (z := (nI (8 * i))) dL_law_1542 (pk_mul 8 i) ?_
      refine rb_iconst C dL_law_1543 (v := 3) (by decide) ?_
      refine rq_iadd C (z := (nI (8 * i + 3))) dL_law_1544 (nI_add (8 * i) 3) ?_
      refine rb_iconst C dL_law_1545 (v := (-1)) (by decide) ?_
      refine rw_iast C 48 (8 * i + 3) dL_law_1546 rfl (hm 1 (by decide)) (vp_in_nI (show 8 * i + 3 < 48 by omega) (by decide)) (nI_clamp (show 8 * i + 3 < 2 ^ 31 by omega)) ?_
      have hl2 := lu_at (lx_thr hl1 0) (j := i) hi9 (v := -1) (Or.inl rfl)
      have hL2 := LI_up hL1 1 (8 * i + 3) (-1)
      generalize up2 W1 (14, 1, 0) (8 * i + 3) (-1) = W2 at hl2 hL2 ⊢
      refine rb_goto C 3288 dL_law_1547 (by decide) ?_
      refine rb_W.unset 15 ?_
      refine rb_W.unset 16 ?_
      refine rb_W.unset 17 ?_
      exact rb_W.room (kk G1 W2 (up2 (up2 M (16, 0, 0) 0 0) (14, 19, 0) i (-1)) ⟨hL2, _, _, _, _, _, _, hl2⟩) (by omega) (by omega)
    · refine rb_goto C 3288 dL_law_1509 (by decide) ?_
      refine rb_W.unset 15 ?_
      refine rb_W.unset 16 ?_
      refine rb_W.unset 17 ?_
      exact rb_W.room (kk G W M ⟨hL, _, _, _, _, _, _, hl⟩) (by omega) (by omega)

theorem cb_e {M : rb_I} {n : Nat} (hn : n < 1000) (i : Nat) (s : Int32) : m_crash_b M (nI n) i s = if M (14, 27, 0) (10 * n + i) = -1 then s + 0 else s + 1 := by
  unfold m_crash_b
  rw [cl_ (by omega)]
theorem cr_10 {W M : rb_I} {S A R P t d n : Nat} (hl : lx W M S A R P t d) (hn : n < 6) : fo (m_crash_b M (nI n)) 10 0 = fo (m_crash_b M (nI n)) 6 0 := by
  have hb := lr_b hl
  have z : ∀ i, 6 ≤ i → i < 10 → M (14, 27, 0) (10 * n + i) = -1 := fun i h1 h2 => hl.2.2.2.2.2.1.2 n i hn (by omega) h2
  rw [fo_s, fo_s, fo_s, fo_s, cb_e (by omega), cb_e (by omega), cb_e (by omega), cb_e (by omega), if_pos (z 9 (by decide) (by decide)), if_pos (z 8 (by decide) (by decide)), if_pos (z 7 (by decide) (by decide)), if_pos (z 6 (by decide) (by decide))]
  simp

set_option maxRecDepth 100000 in
set_option maxHeartbeats 4000000 in
theorem law_11 {Φ : rb_F} {cells slots : Nat} (C : rb_C Φ RL cL_law 54 15 568 734644 6897897) (hc : cells + 90 ≤ 734644) (hsl : slots + 2600 ≤ 6897897) {G : rb_G} {W M : rb_I} (hL : LI G W M) {S A R P t d : Nat} (hl : lx W M S A R P t d) (v u : Int32) (k n i j : Nat) (hk : k < 140) (hn : n < 6) (hi : i < S ∨ S = 0 ∧ i = 0) (hj : j < S ∨ S = 0 ∧ j = 0) (kk : ∀ G' W' M', lJ G' W' M' → rb_W Φ (cells + 90) (slots + 2600) 3288 (LVE k v u) [] (wI G' W')) : rb_W Φ cells slots 1550 (LV0 k v u n i j) [] (wI G W) := by
  show rb_W Φ cells slots 1550 [some (rbR (18, 0, 0)), some (rbR (0, 0, 0)), some (rbR (14, 0, 0)), some (rbR (14, 1, 0)), some (rbR (14, 2, 0)), some (rbR (14, 3, 0)), some (rbR (14, 4, 0)), some (rbR (14, 5, 0)), some (rbR (14, 6, 0)), some (rbR (14, 7, 0)), some (rbR (14, 8, 0)), some (rbR (14, 9, 0)), some (rbI (nI k)), some (rbI v), some (rbI u), some (rbI (nI n)), some (rbI (nI i)), some (rbI (nI j)), some (rbI 1), none, none, none, none, none, none, none, none, none, none, none, none, none, none, none, none, none, none, none, none, none, none, none, none, none, none, none, none, none, none, none, none, none, none, none] [] (wI G W)
  have hm := hL.1
  obtain ⟨hS6, hA10, hRP, hP58, hP2, hd64, htm⟩ := lr_b hl
  refine rb_iconst C dL_law_1550 (v := 0) (by decide) ?_
  refine rb_istore C dL_law_1551 (Nat.le_of_ble_eq_true rfl) rfl (Lv' := [_, _, _, _, _, _, _, _, _, _, _, _, _, _, _, _, _, _, _, _, _, _, _, _, _, _, _, _, _, _, _, _, _, _, _, _, _, _, _, _, _, _, _, _, _, _, _, _, _, _, _, _, _, _]) rfl ?_
  refine rb_iconst C dL_law_1553 (v := 0) (by decide) ?_
  refine rb_istore C dL_law_1554 (Nat.le_of_ble_eq_true rfl) rfl (Lv' := [_, _, _, _, _, _, _, _, _, _, _, _, _, _, _, _, _, _, _, _, _, _, _, _, _, _, _, _, _, _, _, _, _, _, _, _, _, _, _, _, _, _, _, _, _, _, _, _, _, _, _, _, _, _]) rfl ?_
  have loop1556 : ∀ (dd : Nat) (q : Nat), q + dd = 6 → rb_W Φ cells slots 1556 [some (rbR (18, 0, 0)), some (rbR (0, 0, 0)), some (rbR (14, 0, 0)), some (rbR (14, 1, 0)), some (rbR (14, 2, 0)), some (rbR (14, 3, 0)), some (rbR (14, 4, 0)), some (rbR (14, 5, 0)), some (rbR (14, 6, 0)), some (rbR (14, 7, 0)), some (rbR (14, 8, 0)), some (rbR (14, 9, 0)), some (rbI (nI k)), some (rbI v), some (rbI u), some (rbI (nI n)), some (rbI (nI i)), some (rbI (nI j)), some (rbI 1), none, none, none, none, none, none, none, none, none, none, none, none, none, none, none, none, some (rbI (fo (m_crash_b M (nI n)) q 0)), some (rbI (nI q)), none, none, none, none, none, none, none, none, none, none, none, none, none, none, none, none, none] [] (wI G W) := by
    intro dd
    induction dd with
    | zero =>
      intro q hq
      refine rb_iload C dL_law_1556 rfl ?_
      refine rb_bipush C dL_law_1558 (v := 6) (by decide) ?_
      refine rb_icmp_ge C 1594 dL_law_1560 (by decide) (fun _ => ?_) (fun h9 => absurd ((nI_le (a := 6) (b := q) (by omega) (by omega))) h9)
      refine rb_aload_n C dL_law_1594 rfl ?_
      refine rb_iload C dL_law_1595 rfl ?_
      refine rb_callSW C M_L_169 (fun l X => c_crash l X G W M hL hl (n := n) hn) dL_law_1597 rfl rfl rfl (Nat.le_of_ble_eq_true rfl) ⟨(Nat.le_of_ble_eq_true rfl), (Nat.le_of_ble_eq_true rfl)⟩ (by omega) (by omega) (fun v G' hp => ?_)
      obtain ⟨rfl, G1, W1, e9, hL1, hw1⟩ := hp
      rw [e9]
      clear e9 G'
      have hl1 := lx_lw hl hw1
      have hm := hL1.1
      refine rb_iload C dL_law_1600 rfl ?_
      refine rb_icmp_ne C 1609 dL_law_1602 (by decide) (fun h9 => absurd ((by rw [cr_10 hl hn, show q = 6 by omega])) h9) (fun _ => ?_)
      refine rb_iconst C dL_law_1605 (v := 1) (by decide) ?_
      refine rb_goto C 1610 dL_law_1606 (by decide) ?_
      refine rb_istore C dL_law_1610 (Nat.le_of_ble_eq_true rfl) rfl (Lv' := [_, _, _, _, _, _, _, _, _, _, _, _, _, _, _, _, _, _, _, _, _, _, _, _, _, _, _, _, _, _, _, _, _, _, _, _, _, _, _, _, _, _, _, _, _, _, _, _, _, _, _, _, _, _]) rfl ?_
      refine rb_iconst C dL_law_1612 (v := 0) (by decide) ?_
      refine rb_istore C dL_law_1613 (Nat.le_of_ble_eq_true rfl) rfl (Lv' := [_, _, _, _, _, _, _, _, _, _, _, _, _, _, _, _, _, _, _, _, _, _, _, _, _, _, _, _, _, _, _, _, _, _, _, _, _, _, _, _, _, _, _, _, _, _, _, _, _, _, _, _, _, _]) rfl ?_
      have loop1615 : ∀ (dd : Nat) (q : Nat) (W : rb_I), q + dd = 6 → LI G1 W (m_empties (up2 M (16, 0, 0) 0 0) (nI n)) → lx W (fo (m_empties_b (nI n)) q (up2 M (16, 0, 0) 0 0)) S A R P t d → rb_W Φ (cells + 12) (slots + 72) 1615 [some (rbR (18, 0, 0)), some (rbR (0, 0, 0)), some (rbR (14, 0, 0)), some (rbR (14, 1, 0)), some (rbR (14, 2, 0)), some (rbR (14, 3, 0)), some (rbR (14, 4, 0)), some (rbR (14, 5, 0)), some (rbR (14, 6, 0)), some (rbR (14, 7, 0)), some (rbR (14, 8, 0)), some (rbR (14, 9, 0)), some (rbI (nI k)), some (rbI v), some (rbI u), some (rbI (nI n)), some (rbI (nI i)), some (rbI (nI j)), some (rbI 1), none, none, none, none, none, none, none, none, none, none, none, none, none, none, none, none, none, some (rbI (nI q)), none, none, none, none, none, none, none, none, none, none, none, none, none, none, none, none, none] [] (wI G1 W) := by
        intro dd
        induction dd with
        | zero =>
          intro q W hq hL hl
          refine rb_iload C dL_law_1615 rfl ?_
          refine rb_bipush C dL_law_1617 (v := 6) (by decide) ?_
          refine rb_icmp_ge C 1640 dL_law_1619 (by decide) (fun _ => ?_) (fun h9 => absurd ((nI_le (a := 6) (b := q) (by omega) (by omega))) h9)
          refine rb_goto C 3288 dL_law_1640 (by decide) ?_
          refine rb_W.unset 15 ?_
          refine rb_W.unset 16 ?_
          refine rb_W.unset 17 ?_
          refine rb_W.unset 36 ?_
          exact rb_W.room (kk G1 W (m_empties (up2 M (16, 0, 0) 0 0) (nI n)) ⟨hL, _, _, _, _, _, _, (em_four hn (by rw [show 6 = q by omega]; exact hl))⟩) (by omega) (by omega)
        | succ dd ih =>
          intro q W hq hL hl
          refine rb_iload C dL_law_1615 rfl ?_
          refine rb_bipush C dL_law_1617 (v := 6) (by decide) ?_
          refine rb_icmp_ge C 1640 dL_law_1619 (by decide) (fun h9 => absurd h9 ((nI_ge (a := q) (b := 6) (by omega) (by omega)))) (fun _ => ?_)
          refine rb_aload C dL_law_1622 rfl ?_
          refine rb_bipush C dL_law_1624 (v := 6) (by decide) ?_
          refine rb_iload C dL_law_1626 rfl ?_
          refine rq_imul C (z := (nI (6 * n))) dL_law_1628 (pk_mul 6 n) ?_
          refine rb_iload C dL_law_1629 rfl ?_
          refine rq_iadd C (z := (nI (6 * n + q))) dL_law_1631 (nI_add (6 * n) q) ?_
          refine rb_iconst C dL_law_1632 (v := (-1)) (by decide) ?_
          refine rw_iast C 36 (6 * n + q) dL_law_1633 rfl (hm 2 (by decide)) (vp_in_nI (show 6 * n + q < 36 by omega) (by decide)) (nI_clamp (show 6 * n + q < 2 ^ 31 by omega)) ?_
          have hl2 := lu_bk hl (n0 := n) (j := q) hn (by omega) (v := -1) (Or.inl rfl)
          have hL2 := LI_up hL 2 (6 * n + q) (-1)
          generalize up2 W (14, 2, 0) (6 * n + q) (-1) = W2 at hl2 hL2 ⊢
          refine rq_iinc C dL_law_1634 rfl (v := (nI (q + 1))) (nI_1 q) rfl (Lv' := [_, _, _, _, _, _, _, _, _, _, _, _, _, _, _, _, _, _, _, _, _, _, _, _, _, _, _, _, _, _, _, _, _, _, _, _, _, _, _, _, _, _, _, _, _, _, _, _, _, _, _, _, _, _]) rfl ?_
          refine rb_goto C 1615 dL_law_1637 (by decide) ?_
          exact ih (q + 1) W2 (by omega) hL2 (by rw [fo_s, eb_e (by omega)]; exact hl2)
      refine rb_W.unset 35 ?_
      have h0 := loop1615 6 0 W1 (by omega) hL1 (by rw [fo_0]; exact lx_thr hl1 0)
      rw [nI_0] at h0
      exact h0
    | succ dd ih =>
      intro q hq
      refine rb_iload C dL_law_1556 rfl ?_
      refine rb_bipush C dL_law_1558 (v := 6) (by decide) ?_
      refine rb_icmp_ge C 1594 dL_law_1560 (by decide) (fun h9 => absurd h9 ((nI_ge (a := q) (b := 6) (by omega) (by omega)))) (fun _ => ?_)
      refine rb_iload C dL_law_1563 rfl ?_
      refine rb_aload C dL_law_1565 rfl ?_
      refine rb_bipush C dL_law_1567 (v := 6) (by decide) ?_
      refine rb_iload C dL_law_1569 rfl ?_
      refine rq_imul C (z := (nI (6 * n))) dL_law_1571 (pk_mul 6 n) ?_
      refine rb_iload C dL_law_1572 rfl ?_
      refine rq_iadd C (z := (nI (6 * n + q))) dL_law_1574 (nI_add (6 * n) q) ?_
      refine rw_iald C (x := (M (14, 27, 0) (10 * n + q))) 36 (6 * n + q) dL_law_1575 rfl (hm 2 (by decide)) (vp_in_nI (show 6 * n + q < 36 by omega) (by decide)) (nI_clamp (show 6 * n + q < 2 ^ 31 by omega)) ((lr_bk hl (n := n) (s := q) (by omega) (by omega))) ?_
      refine rb_iconst C dL_law_1576 (v := (-1)) (by decide) ?_
      refine rb_icmp_ne C 1584 dL_law_1577 (by decide) (fun h1577 => ?_) (fun h1577 => ?_)
      · refine rb_iconst C dL_law_1584 (v := 1) (by decide) ?_
        refine rq_iadd C (z := (fo (m_crash_b M (nI n)) (q + 1) 0)) dL_law_1585 (by rw [fo_s, cb_e (by omega), if_neg h1577]) ?_
        refine rb_istore C dL_law_1586 (Nat.le_of_ble_eq_true rfl) rfl (Lv' := [_, _, _, _, _, _, _, _, _, _, _, _, _, _, _, _, _, _, _, _, _, _, _, _, _, _, _, _, _, _, _, _, _, _, _, _, _, _, _, _, _, _, _, _, _, _, _, _, _, _, _, _, _, _]) rfl ?_
        refine rq_iinc C dL_law_1588 rfl (v := (nI (q + 1))) (nI_1 q) rfl (Lv' := [_, _, _, _, _, _, _, _, _, _, _, _, _, _, _, _, _, _, _, _, _, _, _, _, _, _, _, _, _, _, _, _, _, _, _, _, _, _, _, _, _, _, _, _, _, _, _, _, _, _, _, _, _, _]) rfl ?_
        refine rb_goto C 1556 dL_law_1591 (by decide) ?_
        exact ih (q + 1) (by omega)
      · refine rb_iconst C dL_law_1580 (v := 0) (by decide) ?_
        refine rb_goto C 1585 dL_law_1581 (by decide) ?_
        refine rq_iadd C (z := (fo (m_crash_b M (nI n)) (q + 1) 0)) dL_law_1585 (by rw [fo_s, cb_e (by omega), if_pos h1577]) ?_
        refine rb_istore C dL_law_1586 (Nat.le_of_ble_eq_true rfl) rfl (Lv' := [_, _, _, _, _, _, _, _, _, _, _, _, _, _, _, _, _, _, _, _, _, _, _, _, _, _, _, _, _, _, _, _, _, _, _, _, _, _, _, _, _, _, _, _, _, _, _, _, _, _, _, _, _, _]) rfl ?_
        refine rq_iinc C dL_law_1588 rfl (v := (nI (q + 1))) (nI_1 q) rfl (Lv' := [_, _, _, _, _, _, _, _, _, _, _, _, _, _, _, _, _, _, _, _, _, _, _, _, _, _, _, _, _, _, _, _, _, _, _, _, _, _, _, _, _, _, _, _, _, _, _, _, _, _, _, _, _, _]) rfl ?_
        refine rb_goto C 1556 dL_law_1591 (by decide) ?_
        exact ih (q + 1) (by omega)
  have h0 := loop1556 6 0 (by omega)
  rw [fo_0, nI_0] at h0
  exact h0

set_option maxRecDepth 100000 in
set_option maxHeartbeats 4000000 in
theorem law_16 {Φ : rb_F} {cells slots : Nat} (C : rb_C Φ RL cL_law 54 15 568 734644 6897897) (hc : cells + 90 ≤ 734644) (hsl : slots + 2600 ≤ 6897897) {G : rb_G} {W M : rb_I} (hL : LI G W M) {S A R P t d : Nat} (hl : lx W M S A R P t d) (v u : Int32) (k n i j : Nat) (hk : k < 140) (hn : n < 6) (hi : i < S ∨ S = 0 ∧ i = 0) (hj : j < S ∨ S = 0 ∧ j = 0) (kk : ∀ G' W' M', lJ G' W' M' → rb_W Φ (cells + 90) (slots + 2600) 3288 (LVE k v u) [] (wI G' W')) : rb_W Φ cells slots 1897 (LV0 k v u n i j) [] (wI G W) := by
  show rb_W Φ cells slots 1897 [some (rbR (18, 0, 0)), some (rbR (0, 0, 0)), some (rbR (14, 0, 0)), some (rbR (14, 1, 0)), some (rbR (14, 2, 0)), some (rbR (14, 3, 0)), some (rbR (14, 4, 0)), some (rbR (14, 5, 0)), some (rbR (14, 6, 0)), some (rbR (14, 7, 0)), some (rbR (14, 8, 0)), some (rbR (14, 9, 0)), some (rbI (nI k)), some (rbI v), some (rbI u), some (rbI (nI n)), some (rbI (nI i)), some (rbI (nI j)), some (rbI 1), none, none, none, none, none, none, none, none, none, none, none, none, none, none, none, none, none, none, none, none, none, none, none, none, none, none, none, none, none, none, none, none, none, none, none] [] (wI G W)
  have hm := hL.1
  obtain ⟨hS6, hA10, hRP, hP58, hP2, hd64, htm⟩ := lr_b hl
  refine rb_aload_n C dL_law_1897 rfl ?_
  refine rb_iconst C dL_law_1898 (v := 1) (by decide) ?_
  refine rw_iald C (x := (nI S)) 44 (1) dL_law_1899 rfl (hm 0 (by decide)) (show ¬ (((1 : Int32)) < 0 ∨ 44 ≤ (1 : Int32).toNatClampNeg) by decide) rfl ((lr_g1 hl)) ?_
  refine rb_if_ne C 1906 dL_law_1900 (by decide) (fun h1900 => ?_) (fun h1900 => ?_)
  · replace h1900 := mt (nI_eq (a := S) (b := 0) (by omega) (by omega)).mpr h1900
    have hi9 : i < S := by omega
    refine rb_aload_n C dL_law_1906 rfl ?_
    refine rb_bipush C dL_law_1907 (v := 8) (by decide) ?_
    refine rb_iload C dL_law_1909 rfl ?_
    refine rq_imul C (z := (nI (8 * i))) dL_law_1911 (pk_mul 8 i) ?_
    refine rb_bipush C dL_law_1912 (v := 6) (by decide) ?_
    refine rq_iadd C (z := (nI (8 * i + 6))) dL_law_1914 (nI_add (8 * i) 6) ?_
    refine rb_iload C dL_law_1915 rfl ?_
    refine rb_iload C dL_law_1917 rfl ?_
    refine rb_ldc C dL_law_1919 N_L_180 ?_
    refine rq_iand C (z := (u &&& (33554432 : Int32))) dL_law_1921 rfl ?_
    have mg1922 : ∀ (bz : Nat) (hbz : bz = 500 ∨ bz = 6000), rb_W Φ cells slots 1934 [some (rbR (18, 0, 0)), some (rbR (0, 0, 0)), some (rbR (14, 0, 0)), some (rbR (14, 1, 0)), some (rbR (14, 2, 0)), some (rbR (14, 3, 0)), some (rbR (14, 4, 0)), some (rbR (14, 5, 0)), some (rbR (14, 6, 0)), some (rbR (14, 7, 0)), some (rbR (14, 8, 0)), some (rbR (14, 9, 0)), some (rbI (nI k)), some (rbI v), some (rbI u), some (rbI (nI n)), some (rbI (nI i)), some (rbI (nI j)), some (rbI 1), none, none, none, none, none, none, none, none, none, none, none, none, none, none, none, none, none, none, none, none, none, none, none, none, none, none, none, none, none, none, none, none, none, none, none] [rbI (nI bz), rbI u, rbI (nI (8 * i + 6)), rbR (14, 1, 0)] (wI G W) := by
      intro bz hbz
      refine rb_callS C M_L_124 (fun l X => (k_L_low l X G W _ bz (by omega) (by omega)).m) dL_law_1934 rfl rfl rfl (Nat.le_of_ble_eq_true rfl) ⟨(Nat.le_of_ble_eq_true rfl), (Nat.le_of_ble_eq_true rfl)⟩ (by omega) (by omega) (fun v G' hp => ?_) (fun _ _ hp => hp.elim)
      obtain ⟨c9, hc9, rfl, e9⟩ := hp
      rw [e9]
      clear e9 G'
      refine rw_iast C 48 (8 * i + 6) dL_law_1937 rfl (hm 1 (by decide)) (vp_in_nI (show 8 * i + 6 < 48 by omega) (by decide)) (nI_clamp (show 8 * i + 6 < 2 ^ 31 by omega)) ?_
      have hl2 := lu_cp (lx_thr hl 0) (j := i) hi9 (v := nI c9) (vp_in_nI (by omega) (by decide))
      have hL2 := LI_up hL 1 (8 * i + 6) (nI c9)
      generalize up2 W (14, 1, 0) (8 * i + 6) (nI c9) = W2 at hl2 hL2 ⊢
      refine rb_aload_n C dL_law_1938 rfl ?_
      refine rb_bipush C dL_law_1939 (v := 8) (by decide) ?_
      refine rb_iload C dL_law_1941 rfl ?_
      refine rq_imul C (z := (nI (8 * i))) dL_law_1943 (pk_mul 8 i) ?_
      refine rb_bipush C dL_law_1944 (v := 7) (by decide) ?_
      refine rq_iadd C (z := (nI (8 * i + 7))) dL_law_1946 (nI_add (8 * i) 7) ?_
      refine rb_iload C dL_law_1947 rfl ?_
      refine rb_bipush C dL_law_1949 (v := 7) (by decide) ?_
      refine rq_ishr C (z := (u >>> ((7 : Int32) &&& 31))) dL_law_1951 rfl ?_
      refine rb_iconst C dL_law_1952 (v := 1) (by decide) ?_
      refine rq_iand C (z := ((u >>> ((7 : Int32) &&& 31)) &&& (1 : Int32))) dL_law_1953 rfl ?_
      refine rw_iast C 48 (8 * i + 7) dL_law_1954 rfl (hm 1 (by decide)) (vp_in_nI (show 8 * i + 7 < 48 by omega) (by decide)) (nI_clamp (show 8 * i + 7 < 2 ^ 31 by omega)) ?_
      have hl3 := lu_cn hl2 (j := i) hi9 (v := ((u >>> ((7 : Int32) &&& 31)) &&& (1 : Int32))) (bs_1 _)
      have hL3 := LI_up hL2 1 (8 * i + 7) ((u >>> ((7 : Int32) &&& 31)) &&& (1 : Int32))
      generalize up2 W2 (14, 1, 0) (8 * i + 7) ((u >>> ((7 : Int32) &&& 31)) &&& (1 : Int32)) = W3 at hl3 hL3 ⊢
      refine rb_aload_n C dL_law_1955 rfl ?_
      refine rb_iload C dL_law_1956 rfl ?_
      refine rb_aload_n C dL_law_1958 rfl ?_
      refine rb_bipush C dL_law_1959 (v := 8) (by decide) ?_
      refine rb_iload C dL_law_1961 rfl ?_
      refine rq_imul C (z := (nI (8 * i))) dL_law_1963 (pk_mul 8 i) ?_
      refine rb_bipush C dL_law_1964 (v := 6) (by decide) ?_
      refine rq_iadd C (z := (nI (8 * i + 6))) dL_law_1966 (nI_add (8 * i) 6) ?_
      refine rw_iald C (x := (nI c9)) 48 (8 * i + 6) dL_law_1967 rfl (hm 1 (by decide)) (vp_in_nI (show 8 * i + 6 < 48 by omega) (by decide)) (nI_clamp (show 8 * i + 6 < 2 ^ 31 by omega)) ((lr_x6 hl3 hi9).trans (by simp [up2])) ?_
      refine rb_aload_n C dL_law_1968 rfl ?_
      refine rb_bipush C dL_law_1969 (v := 8) (by decide) ?_
      refine rb_iload C dL_law_1971 rfl ?_
      refine rq_imul C (z := (nI (8 * i))) dL_law_1973 (pk_mul 8 i) ?_
      refine rb_bipush C dL_law_1974 (v := 7) (by decide) ?_
      refine rq_iadd C (z := (nI (8 * i + 7))) dL_law_1976 (nI_add (8 * i) 7) ?_
      refine rw_iald C (x := ((u >>> ((7 : Int32) &&& 31)) &&& (1 : Int32))) 48 (8 * i + 7) dL_law_1977 rfl (hm 1 (by decide)) (vp_in_nI (show 8 * i + 7 < 48 by omega) (by decide)) (nI_clamp (show 8 * i + 7 < 2 ^ 31 by omega)) ((lr_x7 hl3 hi9).trans (by simp [up2])) ?_
      refine rb_iconst C dL_law_1978 (v := 1) (by decide) ?_
      refine rb_icmp_ne C 1986 dL_law_1979 (by decide) (fun h1979 => ?_) (fun h1979 => ?_)
      · refine rb_iconst C dL_law_1986 (v := 0) (by decide) ?_
        refine rb_callSW C M_L_181 (fun l X => c_cap l X G W3 M hL3 hl (s := i) (c := c9) hi9 (by omega) (co := 0) (by decide)) dL_law_1987 rfl rfl rfl (Nat.le_of_ble_eq_true rfl) ⟨(Nat.le_of_ble_eq_true rfl), (Nat.le_of_ble_eq_true rfl)⟩ (by omega) (by omega) (fun v G' hp => ?_)
        obtain ⟨rfl, G4, W4, e9, hL4, hw4⟩ := hp
        rw [e9]
        clear e9 G'
        have hl4 := lx_lw hl3 hw4
        have hm := hL4.1
        refine rb_if_ne C 1997 dL_law_1990 (by decide) (fun h9 => absurd (by decide) h9) (fun _ => ?_)
        refine rb_iconst C dL_law_1993 (v := 1) (by decide) ?_
        refine rb_goto C 1998 dL_law_1994 (by decide) ?_
        refine rb_istore C dL_law_1998 (Nat.le_of_ble_eq_true rfl) rfl (Lv' := [_, _, _, _, _, _, _, _, _, _, _, _, _, _, _, _, _, _, _, _, _, _, _, _, _, _, _, _, _, _, _, _, _, _, _, _, _, _, _, _, _, _, _, _, _, _, _, _, _, _, _, _, _, _]) rfl ?_
        refine rb_goto C 3288 dL_law_2000 (by decide) ?_
        refine rb_W.unset 15 ?_
        refine rb_W.unset 16 ?_
        refine rb_W.unset 17 ?_
        exact rb_W.room (kk G4 W4 (up2 (up2 (up2 M (16, 0, 0) 0 0) (14, 22, 0) i (nI c9)) (15, 23, 0) i 0) ⟨hL4, _, _, _, _, _, _, (by rw [show ((u >>> ((7 : Int32) &&& 31)) &&& (1 : Int32)) = 0 from (bs_1 _).resolve_right h1979] at hl4; exact hl4)⟩) (by omega) (by omega)
      · refine rb_iconst C dL_law_1982 (v := 1) (by decide) ?_
        refine rb_goto C 1987 dL_law_1983 (by decide) ?_
        refine rb_callSW C M_L_181 (fun l X => c_cap l X G W3 M hL3 hl (s := i) (c := c9) hi9 (by omega) (co := 1) (by decide)) dL_law_1987 rfl rfl rfl (Nat.le_of_ble_eq_true rfl) ⟨(Nat.le_of_ble_eq_true rfl), (Nat.le_of_ble_eq_true rfl)⟩ (by omega) (by omega) (fun v G' hp => ?_)
        obtain ⟨rfl, G5, W5, e9, hL5, hw5⟩ := hp
        rw [e9]
        clear e9 G'
        have hl5 := lx_lw hl3 hw5
        have hm := hL5.1
        refine rb_if_ne C 1997 dL_law_1990 (by decide) (fun h9 => absurd (by decide) h9) (fun _ => ?_)
        refine rb_iconst C dL_law_1993 (v := 1) (by decide) ?_
        refine rb_goto C 1998 dL_law_1994 (by decide) ?_
        refine rb_istore C dL_law_1998 (Nat.le_of_ble_eq_true rfl) rfl (Lv' := [_, _, _, _, _, _, _, _, _, _, _, _, _, _, _, _, _, _, _, _, _, _, _, _, _, _, _, _, _, _, _, _, _, _, _, _, _, _, _, _, _, _, _, _, _, _, _, _, _, _, _, _, _, _]) rfl ?_
        refine rb_goto C 3288 dL_law_2000 (by decide) ?_
        refine rb_W.unset 15 ?_
        refine rb_W.unset 16 ?_
        refine rb_W.unset 17 ?_
        exact rb_W.room (kk G5 W5 (up2 (up2 (up2 M (16, 0, 0) 0 0) (14, 22, 0) i (nI c9)) (15, 23, 0) i 1) ⟨hL5, _, _, _, _, _, _, (by rw [show ((u >>> ((7 : Int32) &&& 31)) &&& (1 : Int32)) = 1 from h1979] at hl5; exact hl5)⟩) (by omega) (by omega)
    refine rb_if_ne C 1931 dL_law_1922 (by decide) (fun h1922 => ?_) (fun h1922 => ?_)
    · refine rb_sipush C dL_law_1931 (v := 6000) (by decide) ?_
      exact mg1922 6000 (by omega)
    · refine rb_sipush C dL_law_1925 (v := 500) (by decide) ?_
      refine rb_goto C 1934 dL_law_1928 (by decide) ?_
      exact mg1922 500 (by omega)
  · replace h1900 := (nI_eq (a := S) (b := 0) (by omega) (by omega)).mp h1900
    refine rb_goto C 3288 dL_law_1903 (by decide) ?_
    refine rb_W.unset 15 ?_
    refine rb_W.unset 16 ?_
    refine rb_W.unset 17 ?_
    exact rb_W.room (kk G W M ⟨hL, _, _, _, _, _, _, hl⟩) (by omega) (by omega)

