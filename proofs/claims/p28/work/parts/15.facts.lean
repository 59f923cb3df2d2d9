/-! facts of the tables, by place (a program wrote them) -/
theorem ts_sub {ws : List Cond} (ps : List Nat) (hp : ws = ps.filterMap (fun i => lw_tbl[i]?)) (h : ws.all goodWord = true) : ∀ w ∈ ws, w ∈ TS := by
  intro w hw
  have h1 := List.all_eq_true.mp h w hw
  rw [hp] at hw
  obtain ⟨i, -, hi⟩ := List.mem_filterMap.mp hw
  exact ts_mem i hi h1
theorem inC_Jx4a65c : ∀ w ∈ u_ws RJx4a65c TJx4a65c 3, w ∈ TS := ts_sub [85, 81, 83] (by decide +kernel) (by decide +kernel)
theorem inC_X0 : ∀ w ∈ u_ws RX0 TX0 3, w ∈ TS := ts_sub [147, 149, 151] (by decide +kernel) (by decide +kernel)
theorem inC_X1 : ∀ w ∈ u_ws RX1 TX1 7, w ∈ TS := ts_sub [383, 385, 387, 389, 391, 393, 395] (by decide +kernel) (by decide +kernel)
theorem inC_X2 : ∀ w ∈ u_ws RX2 TX2 1, w ∈ TS := ts_sub [104] (by decide +kernel) (by decide +kernel)
theorem inC_X3 : ∀ w ∈ u_ws RX3 TX3 4, w ∈ TS := ts_sub [659, 661, 663, 665] (by decide +kernel) (by decide +kernel)
theorem inC_X4 : ∀ w ∈ u_ws RX4 TX4 5, w ∈ TS := ts_sub [691, 693, 695, 697, 699] (by decide +kernel) (by decide +kernel)
theorem inC_X5 : ∀ w ∈ u_ws RX5 TX5 7, w ∈ TS := ts_sub [119, 121, 123, 125, 127, 129, 131] (by decide +kernel) (by decide +kernel)
theorem inC_X6 : ∀ w ∈ u_ws RX6 TX6 11, w ∈ TS := ts_sub [521, 523, 525, 527, 529, 531, 533, 535, 537, 539, 541] (by decide +kernel) (by decide +kernel)
theorem inC_X7 : ∀ w ∈ u_ws RX7 TX7 7, w ∈ TS := ts_sub [161, 163, 165, 167, 169, 171, 173] (by decide +kernel) (by decide +kernel)
theorem F_Jx4a65c_9 : rb_Fld RJx4a65c 9 0 1 true false (.array (.object "java/lang/Object")) := ⟨RJx4a65c, TJx4a65c, 3, tyJx4a65c, rfl, inC_Jx4a65c, by decide, rfl, by decide, ts_mem 76 (by decide +kernel) rfl, tyJx4a65c_ok, nmJx4a65c, by decide +kernel, rfl, (fun h => nomatch h)⟩
theorem FR_Jx4a65c_9 : rb_FldR RJx4a65c 9 0 1 true := F_Jx4a65c_9.r
theorem F_Jx4a65c_48 : rb_Fld RJx4a65c 48 0 2 false false .int := ⟨RJx4a65c, TJx4a65c, 3, tyJx4a65c, rfl, inC_Jx4a65c, by decide, rfl, by decide, ts_mem 77 (by decide +kernel) rfl, tyJx4a65c_ok, nmJx4a65c, by decide +kernel, rfl, (fun h => nomatch h)⟩
theorem FR_Jx4a65c_48 : rb_FldR RJx4a65c 48 0 2 false := F_Jx4a65c_48.r
theorem F_Jxc12de_7 : rb_Fld RJxc12de 7 0 0 false false .int := ⟨RJx4a65c, TJx4a65c, 3, tyJx4a65c, rfl, inC_Jx4a65c, by decide, rfl, by decide, ts_mem 78 (by decide +kernel) rfl, tyJx4a65c_ok, nmJx4a65c, by decide +kernel, rfl, (fun h => nomatch h)⟩
theorem FR_Jxc12de_7 : rb_FldR RJxc12de 7 0 0 false := F_Jxc12de_7.r
theorem F_X2_9 : rb_Fld RX2 9 3 0 true true (.array .int) := ⟨RX2, TX2, 1, tyX2, rfl, inC_X2, by decide, rfl, by decide, ts_mem 103 (by decide +kernel) rfl, tyX2_ok, nmX2, by decide +kernel, rfl, (fun _ => rfl)⟩
theorem FR_X2_9 : rb_FldR RX2 9 3 0 true := F_X2_9.r
theorem F_X5_12 : rb_Fld RX5 12 6 0 true true (.object RX2) := ⟨RX5, TX5, 7, tyX5, rfl, inC_X5, by decide, rfl, by decide, ts_mem 107 (by decide +kernel) rfl, tyX5_ok, nmX5, by decide +kernel, rfl, (fun _ => rfl)⟩
theorem FR_X5_12 : rb_FldR RX5 12 6 0 true := F_X5_12.r
theorem FR_X7_74 : rb_FldR RX7 74 6 0 true := ⟨RX5, TX5, 7, rfl, inC_X5, by decide, rfl, by decide, ts_mem 108 (by decide +kernel) rfl⟩
theorem F_X7_70 : rb_Fld RX7 70 6 1 false false .boolean := ⟨RX5, TX5, 7, tyX5, rfl, inC_X5, by decide, rfl, by decide, ts_mem 109 (by decide +kernel) rfl, tyX5_ok, nmX5, by decide +kernel, rfl, (fun h => nomatch h)⟩
theorem FR_X7_70 : rb_FldR RX7 70 6 1 false := F_X7_70.r
theorem F_X5_18 : rb_Fld RX5 18 6 2 false false .int := ⟨RX5, TX5, 7, tyX5, rfl, inC_X5, by decide, rfl, by decide, ts_mem 110 (by decide +kernel) rfl, tyX5_ok, nmX5, by decide +kernel, rfl, (fun h => nomatch h)⟩
theorem FR_X5_18 : rb_FldR RX5 18 6 2 false := F_X5_18.r
theorem F_X7_108 : rb_Fld RX7 108 6 2 false false .int := ⟨RX5, TX5, 7, tyX5, rfl, inC_X5, by decide, rfl, by decide, ts_mem 111 (by decide +kernel) rfl, tyX5_ok, nmX5, by decide +kernel, rfl, (fun h => nomatch h)⟩
theorem FR_X7_108 : rb_FldR RX7 108 6 2 false := F_X7_108.r
theorem F_X5_22 : rb_Fld RX5 22 6 3 false false .int := ⟨RX5, TX5, 7, tyX5, rfl, inC_X5, by decide, rfl, by decide, ts_mem 112 (by decide +kernel) rfl, tyX5_ok, nmX5, by decide +kernel, rfl, (fun h => nomatch h)⟩
theorem FR_X5_22 : rb_FldR RX5 22 6 3 false := F_X5_22.r
theorem F_X7_111 : rb_Fld RX7 111 6 3 false false .int := ⟨RX5, TX5, 7, tyX5, rfl, inC_X5, by decide, rfl, by decide, ts_mem 113 (by decide +kernel) rfl, tyX5_ok, nmX5, by decide +kernel, rfl, (fun h => nomatch h)⟩
theorem FR_X7_111 : rb_FldR RX7 111 6 3 false := F_X7_111.r
theorem F_X5_25 : rb_Fld RX5 25 6 4 false false .int := ⟨RX5, TX5, 7, tyX5, rfl, inC_X5, by decide, rfl, by decide, ts_mem 114 (by decide +kernel) rfl, tyX5_ok, nmX5, by decide +kernel, rfl, (fun h => nomatch h)⟩
theorem FR_X5_25 : rb_FldR RX5 25 6 4 false := F_X5_25.r
theorem F_X7_114 : rb_Fld RX7 114 6 4 false false .int := ⟨RX5, TX5, 7, tyX5, rfl, inC_X5, by decide, rfl, by decide, ts_mem 115 (by decide +kernel) rfl, tyX5_ok, nmX5, by decide +kernel, rfl, (fun h => nomatch h)⟩
theorem FR_X7_114 : rb_FldR RX7 114 6 4 false := F_X7_114.r
theorem F_X5_28 : rb_Fld RX5 28 6 5 false false .int := ⟨RX5, TX5, 7, tyX5, rfl, inC_X5, by decide, rfl, by decide, ts_mem 116 (by decide +kernel) rfl, tyX5_ok, nmX5, by decide +kernel, rfl, (fun h => nomatch h)⟩
theorem FR_X5_28 : rb_FldR RX5 28 6 5 false := F_X5_28.r
theorem F_X7_117 : rb_Fld RX7 117 6 5 false false .int := ⟨RX5, TX5, 7, tyX5, rfl, inC_X5, by decide, rfl, by decide, ts_mem 117 (by decide +kernel) rfl, tyX5_ok, nmX5, by decide +kernel, rfl, (fun h => nomatch h)⟩
theorem FR_X7_117 : rb_FldR RX7 117 6 5 false := F_X7_117.r
theorem F_X7_120 : rb_Fld RX7 120 6 6 false false .int := ⟨RX5, TX5, 7, tyX5, rfl, inC_X5, by decide, rfl, by decide, ts_mem 118 (by decide +kernel) rfl, tyX5_ok, nmX5, by decide +kernel, rfl, (fun h => nomatch h)⟩
theorem FR_X7_120 : rb_FldR RX7 120 6 6 false := F_X7_120.r
theorem F_X0_12 : rb_Fld RX0 12 1 0 true true (.object RJx4a65c) := ⟨RX0, TX0, 3, tyX0, rfl, inC_X0, by decide, rfl, by decide, ts_mem 141 (by decide +kernel) rfl, tyX0_ok, nmX0, by decide +kernel, rfl, (fun _ => rfl)⟩
theorem FR_X0_12 : rb_FldR RX0 12 1 0 true := F_X0_12.r
theorem FR_X7_320 : rb_FldR RX7 320 1 0 true := ⟨RX0, TX0, 3, rfl, inC_X0, by decide, rfl, by decide, ts_mem 142 (by decide +kernel) rfl⟩
theorem F_X0_39 : rb_Fld RX0 39 1 1 false false .int := ⟨RX0, TX0, 3, tyX0, rfl, inC_X0, by decide, rfl, by decide, ts_mem 143 (by decide +kernel) rfl, tyX0_ok, nmX0, by decide +kernel, rfl, (fun h => nomatch h)⟩
theorem FR_X0_39 : rb_FldR RX0 39 1 1 false := F_X0_39.r
theorem F_X7_237 : rb_Fld RX7 237 1 1 false false .int := ⟨RX0, TX0, 3, tyX0, rfl, inC_X0, by decide, rfl, by decide, ts_mem 144 (by decide +kernel) rfl, tyX0_ok, nmX0, by decide +kernel, rfl, (fun h => nomatch h)⟩
theorem FR_X7_237 : rb_FldR RX7 237 1 1 false := F_X7_237.r
theorem F_X0_45 : rb_Fld RX0 45 1 2 false false .int := ⟨RX0, TX0, 3, tyX0, rfl, inC_X0, by decide, rfl, by decide, ts_mem 145 (by decide +kernel) rfl, tyX0_ok, nmX0, by decide +kernel, rfl, (fun h => nomatch h)⟩
theorem FR_X0_45 : rb_FldR RX0 45 1 2 false := F_X0_45.r
theorem F_X7_248 : rb_Fld RX7 248 1 2 false false .int := ⟨RX0, TX0, 3, tyX0, rfl, inC_X0, by decide, rfl, by decide, ts_mem 146 (by decide +kernel) rfl, tyX0_ok, nmX0, by decide +kernel, rfl, (fun h => nomatch h)⟩
theorem FR_X7_248 : rb_FldR RX7 248 1 2 false := F_X7_248.r
theorem F_X7_9 : rb_Fld RX7 9 8 0 true true (.array .int) := ⟨RX7, TX7, 7, tyX7, rfl, inC_X7, by decide, rfl, by decide, ts_mem 154 (by decide +kernel) rfl, tyX7_ok, nmX7, by decide +kernel, rfl, (fun _ => rfl)⟩
theorem FR_X7_9 : rb_FldR RX7 9 8 0 true := F_X7_9.r
theorem F_X7_15 : rb_Fld RX7 15 8 1 true true (.array (.object RX5)) := ⟨RX7, TX7, 7, tyX7, rfl, inC_X7, by decide, rfl, by decide, ts_mem 155 (by decide +kernel) rfl, tyX7_ok, nmX7, by decide +kernel, rfl, (fun _ => rfl)⟩
theorem FR_X7_15 : rb_FldR RX7 15 8 1 true := F_X7_15.r
theorem F_X7_21 : rb_Fld RX7 21 8 2 true true (.array (.object RX0)) := ⟨RX7, TX7, 7, tyX7, rfl, inC_X7, by decide, rfl, by decide, ts_mem 156 (by decide +kernel) rfl, tyX7_ok, nmX7, by decide +kernel, rfl, (fun _ => rfl)⟩
theorem FR_X7_21 : rb_FldR RX7 21 8 2 true := F_X7_21.r
theorem F_X7_28 : rb_Fld RX7 28 8 3 true true (.object RJx4a65c) := ⟨RX7, TX7, 7, tyX7, rfl, inC_X7, by decide, rfl, by decide, ts_mem 157 (by decide +kernel) rfl, tyX7_ok, nmX7, by decide +kernel, rfl, (fun _ => rfl)⟩
theorem FR_X7_28 : rb_FldR RX7 28 8 3 true := F_X7_28.r
theorem F_X7_32 : rb_Fld RX7 32 8 4 true true (.object RJx4a65c) := ⟨RX7, TX7, 7, tyX7, rfl, inC_X7, by decide, rfl, by decide, ts_mem 158 (by decide +kernel) rfl, tyX7_ok, nmX7, by decide +kernel, rfl, (fun _ => rfl)⟩
theorem FR_X7_32 : rb_FldR RX7 32 8 4 true := F_X7_32.r
theorem F_X7_35 : rb_Fld RX7 35 8 5 true true (.object RJx4a65c) := ⟨RX7, TX7, 7, tyX7, rfl, inC_X7, by decide, rfl, by decide, ts_mem 159 (by decide +kernel) rfl, tyX7_ok, nmX7, by decide +kernel, rfl, (fun _ => rfl)⟩
theorem FR_X7_35 : rb_FldR RX7 35 8 5 true := F_X7_35.r
theorem F_X7_160 : rb_Fld RX7 160 8 6 false false .int := ⟨RX7, TX7, 7, tyX7, rfl, inC_X7, by decide, rfl, by decide, ts_mem 160 (by decide +kernel) rfl, tyX7_ok, nmX7, by decide +kernel, rfl, (fun h => nomatch h)⟩
theorem FR_X7_160 : rb_FldR RX7 160 8 6 false := F_X7_160.r
theorem F_X1_7 : rb_Fld RX1 7 2 0 false true .int := ⟨RX1, TX1, 7, tyX1, rfl, inC_X1, by decide, rfl, by decide, ts_mem 376 (by decide +kernel) rfl, tyX1_ok, nmX1, by decide +kernel, rfl, (fun _ => rfl)⟩
theorem FR_X1_7 : rb_FldR RX1 7 2 0 false := F_X1_7.r
theorem F_X1_13 : rb_Fld RX1 13 2 1 false true .int := ⟨RX1, TX1, 7, tyX1, rfl, inC_X1, by decide, rfl, by decide, ts_mem 377 (by decide +kernel) rfl, tyX1_ok, nmX1, by decide +kernel, rfl, (fun _ => rfl)⟩
theorem FR_X1_13 : rb_FldR RX1 13 2 1 false := F_X1_13.r
theorem F_X1_16 : rb_Fld RX1 16 2 2 false true .int := ⟨RX1, TX1, 7, tyX1, rfl, inC_X1, by decide, rfl, by decide, ts_mem 378 (by decide +kernel) rfl, tyX1_ok, nmX1, by decide +kernel, rfl, (fun _ => rfl)⟩
theorem FR_X1_16 : rb_FldR RX1 16 2 2 false := F_X1_16.r
theorem F_X1_19 : rb_Fld RX1 19 2 3 false true .int := ⟨RX1, TX1, 7, tyX1, rfl, inC_X1, by decide, rfl, by decide, ts_mem 379 (by decide +kernel) rfl, tyX1_ok, nmX1, by decide +kernel, rfl, (fun _ => rfl)⟩
theorem FR_X1_19 : rb_FldR RX1 19 2 3 false := F_X1_19.r
theorem F_X1_22 : rb_Fld RX1 22 2 4 false true .int := ⟨RX1, TX1, 7, tyX1, rfl, inC_X1, by decide, rfl, by decide, ts_mem 380 (by decide +kernel) rfl, tyX1_ok, nmX1, by decide +kernel, rfl, (fun _ => rfl)⟩
theorem FR_X1_22 : rb_FldR RX1 22 2 4 false := F_X1_22.r
theorem F_X1_25 : rb_Fld RX1 25 2 5 false true .int := ⟨RX1, TX1, 7, tyX1, rfl, inC_X1, by decide, rfl, by decide, ts_mem 381 (by decide +kernel) rfl, tyX1_ok, nmX1, by decide +kernel, rfl, (fun _ => rfl)⟩
theorem FR_X1_25 : rb_FldR RX1 25 2 5 false := F_X1_25.r
theorem F_X1_28 : rb_Fld RX1 28 2 6 false true .int := ⟨RX1, TX1, 7, tyX1, rfl, inC_X1, by decide, rfl, by decide, ts_mem 382 (by decide +kernel) rfl, tyX1_ok, nmX1, by decide +kernel, rfl, (fun _ => rfl)⟩
theorem FR_X1_28 : rb_FldR RX1 28 2 6 false := F_X1_28.r
theorem F_X6_21 : rb_Fld RX6 21 7 0 false true .int := ⟨RX6, TX6, 11, tyX6, rfl, inC_X6, by decide, rfl, by decide, ts_mem 501 (by decide +kernel) rfl, tyX6_ok, nmX6, by decide +kernel, rfl, (fun _ => rfl)⟩
theorem FR_X6_21 : rb_FldR RX6 21 7 0 false := F_X6_21.r
theorem FR_X7_132 : rb_FldR RX7 132 7 0 false := ⟨RX6, TX6, 11, rfl, inC_X6, by decide, rfl, by decide, ts_mem 502 (by decide +kernel) rfl⟩
theorem F_X6_24 : rb_Fld RX6 24 7 1 false true .int := ⟨RX6, TX6, 11, tyX6, rfl, inC_X6, by decide, rfl, by decide, ts_mem 503 (by decide +kernel) rfl, tyX6_ok, nmX6, by decide +kernel, rfl, (fun _ => rfl)⟩
theorem FR_X6_24 : rb_FldR RX6 24 7 1 false := F_X6_24.r
theorem FR_X7_292 : rb_FldR RX7 292 7 1 false := ⟨RX6, TX6, 11, rfl, inC_X6, by decide, rfl, by decide, ts_mem 504 (by decide +kernel) rfl⟩
theorem F_X6_30 : rb_Fld RX6 30 7 2 false true .int := ⟨RX6, TX6, 11, tyX6, rfl, inC_X6, by decide, rfl, by decide, ts_mem 505 (by decide +kernel) rfl, tyX6_ok, nmX6, by decide +kernel, rfl, (fun _ => rfl)⟩
theorem FR_X6_30 : rb_FldR RX6 30 7 2 false := F_X6_30.r
theorem FR_X7_289 : rb_FldR RX7 289 7 2 false := ⟨RX6, TX6, 11, rfl, inC_X6, by decide, rfl, by decide, ts_mem 506 (by decide +kernel) rfl⟩
theorem F_X6_27 : rb_Fld RX6 27 7 3 false false .int := ⟨RX6, TX6, 11, tyX6, rfl, inC_X6, by decide, rfl, by decide, ts_mem 507 (by decide +kernel) rfl, tyX6_ok, nmX6, by decide +kernel, rfl, (fun h => nomatch h)⟩
theorem FR_X6_27 : rb_FldR RX6 27 7 3 false := F_X6_27.r
theorem F_X7_58 : rb_Fld RX7 58 7 3 false false .int := ⟨RX6, TX6, 11, tyX6, rfl, inC_X6, by decide, rfl, by decide, ts_mem 508 (by decide +kernel) rfl, tyX6_ok, nmX6, by decide +kernel, rfl, (fun h => nomatch h)⟩
theorem FR_X7_58 : rb_FldR RX7 58 7 3 false := F_X7_58.r
theorem F_X6_9 : rb_Fld RX6 9 7 4 false false .int := ⟨RX6, TX6, 11, tyX6, rfl, inC_X6, by decide, rfl, by decide, ts_mem 509 (by decide +kernel) rfl, tyX6_ok, nmX6, by decide +kernel, rfl, (fun h => nomatch h)⟩
theorem FR_X6_9 : rb_FldR RX6 9 7 4 false := F_X6_9.r
theorem F_X7_142 : rb_Fld RX7 142 7 4 false false .int := ⟨RX6, TX6, 11, tyX6, rfl, inC_X6, by decide, rfl, by decide, ts_mem 510 (by decide +kernel) rfl, tyX6_ok, nmX6, by decide +kernel, rfl, (fun h => nomatch h)⟩
theorem FR_X7_142 : rb_FldR RX7 142 7 4 false := F_X7_142.r
theorem F_X6_15 : rb_Fld RX6 15 7 5 false false .int := ⟨RX6, TX6, 11, tyX6, rfl, inC_X6, by decide, rfl, by decide, ts_mem 511 (by decide +kernel) rfl, tyX6_ok, nmX6, by decide +kernel, rfl, (fun h => nomatch h)⟩
theorem FR_X6_15 : rb_FldR RX6 15 7 5 false := F_X6_15.r
theorem F_X7_171 : rb_Fld RX7 171 7 5 false false .int := ⟨RX6, TX6, 11, tyX6, rfl, inC_X6, by decide, rfl, by decide, ts_mem 512 (by decide +kernel) rfl, tyX6_ok, nmX6, by decide +kernel, rfl, (fun h => nomatch h)⟩
theorem FR_X7_171 : rb_FldR RX7 171 7 5 false := F_X7_171.r
theorem F_X7_139 : rb_Fld RX7 139 7 6 false false .int := ⟨RX6, TX6, 11, tyX6, rfl, inC_X6, by decide, rfl, by decide, ts_mem 513 (by decide +kernel) rfl, tyX6_ok, nmX6, by decide +kernel, rfl, (fun h => nomatch h)⟩
theorem FR_X7_139 : rb_FldR RX7 139 7 6 false := F_X7_139.r
theorem F_X6_18 : rb_Fld RX6 18 7 7 false false .int := ⟨RX6, TX6, 11, tyX6, rfl, inC_X6, by decide, rfl, by decide, ts_mem 514 (by decide +kernel) rfl, tyX6_ok, nmX6, by decide +kernel, rfl, (fun h => nomatch h)⟩
theorem FR_X6_18 : rb_FldR RX6 18 7 7 false := F_X6_18.r
theorem F_X7_191 : rb_Fld RX7 191 7 7 false false .int := ⟨RX6, TX6, 11, tyX6, rfl, inC_X6, by decide, rfl, by decide, ts_mem 515 (by decide +kernel) rfl, tyX6_ok, nmX6, by decide +kernel, rfl, (fun h => nomatch h)⟩
theorem FR_X7_191 : rb_FldR RX7 191 7 7 false := F_X7_191.r
theorem F_X6_37 : rb_Fld RX6 37 7 8 false false .boolean := ⟨RX6, TX6, 11, tyX6, rfl, inC_X6, by decide, rfl, by decide, ts_mem 516 (by decide +kernel) rfl, tyX6_ok, nmX6, by decide +kernel, rfl, (fun h => nomatch h)⟩
theorem FR_X6_37 : rb_FldR RX6 37 7 8 false := F_X6_37.r
theorem F_X7_200 : rb_Fld RX7 200 7 8 false false .boolean := ⟨RX6, TX6, 11, tyX6, rfl, inC_X6, by decide, rfl, by decide, ts_mem 517 (by decide +kernel) rfl, tyX6_ok, nmX6, by decide +kernel, rfl, (fun h => nomatch h)⟩
theorem FR_X7_200 : rb_FldR RX7 200 7 8 false := F_X7_200.r
theorem F_X7_181 : rb_Fld RX7 181 7 9 false false .int := ⟨RX6, TX6, 11, tyX6, rfl, inC_X6, by decide, rfl, by decide, ts_mem 518 (by decide +kernel) rfl, tyX6_ok, nmX6, by decide +kernel, rfl, (fun h => nomatch h)⟩
theorem FR_X7_181 : rb_FldR RX7 181 7 9 false := F_X7_181.r
theorem F_X6_41 : rb_Fld RX6 41 7 10 false false .int := ⟨RX6, TX6, 11, tyX6, rfl, inC_X6, by decide, rfl, by decide, ts_mem 519 (by decide +kernel) rfl, tyX6_ok, nmX6, by decide +kernel, rfl, (fun h => nomatch h)⟩
theorem FR_X6_41 : rb_FldR RX6 41 7 10 false := F_X6_41.r
theorem F_X7_184 : rb_Fld RX7 184 7 10 false false .int := ⟨RX6, TX6, 11, tyX6, rfl, inC_X6, by decide, rfl, by decide, ts_mem 520 (by decide +kernel) rfl, tyX6_ok, nmX6, by decide +kernel, rfl, (fun h => nomatch h)⟩
theorem FR_X7_184 : rb_FldR RX7 184 7 10 false := F_X7_184.r
theorem F_X3_7 : rb_Fld RX3 7 4 0 false true .int := ⟨RX3, TX3, 4, tyX3, rfl, inC_X3, by decide, rfl, by decide, ts_mem 655 (by decide +kernel) rfl, tyX3_ok, nmX3, by decide +kernel, rfl, (fun _ => rfl)⟩
theorem FR_X3_7 : rb_FldR RX3 7 4 0 false := F_X3_7.r
theorem F_X3_13 : rb_Fld RX3 13 4 1 false true .int := ⟨RX3, TX3, 4, tyX3, rfl, inC_X3, by decide, rfl, by decide, ts_mem 656 (by decide +kernel) rfl, tyX3_ok, nmX3, by decide +kernel, rfl, (fun _ => rfl)⟩
theorem FR_X3_13 : rb_FldR RX3 13 4 1 false := F_X3_13.r
theorem F_X3_16 : rb_Fld RX3 16 4 2 false true .int := ⟨RX3, TX3, 4, tyX3, rfl, inC_X3, by decide, rfl, by decide, ts_mem 657 (by decide +kernel) rfl, tyX3_ok, nmX3, by decide +kernel, rfl, (fun _ => rfl)⟩
theorem FR_X3_16 : rb_FldR RX3 16 4 2 false := F_X3_16.r
theorem F_X3_19 : rb_Fld RX3 19 4 3 false true .int := ⟨RX3, TX3, 4, tyX3, rfl, inC_X3, by decide, rfl, by decide, ts_mem 658 (by decide +kernel) rfl, tyX3_ok, nmX3, by decide +kernel, rfl, (fun _ => rfl)⟩
theorem FR_X3_19 : rb_FldR RX3 19 4 3 false := F_X3_19.r
theorem F_X4_18 : rb_Fld RX4 18 5 0 false true .int := ⟨RX4, TX4, 5, tyX4, rfl, inC_X4, by decide, rfl, by decide, ts_mem 682 (by decide +kernel) rfl, tyX4_ok, nmX4, by decide +kernel, rfl, (fun _ => rfl)⟩
theorem FR_X4_18 : rb_FldR RX4 18 5 0 false := F_X4_18.r
theorem FR_X0_32 : rb_FldR RX0 32 5 0 false := ⟨RX4, TX4, 5, rfl, inC_X4, by decide, rfl, by decide, ts_mem 683 (by decide +kernel) rfl⟩
theorem F_X4_21 : rb_Fld RX4 21 5 1 false true .int := ⟨RX4, TX4, 5, tyX4, rfl, inC_X4, by decide, rfl, by decide, ts_mem 684 (by decide +kernel) rfl, tyX4_ok, nmX4, by decide +kernel, rfl, (fun _ => rfl)⟩
theorem FR_X4_21 : rb_FldR RX4 21 5 1 false := F_X4_21.r
theorem FR_X0_48 : rb_FldR RX0 48 5 1 false := ⟨RX4, TX4, 5, rfl, inC_X4, by decide, rfl, by decide, ts_mem 685 (by decide +kernel) rfl⟩
theorem F_X4_24 : rb_Fld RX4 24 5 2 true true (.object RX1) := ⟨RX4, TX4, 5, tyX4, rfl, inC_X4, by decide, rfl, by decide, ts_mem 686 (by decide +kernel) rfl, tyX4_ok, nmX4, by decide +kernel, rfl, (fun _ => rfl)⟩
theorem FR_X4_24 : rb_FldR RX4 24 5 2 true := F_X4_24.r
theorem F_X4_9 : rb_Fld RX4 9 5 3 false false .int := ⟨RX4, TX4, 5, tyX4, rfl, inC_X4, by decide, rfl, by decide, ts_mem 687 (by decide +kernel) rfl, tyX4_ok, nmX4, by decide +kernel, rfl, (fun h => nomatch h)⟩
theorem FR_X4_9 : rb_FldR RX4 9 5 3 false := F_X4_9.r
theorem F_X0_28 : rb_Fld RX0 28 5 3 false false .int := ⟨RX4, TX4, 5, tyX4, rfl, inC_X4, by decide, rfl, by decide, ts_mem 688 (by decide +kernel) rfl, tyX4_ok, nmX4, by decide +kernel, rfl, (fun h => nomatch h)⟩
theorem FR_X0_28 : rb_FldR RX0 28 5 3 false := F_X0_28.r
theorem F_X4_15 : rb_Fld RX4 15 5 4 false false .int := ⟨RX4, TX4, 5, tyX4, rfl, inC_X4, by decide, rfl, by decide, ts_mem 689 (by decide +kernel) rfl, tyX4_ok, nmX4, by decide +kernel, rfl, (fun h => nomatch h)⟩
theorem FR_X4_15 : rb_FldR RX4 15 5 4 false := F_X4_15.r
theorem F_X0_42 : rb_Fld RX0 42 5 4 false false .int := ⟨RX4, TX4, 5, tyX4, rfl, inC_X4, by decide, rfl, by decide, ts_mem 690 (by decide +kernel) rfl, tyX4_ok, nmX4, by decide +kernel, rfl, (fun h => nomatch h)⟩
theorem FR_X0_42 : rb_FldR RX0 42 5 4 false := F_X0_42.r
theorem L_L_9 : Cond.classLink RL 9 RX7 ∈ TS := ts_mem 50 (by decide +kernel) rfl
theorem K_L_9 : rb_Cls RL 9 8 7 := ⟨RX7, TX7, tyX7, rfl, inC_X7, by decide, L_L_9, ts_mem 51 (by decide +kernel) rfl, ts_mem 27 (by decide +kernel) rfl, tyX7_ok, by decide +kernel⟩
theorem L_X7_13 : Cond.classLink RX7 13 RX5 ∈ TS := ts_mem 58 (by decide +kernel) rfl
theorem K_X7_13 : rb_Cls RX7 13 6 7 := ⟨RX5, TX5, tyX5, rfl, inC_X5, by decide, L_X7_13, ts_mem 89 (by decide +kernel) rfl, ts_mem 31 (by decide +kernel) rfl, tyX5_ok, by decide +kernel⟩
theorem L_X7_19 : Cond.classLink RX7 19 RX0 ∈ TS := ts_mem 60 (by decide +kernel) rfl
theorem K_X7_19 : rb_Cls RX7 19 1 3 := ⟨RX0, TX0, tyX0, rfl, inC_X0, by decide, L_X7_19, ts_mem 134 (by decide +kernel) rfl, ts_mem 34 (by decide +kernel) rfl, tyX0_ok, by decide +kernel⟩
theorem L_X7_25 : Cond.classLink RX7 25 RJx4a65c ∈ TS := ts_mem 62 (by decide +kernel) rfl
theorem K_X7_25 : rb_Cls RX7 25 0 3 := ⟨RJx4a65c, TJx4a65c, tyJx4a65c, rfl, inC_Jx4a65c, by decide, L_X7_25, ts_mem 63 (by decide +kernel) rfl, ts_mem 30 (by decide +kernel) rfl, tyJx4a65c_ok, by decide +kernel⟩
theorem L_X5_9 : Cond.classLink RX5 9 RX2 ∈ TS := ts_mem 94 (by decide +kernel) rfl
theorem K_X5_9 : rb_Cls RX5 9 3 1 := ⟨RX2, TX2, tyX2, rfl, inC_X2, by decide, L_X5_9, ts_mem 95 (by decide +kernel) rfl, ts_mem 32 (by decide +kernel) rfl, tyX2_ok, by decide +kernel⟩
theorem L_X0_9 : Cond.classLink RX0 9 RJx4a65c ∈ TS := ts_mem 139 (by decide +kernel) rfl
theorem K_X0_9 : rb_Cls RX0 9 0 3 := ⟨RJx4a65c, TJx4a65c, tyJx4a65c, rfl, inC_Jx4a65c, by decide, L_X0_9, ts_mem 63 (by decide +kernel) rfl, ts_mem 30 (by decide +kernel) rfl, tyJx4a65c_ok, by decide +kernel⟩
theorem L_L_14 : Cond.classLink RL 14 "java/lang/IndexOutOfBoundsException" ∈ TS := ts_mem 186 (by decide +kernel) rfl
theorem L_L_16 : Cond.classLink RL 16 "java/lang/IllegalArgumentException" ∈ TS := ts_mem 187 (by decide +kernel) rfl
theorem L_X7_243 : Cond.classLink RX7 243 "java/lang/IndexOutOfBoundsException" ∈ TS := ts_mem 200 (by decide +kernel) rfl
theorem L_X7_194 : Cond.classLink RX7 194 "java/lang/IllegalArgumentException" ∈ TS := ts_mem 271 (by decide +kernel) rfl
theorem L_X7_56 : Cond.classLink RX7 56 RX6 ∈ TS := ts_mem 305 (by decide +kernel) rfl
theorem K_X7_56 : rb_Cls RX7 56 7 11 := ⟨RX6, TX6, tyX6, rfl, inC_X6, by decide, L_X7_56, ts_mem 496 (by decide +kernel) rfl, ts_mem 47 (by decide +kernel) rfl, tyX6_ok, by decide +kernel⟩
theorem L_L_26 : Cond.classLink RL 26 "java/lang/IllegalStateException" ∈ TS := ts_mem 340 (by decide +kernel) rfl
theorem L_X7_145 : Cond.classLink RX7 145 "java/lang/IllegalStateException" ∈ TS := ts_mem 354 (by decide +kernel) rfl
theorem L_X7_99 : Cond.classLink RX7 99 RX1 ∈ TS := ts_mem 370 (by decide +kernel) rfl
theorem K_X7_99 : rb_Cls RX7 99 2 7 := ⟨RX1, TX1, tyX1, rfl, inC_X1, by decide, L_X7_99, ts_mem 371 (by decide +kernel) rfl, ts_mem 43 (by decide +kernel) rfl, tyX1_ok, by decide +kernel⟩
theorem L_J7_110 : Cond.classLink RJ7 110 "[Ljava/lang/Object;" ∈ TS := ts_mem 446 (by decide +kernel) rfl
theorem L_J7_2 : Cond.classLink RJ7 2 "java/lang/Object" ∈ TS := ts_mem 448 (by decide +kernel) rfl
theorem L_Jx4a65c_7 : Cond.classLink RJx4a65c 7 "java/lang/Object" ∈ TS := ts_mem 456 (by decide +kernel) rfl
theorem L_X7_218 : Cond.classLink RX7 218 RX3 ∈ TS := ts_mem 649 (by decide +kernel) rfl
theorem K_X7_218 : rb_Cls RX7 218 4 4 := ⟨RX3, TX3, tyX3, rfl, inC_X3, by decide, L_X7_218, ts_mem 650 (by decide +kernel) rfl, ts_mem 48 (by decide +kernel) rfl, tyX3_ok, by decide +kernel⟩
theorem L_X7_323 : Cond.classLink RX7 323 RX4 ∈ TS := ts_mem 676 (by decide +kernel) rfl
theorem K_X7_323 : rb_Cls RX7 323 5 5 := ⟨RX4, TX4, tyX4, rfl, inC_X4, by decide, L_X7_323, ts_mem 677 (by decide +kernel) rfl, ts_mem 49 (by decide +kernel) rfl, tyX4_ok, by decide +kernel⟩
theorem L_X0_26 : Cond.classLink RX0 26 RX4 ∈ TS := ts_mem 719 (by decide +kernel) rfl
theorem K_X0_26 : rb_Cls RX0 26 5 5 := ⟨RX4, TX4, tyX4, rfl, inC_X4, by decide, L_X0_26, ts_mem 677 (by decide +kernel) rfl, ts_mem 49 (by decide +kernel) rfl, tyX4_ok, by decide +kernel⟩
theorem M_L_138 : rb_Ic RL 138 yX7_init cX7_init 2 0 := ⟨ts_mem 52 (by decide +kernel) rfl, ts_mem 53 (by decide +kernel) rfl, ts_mem 27 (by decide +kernel) rfl, ts_mem 54 (by decide +kernel) rfl, rfl, by decide +kernel⟩
theorem M_X7_1 : Cond.methodLink RX7 1 objectInit ∈ TS := ts_mem 55 (by decide +kernel) rfl
theorem M_X7_27 : rb_Ic RX7 27 yJx4a65c_init_da8c8 cJx4a65c_init_da8c8 1 0 := ⟨ts_mem 64 (by decide +kernel) rfl, ts_mem 65 (by decide +kernel) rfl, ts_mem 30 (by decide +kernel) rfl, ts_mem 66 (by decide +kernel) rfl, rfl, by decide +kernel⟩
theorem M_Jx4a65c_1 : rb_Ic RJx4a65c 1 yJxc12de_init_da8c8 cJxc12de_init_da8c8 1 0 := ⟨ts_mem 67 (by decide +kernel) rfl, ts_mem 68 (by decide +kernel) rfl, ts_mem 29 (by decide +kernel) rfl, ts_mem 69 (by decide +kernel) rfl, rfl, by decide +kernel⟩
theorem M_Jxc12de_1 : rb_Ic RJxc12de 1 yJxa1e45_init_da8c8 cJxa1e45_init_da8c8 1 0 := ⟨ts_mem 70 (by decide +kernel) rfl, ts_mem 71 (by decide +kernel) rfl, ts_mem 28 (by decide +kernel) rfl, ts_mem 72 (by decide +kernel) rfl, rfl, by decide +kernel⟩
theorem M_Jxa1e45_1 : Cond.methodLink RJxa1e45 1 objectInit ∈ TS := ts_mem 73 (by decide +kernel) rfl
theorem M_X5_3 : Cond.methodLink RX5 3 objectInit ∈ TS := ts_mem 93 (by decide +kernel) rfl
theorem M_X5_11 : rb_Ic RX5 11 yX2_init cX2_init 1 0 := ⟨ts_mem 96 (by decide +kernel) rfl, ts_mem 97 (by decide +kernel) rfl, ts_mem 32 (by decide +kernel) rfl, ts_mem 98 (by decide +kernel) rfl, rfl, by decide +kernel⟩
theorem M_X2_3 : Cond.methodLink RX2 3 objectInit ∈ TS := ts_mem 99 (by decide +kernel) rfl
theorem M_X2_15 : rb_Sc RX2 15 yJ7_fill_53178 cJ7_fill_53178 4 none 2 := ⟨ts_mem 100 (by decide +kernel) rfl, ts_mem 101 (by decide +kernel) rfl, ts_mem 33 (by decide +kernel) rfl, ts_mem 102 (by decide +kernel) rfl, by decide +kernel⟩
theorem M_X0_3 : Cond.methodLink RX0 3 objectInit ∈ TS := ts_mem 138 (by decide +kernel) rfl
theorem M_X0_11 : rb_Ic RX0 11 yJx4a65c_init_da8c8 cJx4a65c_init_da8c8 1 0 := ⟨ts_mem 140 (by decide +kernel) rfl, ts_mem 65 (by decide +kernel) rfl, ts_mem 30 (by decide +kernel) rfl, ts_mem 66 (by decide +kernel) rfl, rfl, by decide +kernel⟩
theorem M_L_139 : rb_Sc RL 139 yL_cell cL_cell 2 (some .int) 2 := ⟨ts_mem 176 (by decide +kernel) rfl, ts_mem 177 (by decide +kernel) rfl, ts_mem 26 (by decide +kernel) rfl, ts_mem 178 (by decide +kernel) rfl, by decide +kernel⟩
theorem M_L_124 : rb_Sc RL 124 yL_low cL_low 2 (some .int) 2 := ⟨ts_mem 180 (by decide +kernel) rfl, ts_mem 181 (by decide +kernel) rfl, ts_mem 26 (by decide +kernel) rfl, ts_mem 182 (by decide +kernel) rfl, by decide +kernel⟩
theorem M_L_144 : rb_SWc RL 144 yL_reach cL_reach 5 (some .int) [(0, 7, 10, 14), (0, 7, 16, 16)] 3 := ⟨ts_mem 183 (by decide +kernel) rfl, ts_mem 184 (by decide +kernel) rfl, ts_mem 26 (by decide +kernel) rfl, ts_mem 185 (by decide +kernel) rfl, by decide +kernel⟩
theorem M_L_8 : rb_Vc RL 8 RX7 yX7_reach cX7_reach 6 (some .int) 2 := ⟨ts_mem 188 (by decide +kernel) rfl, ts_mem 189 (by decide +kernel) rfl, ts_mem 190 (by decide +kernel) rfl, ts_mem 27 (by decide +kernel) rfl, ts_mem 191 (by decide +kernel) rfl, by decide +kernel⟩
theorem M_X7_40 : rb_Vc RX7 40 RX7 yX7_receivedAt cX7_receivedAt 2 (some .int) 1 := ⟨ts_mem 192 (by decide +kernel) rfl, ts_mem 194 (by decide +kernel) rfl, ts_mem 0 (by decide +kernel) rfl, ts_mem 27 (by decide +kernel) rfl, ts_mem 195 (by decide +kernel) rfl, by decide +kernel⟩
theorem M_X7_126 : rb_Vc RX7 126 RX7 yX7_requirePlace cX7_requirePlace 2 none 1 := ⟨ts_mem 196 (by decide +kernel) rfl, ts_mem 198 (by decide +kernel) rfl, ts_mem 1 (by decide +kernel) rfl, ts_mem 27 (by decide +kernel) rfl, ts_mem 199 (by decide +kernel) rfl, by decide +kernel⟩
theorem M_X7_44 : rb_Sc RX7 44 yX7_requireRange cX7_requireRange 3 none 3 := ⟨ts_mem 268 (by decide +kernel) rfl, ts_mem 269 (by decide +kernel) rfl, ts_mem 27 (by decide +kernel) rfl, ts_mem 270 (by decide +kernel) rfl, by decide +kernel⟩
theorem M_X7_48 : rb_Vc RX7 48 RJx4a65c yJx4a65c_size_8abf5 cJx4a65c_size_8abf5 1 (some .int) 0 := ⟨ts_mem 287 (by decide +kernel) rfl, ts_mem 288 (by decide +kernel) rfl, ts_mem 289 (by decide +kernel) rfl, ts_mem 30 (by decide +kernel) rfl, ts_mem 290 (by decide +kernel) rfl, by decide +kernel⟩
theorem M_X7_52 : rb_Vc RX7 52 RJx4a65c yJx4a65c_get_915e3 cJx4a65c_get_915e3 2 (some (.object "java/lang/Object")) 1 := ⟨ts_mem 291 (by decide +kernel) rfl, ts_mem 292 (by decide +kernel) rfl, ts_mem 293 (by decide +kernel) rfl, ts_mem 30 (by decide +kernel) rfl, ts_mem 294 (by decide +kernel) rfl, by decide +kernel⟩
theorem M_Jx4a65c_118 : rb_Sc RJx4a65c 118 yJ15_checkIndex_7cf53 cJ15_checkIndex_7cf53 2 (some .int) 2 := ⟨ts_mem 295 (by decide +kernel) rfl, ts_mem 296 (by decide +kernel) rfl, ts_mem 40 (by decide +kernel) rfl, ts_mem 297 (by decide +kernel) rfl, by decide +kernel⟩
theorem M_J15_105 : rb_Sc RJ15 105 yJ3_checkIndex_8e157 cJ3_checkIndex_8e157 3 (some .int) 3 := ⟨ts_mem 298 (by decide +kernel) rfl, ts_mem 299 (by decide +kernel) rfl, ts_mem 41 (by decide +kernel) rfl, ts_mem 300 (by decide +kernel) rfl, by decide +kernel⟩
theorem M_Jx4a65c_123 : rb_Vc RJx4a65c 123 RJx4a65c yJx4a65c_elementData_915e3 cJx4a65c_elementData_915e3 2 (some (.object "java/lang/Object")) 1 := ⟨ts_mem 301 (by decide +kernel) rfl, ts_mem 302 (by decide +kernel) rfl, ts_mem 303 (by decide +kernel) rfl, ts_mem 30 (by decide +kernel) rfl, ts_mem 304 (by decide +kernel) rfl, by decide +kernel⟩
theorem M_X7_62 : rb_Vc RX7 62 RX7 yX7_detachIfNotReceived cX7_detachIfNotReceived 2 none 1 := ⟨ts_mem 306 (by decide +kernel) rfl, ts_mem 308 (by decide +kernel) rfl, ts_mem 3 (by decide +kernel) rfl, ts_mem 27 (by decide +kernel) rfl, ts_mem 309 (by decide +kernel) rfl, by decide +kernel⟩
theorem M_X7_167 : rb_Sc RX7 167 yX7_isIn cX7_isIn 2 (some .boolean) 2 := ⟨ts_mem 310 (by decide +kernel) rfl, ts_mem 311 (by decide +kernel) rfl, ts_mem 27 (by decide +kernel) rfl, ts_mem 312 (by decide +kernel) rfl, by decide +kernel⟩
theorem M_L_146 : rb_SWc RL 146 yL_dead cL_dead 5 (some .int) [(0, 7, 10, 14)] 3 := ⟨ts_mem 313 (by decide +kernel) rfl, ts_mem 314 (by decide +kernel) rfl, ts_mem 26 (by decide +kernel) rfl, ts_mem 315 (by decide +kernel) rfl, by decide +kernel⟩
theorem M_L_18 : rb_Vc RL 18 RX7 yX7_dead cX7_dead 5 (some .boolean) 2 := ⟨ts_mem 316 (by decide +kernel) rfl, ts_mem 317 (by decide +kernel) rfl, ts_mem 318 (by decide +kernel) rfl, ts_mem 27 (by decide +kernel) rfl, ts_mem 319 (by decide +kernel) rfl, by decide +kernel⟩
theorem M_X7_66 : rb_Vc RX7 66 RX7 yX7_networkAt cX7_networkAt 2 (some (.object "RoamBooks$Network")) 1 := ⟨ts_mem 320 (by decide +kernel) rfl, ts_mem 322 (by decide +kernel) rfl, ts_mem 4 (by decide +kernel) rfl, ts_mem 27 (by decide +kernel) rfl, ts_mem 323 (by decide +kernel) rfl, by decide +kernel⟩
theorem M_X7_87 : rb_Vc RX7 87 RX7 yX7_requireNetwork cX7_requireNetwork 2 none 1 := ⟨ts_mem 324 (by decide +kernel) rfl, ts_mem 326 (by decide +kernel) rfl, ts_mem 5 (by decide +kernel) rfl, ts_mem 27 (by decide +kernel) rfl, ts_mem 327 (by decide +kernel) rfl, by decide +kernel⟩
theorem M_X7_78 : rb_Vc RX7 78 RX2 yX2_clear cX2_clear 1 none 0 := ⟨ts_mem 329 (by decide +kernel) rfl, ts_mem 330 (by decide +kernel) rfl, ts_mem 331 (by decide +kernel) rfl, ts_mem 32 (by decide +kernel) rfl, ts_mem 332 (by decide +kernel) rfl, by decide +kernel⟩
theorem M_X7_83 : rb_Vc RX7 83 RX7 yX7_detachAllFrom cX7_detachAllFrom 4 none 1 := ⟨ts_mem 333 (by decide +kernel) rfl, ts_mem 335 (by decide +kernel) rfl, ts_mem 6 (by decide +kernel) rfl, ts_mem 27 (by decide +kernel) rfl, ts_mem 336 (by decide +kernel) rfl, by decide +kernel⟩
theorem M_L_153 : rb_SWc RL 153 yL_agree cL_agree 10 (some .int) [(0, 17, 20, 14), (0, 17, 26, 16), (0, 17, 32, 26)] 8 := ⟨ts_mem 337 (by decide +kernel) rfl, ts_mem 338 (by decide +kernel) rfl, ts_mem 26 (by decide +kernel) rfl, ts_mem 339 (by decide +kernel) rfl, by decide +kernel⟩
theorem M_L_22 : rb_Vc RL 22 RX7 yX7_agree cX7_agree 8 (some .int) 7 := ⟨ts_mem 341 (by decide +kernel) rfl, ts_mem 342 (by decide +kernel) rfl, ts_mem 343 (by decide +kernel) rfl, ts_mem 27 (by decide +kernel) rfl, ts_mem 344 (by decide +kernel) rfl, by decide +kernel⟩
theorem M_X7_90 : rb_Sc RX7 90 yX7_requireDifferent cX7_requireDifferent 2 none 2 := ⟨ts_mem 345 (by decide +kernel) rfl, ts_mem 346 (by decide +kernel) rfl, ts_mem 27 (by decide +kernel) rfl, ts_mem 347 (by decide +kernel) rfl, by decide +kernel⟩
theorem M_X7_96 : rb_Sc RX7 96 yX7_requireRoom cX7_requireRoom 2 none 2 := ⟨ts_mem 351 (by decide +kernel) rfl, ts_mem 352 (by decide +kernel) rfl, ts_mem 27 (by decide +kernel) rfl, ts_mem 353 (by decide +kernel) rfl, by decide +kernel⟩
theorem M_X7_101 : rb_Ic RX7 101 yX1_init cX1_init 8 7 := ⟨ts_mem 372 (by decide +kernel) rfl, ts_mem 373 (by decide +kernel) rfl, ts_mem 43 (by decide +kernel) rfl, ts_mem 374 (by decide +kernel) rfl, rfl, by decide +kernel⟩
theorem M_X1_1 : Cond.methodLink RX1 1 objectInit ∈ TS := ts_mem 375 (by decide +kernel) rfl
theorem M_X7_104 : rb_Vc RX7 104 RJx4a65c yJx4a65c_add_9ea2d cJx4a65c_add_9ea2d 2 (some .boolean) 1 := ⟨ts_mem 398 (by decide +kernel) rfl, ts_mem 399 (by decide +kernel) rfl, ts_mem 400 (by decide +kernel) rfl, ts_mem 30 (by decide +kernel) rfl, ts_mem 401 (by decide +kernel) rfl, by decide +kernel⟩
theorem M_Jx4a65c_131 : rb_Vc RJx4a65c 131 RJx4a65c yJx4a65c_add_72be8 cJx4a65c_add_72be8 4 none 3 := ⟨ts_mem 402 (by decide +kernel) rfl, ts_mem 404 (by decide +kernel) rfl, ts_mem 7 (by decide +kernel) rfl, ts_mem 30 (by decide +kernel) rfl, ts_mem 405 (by decide +kernel) rfl, by decide +kernel⟩
theorem M_Jx4a65c_129 : rb_Vc RJx4a65c 129 RJx4a65c yJx4a65c_grow_d5877 cJx4a65c_grow_d5877 1 (some (.array (.object "java/lang/Object"))) 0 := ⟨ts_mem 406 (by decide +kernel) rfl, ts_mem 408 (by decide +kernel) rfl, ts_mem 8 (by decide +kernel) rfl, ts_mem 30 (by decide +kernel) rfl, ts_mem 409 (by decide +kernel) rfl, by decide +kernel⟩
theorem M_Jx4a65c_69 : rb_Vc RJx4a65c 69 RJx4a65c yJx4a65c_grow_92f84 cJx4a65c_grow_92f84 4 (some (.array (.object "java/lang/Object"))) 1 := ⟨ts_mem 410 (by decide +kernel) rfl, ts_mem 412 (by decide +kernel) rfl, ts_mem 9 (by decide +kernel) rfl, ts_mem 30 (by decide +kernel) rfl, ts_mem 413 (by decide +kernel) rfl, by decide +kernel⟩
theorem M_Jx4a65c_73 : rb_Sc RJx4a65c 73 yJ8_newLength_cabcc cJ8_newLength_cabcc 4 (some .int) 3 := ⟨ts_mem 414 (by decide +kernel) rfl, ts_mem 415 (by decide +kernel) rfl, ts_mem 44 (by decide +kernel) rfl, ts_mem 416 (by decide +kernel) rfl, by decide +kernel⟩
theorem M_J8_194 : rb_Sc RJ8 194 yJ9_max_7cf53 cJ9_max_7cf53 2 (some .int) 2 := ⟨ts_mem 417 (by decide +kernel) rfl, ts_mem 418 (by decide +kernel) rfl, ts_mem 45 (by decide +kernel) rfl, ts_mem 419 (by decide +kernel) rfl, by decide +kernel⟩
theorem M_J8_201 : rb_Sc RJ8 201 yJ8_hugeLength_7cf53 cJ8_hugeLength_7cf53 3 (some .int) 2 := ⟨ts_mem 421 (by decide +kernel) rfl, ts_mem 422 (by decide +kernel) rfl, ts_mem 44 (by decide +kernel) rfl, ts_mem 423 (by decide +kernel) rfl, by decide +kernel⟩
theorem M_Jx4a65c_66 : rb_Sc RJx4a65c 66 yJ7_copyOf_1904c cJ7_copyOf_1904c 2 (some (.array (.object "java/lang/Object"))) 2 := ⟨ts_mem 424 (by decide +kernel) rfl, ts_mem 425 (by decide +kernel) rfl, ts_mem 33 (by decide +kernel) rfl, ts_mem 426 (by decide +kernel) rfl, by decide +kernel⟩
theorem M_J7_300 : rb_Sc RJ7 300 yJ7_copyOf_6403c cJ7_copyOf_6403c 4 (some (.array (.object "java/lang/Object"))) 3 := ⟨ts_mem 443 (by decide +kernel) rfl, ts_mem 444 (by decide +kernel) rfl, ts_mem 33 (by decide +kernel) rfl, ts_mem 445 (by decide +kernel) rfl, by decide +kernel⟩
theorem M_J7_304 : rb_Sc RJ7 304 yJ9_min_7cf53 cJ9_min_7cf53 2 (some .int) 2 := ⟨ts_mem 449 (by decide +kernel) rfl, ts_mem 450 (by decide +kernel) rfl, ts_mem 45 (by decide +kernel) rfl, ts_mem 451 (by decide +kernel) rfl, by decide +kernel⟩
theorem M_Jx4a65c_79 : rb_Sc RJx4a65c 79 yJ9_max_7cf53 cJ9_max_7cf53 2 (some .int) 2 := ⟨ts_mem 455 (by decide +kernel) rfl, ts_mem 418 (by decide +kernel) rfl, ts_mem 45 (by decide +kernel) rfl, ts_mem 419 (by decide +kernel) rfl, by decide +kernel⟩
theorem M_L_156 : rb_SWc RL 156 yL_steer cL_steer 5 (some .int) [(0, 7, 10, 14), (0, 7, 16, 16)] 3 := ⟨ts_mem 457 (by decide +kernel) rfl, ts_mem 458 (by decide +kernel) rfl, ts_mem 26 (by decide +kernel) rfl, ts_mem 459 (by decide +kernel) rfl, by decide +kernel⟩
theorem M_L_28 : rb_Vc RL 28 RX7 yX7_steer cX7_steer 5 (some .int) 2 := ⟨ts_mem 460 (by decide +kernel) rfl, ts_mem 461 (by decide +kernel) rfl, ts_mem 462 (by decide +kernel) rfl, ts_mem 27 (by decide +kernel) rfl, ts_mem 463 (by decide +kernel) rfl, by decide +kernel⟩
theorem M_L_158 : rb_SWc RL 158 yL_prices cL_prices 6 (some .int) [(0, 9, 12, 14), (0, 9, 18, 16)] 5 := ⟨ts_mem 464 (by decide +kernel) rfl, ts_mem 465 (by decide +kernel) rfl, ts_mem 26 (by decide +kernel) rfl, ts_mem 466 (by decide +kernel) rfl, by decide +kernel⟩
theorem M_L_31 : rb_Vc RL 31 RX7 yX7_prices cX7_prices 6 none 4 := ⟨ts_mem 467 (by decide +kernel) rfl, ts_mem 468 (by decide +kernel) rfl, ts_mem 469 (by decide +kernel) rfl, ts_mem 27 (by decide +kernel) rfl, ts_mem 470 (by decide +kernel) rfl, by decide +kernel⟩
theorem M_L_161 : rb_SWc RL 161 yL_lose cL_lose 5 (some .int) [(0, 7, 10, 14), (0, 7, 16, 16)] 3 := ⟨ts_mem 471 (by decide +kernel) rfl, ts_mem 472 (by decide +kernel) rfl, ts_mem 26 (by decide +kernel) rfl, ts_mem 473 (by decide +kernel) rfl, by decide +kernel⟩
theorem M_L_35 : rb_Vc RL 35 RX7 yX7_lose cX7_lose 5 (some .int) 2 := ⟨ts_mem 474 (by decide +kernel) rfl, ts_mem 475 (by decide +kernel) rfl, ts_mem 476 (by decide +kernel) rfl, ts_mem 27 (by decide +kernel) rfl, ts_mem 477 (by decide +kernel) rfl, by decide +kernel⟩
theorem M_L_169 : rb_SWc RL 169 yL_crash cL_crash 4 (some .int) [(0, 6, 9, 14)] 2 := ⟨ts_mem 478 (by decide +kernel) rfl, ts_mem 479 (by decide +kernel) rfl, ts_mem 26 (by decide +kernel) rfl, ts_mem 480 (by decide +kernel) rfl, by decide +kernel⟩
theorem M_L_38 : rb_Vc RL 38 RX7 yX7_crash cX7_crash 4 (some .int) 1 := ⟨ts_mem 481 (by decide +kernel) rfl, ts_mem 482 (by decide +kernel) rfl, ts_mem 483 (by decide +kernel) rfl, ts_mem 27 (by decide +kernel) rfl, ts_mem 484 (by decide +kernel) rfl, by decide +kernel⟩
theorem M_X7_123 : rb_Vc RX7 123 RX2 yX2_count cX2_count 3 (some .int) 0 := ⟨ts_mem 485 (by decide +kernel) rfl, ts_mem 486 (by decide +kernel) rfl, ts_mem 487 (by decide +kernel) rfl, ts_mem 32 (by decide +kernel) rfl, ts_mem 488 (by decide +kernel) rfl, by decide +kernel⟩
theorem M_L_163 : rb_SWc RL 163 yL_subscriber cL_subscriber 6 (some .int) [(0, 9, 12, 14), (0, 9, 18, 16), (0, 9, 24, 26)] 4 := ⟨ts_mem 489 (by decide +kernel) rfl, ts_mem 490 (by decide +kernel) rfl, ts_mem 26 (by decide +kernel) rfl, ts_mem 491 (by decide +kernel) rfl, by decide +kernel⟩
theorem M_L_42 : rb_Vc RL 42 RX7 yX7_subscriber cX7_subscriber 5 (some .int) 3 := ⟨ts_mem 492 (by decide +kernel) rfl, ts_mem 493 (by decide +kernel) rfl, ts_mem 494 (by decide +kernel) rfl, ts_mem 27 (by decide +kernel) rfl, ts_mem 495 (by decide +kernel) rfl, by decide +kernel⟩
theorem M_X7_129 : rb_Ic RX7 129 yX6_init cX6_init 5 4 := ⟨ts_mem 497 (by decide +kernel) rfl, ts_mem 498 (by decide +kernel) rfl, ts_mem 47 (by decide +kernel) rfl, ts_mem 499 (by decide +kernel) rfl, rfl, by decide +kernel⟩
theorem M_X6_3 : Cond.methodLink RX6 3 objectInit ∈ TS := ts_mem 500 (by decide +kernel) rfl
theorem M_L_165 : rb_SWc RL 165 yL_move cL_move 5 (some .int) [(0, 7, 10, 14)] 3 := ⟨ts_mem 544 (by decide +kernel) rfl, ts_mem 545 (by decide +kernel) rfl, ts_mem 26 (by decide +kernel) rfl, ts_mem 546 (by decide +kernel) rfl, by decide +kernel⟩
theorem M_L_46 : rb_Vc RL 46 RX7 yX7_move cX7_move 4 (some .int) 2 := ⟨ts_mem 547 (by decide +kernel) rfl, ts_mem 548 (by decide +kernel) rfl, ts_mem 549 (by decide +kernel) rfl, ts_mem 27 (by decide +kernel) rfl, ts_mem 550 (by decide +kernel) rfl, by decide +kernel⟩
theorem M_X7_135 : rb_Vc RX7 135 RX7 yX7_subscriberAt cX7_subscriberAt 2 (some (.object "RoamBooks$Subscriber")) 1 := ⟨ts_mem 551 (by decide +kernel) rfl, ts_mem 553 (by decide +kernel) rfl, ts_mem 10 (by decide +kernel) rfl, ts_mem 27 (by decide +kernel) rfl, ts_mem 554 (by decide +kernel) rfl, by decide +kernel⟩
theorem M_L_167 : rb_SWc RL 167 yL_off cL_off 4 (some .int) [(0, 6, 9, 14)] 2 := ⟨ts_mem 556 (by decide +kernel) rfl, ts_mem 557 (by decide +kernel) rfl, ts_mem 26 (by decide +kernel) rfl, ts_mem 558 (by decide +kernel) rfl, by decide +kernel⟩
theorem M_L_49 : rb_Vc RL 49 RX7 yX7_off cX7_off 4 (some .int) 1 := ⟨ts_mem 559 (by decide +kernel) rfl, ts_mem 560 (by decide +kernel) rfl, ts_mem 561 (by decide +kernel) rfl, ts_mem 27 (by decide +kernel) rfl, ts_mem 562 (by decide +kernel) rfl, by decide +kernel⟩
theorem M_L_171 : rb_SWc RL 171 yL_attach cL_attach 5 (some .int) [(0, 7, 10, 14), (0, 7, 16, 26)] 3 := ⟨ts_mem 563 (by decide +kernel) rfl, ts_mem 564 (by decide +kernel) rfl, ts_mem 26 (by decide +kernel) rfl, ts_mem 565 (by decide +kernel) rfl, by decide +kernel⟩
theorem M_L_52 : rb_Vc RL 52 RX7 yX7_attach cX7_attach 5 (some .int) 2 := ⟨ts_mem 566 (by decide +kernel) rfl, ts_mem 567 (by decide +kernel) rfl, ts_mem 568 (by decide +kernel) rfl, ts_mem 27 (by decide +kernel) rfl, ts_mem 569 (by decide +kernel) rfl, by decide +kernel⟩
theorem M_X7_152 : rb_Vc RX7 152 RX7 yX7_whyNotUsable cX7_whyNotUsable 3 (some .int) 2 := ⟨ts_mem 571 (by decide +kernel) rfl, ts_mem 573 (by decide +kernel) rfl, ts_mem 11 (by decide +kernel) rfl, ts_mem 27 (by decide +kernel) rfl, ts_mem 574 (by decide +kernel) rfl, by decide +kernel⟩
theorem M_X7_295 : rb_Vc RX7 295 RX7 yX7_agreementNow cX7_agreementNow 5 (some (.object "RoamBooks$Agreement")) 2 := ⟨ts_mem 575 (by decide +kernel) rfl, ts_mem 577 (by decide +kernel) rfl, ts_mem 12 (by decide +kernel) rfl, ts_mem 27 (by decide +kernel) rfl, ts_mem 578 (by decide +kernel) rfl, by decide +kernel⟩
theorem M_X7_285 : rb_Vc RX7 285 RX1 yX1_holds cX1_holds 4 (some .boolean) 3 := ⟨ts_mem 579 (by decide +kernel) rfl, ts_mem 580 (by decide +kernel) rfl, ts_mem 581 (by decide +kernel) rfl, ts_mem 43 (by decide +kernel) rfl, ts_mem 582 (by decide +kernel) rfl, by decide +kernel⟩
theorem M_X7_156 : rb_Vc RX7 156 RX7 yX7_isSteered cX7_isSteered 4 (some .boolean) 2 := ⟨ts_mem 583 (by decide +kernel) rfl, ts_mem 585 (by decide +kernel) rfl, ts_mem 13 (by decide +kernel) rfl, ts_mem 27 (by decide +kernel) rfl, ts_mem 586 (by decide +kernel) rfl, by decide +kernel⟩
theorem M_X7_163 : rb_Vc RX7 163 RX7 yX7_makeContact cX7_makeContact 4 none 2 := ⟨ts_mem 587 (by decide +kernel) rfl, ts_mem 589 (by decide +kernel) rfl, ts_mem 14 (by decide +kernel) rfl, ts_mem 27 (by decide +kernel) rfl, ts_mem 590 (by decide +kernel) rfl, by decide +kernel⟩
theorem M_X7_299 : rb_Vc RX7 299 RX2 yX2_put cX2_put 3 none 2 := ⟨ts_mem 591 (by decide +kernel) rfl, ts_mem 592 (by decide +kernel) rfl, ts_mem 593 (by decide +kernel) rfl, ts_mem 32 (by decide +kernel) rfl, ts_mem 594 (by decide +kernel) rfl, by decide +kernel⟩
theorem M_X2_21 : rb_Vc RX2 21 RX2 yX2_isLine cX2_isLine 2 (some .boolean) 1 := ⟨ts_mem 595 (by decide +kernel) rfl, ts_mem 597 (by decide +kernel) rfl, ts_mem 15 (by decide +kernel) rfl, ts_mem 32 (by decide +kernel) rfl, ts_mem 598 (by decide +kernel) rfl, by decide +kernel⟩
theorem M_X7_302 : rb_Vc RX7 302 RX2 yX2_takeOut cX2_takeOut 2 none 1 := ⟨ts_mem 599 (by decide +kernel) rfl, ts_mem 600 (by decide +kernel) rfl, ts_mem 601 (by decide +kernel) rfl, ts_mem 32 (by decide +kernel) rfl, ts_mem 602 (by decide +kernel) rfl, by decide +kernel⟩
theorem M_X2_29 : rb_Vc RX2 29 RX2 yX2_put cX2_put 3 none 2 := ⟨ts_mem 603 (by decide +kernel) rfl, ts_mem 592 (by decide +kernel) rfl, ts_mem 593 (by decide +kernel) rfl, ts_mem 32 (by decide +kernel) rfl, ts_mem 594 (by decide +kernel) rfl, by decide +kernel⟩
theorem M_L_181 : rb_SWc RL 181 yL_cap cL_cap 5 (some .int) [(0, 7, 10, 14), (0, 7, 16, 16)] 4 := ⟨ts_mem 604 (by decide +kernel) rfl, ts_mem 605 (by decide +kernel) rfl, ts_mem 26 (by decide +kernel) rfl, ts_mem 606 (by decide +kernel) rfl, by decide +kernel⟩
theorem M_L_71 : rb_Vc RL 71 RX7 yX7_cap cX7_cap 5 none 3 := ⟨ts_mem 607 (by decide +kernel) rfl, ts_mem 608 (by decide +kernel) rfl, ts_mem 609 (by decide +kernel) rfl, ts_mem 27 (by decide +kernel) rfl, ts_mem 610 (by decide +kernel) rfl, by decide +kernel⟩
theorem M_L_184 : rb_SWc RL 184 yL_call cL_call 6 (some .int) [(0, 9, 12, 14), (0, 9, 18, 16), (0, 9, 24, 26)] 4 := ⟨ts_mem 612 (by decide +kernel) rfl, ts_mem 613 (by decide +kernel) rfl, ts_mem 26 (by decide +kernel) rfl, ts_mem 614 (by decide +kernel) rfl, by decide +kernel⟩
theorem M_L_75 : rb_Vc RL 75 RX7 yX7_call cX7_call 10 (some .int) 3 := ⟨ts_mem 615 (by decide +kernel) rfl, ts_mem 616 (by decide +kernel) rfl, ts_mem 617 (by decide +kernel) rfl, ts_mem 27 (by decide +kernel) rfl, ts_mem 618 (by decide +kernel) rfl, by decide +kernel⟩
theorem M_X7_204 : rb_Vc RX7 204 RX7 yX7_whyNotFound cX7_whyNotFound 3 (some .int) 2 := ⟨ts_mem 620 (by decide +kernel) rfl, ts_mem 622 (by decide +kernel) rfl, ts_mem 16 (by decide +kernel) rfl, ts_mem 27 (by decide +kernel) rfl, ts_mem 623 (by decide +kernel) rfl, by decide +kernel⟩
theorem M_X7_177 : rb_Vc RX7 177 RX2 yX2_has cX2_has 2 (some .boolean) 1 := ⟨ts_mem 624 (by decide +kernel) rfl, ts_mem 625 (by decide +kernel) rfl, ts_mem 626 (by decide +kernel) rfl, ts_mem 32 (by decide +kernel) rfl, ts_mem 627 (by decide +kernel) rfl, by decide +kernel⟩
theorem M_X2_25 : rb_Vc RX2 25 RX2 yX2_latest cX2_latest 2 (some .int) 1 := ⟨ts_mem 628 (by decide +kernel) rfl, ts_mem 629 (by decide +kernel) rfl, ts_mem 630 (by decide +kernel) rfl, ts_mem 32 (by decide +kernel) rfl, ts_mem 631 (by decide +kernel) rfl, by decide +kernel⟩
theorem M_X7_208 : rb_Vc RX7 208 RX7 yX7_priceOfCalling cX7_priceOfCalling 3 (some .int) 1 := ⟨ts_mem 632 (by decide +kernel) rfl, ts_mem 634 (by decide +kernel) rfl, ts_mem 17 (by decide +kernel) rfl, ts_mem 27 (by decide +kernel) rfl, ts_mem 635 (by decide +kernel) rfl, by decide +kernel⟩
theorem M_X7_317 : rb_Vc RX7 317 RX6 yX6_isAbroad cX6_isAbroad 1 (some .boolean) 0 := ⟨ts_mem 636 (by decide +kernel) rfl, ts_mem 637 (by decide +kernel) rfl, ts_mem 638 (by decide +kernel) rfl, ts_mem 47 (by decide +kernel) rfl, ts_mem 639 (by decide +kernel) rfl, by decide +kernel⟩
theorem M_X7_212 : rb_Vc RX7 212 RX7 yX7_priceOfBeingCalled cX7_priceOfBeingCalled 2 (some .int) 1 := ⟨ts_mem 640 (by decide +kernel) rfl, ts_mem 642 (by decide +kernel) rfl, ts_mem 18 (by decide +kernel) rfl, ts_mem 27 (by decide +kernel) rfl, ts_mem 643 (by decide +kernel) rfl, by decide +kernel⟩
theorem M_X7_215 : rb_Vc RX7 215 RX6 yX6_wouldComeAboveCap cX6_wouldComeAboveCap 2 (some .boolean) 1 := ⟨ts_mem 644 (by decide +kernel) rfl, ts_mem 645 (by decide +kernel) rfl, ts_mem 646 (by decide +kernel) rfl, ts_mem 47 (by decide +kernel) rfl, ts_mem 647 (by decide +kernel) rfl, by decide +kernel⟩
theorem M_X6_33 : rb_Vc RX6 33 RX6 yX6_isAbroad cX6_isAbroad 1 (some .boolean) 0 := ⟨ts_mem 648 (by decide +kernel) rfl, ts_mem 637 (by decide +kernel) rfl, ts_mem 638 (by decide +kernel) rfl, ts_mem 47 (by decide +kernel) rfl, ts_mem 639 (by decide +kernel) rfl, by decide +kernel⟩
theorem M_X7_220 : rb_Ic RX7 220 yX3_init cX3_init 5 4 := ⟨ts_mem 651 (by decide +kernel) rfl, ts_mem 652 (by decide +kernel) rfl, ts_mem 48 (by decide +kernel) rfl, ts_mem 653 (by decide +kernel) rfl, rfl, by decide +kernel⟩
theorem M_X3_1 : Cond.methodLink RX3 1 objectInit ∈ TS := ts_mem 654 (by decide +kernel) rfl
theorem M_X7_221 : rb_Vc RX7 221 RX7 yX7_settle cX7_settle 5 none 3 := ⟨ts_mem 668 (by decide +kernel) rfl, ts_mem 670 (by decide +kernel) rfl, ts_mem 19 (by decide +kernel) rfl, ts_mem 27 (by decide +kernel) rfl, ts_mem 671 (by decide +kernel) rfl, by decide +kernel⟩
theorem M_X7_228 : rb_Vc RX7 228 RX7 yX7_accountOf cX7_accountOf 3 (some (.object "RoamBooks$Account")) 2 := ⟨ts_mem 672 (by decide +kernel) rfl, ts_mem 674 (by decide +kernel) rfl, ts_mem 20 (by decide +kernel) rfl, ts_mem 27 (by decide +kernel) rfl, ts_mem 675 (by decide +kernel) rfl, by decide +kernel⟩
theorem M_X7_325 : rb_Ic RX7 325 yX4_init cX4_init 4 3 := ⟨ts_mem 678 (by decide +kernel) rfl, ts_mem 679 (by decide +kernel) rfl, ts_mem 49 (by decide +kernel) rfl, ts_mem 680 (by decide +kernel) rfl, rfl, by decide +kernel⟩
theorem M_X4_3 : Cond.methodLink RX4 3 objectInit ∈ TS := ts_mem 681 (by decide +kernel) rfl
theorem M_L_186 : rb_SWc RL 186 yL_file cL_file 5 (some .int) [(0, 7, 10, 14), (0, 7, 16, 26)] 3 := ⟨ts_mem 702 (by decide +kernel) rfl, ts_mem 703 (by decide +kernel) rfl, ts_mem 26 (by decide +kernel) rfl, ts_mem 704 (by decide +kernel) rfl, by decide +kernel⟩
theorem M_L_81 : rb_Vc RL 81 RX7 yX7_file cX7_file 4 (some .int) 2 := ⟨ts_mem 705 (by decide +kernel) rfl, ts_mem 706 (by decide +kernel) rfl, ts_mem 707 (by decide +kernel) rfl, ts_mem 27 (by decide +kernel) rfl, ts_mem 708 (by decide +kernel) rfl, by decide +kernel⟩
theorem M_X7_232 : rb_Vc RX7 232 RX0 yX0_hasUnfiled cX0_hasUnfiled 1 (some .boolean) 0 := ⟨ts_mem 709 (by decide +kernel) rfl, ts_mem 710 (by decide +kernel) rfl, ts_mem 711 (by decide +kernel) rfl, ts_mem 34 (by decide +kernel) rfl, ts_mem 712 (by decide +kernel) rfl, by decide +kernel⟩
theorem M_X0_35 : rb_Vc RX0 35 RX0 yX0_minutesThatAre cX0_minutesThatAre 5 (some .int) 1 := ⟨ts_mem 713 (by decide +kernel) rfl, ts_mem 714 (by decide +kernel) rfl, ts_mem 715 (by decide +kernel) rfl, ts_mem 34 (by decide +kernel) rfl, ts_mem 716 (by decide +kernel) rfl, by decide +kernel⟩
theorem M_X0_18 : rb_Vc RX0 18 RJx4a65c yJx4a65c_size_8abf5 cJx4a65c_size_8abf5 1 (some .int) 0 := ⟨ts_mem 717 (by decide +kernel) rfl, ts_mem 288 (by decide +kernel) rfl, ts_mem 289 (by decide +kernel) rfl, ts_mem 30 (by decide +kernel) rfl, ts_mem 290 (by decide +kernel) rfl, by decide +kernel⟩
theorem M_X0_22 : rb_Vc RX0 22 RJx4a65c yJx4a65c_get_915e3 cJx4a65c_get_915e3 2 (some (.object "java/lang/Object")) 1 := ⟨ts_mem 718 (by decide +kernel) rfl, ts_mem 292 (by decide +kernel) rfl, ts_mem 293 (by decide +kernel) rfl, ts_mem 30 (by decide +kernel) rfl, ts_mem 294 (by decide +kernel) rfl, by decide +kernel⟩
theorem M_X7_240 : rb_Vc RX7 240 RX0 yX0_fileTheRest cX0_fileTheRest 4 (some .int) 0 := ⟨ts_mem 721 (by decide +kernel) rfl, ts_mem 722 (by decide +kernel) rfl, ts_mem 723 (by decide +kernel) rfl, ts_mem 34 (by decide +kernel) rfl, ts_mem 724 (by decide +kernel) rfl, by decide +kernel⟩
theorem M_L_188 : rb_SWc RL 188 yL_deliver cL_deliver 6 (some .int) [(0, 9, 12, 14)] 4 := ⟨ts_mem 725 (by decide +kernel) rfl, ts_mem 726 (by decide +kernel) rfl, ts_mem 26 (by decide +kernel) rfl, ts_mem 727 (by decide +kernel) rfl, by decide +kernel⟩
theorem M_L_84 : rb_Vc RL 84 RX7 yX7_deliver cX7_deliver 5 (some .int) 3 := ⟨ts_mem 728 (by decide +kernel) rfl, ts_mem 729 (by decide +kernel) rfl, ts_mem 730 (by decide +kernel) rfl, ts_mem 27 (by decide +kernel) rfl, ts_mem 731 (by decide +kernel) rfl, by decide +kernel⟩
theorem M_X7_251 : rb_Vc RX7 251 RX0 yX0_takeNextFile cX0_takeNextFile 5 (some .int) 1 := ⟨ts_mem 733 (by decide +kernel) rfl, ts_mem 734 (by decide +kernel) rfl, ts_mem 735 (by decide +kernel) rfl, ts_mem 34 (by decide +kernel) rfl, ts_mem 736 (by decide +kernel) rfl, by decide +kernel⟩
theorem M_L_191 : rb_SWc RL 191 yL_pass cL_pass 4 (some .int) [(0, 6, 9, 16), (0, 6, 14, 26)] 2 := ⟨ts_mem 738 (by decide +kernel) rfl, ts_mem 739 (by decide +kernel) rfl, ts_mem 26 (by decide +kernel) rfl, ts_mem 740 (by decide +kernel) rfl, by decide +kernel⟩
theorem M_L_96 : rb_Vc RL 96 RX7 yX7_pass cX7_pass 3 (some .int) 1 := ⟨ts_mem 741 (by decide +kernel) rfl, ts_mem 742 (by decide +kernel) rfl, ts_mem 743 (by decide +kernel) rfl, ts_mem 27 (by decide +kernel) rfl, ts_mem 744 (by decide +kernel) rfl, by decide +kernel⟩
theorem M_X7_266 : rb_Vc RX7 266 RX7 yX7_beginHours cX7_beginHours 5 none 2 := ⟨ts_mem 747 (by decide +kernel) rfl, ts_mem 749 (by decide +kernel) rfl, ts_mem 21 (by decide +kernel) rfl, ts_mem 27 (by decide +kernel) rfl, ts_mem 750 (by decide +kernel) rfl, by decide +kernel⟩
theorem M_X7_305 : rb_Sc RX7 305 yJ9_min_7cf53 cJ9_min_7cf53 2 (some .int) 2 := ⟨ts_mem 751 (by decide +kernel) rfl, ts_mem 450 (by decide +kernel) rfl, ts_mem 45 (by decide +kernel) rfl, ts_mem 451 (by decide +kernel) rfl, by decide +kernel⟩
theorem M_X7_311 : rb_Vc RX7 311 RX7 yX7_beginHour cX7_beginHour 4 none 1 := ⟨ts_mem 752 (by decide +kernel) rfl, ts_mem 754 (by decide +kernel) rfl, ts_mem 22 (by decide +kernel) rfl, ts_mem 27 (by decide +kernel) rfl, ts_mem 755 (by decide +kernel) rfl, by decide +kernel⟩
theorem M_X7_314 : rb_Vc RX7 314 RX2 yX2_takeOutUpTo cX2_takeOutUpTo 3 none 1 := ⟨ts_mem 756 (by decide +kernel) rfl, ts_mem 757 (by decide +kernel) rfl, ts_mem 758 (by decide +kernel) rfl, ts_mem 32 (by decide +kernel) rfl, ts_mem 759 (by decide +kernel) rfl, by decide +kernel⟩
theorem M_X7_270 : rb_Vc RX7 270 RX7 yX7_beginMonth cX7_beginMonth 2 none 0 := ⟨ts_mem 761 (by decide +kernel) rfl, ts_mem 763 (by decide +kernel) rfl, ts_mem 23 (by decide +kernel) rfl, ts_mem 27 (by decide +kernel) rfl, ts_mem 764 (by decide +kernel) rfl, by decide +kernel⟩
theorem M_L_101 : rb_Sc RL 101 yL_holds cL_holds 5 (some .int) 4 := ⟨ts_mem 765 (by decide +kernel) rfl, ts_mem 766 (by decide +kernel) rfl, ts_mem 26 (by decide +kernel) rfl, ts_mem 767 (by decide +kernel) rfl, by decide +kernel⟩
theorem M_L_173 : rb_Sc RL 173 yL_reason cL_reason 5 (some .int) 5 := ⟨ts_mem 768 (by decide +kernel) rfl, ts_mem 769 (by decide +kernel) rfl, ts_mem 26 (by decide +kernel) rfl, ts_mem 770 (by decide +kernel) rfl, by decide +kernel⟩
theorem M_L_176 : rb_Sc RL 176 yL_meets cL_meets 6 none 4 := ⟨ts_mem 771 (by decide +kernel) rfl, ts_mem 772 (by decide +kernel) rfl, ts_mem 26 (by decide +kernel) rfl, ts_mem 773 (by decide +kernel) rfl, by decide +kernel⟩
theorem M_L_106 : rb_Sc RL 106 yL_paid cL_paid 8 (some .int) 5 := ⟨ts_mem 774 (by decide +kernel) rfl, ts_mem 775 (by decide +kernel) rfl, ts_mem 26 (by decide +kernel) rfl, ts_mem 776 (by decide +kernel) rfl, by decide +kernel⟩
theorem M_L_110 : rb_SWc RL 110 yL_subscriberIs cL_subscriberIs 5 (some .int) [(0, 7, 10, 14), (0, 7, 16, 16)] 3 := ⟨ts_mem 781 (by decide +kernel) rfl, ts_mem 782 (by decide +kernel) rfl, ts_mem 26 (by decide +kernel) rfl, ts_mem 783 (by decide +kernel) rfl, by decide +kernel⟩
theorem M_L_68 : rb_Vc RL 68 RX7 yX7_subscriberIs cX7_subscriberIs 4 (some .int) 2 := ⟨ts_mem 784 (by decide +kernel) rfl, ts_mem 785 (by decide +kernel) rfl, ts_mem 786 (by decide +kernel) rfl, ts_mem 27 (by decide +kernel) rfl, ts_mem 787 (by decide +kernel) rfl, by decide +kernel⟩
theorem M_X7_187 : rb_Vc RX7 187 RX6 yX6_isWarned cX6_isWarned 1 (some .boolean) 0 := ⟨ts_mem 788 (by decide +kernel) rfl, ts_mem 789 (by decide +kernel) rfl, ts_mem 790 (by decide +kernel) rfl, ts_mem 47 (by decide +kernel) rfl, ts_mem 791 (by decide +kernel) rfl, by decide +kernel⟩
theorem M_L_113 : rb_SWc RL 113 yL_paidAnew cL_paidAnew 4 (some .int) [(0, 6, 9, 14)] 2 := ⟨ts_mem 795 (by decide +kernel) rfl, ts_mem 796 (by decide +kernel) rfl, ts_mem 26 (by decide +kernel) rfl, ts_mem 797 (by decide +kernel) rfl, by decide +kernel⟩
theorem M_L_78 : rb_Vc RL 78 RX7 yX7_paidAnew cX7_paidAnew 5 (some .int) 1 := ⟨ts_mem 798 (by decide +kernel) rfl, ts_mem 799 (by decide +kernel) rfl, ts_mem 800 (by decide +kernel) rfl, ts_mem 27 (by decide +kernel) rfl, ts_mem 801 (by decide +kernel) rfl, by decide +kernel⟩
theorem M_X7_225 : rb_Vc RX7 225 RX3 yX3_paidBy cX3_paidBy 2 (some .int) 1 := ⟨ts_mem 802 (by decide +kernel) rfl, ts_mem 803 (by decide +kernel) rfl, ts_mem 804 (by decide +kernel) rfl, ts_mem 48 (by decide +kernel) rfl, ts_mem 805 (by decide +kernel) rfl, by decide +kernel⟩
theorem M_L_116 : rb_SWc RL 116 yL_where cL_where 4 (some .int) [(0, 6, 9, 14)] 2 := ⟨ts_mem 806 (by decide +kernel) rfl, ts_mem 807 (by decide +kernel) rfl, ts_mem 26 (by decide +kernel) rfl, ts_mem 808 (by decide +kernel) rfl, by decide +kernel⟩
theorem M_L_58 : rb_Vc RL 58 RX7 yX7_where cX7_where 2 (some .int) 1 := ⟨ts_mem 809 (by decide +kernel) rfl, ts_mem 810 (by decide +kernel) rfl, ts_mem 811 (by decide +kernel) rfl, ts_mem 27 (by decide +kernel) rfl, ts_mem 812 (by decide +kernel) rfl, by decide +kernel⟩
theorem M_L_118 : rb_SWc RL 118 yL_contact cL_contact 5 (some .int) [(0, 7, 10, 14)] 3 := ⟨ts_mem 813 (by decide +kernel) rfl, ts_mem 814 (by decide +kernel) rfl, ts_mem 26 (by decide +kernel) rfl, ts_mem 815 (by decide +kernel) rfl, by decide +kernel⟩
theorem M_L_61 : rb_Vc RL 61 RX7 yX7_contact cX7_contact 4 (some .int) 2 := ⟨ts_mem 816 (by decide +kernel) rfl, ts_mem 817 (by decide +kernel) rfl, ts_mem 818 (by decide +kernel) rfl, ts_mem 27 (by decide +kernel) rfl, ts_mem 819 (by decide +kernel) rfl, by decide +kernel⟩
theorem M_X7_174 : rb_Vc RX7 174 RX2 yX2_latest cX2_latest 2 (some .int) 1 := ⟨ts_mem 820 (by decide +kernel) rfl, ts_mem 629 (by decide +kernel) rfl, ts_mem 630 (by decide +kernel) rfl, ts_mem 32 (by decide +kernel) rfl, ts_mem 631 (by decide +kernel) rfl, by decide +kernel⟩
theorem M_L_120 : rb_SWc RL 120 yL_agrees cL_agrees 4 (some .int) [(0, 6, 9, 14)] 2 := ⟨ts_mem 821 (by decide +kernel) rfl, ts_mem 822 (by decide +kernel) rfl, ts_mem 26 (by decide +kernel) rfl, ts_mem 823 (by decide +kernel) rfl, by decide +kernel⟩
theorem M_L_64 : rb_Vc RL 64 RX7 yX7_agrees cX7_agrees 4 (some .boolean) 1 := ⟨ts_mem 824 (by decide +kernel) rfl, ts_mem 825 (by decide +kernel) rfl, ts_mem 826 (by decide +kernel) rfl, ts_mem 27 (by decide +kernel) rfl, ts_mem 827 (by decide +kernel) rfl, by decide +kernel⟩
theorem M_L_122 : rb_SWc RL 122 yL_emergency cL_emergency 4 (some .int) [(0, 6, 9, 14)] 2 := ⟨ts_mem 828 (by decide +kernel) rfl, ts_mem 829 (by decide +kernel) rfl, ts_mem 26 (by decide +kernel) rfl, ts_mem 830 (by decide +kernel) rfl, by decide +kernel⟩
theorem M_L_55 : rb_Vc RL 55 RX7 yX7_emergency cX7_emergency 5 (some .int) 1 := ⟨ts_mem 831 (by decide +kernel) rfl, ts_mem 832 (by decide +kernel) rfl, ts_mem 833 (by decide +kernel) rfl, ts_mem 27 (by decide +kernel) rfl, ts_mem 834 (by decide +kernel) rfl, by decide +kernel⟩
theorem M_L_127 : rb_SWc RL 127 yL_recorded cL_recorded 6 (some .int) [(0, 9, 12, 14), (0, 9, 18, 16)] 4 := ⟨ts_mem 835 (by decide +kernel) rfl, ts_mem 836 (by decide +kernel) rfl, ts_mem 26 (by decide +kernel) rfl, ts_mem 837 (by decide +kernel) rfl, by decide +kernel⟩
theorem M_L_93 : rb_Vc RL 93 RX7 yX7_recorded cX7_recorded 5 (some .int) 3 := ⟨ts_mem 838 (by decide +kernel) rfl, ts_mem 839 (by decide +kernel) rfl, ts_mem 840 (by decide +kernel) rfl, ts_mem 27 (by decide +kernel) rfl, ts_mem 841 (by decide +kernel) rfl, by decide +kernel⟩
theorem M_X7_260 : rb_Vc RX7 260 RX0 yX0_minutesThatAre cX0_minutesThatAre 5 (some .int) 1 := ⟨ts_mem 842 (by decide +kernel) rfl, ts_mem 714 (by decide +kernel) rfl, ts_mem 715 (by decide +kernel) rfl, ts_mem 34 (by decide +kernel) rfl, ts_mem 716 (by decide +kernel) rfl, by decide +kernel⟩
theorem M_L_130 : rb_Sc RL 130 yL_minutes cL_minutes 7 (some .int) 5 := ⟨ts_mem 843 (by decide +kernel) rfl, ts_mem 844 (by decide +kernel) rfl, ts_mem 26 (by decide +kernel) rfl, ts_mem 845 (by decide +kernel) rfl, by decide +kernel⟩
theorem M_L_134 : rb_SWc RL 134 yL_owes cL_owes 5 (some .int) [(0, 7, 10, 14)] 3 := ⟨ts_mem 846 (by decide +kernel) rfl, ts_mem 847 (by decide +kernel) rfl, ts_mem 26 (by decide +kernel) rfl, ts_mem 848 (by decide +kernel) rfl, by decide +kernel⟩
theorem M_L_87 : rb_Vc RL 87 RX7 yX7_owes cX7_owes 3 (some .int) 2 := ⟨ts_mem 849 (by decide +kernel) rfl, ts_mem 850 (by decide +kernel) rfl, ts_mem 851 (by decide +kernel) rfl, ts_mem 27 (by decide +kernel) rfl, ts_mem 852 (by decide +kernel) rfl, by decide +kernel⟩
theorem M_X7_254 : rb_Vc RX7 254 RX0 yX0_owed cX0_owed 4 (some .int) 0 := ⟨ts_mem 853 (by decide +kernel) rfl, ts_mem 854 (by decide +kernel) rfl, ts_mem 855 (by decide +kernel) rfl, ts_mem 34 (by decide +kernel) rfl, ts_mem 856 (by decide +kernel) rfl, by decide +kernel⟩
theorem M_X0_52 : rb_Vc RX0 52 RX4 yX4_owed cX4_owed 2 (some .int) 1 := ⟨ts_mem 857 (by decide +kernel) rfl, ts_mem 858 (by decide +kernel) rfl, ts_mem 859 (by decide +kernel) rfl, ts_mem 49 (by decide +kernel) rfl, ts_mem 860 (by decide +kernel) rfl, by decide +kernel⟩
theorem M_X4_28 : rb_Vc RX4 28 RX1 yX1_priceAt cX1_priceAt 2 (some .int) 1 := ⟨ts_mem 861 (by decide +kernel) rfl, ts_mem 862 (by decide +kernel) rfl, ts_mem 863 (by decide +kernel) rfl, ts_mem 43 (by decide +kernel) rfl, ts_mem 864 (by decide +kernel) rfl, by decide +kernel⟩
theorem M_L_136 : rb_SWc RL 136 yL_owesAnew cL_owesAnew 5 (some .int) [(0, 7, 10, 14)] 3 := ⟨ts_mem 865 (by decide +kernel) rfl, ts_mem 866 (by decide +kernel) rfl, ts_mem 26 (by decide +kernel) rfl, ts_mem 867 (by decide +kernel) rfl, by decide +kernel⟩
theorem M_L_90 : rb_Vc RL 90 RX7 yX7_owesAnew cX7_owesAnew 3 (some .int) 2 := ⟨ts_mem 868 (by decide +kernel) rfl, ts_mem 869 (by decide +kernel) rfl, ts_mem 870 (by decide +kernel) rfl, ts_mem 27 (by decide +kernel) rfl, ts_mem 871 (by decide +kernel) rfl, by decide +kernel⟩
theorem M_X7_257 : rb_Vc RX7 257 RX0 yX0_owedFileByFile cX0_owedFileByFile 4 (some .int) 0 := ⟨ts_mem 872 (by decide +kernel) rfl, ts_mem 873 (by decide +kernel) rfl, ts_mem 874 (by decide +kernel) rfl, ts_mem 34 (by decide +kernel) rfl, ts_mem 875 (by decide +kernel) rfl, by decide +kernel⟩
theorem M_X0_55 : rb_Vc RX0 55 RX0 yX0_minutesTakenIn cX0_minutesTakenIn 5 (some .int) 1 := ⟨ts_mem 876 (by decide +kernel) rfl, ts_mem 878 (by decide +kernel) rfl, ts_mem 24 (by decide +kernel) rfl, ts_mem 34 (by decide +kernel) rfl, ts_mem 879 (by decide +kernel) rfl, by decide +kernel⟩
theorem M_X0_58 : rb_Vc RX0 58 RX0 yX0_owedIn cX0_owedIn 6 (some .int) 2 := ⟨ts_mem 880 (by decide +kernel) rfl, ts_mem 882 (by decide +kernel) rfl, ts_mem 25 (by decide +kernel) rfl, ts_mem 34 (by decide +kernel) rfl, ts_mem 883 (by decide +kernel) rfl, by decide +kernel⟩
theorem ts_oi : Cond.instanceMethod objectInit ∈ TS := ts_mem 56 (by decide +kernel) rfl
theorem ts_oc : Cond.code objectInit ⟨#[0xb1]⟩ 1 none ∈ TS := ts_mem 57 (by decide +kernel) rfl
theorem NI_X5 : Cond.instanceMethod yX5_init ∈ TS ∧ Cond.initialized yX5_init.cls ∈ TS ∧ Cond.code yX5_init cX5_init 1 none ∈ TS := ⟨ts_mem 91 (by decide +kernel) rfl, ts_mem 31 (by decide +kernel) rfl, ts_mem 92 (by decide +kernel) rfl⟩
theorem NI_X0 : Cond.instanceMethod yX0_init ∈ TS ∧ Cond.initialized yX0_init.cls ∈ TS ∧ Cond.code yX0_init cX0_init 1 none ∈ TS := ⟨ts_mem 136 (by decide +kernel) rfl, ts_mem 34 (by decide +kernel) rfl, ts_mem 137 (by decide +kernel) rfl⟩
theorem N_L_7 : Cond.constant RL 7 (1205587479) ∈ TS := ts_mem 179 (by decide +kernel) rfl
theorem N_X7_94 : Cond.constant RX7 94 (999999) ∈ TS := ts_mem 349 (by decide +kernel) rfl
theorem N_X7_95 : Cond.constant RX7 95 (1000000) ∈ TS := ts_mem 350 (by decide +kernel) rfl
theorem N_J8_200 : Cond.constant RJ8 200 (2147483639) ∈ TS := ts_mem 420 (by decide +kernel) rfl
theorem N_X7_199 : Cond.constant RX7 199 (99999) ∈ TS := ts_mem 611 (by decide +kernel) rfl
theorem N_X7_203 : Cond.constant RX7 203 (36000) ∈ TS := ts_mem 619 (by decide +kernel) rfl
theorem N_X0_51 : Cond.constant RX0 51 (43200) ∈ TS := ts_mem 737 (by decide +kernel) rfl
theorem N_X7_263 : Cond.constant RX7 263 (50000) ∈ TS := ts_mem 745 (by decide +kernel) rfl
theorem N_X7_269 : Cond.constant RX7 269 (43200) ∈ TS := ts_mem 760 (by decide +kernel) rfl
theorem N_L_105 : Cond.constant RL 105 (43200) ∈ TS := ts_mem 777 (by decide +kernel) rfl
theorem N_X6_44 : Cond.constantLong RX6 44 (100) ∈ TS := ts_mem 792 (by decide +kernel) rfl
theorem N_X6_46 : Cond.constantLong RX6 46 (80) ∈ TS := ts_mem 793 (by decide +kernel) rfl
theorem N_L_143 : Cond.constant RL 143 (1073741824) ∈ TS := ts_mem 884 (by decide +kernel) rfl
theorem N_L_149 : Cond.constant RL 149 (1048576) ∈ TS := ts_mem 885 (by decide +kernel) rfl
theorem N_L_150 : Cond.constant RL 150 (2097152) ∈ TS := ts_mem 886 (by decide +kernel) rfl
theorem N_L_151 : Cond.constant RL 151 (900000) ∈ TS := ts_mem 887 (by decide +kernel) rfl
theorem N_L_152 : Cond.constant RL 152 (1000000) ∈ TS := ts_mem 888 (by decide +kernel) rfl
theorem N_L_180 : Cond.constant RL 180 (33554432) ∈ TS := ts_mem 889 (by decide +kernel) rfl
theorem N_L_190 : Cond.constant RL 190 (999999) ∈ TS := ts_mem 890 (by decide +kernel) rfl
theorem ts_arr_int : Cond.arrayClass .int ∈ TS := ts_mem 88 (by decide +kernel) rfl
