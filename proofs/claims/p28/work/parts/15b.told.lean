theorem pp_s {most : Nat} {c : Char} {cs rest rest' : List Char} {t : FieldType} {ts : List FieldType} (hc : c ≠ ')') (h1 : fieldTypePrefix 0 (c :: cs) = some (t, rest)) (h2 : parametersPrefix most rest = some (ts, rest')) : parametersPrefix (most + 1) (c :: cs) = some (t :: ts, rest') := by
  simp [parametersPrefix, hc, h1, h2]
theorem pp_0 {most : Nat} {rest : List Char} : parametersPrefix most (')' :: rest) = some ([], rest) := by
  simp [parametersPrefix]
theorem pp_told : parametersPrefix 255 "LRoamBooks;I[I[I[I[I[I[I[I[I)Z".toList = some ([.object "RoamBooks", .int, .array .int, .array .int, .array .int, .array .int, .array .int, .array .int, .array .int, .array .int], ['Z']) := by
  rw [show "LRoamBooks;I[I[I[I[I[I[I[I[I)Z".toList = ['L', 'R', 'o', 'a', 'm', 'B', 'o', 'o', 'k', 's', ';', 'I', '[', 'I', '[', 'I', '[', 'I', '[', 'I', '[', 'I', '[', 'I', '[', 'I', '[', 'I', ')', 'Z'] by decide +kernel]
  refine pp_s (by decide) (rest := ['I', '[', 'I', '[', 'I', '[', 'I', '[', 'I', '[', 'I', '[', 'I', '[', 'I', '[', 'I', ')', 'Z']) (by decide +kernel) ?_
  refine pp_s (by decide) (rest := ['[', 'I', '[', 'I', '[', 'I', '[', 'I', '[', 'I', '[', 'I', '[', 'I', '[', 'I', ')', 'Z']) (by decide +kernel) ?_
  refine pp_s (by decide) (rest := ['[', 'I', '[', 'I', '[', 'I', '[', 'I', '[', 'I', '[', 'I', '[', 'I', ')', 'Z']) (by decide +kernel) ?_
  refine pp_s (by decide) (rest := ['[', 'I', '[', 'I', '[', 'I', '[', 'I', '[', 'I', '[', 'I', ')', 'Z']) (by decide +kernel) ?_
  refine pp_s (by decide) (rest := ['[', 'I', '[', 'I', '[', 'I', '[', 'I', '[', 'I', ')', 'Z']) (by decide +kernel) ?_
  refine pp_s (by decide) (rest := ['[', 'I', '[', 'I', '[', 'I', '[', 'I', ')', 'Z']) (by decide +kernel) ?_
  refine pp_s (by decide) (rest := ['[', 'I', '[', 'I', '[', 'I', ')', 'Z']) (by decide +kernel) ?_
  refine pp_s (by decide) (rest := ['[', 'I', '[', 'I', ')', 'Z']) (by decide +kernel) ?_
  refine pp_s (by decide) (rest := ['[', 'I', ')', 'Z']) (by decide +kernel) ?_
  refine pp_s (by decide) (rest := [')', 'Z']) (by decide +kernel) ?_
  exact pp_0
theorem pd_isTold : (parseMethodDescriptor "(LRoamBooks;I[I[I[I[I[I[I[I[I)Z").map (fun d => d.parameters.length) = some 10 := by
  unfold parseMethodDescriptor
  rw [show "(LRoamBooks;I[I[I[I[I[I[I[I[I)Z".toList = '(' :: "LRoamBooks;I[I[I[I[I[I[I[I[I)Z".toList by decide +kernel]
  simp only [pp_told]
  decide +kernel
set_option maxRecDepth 100000 in
set_option maxHeartbeats 4000000 in
theorem w_isTold : lw_tbl[780]? = some (Cond.code yL_isTold cL_isTold 18 (some .boolean)) := by rfl
theorem M_L_193 : rb_Sc RL 193 yL_isTold cL_isTold 18 (some .boolean) 10 := ⟨ts_mem 778 (by decide +kernel) rfl, ts_mem 779 (by decide +kernel) rfl, ts_mem 26 (by decide +kernel) rfl, ts_mem 780 w_isTold rfl, ⟨by decide +kernel, by decide +kernel, pd_isTold⟩⟩
