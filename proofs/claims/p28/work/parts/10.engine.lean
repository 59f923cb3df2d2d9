/-! THE ENGINE: heaps by roles. A role (r : rb_R) names a cell; 'ad' says at which address it lies. A world G holds what the cells hold, in terms of roles. -/
abbrev rb_R : Type := Nat × Nat × Nat
abbrev rb_V : Type := Int32 ⊕ (Option rb_R ⊕ Int64)
abbrev rbI (x : Int32) : rb_V := .inl x
abbrev rbO (o : Option rb_R) : rb_V := .inr (.inl o)
abbrev rbR (r : rb_R) : rb_V := .inr (.inl (some r))
abbrev rbL (x : Int64) : rb_V := .inr (.inr x)
def rb_c (ad : rb_R → Nat) (v : rb_V) : Value := match v with
  | .inl x => .int x
  | .inr (.inl o) => va_rf (o.map ad)
  | .inr (.inr x) => .long x
def rb_cat (v : rb_V) : Nat := match v with
  | .inr (.inr _) => 2
  | _ => 1
theorem rb_cat_c (ad : rb_R → Nat) (v : rb_V) : (rb_c ad v).category = rb_cat v := by
  rcases v with x | o | x
  · rfl
  · cases o <;> rfl
  · rfl
/-- domain, lengths of arrays, ints, references, longs -/
abbrev rb_G : Type := (rb_R → Prop) × (rb_R → Nat) × (rb_R → Nat → Int32) × (rb_R → Nat → Option rb_R) × (rb_R → Nat → Int64)
def gD (G : rb_G) : rb_R → Prop := G.1
def gN (G : rb_G) : rb_R → Nat := G.2.1
def gI (G : rb_G) : rb_R → Nat → Int32 := G.2.2.1
def gP (G : rb_G) : rb_R → Nat → Option rb_R := G.2.2.2.1
def gJ (G : rb_G) : rb_R → Nat → Int64 := G.2.2.2.2
def up2 {α : Type} (f : rb_R → Nat → α) (r : rb_R) (k : Nat) (v : α) : rb_R → Nat → α := fun r' k' => if r' = r ∧ k' = k then v else f r' k'
def sI (G : rb_G) (r : rb_R) (k : Nat) (v : Int32) : rb_G := (gD G, gN G, up2 (gI G) r k v, gP G, gJ G)
def sP (G : rb_G) (r : rb_R) (k : Nat) (v : Option rb_R) : rb_G := (gD G, gN G, gI G, up2 (gP G) r k v, gJ G)
def sJ (G : rb_G) (r : rb_R) (k : Nat) (v : Int64) : rb_G := (gD G, gN G, gI G, gP G, up2 (gJ G) r k v)
/-- a new cell of length n, blank -/
def sN (G : rb_G) (r : rb_R) (n : Nat) : rb_G := (fun x => x = r ∨ gD G x, fun x => if x = r then n else gN G x, fun x k => if x = r then 0 else gI G x k, fun x k => if x = r then none else gP G x k, fun x k => if x = r then 0 else gJ G x k)
/-- a role whose cell is of no concern -/
def sO (G : rb_G) (r : rb_R) : rb_G := (fun x => x = r ∨ gD G x, gN G, gI G, gP G, gJ G)
theorem up2_s {α : Type} (f : rb_R → Nat → α) (r : rb_R) (k : Nat) (v : α) : up2 f r k v r k = v := by simp [up2]
theorem up2_n {α : Type} (f : rb_R → Nat → α) (r : rb_R) (k : Nat) (v : α) {r' : rb_R} {k' : Nat} (h : ¬ (r' = r ∧ k' = k)) : up2 f r k v r' k' = f r' k' := by simp [up2, h]
/-- the kind of a role by its family: a class of vwCl (below 10), 10 int[], 11 boolean[], 12 long[], 13 Object[], 14 Network[], 15 Account[], 20 no concern -/
def rb_k (f : Nat) : Nat := [8, 10, 14, 15, 0, 6, 3, 10, 1, 7, 2, 4, 5, 13, 10, 11, 9, 12].getD f 20
def rb_lay (k : Nat) : List Bool := [[false, true, false], [true, false, false], [false, false, false, false, false, false, false], [true], [false, false, false, false], [false, false, true, false, false], [true, false, false, false, false, false, false], [false, false, false, false, false, false, false, false, false, false, false], [true, true, true, true, true, true, false], [false, false, true, true, true, true, true, false, true, true, true, true, true, true, true, false, true, true, true, true, true, true, true, true, true, true, true, true, false, false, true, true, true, true, true, true, true, true, true]].getD k []
def rb_vals (cv : rb_V → Value) : List Bool → Nat → (Nat → Int32) → (Nat → Option rb_R) → List Value
  | [], _, _, _ => []
  | b :: t, k, I, P => (if b = true then cv (rbO (P k)) else cv (rbI (I k))) :: rb_vals cv t (k + 1) I P
theorem rb_vals_get (cv : rb_V → Value) (I : Nat → Int32) (P : Nat → Option rb_R) : ∀ (l : List Bool) (k0 k : Nat), (rb_vals cv l k0 I P)[k]? = (l[k]?).map (fun b => if b = true then cv (rbO (P (k0 + k))) else cv (rbI (I (k0 + k)))) := by
  intro l
  induction l with
  | nil => intro k0 k; simp [rb_vals]
  | cons b t ih =>
    intro k0 k
    cases k with
    | zero => simp [rb_vals]
    | succ k =>
      simp only [rb_vals, List.getElem?_cons_succ]
      rw [ih (k0 + 1) k, show k0 + 1 + k = k0 + (k + 1) by omega]
theorem rb_vals_len (cv : rb_V → Value) (I : Nat → Int32) (P : Nat → Option rb_R) : ∀ (l : List Bool) (k0 : Nat), (rb_vals cv l k0 I P).length = l.length := by
  intro l
  induction l with
  | nil => intro k0; rfl
  | cons b t ih => intro k0; simp [rb_vals, ih]
theorem rb_vals_setI (cv : rb_V → Value) (I I' : Nat → Int32) (P : Nat → Option rb_R) (l : List Bool) (k : Nat) (v : Int32) (hb : l[k]? = some false) (h1 : I' k = v) (h2 : ∀ j, j ≠ k → I' j = I j) : (rb_vals cv l 0 I P).set k (cv (rbI v)) = rb_vals cv l 0 I' P := by
  apply List.ext_getElem?
  intro j
  have hlt : k < (rb_vals cv l 0 I P).length := by rw [rb_vals_len]; exact (List.getElem?_eq_some_iff.mp hb).1
  by_cases hj : j = k
  · subst hj
    rw [List.getElem?_set_self hlt, rb_vals_get, hb]
    simp [h1]
  · rw [List.getElem?_set_ne (Ne.symm hj), rb_vals_get, rb_vals_get]
    simp only [Nat.zero_add]
    rw [h2 j hj]
theorem rb_vals_setP (cv : rb_V → Value) (I : Nat → Int32) (P P' : Nat → Option rb_R) (l : List Bool) (k : Nat) (v : Option rb_R) (hb : l[k]? = some true) (h1 : P' k = v) (h2 : ∀ j, j ≠ k → P' j = P j) : (rb_vals cv l 0 I P).set k (cv (rbO v)) = rb_vals cv l 0 I P' := by
  apply List.ext_getElem?
  intro j
  have hlt : k < (rb_vals cv l 0 I P).length := by rw [rb_vals_len]; exact (List.getElem?_eq_some_iff.mp hb).1
  by_cases hj : j = k
  · subst hj
    rw [List.getElem?_set_self hlt, rb_vals_get, hb]
    simp [h1]
  · rw [List.getElem?_set_ne (Ne.symm hj), rb_vals_get, rb_vals_get]
    simp only [Nat.zero_add]
    rw [h2 j hj]
/-- what lies at a role's address -/
def rb_e (ad : rb_R → Nat) (cA : Nat → ClassId) (G : rb_G) (r : rb_R) : va_E :=
  if rb_k r.1 < 10 then .inr (rb_k r.1, rb_vals (rb_c ad) (rb_lay (rb_k r.1)) 0 (gI G r) (gP G r))
  else if rb_k r.1 < 12 then .inl (cA (rb_k r.1), gN G r, .inl (gI G r))
  else if rb_k r.1 = 12 then .inl (cA 12, gN G r, .inr (.inl (gJ G r)))
  else .inl (cA (rb_k r.1), gN G r, .inr (.inr (.inr (.inr (fun j => (gP G r j).map ad)))))
/-- the classes' ids and slots, the arrays' classes, the address of ArrayList's empty row, the script's address, the address of Object[]'s class object -/
abbrev rb_X : Type := va_G × (Nat → ClassId) × Nat × Nat × Nat
def rb_tys (cA : Nat → ClassId) : List (ClassId × FieldType) := [(cA 10, .int), (cA 13, .object "java/lang/Object"), (cA 14, .object RX5), (cA 15, .object RX0)]
def rb_P (X : rb_X) (ad : rb_R → Nat) (A : Nat → Prop) (G : rb_G) (H : Heap) : Prop :=
  (∀ r, gD G r → rb_k r.1 < 20 → A (ad r) ∧ va_at X.1 vwCl (ad r, rb_e ad X.2.1 G r) H) ∧
  (∀ r r', gD G r → gD G r' → rb_k r.1 < 20 → rb_k r'.1 < 20 → ad r = ad r' → r = r') ∧
  (∀ r k r', gD G r → gP G r k = some r' → gD G r') ∧ ad (19, 0, 0) = X.2.2.1 ∧ ad (18, 0, 0) = X.2.2.2.1 ∧ ad (21, 0, 0) = X.2.2.2.2
def rb_nx (G : rb_G) (ad : rb_R → Nat) (G' : rb_G) (ad' : rb_R → Nat) : Prop := ∀ r, gD G r → gD G' r ∧ ad' r = ad r
theorem rb_nx.rf {G : rb_G} {ad : rb_R → Nat} : rb_nx G ad G ad := fun _ h => ⟨h, rfl⟩
theorem rb_nx.tr {G1 G2 G3 : rb_G} {a1 a2 a3 : rb_R → Nat} (h : rb_nx G1 a1 G2 a2) (h' : rb_nx G2 a2 G3 a3) : rb_nx G1 a1 G3 a3 := fun r hr => ⟨(h' r (h r hr).1).1, ((h' r (h r hr).1).2).trans (h r hr).2⟩
def rb_ok (G : rb_G) (v : rb_V) : Prop := ∀ r, v = rbR r → gD G r
theorem rb_ok_i (G : rb_G) (x : Int32) : rb_ok G (rbI x) := fun r h => by cases h
theorem rb_ok_l (G : rb_G) (x : Int64) : rb_ok G (rbL x) := fun r h => by cases h
theorem rb_ok_n (G : rb_G) : rb_ok G (rbO none) := fun r h => by cases h
theorem rb_ok_r {G : rb_G} {r : rb_R} (h : gD G r) : rb_ok G (rbR r) := fun r' h' => by cases h'; exact h
theorem rb_ok.mono {G G' : rb_G} {v : rb_V} (h : rb_ok G v) (hm : ∀ r, gD G r → gD G' r) : rb_ok G' v := fun r e => hm r (h r e)
theorem rb_c_nx {G G' : rb_G} {ad ad' : rb_R → Nat} (hn : rb_nx G ad G' ad') {v : rb_V} (h : rb_ok G v) : rb_c ad' v = rb_c ad v := by
  rcases v with x | o | x
  · rfl
  · cases o with
    | none => rfl
    | some r => show Value.ref (ad' r) = Value.ref (ad r); rw [(hn r (h r rfl)).2]
  · rfl
def rb_okL (G : rb_G) (st : List rb_V) : Prop := ∀ v ∈ st, rb_ok G v
def rb_okO (G : rb_G) (Lv : List (Option rb_V)) : Prop := ∀ v, some v ∈ Lv → rb_ok G v
theorem rb_okL.mono {G G' : rb_G} {st : List rb_V} (h : rb_okL G st) (hm : ∀ r, gD G r → gD G' r) : rb_okL G' st := fun v hv => (h v hv).mono hm
theorem rb_okO.mono {G G' : rb_G} {Lv : List (Option rb_V)} (h : rb_okO G Lv) (hm : ∀ r, gD G r → gD G' r) : rb_okO G' Lv := fun v hv => (h v hv).mono hm
theorem rb_okL.cons {G : rb_G} {v : rb_V} {st : List rb_V} (h : rb_okL G st) (hv : rb_ok G v) : rb_okL G (v :: st) := List.forall_mem_cons.mpr ⟨hv, h⟩
theorem rb_okL.tl {G : rb_G} {v : rb_V} {st : List rb_V} (h : rb_okL G (v :: st)) : rb_okL G st := (List.forall_mem_cons.mp h).2
theorem rb_okL.hd {G : rb_G} {v : rb_V} {st : List rb_V} (h : rb_okL G (v :: st)) : rb_ok G v := (List.forall_mem_cons.mp h).1
theorem rb_map_nx {G G' : rb_G} {ad ad' : rb_R → Nat} (hn : rb_nx G ad G' ad') {st : List rb_V} (h : rb_okL G st) : st.map (rb_c ad') = st.map (rb_c ad) := List.map_congr_left fun v hv => rb_c_nx hn (h v hv)
/-- the locals as an association list -/
def rb_al (ad : rb_R → Nat) : Nat → List (Option rb_V) → List (Nat × Value)
  | _, [] => []
  | i, none :: t => rb_al ad (i + 1) t
  | i, some v :: t => (i, rb_c ad v) :: rb_al ad (i + 1) t
theorem rb_al_mem (ad : rb_R → Nat) : ∀ (Lv : List (Option rb_V)) (i0 : Nat) (q : Nat × Value), q ∈ rb_al ad i0 Lv ↔ ∃ (k : Nat) (v : rb_V), Lv[k]? = some (some v) ∧ q = (i0 + k, rb_c ad v) := by
  intro Lv
  induction Lv with
  | nil => intro i0 q; simp [rb_al]
  | cons o t ih =>
    intro i0 q
    have ih' := ih (i0 + 1) q
    have key : (∃ (k : Nat) (v : rb_V), t[k]? = some (some v) ∧ q = (i0 + 1 + k, rb_c ad v)) ↔ ∃ (k : Nat) (v : rb_V), 0 < k ∧ (o :: t)[k]? = some (some v) ∧ q = (i0 + k, rb_c ad v) := by
      constructor
      · rintro ⟨k, v, h1, h2⟩
        exact ⟨k + 1, v, by omega, by simpa using h1, by rw [h2]; congr 1; omega⟩
      · rintro ⟨k, v, h0, h1, h2⟩
        obtain ⟨j, rfl⟩ : ∃ j, k = j + 1 := ⟨k - 1, by omega⟩
        exact ⟨j, v, by simpa using h1, by rw [h2]; congr 1; omega⟩
    cases o with
    | none =>
      simp only [rb_al]
      rw [ih', key]
      constructor
      · rintro ⟨k, v, -, h1, h2⟩; exact ⟨k, v, h1, h2⟩
      · rintro ⟨k, v, h1, h2⟩
        refine ⟨k, v, ?_, h1, h2⟩
        cases k with
        | zero => simp at h1
        | succ k => omega
    | some w =>
      simp only [rb_al, List.mem_cons]
      rw [ih', key]
      constructor
      · rintro (h | ⟨k, v, -, h1, h2⟩)
        · exact ⟨0, w, by simp, by rw [h]; simp⟩
        · exact ⟨k, v, h1, h2⟩
      · rintro ⟨k, v, h1, h2⟩
        cases k with
        | zero => simp at h1; subst h1; exact Or.inl (by rw [h2]; simp)
        | succ k => exact Or.inr ⟨k + 1, v, by omega, h1, h2⟩
def rb_ls (ad : rb_R → Nat) (ls : Array Slot) (Lv : List (Option rb_V)) : Prop := lv_has ls Lv.length (rb_al ad 0 Lv)
theorem rb_ls.get {ad : rb_R → Nat} {ls : Array Slot} {Lv : List (Option rb_V)} (h : rb_ls ad ls Lv) {i : Nat} {v : rb_V} (hi : Lv[i]? = some (some v)) : ls[i]? = some (.val (rb_c ad v)) := by
  have := h.2.2 (i, rb_c ad v) ((rb_al_mem ad Lv 0 _).mpr ⟨i, v, hi, by rw [Nat.zero_add]⟩)
  exact this
/-- fewer locals known -/
theorem rb_ls.weak {ad : rb_R → Nat} {ls : Array Slot} {Lv Lv' : List (Option rb_V)} (h : rb_ls ad ls Lv) (hl : Lv'.length = Lv.length) (hs : ∀ (i : Nat) (v : rb_V), Lv'[i]? = some (some v) → Lv[i]? = some (some v)) : rb_ls ad ls Lv' := by
  refine ⟨by rw [h.1, hl], h.2.1, fun q hq => ?_⟩
  obtain ⟨k, v, h1, rfl⟩ := (rb_al_mem ad Lv' 0 q).mp hq
  exact h.2.2 _ ((rb_al_mem ad Lv 0 _).mpr ⟨k, v, hs k v h1, rfl⟩)
/-- what a store leaves -/
theorem rb_ls.store {ad : rb_R → Nat} {ls' : Array Slot} {Lv : List (Option rb_V)} {i : Nat} {v : rb_V} (hi : i < Lv.length)
    (h : lv_has ls' Lv.length ((i, rb_c ad v) :: (rb_al ad 0 Lv).filter (fun q => !(q.1 == i) && !(q.1 + 1 == i && q.2.category == 2)))) (hc : ∀ w, some w ∈ Lv → rb_cat w = 1) : rb_ls ad ls' (Lv.set i (some v)) := by
  refine ⟨by rw [h.1, List.length_set], h.2.1, fun q hq => ?_⟩
  obtain ⟨k, w, h1, rfl⟩ := (rb_al_mem ad _ 0 q).mp hq
  apply h.2.2
  by_cases hk : k = i
  · subst hk
    rw [List.getElem?_set_self hi] at h1
    cases h1
    rw [Nat.zero_add]
    exact List.mem_cons_self
  · rw [List.getElem?_set_ne (Ne.symm hk)] at h1
    refine List.mem_cons_of_mem _ (List.mem_filter.mpr ⟨(rb_al_mem ad Lv 0 _).mpr ⟨k, w, h1, rfl⟩, ?_⟩)
    have hcw : (rb_c ad w).category = 1 := by rw [rb_cat_c]; exact hc w (List.mem_of_getElem? h1)
    simp [hcw, hk]
/-- the words of the tables that stay -/
def TS : List Cond := lw_tbl.filter goodWord
theorem ts_mem {w : Cond} (i : Nat) (h : lw_tbl[i]? = some w) (hg : goodWord w = true) : w ∈ TS := List.mem_filter.mpr ⟨List.mem_of_getElem? h, hg⟩
theorem ts_good : GoodIn TS TS := fun w hw => ⟨hw, good_of_word (List.mem_filter.mp hw).2⟩
theorem ts_code {c : Cond} (h : c ∈ TS) : GoodIn TS (c :: TS) := fun w hw => (List.mem_cons.mp hw).elim (fun e => by rw [e]; exact ts_good c h) (fun h => ts_good w h)
def rb_cst : List (String × String) := [("RoamBooks$Agreement", "java/lang/Object"), ("RoamBooks$Subscriber", "java/lang/Object"), ("RoamBooks$Call", "java/lang/Object"), ("RoamBooks$CallRecord", "java/lang/Object"), ("java/lang/IndexOutOfBoundsException", "java/lang/IndexOutOfBoundsException"), ("java/lang/IllegalArgumentException", "java/lang/IllegalArgumentException"), ("java/lang/IllegalStateException", "java/lang/IllegalStateException")]
def rb_ncs : List (String × String) := [("java/lang/IllegalArgumentException", "java/lang/IndexOutOfBoundsException"), ("java/lang/IllegalStateException", "java/lang/IndexOutOfBoundsException"), ("java/lang/IllegalStateException", "java/lang/IllegalArgumentException")]
def rb_strs : List (Nat × String) := [(281, "no such place"), (273, "an argument is out of range"), (279, "no such network"), (275, "both are the same"), (277, "there are as many as there may be"), (283, "no such subscriber"), (147, "it is attached to that network"), (196, "what is out of range"), (235, "no records are left to file"), (245, "no such file"), (264, "time ends before that")]
def rb_dcl : List MethodName := [⟨"java/lang/RuntimeException", "<init>", "(Ljava/lang/String;)V"⟩, ⟨"java/lang/Exception", "<init>", "(Ljava/lang/String;)V"⟩, ⟨"java/lang/Throwable", "<init>", "(Ljava/lang/String;)V"⟩]
/-- what the tables say, besides the words that stay -/
def rb_K1 (X : rb_X) (U : State) : Prop :=
  va_K X.1 vwCl (rb_tys X.2.1) U ∧ (∀ C ∈ ["java/lang/Object", RX5, RX0], va_AO C U) ∧ (∀ q ∈ rb_cst, va_Nw (.castable q.1 q.2) U) ∧ (∀ q ∈ rb_ncs, va_Nc q.1 q.2 U) ∧
  (∀ q ∈ rb_strs, ∃ a, vk_R RX7 q.1 q.2 a U) ∧ va_Nw (.methodLinkNest RX7 38 yX5_init RX7) U ∧ va_Nw (.methodLinkNest RX7 39 yX0_init RX7) U ∧ va_Mi "[Ljava/lang/Object;" X.2.2.2.2 U ∧ va_Dc U ∧ (∀ y ∈ rb_dcl, va_Nw (.declares y) U)
theorem rb_K1.warm {X : rb_X} {s U : State} (hW : s.WarmedH U.vm) (h : rb_K1 X s) : rb_K1 X U :=
  ⟨va_K.moved hW.alike h.1, fun C hC => va_AO.moved hW.alike (h.2.1 C hC), fun q hq => va_Nw.warmC hW (h.2.2.1 q hq), fun q hq => va_Nc.moved hW.alike (h.2.2.2.1 q hq), fun q hq => (h.2.2.2.2.1 q hq).imp fun _ h => vk_R.warm hW h,
   va_Nw.warmM hW h.2.2.2.2.2.1, va_Nw.warmM hW h.2.2.2.2.2.2.1, va_Mi.moved hW.alike h.2.2.2.2.2.2.2.1, va_Dc.moved hW.alike h.2.2.2.2.2.2.2.2.1, fun y hy => va_Nw.warmD hW (h.2.2.2.2.2.2.2.2.2 y hy)⟩
/-- what lies outside of the world -/
def rb_K2 (X : rb_X) (A : Nat → Prop) (U : State) (H : Heap) : Prop :=
  vx_Zq Bundle.tN "UNASSIGNED_STACK" Bundle.steD A U H ∧ vx_Zq Bundle.tN "SUPPRESSED_SENTINEL" Bundle.listD A U H ∧ va_Z "java/util/ArrayList" "DEFAULTCAPACITY_EMPTY_ELEMENTDATA" "[Ljava/lang/Object;" (.ref X.2.2.1) A U H ∧
  va_T (.object "java/lang/Object") X.2.2.1 0 (fun _ => .null) A U H ∧ ∃ (L : Nat) (xs : Nat → Int32), L ≤ 260 ∧ va_X X.2.2.2.1 L xs U H ∧ X.2.2.2.1 < H.size ∧ ¬ A X.2.2.2.1
theorem rb_K2.moved {X : rb_X} {A : Nat → Prop} {u U : State} {H H1 : Heap} (hvm : u.vm.Alike U.vm) (h : rb_K2 X A u H) (hz : H.size ≤ H1.size) (hq : ∀ a : Nat, a < H.size → ¬ A a → H1[a]? = H[a]?) : rb_K2 X A U H1 := by
  obtain ⟨h1, h2, h3, h4, L, xs, h5, h6, h7, h8⟩ := h
  exact ⟨vx_Zq.moved hvm (h1.kept hq), vx_Zq.moved hvm (h2.kept hq), va_Z.moved hvm (h3.kept hq), va_T.moved hvm (h4.kept hq), L, xs, h5, va_X.moved hvm (h6.kept (hq _ h7 h8)), Nat.lt_of_lt_of_le h7 hz, h8⟩
/-- the walk's constants -/
abbrev rb_F : Type := Program × Launch × Env × Room × State × MethodId × Array Value × List Frame × Method × Code × (State → Prop) × rb_X × (Nat → Prop) × (rb_R → Nat) × rb_G
def rb_W (Φ : rb_F) (cells slots : Nat) (pc : Nat) (Lv : List (Option rb_V)) (st : List rb_V) (G : rb_G) : Prop := match Φ with
  | (p, l, e, R, s, m, args, below, meth, c, Q, X, A, ad0, G0) => ∀ (ad : rb_R → Nat) (H : Heap) (locs : List Loc) (ls : Array Slot), rb_P X ad A G H → rb_nx G0 ad0 G ad → va_S A s.heap H locs → rb_ls ad ls Lv → rb_okL G st → rb_okO G Lv →
      W p l e R s m args below meth c H locs cells slots Q (F0 m pc ls (st.map (rb_c ad)))
/-- thrown over the method's frame: an exception of class E -/
def rb_Wx (Φ : rb_F) (cells slots : Nat) (pc : Nat) (Lv : List (Option rb_V)) (st : List rb_V) (G : rb_G) (E : String) : Prop := match Φ with
  | (p, l, e, R, s, m, args, below, meth, c, Q, X, A, ad0, G0) => ∀ (ad : rb_R → Nat) (H : Heap) (locs : List Loc) (ls : Array Slot) (q : Addr) (ce : Cell), rb_P X ad A G H → rb_nx G0 ad0 G ad → va_S A s.heap H locs → rb_ls ad ls Lv → rb_okL G st → rb_okO G Lv →
      H[q]? = some ce → ce.vm = .none → s.vm.findClass E = some ce.cls → vx_W p l e R s m args below meth c H locs cells slots Q (F0 m pc ls (st.map (rb_c ad))) q
/-- what holds in a body -/
def rb_C (Φ : rb_F) (own : String) (cc : ByteArray) (nL fr lo mc ms : Nat) : Prop := match Φ with
  | (p, l, _, R, s, m, args, _, meth, c, _, X, A, _, _) => p.tables.exec = Jvm.exec ∧ c.code = cc ∧ c.maxLocals = nL ∧ s.vm.findClass own = some m.cls ∧ (∀ w ∈ TS, w.before args s = true) ∧ meth.locks = false ∧
      R = { frames := fr, cells := mc, slots := ms, locals := lo } ∧ l.stackTraces = false ∧ rb_K1 X s ∧ rb_K2 X A s s.heap ∧ ∀ q, s.heap.size ≤ q → A q
/-- how a method may end -/
def rb_Q (X : rb_X) (A : Nat → Prop) (ad : rb_R → Nat) (G : rb_G) (Post : Option rb_V → rb_G → Prop) : Array Value → State → Outcome → State → Prop := fun _ st oc t =>
  (∃ (v : Option rb_V) (G' : rb_G) (ad' : rb_R → Nat), oc = .returned (v.map (rb_c ad')) ∧ Post v G' ∧ rb_nx G ad G' ad' ∧ (∀ w, v = some w → rb_ok G' w) ∧ rb_P X ad' A G' t.heap) ∧ va_F A st t
def rb_QX (X : rb_X) (A : Nat → Prop) (ad : rb_R → Nat) (G : rb_G) (PX : String → rb_G → Prop) : String → State → State → Prop := fun E st t =>
  (∃ (G' : rb_G) (ad' : rb_R → Nat), PX E G' ∧ rb_nx G ad G' ad' ∧ rb_P X ad' A G' t.heap) ∧ va_F A st t
def rb_In (X : rb_X) (A : Nat → Prop) (ad : rb_R → Nat) (av : List rb_V) (G : rb_G) (U : State) : Prop :=
  (∀ q, U.heap.size ≤ q → A q) ∧ rb_P X ad A G U.heap ∧ rb_K1 X U ∧ rb_K2 X A U U.heap ∧ rb_okL G av
/-- the contract of a method that may throw; of one that doesn't -/
def rb_M (l : Launch) (X : rb_X) (y : MethodName) (w : Cond) (fr lo mc ms : Nat) (av : List rb_V) (G : rb_G) (Post : Option rb_V → rb_G → Prop) (PX : String → rb_G → Prop) : Prop :=
  l.stackTraces = false → ∀ (A : Nat → Prop) (ad : rb_R → Nat), vx_Met l y (w :: TS) { frames := fr, cells := mc, slots := ms, locals := lo } (va_Pc (av.map (rb_c ad)) (rb_In X A ad av G)) (rb_Q X A ad G Post) (rb_QX X A ad G PX) mc ms A
def rb_N (l : Launch) (X : rb_X) (y : MethodName) (w : Cond) (fr lo mc ms : Nat) (av : List rb_V) (G : rb_G) (Post : Option rb_V → rb_G → Prop) : Prop :=
  l.stackTraces = false → ∀ (A : Nat → Prop) (ad : rb_R → Nat), Met l y (w :: TS) { frames := fr, cells := mc, slots := ms, locals := lo } (va_Pc (av.map (rb_c ad)) (rb_In X A ad av G)) (rb_Q X A ad G Post) mc ms A
theorem rb_N.m {l : Launch} {X : rb_X} {y : MethodName} {w : Cond} {fr lo mc ms : Nat} {av : List rb_V} {G : rb_G} {Post : Option rb_V → rb_G → Prop} (h : rb_N l X y w fr lo mc ms av G Post) : rb_M l X y w fr lo mc ms av G Post (fun _ _ => False) := by
  intro hl A ad p e h1 h2 h3 s m args below h4 h5 h6 h7
  obtain ⟨n, o, g1, g2, g3, g4, g5⟩ := h hl A ad p e h1 h2 h3 s m args below h4 h5 h6 h7
  exact ⟨n, o, g1, g2, g3, Or.inl ⟨g4, g5⟩⟩
/-- the walk's end, as the contract wants it -/
def rb_E (Φ : rb_F) (ret : Option FieldType) (Post : Option rb_V → rb_G → Prop) (mc ms : Nat) : Prop := match Φ with
  | (p, l, e, R, s, m, args, below, meth, c, Q, X, A, ad0, G0) => meth.sig.returnType = ret ∧ ∀ (H : Heap) (locs : List Loc) (g : JFrame), W p l e R s m args below meth c H locs mc ms (MQ below (rb_Q X A ad0 G0 Post) args s mc ms A) g → W p l e R s m args below meth c H locs mc ms Q g
def rb_EX (Φ : rb_F) (PX : String → rb_G → Prop) (mc ms : Nat) : Prop := match Φ with
  | (_, _, _, _, s, _, args, below, _, c, Q, X, A, ad0, G0) => (∀ x ∈ c.exceptionTable.toList, False) ∧ ∃ Qc, Q = vx_MQ below Qc (rb_QX X A ad0 G0 PX) args s mc ms A
theorem rb_blind {X : rb_X} {A : Nat → Prop} {ad : rb_R → Nat} {av : List rb_V} {vs : List Value} {G : rb_G} : FrameBlind (va_Pc vs (rb_In X A ad av G)) := by
  rintro a U g mk ⟨q0, q1, q2, q3, q4, q5⟩
  exact ⟨q0, q1, q2, rb_K1.warm (State.WarmedH.refl U) q3, rb_K2.moved (u := U) (U := U.calling g mk a) (Vm.Alike.refl U.vm) q4 (Nat.le_refl _) (fun _ _ _ => rfl), q5⟩
def rb_c1 (Lv : List (Option rb_V)) : Bool := Lv.all fun o => match o with
  | none => true
  | some v => rb_cat v == 1
theorem rb_c1_use {Lv : List (Option rb_V)} (h : rb_c1 Lv = true) : ∀ w, some w ∈ Lv → rb_cat w = 1 := by
  intro w hw
  have := List.all_eq_true.mp h _ hw
  simpa using this
theorem rb_al_args (ad : rb_R → Nat) : ∀ (av : List rb_V) (i : Nat) (n : Nat), rb_c1 (av.map some) = true → rb_al ad i (av.map some ++ List.replicate n none) = lv_args i (av.map (rb_c ad)) := by
  intro av
  induction av with
  | nil =>
    intro i n _
    show rb_al ad i (List.replicate n none) = []
    induction n generalizing i with
    | zero => rfl
    | succ n ih => exact ih (i + 1)
  | cons v t ih =>
    intro i n h
    have hv : rb_cat v = 1 := rb_c1_use h v (by simp)
    have ht : rb_c1 (t.map some) = true := by simp only [rb_c1, List.map_cons, List.all_cons, Bool.and_eq_true] at h ⊢; exact h.2
    show (i, rb_c ad v) :: rb_al ad (i + 1) (t.map some ++ List.replicate n none) = (i, rb_c ad v) :: lv_args (if (rb_c ad v).category = 2 then i + 2 else i + 1) (t.map (rb_c ad))
    rw [ih (i + 1) n ht, rb_cat_c, hv, if_neg (by decide)]
theorem rb_sl_len (ad : rb_R → Nat) : ∀ (av : List rb_V), rb_c1 (av.map some) = true → (lg_sl (av.map (rb_c ad))).length = av.length := by
  intro av
  induction av with
  | nil => intro _; rfl
  | cons v t ih =>
    intro h
    have hv : rb_cat v = 1 := rb_c1_use h v (by simp)
    have ht : rb_c1 (t.map some) = true := by simp only [rb_c1, List.map_cons, List.all_cons, Bool.and_eq_true] at h ⊢; exact h.2
    have e : (rb_c ad v).category = 1 := by rw [rb_cat_c, hv]
    simp only [lg_sl, List.map_cons, List.flatMap_cons, e]
    simp only [lg_sl] at ih
    simp [ih ht]
theorem rb_entry (ad : rb_R → Nat) (av : List rb_V) {n : Nat} (h : rb_c1 (av.map some) = true) (hn : av.length ≤ n) : rb_ls ad ((lg_sl (av.map (rb_c ad)) ++ List.replicate (n - (lg_sl (av.map (rb_c ad))).length) Slot.unset).toArray) (av.map some ++ List.replicate (n - av.length) none) := by
  have h1 := lv_entry (av.map (rb_c ad)) (n := n) (by rw [rb_sl_len ad av h]; exact hn)
  unfold rb_ls
  rw [rb_al_args ad av 0 _ h]
  have : (av.map some ++ List.replicate (n - av.length) (none : Option rb_V)).length = n := by simp; omega
  rw [this]
  exact h1
/-- the method's name -/
def rb_nm (Φ : rb_F) (nm : String) : Prop := match Φ with
  | (_, _, _, _, _, _, _, _, meth, _, _, _, _, _, _) => meth.name = nm
theorem rb_startN {l : Launch} {X : rb_X} {y : MethodName} {cc : ByteArray} {maxL : Nat} {ret : Option FieldType} {fr lo mc ms : Nat} {av : List rb_V} {G : rb_G} {Post : Option rb_V → rb_G → Prop} (own : String) (hy : y.cls = own) (hpl : plainName own = true) (hc1 : rb_c1 (av.map some) = true) (hn : av.length ≤ maxL)
    (body : ∀ Φ, rb_C Φ own cc maxL fr lo mc ms → rb_E Φ ret Post mc ms → rb_nm Φ y.name → rb_W Φ 0 0 0 (av.map some ++ List.replicate (maxL - av.length) none) [] G) : rb_N l X y (.code y cc maxL ret) fr lo mc ms av G Post := by
  intro hl A ad
  refine Met.ofW (cc := cc) (maxL := maxL) (ret := ret) (by rw [hy]; exact hpl) rfl ?_
  intro p e s m args below meth c s₁ B hml hv
  obtain ⟨rfl, hA, hP, hK1, hK2, hok⟩ := hv
  have hts0 := atoms_spec (ws := .code y cc maxL ret :: TS) B.pre
  have K := body (p, l, e, (headSpec (.code y cc maxL ret :: TS) { frames := fr, cells := mc, slots := ms, locals := lo }).room, s, m, (av.map (rb_c ad)).toArray, below, meth, c, MQ below (rb_Q X A ad G Post) (av.map (rb_c ad)).toArray s mc ms A, X, A, ad, G)
    ⟨B.exec, B.bytes, hml, by rw [← hy]; exact findClass_of_methodNamed B.named, fun w hw => hts0 w (List.mem_cons_of_mem _ hw), B.notSynchronized, rfl, hl, hK1, hK2, hA⟩ ⟨B.returns, fun _ _ _ h => h⟩ (name_of_methodNamed B.named B.method).1
  rw [lg_entry_eq]
  exact K ad s.heap [] _ hP rb_nx.rf va_S.rf (rb_entry ad av hc1 hn) (fun v hv => by cases hv) (fun v hv => by
    rcases List.mem_append.mp hv with h | h
    · obtain ⟨w, hw, e⟩ := List.mem_map.mp h
      cases e
      exact hok v hw
    · cases (List.mem_replicate.mp h).2)
theorem rb_startM {l : Launch} {X : rb_X} {y : MethodName} {cc : ByteArray} {maxL : Nat} {ret : Option FieldType} {fr lo mc ms : Nat} {av : List rb_V} {G : rb_G} {Post : Option rb_V → rb_G → Prop} {PX : String → rb_G → Prop} (own : String) (hy : y.cls = own) (hpl : plainName own = true) (hc1 : rb_c1 (av.map some) = true) (hn : av.length ≤ maxL)
    (body : ∀ Φ, rb_C Φ own cc maxL fr lo mc ms → rb_E Φ ret Post mc ms → rb_EX Φ PX mc ms → rb_W Φ 0 0 0 (av.map some ++ List.replicate (maxL - av.length) none) [] G) : rb_M l X y (.code y cc maxL ret) fr lo mc ms av G Post PX := by
  intro hl A ad
  refine vx_ofW (cc := cc) (maxL := maxL) (ret := ret) (by rw [hy]; exact hpl) rfl ?_
  intro p e s m args below meth c s₁ B hml htab hv
  obtain ⟨rfl, hA, hP, hK1, hK2, hok⟩ := hv
  have hts0 := atoms_spec (ws := .code y cc maxL ret :: TS) B.pre
  have K := body (p, l, e, (headSpec (.code y cc maxL ret :: TS) { frames := fr, cells := mc, slots := ms, locals := lo }).room, s, m, (av.map (rb_c ad)).toArray, below, meth, c, vx_MQ below (rb_Q X A ad G Post) (rb_QX X A ad G PX) (av.map (rb_c ad)).toArray s mc ms A, X, A, ad, G)
    ⟨B.exec, B.bytes, hml, by rw [← hy]; exact findClass_of_methodNamed B.named, fun w hw => hts0 w (List.mem_cons_of_mem _ hw), B.notSynchronized, rfl, hl, hK1, hK2, hA⟩ ⟨B.returns, fun _ _ _ h => vx_ret h⟩ ⟨htab, _, rfl⟩
  rw [lg_entry_eq]
  exact K ad s.heap [] _ hP rb_nx.rf va_S.rf (rb_entry ad av hc1 hn) (fun v hv => by cases hv) (fun v hv => by
    rcases List.mem_append.mp hv with h | h
    · obtain ⟨w, hw, e⟩ := List.mem_map.mp h
      cases e
      exact hok v hw
    · cases (List.mem_replicate.mp h).2)
