/-! THE JUDGEMENT: a method's walk over a store of objects by number; an object's shape is fixed when it is made -/
/-- how many objects, and of each its class (below 100) or array kind (from 100 on) and size -/
abbrev j_Wd : Type := Nat × (Nat → Nat × Nat)
/-- what the objects hold: ints (booleans), doubles, references, by object and place -/
abbrev j_St : Type := (Nat → Nat → Int32) × (Nat → Nat → UInt64) × (Nat → Nat → Option Nat)
/-- where it lies: the first address, the classes, the array classes, the constants' addresses, a formatter nobody looks at -/
abbrev j_G : Type := Nat × va_G × (Nat → ClassId) × (Nat → Nat) × Option Nat
def j_ad (g : j_G) (o : Nat) : Nat := if o < 1000000 then g.1 + o else g.2.2.2.1 (o - 1000000)
def j_cv (g : j_G) (v : Value) : Value := match v with
  | .ref o => if o = 1000098 then va_rf g.2.2.2.2 else .ref (j_ad g o)
  | v => v
def j_nf (c : Nat) : Nat := match c with
  | 0 => 5 | 1 => 9 | 2 => 4 | 3 => 8 | 4 => 6 | 5 => 8 | 6 => 4 | 7 => 10 | 8 => 8 | 9 => 9 | _ => 76
def j_kd (t : FieldType) : Nat := match t with
  | .int => 0 | .boolean => 0 | .double => 1 | _ => 2
def j_fty (c : Nat) : Nat → FieldType := match c with
  | 0 => tyX0 | 1 => tyX1 | 2 => tyX2 | 3 => tyX3 | 4 => tyX4 | 5 => tyX5 | 6 => tyX6 | 7 => tyX7 | 8 => tyX8 | 9 => tyX9 | _ => tyX10
def j_fT (c : Nat) : u_T := match c with
  | 0 => TX0 | 1 => TX1 | 2 => TX2 | 3 => TX3 | 4 => TX4 | 5 => TX5 | 6 => TX6 | 7 => TX7 | 8 => TX8 | 9 => TX9 | _ => TX10
def j_cn (c : Nat) : String := match c with
  | 0 => RX0 | 1 => RX1 | 2 => RX2 | 3 => RX3 | 4 => RX4 | 5 => RX5 | 6 => RX6 | 7 => RX7 | 8 => RX8 | 9 => RX9 | _ => RX10
def j_aty (c : Nat) : FieldType := match c with
  | 0 => .int | 1 => .double | 2 => .boolean | 3 => .array .double | 4 => .array .int | 5 => .array .boolean
  | 6 => .object "WhatIfSheet$Formula" | 7 => .object "WhatIfSheet$Grid" | 8 => .object "WhatIfSheet$Row" | _ => .object "WhatIfSheet$Tally"
def j_fv (g : j_G) (t : Nat) (τ : j_St) (o k : Nat) : Value := if t = 0 then .int (τ.1 o k) else if t = 1 then .double (τ.2.1 o k) else va_rf ((τ.2.2 o k).map (j_ad g))
def j_obj (g : j_G) (sh : Nat × Nat) (τ : j_St) (o : Nat) (H : Heap) : Prop :=
  (sh.1 < 100 ∧ sh.1 < 11 ∧ t_OB (g.1 + o) (g.2.1.1 sh.1) (j_nf sh.1) (g.2.1.2 sh.1) H (fun k => j_fv g (j_kd (j_fty sh.1 k)) τ o k)) ∨
  (100 ≤ sh.1 ∧ sh.1 < 110 ∧ sh.2 < 2 ^ 31 ∧ H[g.1 + o]? = some (arrV (g.2.2.1 (sh.1 - 100)) sh.2 (fun k => j_fv g (j_kd (j_aty (sh.1 - 100))) τ o k)))
def j_Rep (g : j_G) (w : j_Wd) (τ : j_St) (H : Heap) : Prop := H.size = g.1 + w.1 ∧ w.1 < 1000000 ∧ ∀ o, o < w.1 → j_obj g (w.2 o) τ o H
def j_tys (g : j_G) : List (ClassId × FieldType) := (List.range 10).map fun c => (g.2.2.1 c, j_aty c)
def j_A (g : j_G) : Nat → Prop := fun q => g.1 ≤ q
def j_under (j : Nat) : Int32 := [-1, 0, 0, 1, 2, 0].getD j 0
def j_txt : List String := ["pick", "min", "max", "sum", "mean", "least", "most", "fails", "(),+-*/%<="]
def j_byt : List (List Int32) := [[112, 105, 99, 107], [109, 105, 110], [109, 97, 120], [115, 117, 109], [109, 101, 97, 110], [108, 101, 97, 115, 116], [109, 111, 115, 116], [102, 97, 105, 108, 115], [40, 41, 44, 43, 45, 42, 47, 37, 60, 61]]
def j_len : List Nat := [4, 3, 3, 3, 4, 5, 4, 5, 10]
def j_strs : List (String × Nat × Nat) := [("WhatIfSheet$Reader", 108, 0), ("WhatIfSheet$Reader", 114, 1), ("WhatIfSheet$Reader", 116, 2), ("WhatIfSheet$Reader", 118, 3), ("WhatIfSheet$Reader", 120, 4), ("WhatIfSheet$Reader", 122, 5), ("WhatIfSheet$Reader", 124, 6), ("WhatIfSheet$Reader", 126, 7),
  ("WhatIfSheetModel", 402, 3), ("WhatIfSheetModel", 408, 4), ("WhatIfSheetModel", 410, 5), ("WhatIfSheetModel", 411, 6), ("WhatIfSheetModel", 413, 7), ("WhatIfSheetModel", 415, 0), ("WhatIfSheetModel", 416, 1), ("WhatIfSheetModel", 417, 2), ("WhatIfSheetModel", 381, 8)]
/-- what the statics and the text constants hold -/
def j_Lit (g : j_G) (U : State) : Prop :=
  va_Z "WhatIfSheet" "UNDER" "[I" (.ref (g.2.2.2.1 99)) (j_A g) U U.heap ∧ va_T .int (g.2.2.2.1 99) 6 (fun j => .int (j_under j)) (j_A g) U U.heap ∧
  va_Z "java/lang/String" "COMPACT_STRINGS" "Z" (.int 1) (j_A g) U U.heap ∧ va_Z "jdk/internal/util/Preconditions" "SIOOBE_FORMATTER" "Ljava/util/function/BiFunction;" (va_rf g.2.2.2.2) (j_A g) U U.heap ∧
  vk_S 9 j_len j_byt (fun i => g.2.2.2.1 (2 * i)) (fun i => g.2.2.2.1 (2 * i + 1)) (j_A g) U U.heap ∧
  ∀ q ∈ j_strs, vk_R q.1 q.2.1 (j_txt.getD q.2.2 "") (g.2.2.2.1 (2 * q.2.2)) U
def j_K (g : j_G) (U : State) : Prop := va_K g.2.1 vwCl (j_tys g) U ∧ j_Lit g U ∧ (∀ w ∈ j_nw, va_Nw w U) ∧ g.1 ≤ U.heap.size ∧ (∀ c, c < 10 → 3 ≤ c → (Cond.arrayOver (j_aty c)).before #[] U = true)
def j_B (g : j_G) (w : j_Wd) (τ : j_St) (U : State) : Prop := j_Rep g w τ U.heap ∧ j_K g U
def j_P (g : j_G) (av : List Value) (w : j_Wd) (τ : j_St) : Array Value → State → Prop := fun v U => v = (av.map (j_cv g)).toArray ∧ j_B g w τ U
abbrev j_Po : Type := Option Value → j_Wd → j_St → Prop
def j_Q (g : j_G) (Q : j_Po) : Array Value → State → Outcome → State → Prop := fun _ st oc t => ∃ (r : Option Value) (w : j_Wd) (τ : j_St), oc = .returned (r.map (j_cv g)) ∧ Q r w τ ∧ j_B g w τ t ∧ va_F (j_A g) st t
def j_rm (d mc ms : Nat) : Room := { frames := d, cells := mc, slots := ms, locals := 64 * d }
/-- a call: from the store τ over the world w, with room for d frames and mc new objects of ms slots, it returns, and Q holds of its answer and the store -/
def j_Call (d i : Nat) (av : List Value) (w : j_Wd) (τ : j_St) (mc ms : Nat) (Q : j_Po) : Prop := ∀ (l : Launch) (g : j_G), Met l (j_y i) (j_ws i) (j_rm d mc ms) (j_P g av w τ) (j_Q g Q) mc ms (j_A g)
/-- the locals: what is known of each -/
def j_pr (g : j_G) : Nat → List (Option Value) → List (Nat × Value)
  | _, [] => []
  | k, none :: L => j_pr g (k + 1) L
  | k, some v :: L => (k, j_cv g v) :: j_pr g (k + 1) L
def j_L (g : j_G) (ls : Array Slot) (n : Nat) (L : List (Option Value)) : Prop := L.length = n ∧ lv_has ls n (j_pr g 0 L)
def j_C (i : Nat) (g : j_G) (p : Program) (s : State) (m : MethodId) (args : Array Value) (meth : Method) (c : Code) : Prop :=
  p.tables.exec = Jvm.exec ∧ c.code = j_b i ∧ c.maxLocals = j_ml i ∧ meth.sig.returnType = j_rt i ∧ s.vm.findClass (j_own i) = some m.cls ∧ (∀ w ∈ j_ws i, w.before args s = true) ∧ meth.locks = false ∧ meth.name = (j_y i).name ∧ j_K g s
/-- the walk at a place: pc, locals, stack; k objects and n slots are made so far -/
def j_W (i d mc ms k n pc : Nat) (L : List (Option Value)) (st : List Value) (w : j_Wd) (τ : j_St) (Q : j_Po) : Prop :=
  ∀ (l : Launch) (g : j_G) (p : Program) (e : Env) (s : State) (m : MethodId) (args : Array Value) (below : List Frame) (meth : Method) (c : Code), j_C i g p s m args meth c →
    ∀ (H : Heap) (locs : List Loc) (ls : Array Slot), j_Rep g w τ H → va_S (j_A g) s.heap H locs → j_L g ls (j_ml i) L →
      W p l e (j_rm d mc ms) s m args below meth c H locs k n (MQ below (j_Q g Q) args s mc ms (j_A g)) (F0 m pc ls (st.map (j_cv g)))
/-! facts of the pieces -/
theorem j_cv_cat (g : j_G) (v : Value) : (j_cv g v).category = v.category := by
  cases v with
  | ref o =>
    show (if o = 1000098 then va_rf g.2.2.2.2 else .ref (j_ad g o) : Value).category = 1
    by_cases h : o = 1000098
    · rw [if_pos h]; cases g.2.2.2.2 <;> rfl
    · rw [if_neg h]; rfl
  | _ => rfl
theorem j_cats (g : j_G) (st : List Value) : ((st.map (j_cv g)).map fun v => v.category).sum = (st.map fun v => v.category).sum := by
  rw [List.map_map]
  congr 1
  exact List.map_congr_left fun v _ => j_cv_cat g v
theorem j_pr_mem (g : j_G) : ∀ (L : List (Option Value)) (k : Nat) (q : Nat × Value), q ∈ j_pr g k L ↔ ∃ (j : Nat) (v : Value), L[j]? = some (some v) ∧ q = (k + j, j_cv g v)
  | [], k, q => by simp [j_pr]
  | none :: L, k, q => by
    rw [j_pr, j_pr_mem g L (k + 1) q]
    constructor
    · rintro ⟨j, v, h1, h2⟩
      exact ⟨j + 1, v, by simpa using h1, by rw [h2, show k + (j + 1) = k + 1 + j by omega]⟩
    · rintro ⟨j, v, h1, h2⟩
      cases j with
      | zero => simp at h1
      | succ j => exact ⟨j, v, by simpa using h1, by rw [h2, show k + (j + 1) = k + 1 + j by omega]⟩
  | some x :: L, k, q => by
    rw [j_pr, List.mem_cons, j_pr_mem g L (k + 1) q]
    constructor
    · rintro (h | ⟨j, v, h1, h2⟩)
      · exact ⟨0, x, by simp, by rw [h]; rfl⟩
      · exact ⟨j + 1, v, by simpa using h1, by rw [h2, show k + (j + 1) = k + 1 + j by omega]⟩
    · rintro ⟨j, v, h1, h2⟩
      cases j with
      | zero =>
        simp at h1
        subst h1
        exact Or.inl h2
      | succ j => exact Or.inr ⟨j, v, by simpa using h1, by rw [h2, show k + (j + 1) = k + 1 + j by omega]⟩
theorem j_L.at {g : j_G} {ls : Array Slot} {n j : Nat} {L : List (Option Value)} {v : Value} (h : j_L g ls n L) (hj : L[j]? = some (some v)) : ls[j]? = some (.val (j_cv g v)) := by
  have := h.2.2.2 (j, j_cv g v) ((j_pr_mem g L 0 _).mpr ⟨j, v, hj, by simp⟩)
  exact this
theorem j_L.lt {g : j_G} {ls : Array Slot} {n j : Nat} {L : List (Option Value)} {x : Option Value} (h : j_L g ls n L) (hj : L[j]? = some x) : j < n := by
  rw [← h.1]; exact (List.getElem?_eq_some_iff.mp hj).1
/-- fewer known -/
theorem j_L.sub {g : j_G} {ls : Array Slot} {n : Nat} {L L' : List (Option Value)} (h : j_L g ls n L) (hl : L'.length = L.length) (hs : ∀ (j : Nat) (v : Value), L'[j]? = some (some v) → L[j]? = some (some v)) : j_L g ls n L' := by
  refine ⟨hl.trans h.1, h.2.1, h.2.2.1, fun q hq => ?_⟩
  obtain ⟨j, v, h1, h2⟩ := (j_pr_mem g L' 0 q).mp hq
  exact h.2.2.2 q ((j_pr_mem g L 0 q).mpr ⟨j, v, hs j v h1, h2⟩)
/-- a value of one word is stored at i -/
def j_s1 : List (Option Value) → Nat → Value → List (Option Value)
  | [], _, _ => []
  | _ :: L, 0, v => some v :: L
  | a :: L, i + 1, v => (if i = 0 ∧ (match a with | some x => x.category | none => 1) = 2 then none else a) :: j_s1 L i v
/-- of two words -/
def j_s2 : List (Option Value) → Nat → Value → List (Option Value)
  | [], _, _ => []
  | _ :: L, 0, v => some v :: (match L with | [] => [] | _ :: L' => none :: L')
  | a :: L, i + 1, v => (if i = 0 ∧ (match a with | some x => x.category | none => 1) = 2 then none else a) :: j_s2 L i v
theorem j_s1_len (v : Value) : ∀ (L : List (Option Value)) (i : Nat), (j_s1 L i v).length = L.length
  | [], _ => rfl
  | _ :: _, 0 => rfl
  | _ :: L, i + 1 => by simp [j_s1, j_s1_len v L i]
theorem j_s2_len (v : Value) : ∀ (L : List (Option Value)) (i : Nat), (j_s2 L i v).length = L.length
  | [], _ => rfl
  | [_], 0 => rfl
  | _ :: _ :: _, 0 => rfl
  | _ :: L, i + 1 => by simp [j_s2, j_s2_len v L i]
theorem j_s1_spec (v : Value) : ∀ (L : List (Option Value)) (i j : Nat) (x : Value), (j_s1 L i v)[j]? = some (some x) → (j = i ∧ x = v) ∨ (j ≠ i ∧ L[j]? = some (some x) ∧ ¬ (j + 1 = i ∧ x.category = 2))
  | [], _, j, x, h => by simp [j_s1] at h
  | a :: L, 0, j, x, h => by
    cases j with
    | zero => simp [j_s1] at h; exact Or.inl ⟨rfl, h.symm⟩
    | succ j => simp [j_s1] at h; exact Or.inr ⟨by omega, by simpa using h, by omega⟩
  | a :: L, i + 1, j, x, h => by
    cases j with
    | zero =>
      simp only [j_s1, List.getElem?_cons_zero, Option.some.injEq] at h
      by_cases hc : i = 0 ∧ (match a with | some x => x.category | none => 1) = 2
      · rw [if_pos hc] at h; cases h
      · rw [if_neg hc] at h
        subst h
        refine Or.inr ⟨by omega, by simp, fun ⟨q1, q2⟩ => hc ⟨by omega, q2⟩⟩
    | succ j =>
      simp only [j_s1, List.getElem?_cons_succ] at h
      rcases j_s1_spec v L i j x h with ⟨h1, h2⟩ | ⟨h1, h2, h3⟩
      · exact Or.inl ⟨by omega, h2⟩
      · exact Or.inr ⟨by omega, by simpa using h2, fun ⟨q1, q2⟩ => h3 ⟨by omega, q2⟩⟩
theorem j_s2_spec (v : Value) : ∀ (L : List (Option Value)) (i j : Nat) (x : Value), (j_s2 L i v)[j]? = some (some x) → (j = i ∧ x = v) ∨ (j ≠ i ∧ j ≠ i + 1 ∧ L[j]? = some (some x) ∧ ¬ (j + 1 = i ∧ x.category = 2))
  | [], _, j, x, h => by simp [j_s2] at h
  | [a], 0, j, x, h => by
    cases j with
    | zero => simp [j_s2] at h; exact Or.inl ⟨rfl, h.symm⟩
    | succ j => simp [j_s2] at h
  | a :: b :: L, 0, j, x, h => by
    match j, h with
    | 0, h => simp [j_s2] at h; exact Or.inl ⟨rfl, h.symm⟩
    | 1, h => simp [j_s2] at h
    | j + 2, h => simp [j_s2] at h; exact Or.inr ⟨by omega, by omega, by simpa using h, by omega⟩
  | a :: L, i + 1, j, x, h => by
    cases j with
    | zero =>
      simp only [j_s2, List.getElem?_cons_zero, Option.some.injEq] at h
      by_cases hc : i = 0 ∧ (match a with | some x => x.category | none => 1) = 2
      · rw [if_pos hc] at h; cases h
      · rw [if_neg hc] at h
        subst h
        refine Or.inr ⟨by omega, by omega, by simp, fun ⟨q1, q2⟩ => hc ⟨by omega, q2⟩⟩
    | succ j =>
      simp only [j_s2, List.getElem?_cons_succ] at h
      rcases j_s2_spec v L i j x h with ⟨h1, h2⟩ | ⟨h1, h0, h2, h3⟩
      · exact Or.inl ⟨by omega, h2⟩
      · exact Or.inr ⟨by omega, by omega, by simpa using h2, fun ⟨q1, q2⟩ => h3 ⟨by omega, q2⟩⟩
theorem j_L.s1 {g : j_G} {ls' : Array Slot} {n i : Nat} {L : List (Option Value)} {v : Value} {ls : Array Slot} (hL : j_L g ls n L) (h : lv_has ls' n ((i, j_cv g v) :: (j_pr g 0 L).filter (fun q => !(q.1 == i) && !(q.1 + 1 == i && q.2.category == 2)))) : j_L g ls' n (j_s1 L i v) := by
  refine ⟨(j_s1_len v L i).trans hL.1, h.1, h.2.1, fun q hq => ?_⟩
  obtain ⟨j, x, h1, rfl⟩ := (j_pr_mem g _ 0 q).mp hq
  apply h.2.2
  rcases j_s1_spec v L i j x h1 with ⟨rfl, rfl⟩ | ⟨h2, h3, h4⟩
  · simp
  · refine List.mem_cons_of_mem _ (List.mem_filter.mpr ⟨(j_pr_mem g L 0 _).mpr ⟨j, x, h3, rfl⟩, ?_⟩)
    simp only [Nat.zero_add, j_cv_cat]
    simp only [Bool.and_eq_true, Bool.not_eq_true', beq_eq_false_iff_ne, ne_eq, Bool.and_eq_false_iff]
    refine ⟨h2, ?_⟩
    by_cases q1 : j + 1 = i
    · exact Or.inr fun q2 => h4 ⟨q1, q2⟩
    · exact Or.inl q1
theorem j_L.s2 {g : j_G} {ls' : Array Slot} {n i : Nat} {L : List (Option Value)} {v : Value} {ls : Array Slot} (hL : j_L g ls n L) (h : lv_has ls' n ((i, j_cv g v) :: (j_pr g 0 L).filter (fun q => !(q.1 == i) && (!(q.1 == i + 1) && !(q.1 + 1 == i && q.2.category == 2))))) : j_L g ls' n (j_s2 L i v) := by
  refine ⟨(j_s2_len v L i).trans hL.1, h.1, h.2.1, fun q hq => ?_⟩
  obtain ⟨j, x, h1, rfl⟩ := (j_pr_mem g _ 0 q).mp hq
  apply h.2.2
  rcases j_s2_spec v L i j x h1 with ⟨rfl, rfl⟩ | ⟨h2, h0, h3, h4⟩
  · simp
  · refine List.mem_cons_of_mem _ (List.mem_filter.mpr ⟨(j_pr_mem g L 0 _).mpr ⟨j, x, h3, rfl⟩, ?_⟩)
    simp only [Nat.zero_add, j_cv_cat]
    simp only [Bool.and_eq_true, Bool.not_eq_true', beq_eq_false_iff_ne, ne_eq, Bool.and_eq_false_iff]
    refine ⟨h2, h0, ?_⟩
    by_cases q1 : j + 1 = i
    · exact Or.inr fun q2 => h4 ⟨q1, q2⟩
    · exact Or.inl q1
/-! the store: one place written -/
def j_u {α : Type} (f : Nat → Nat → α) (o k : Nat) (v : α) : Nat → Nat → α := fun o' k' => if o' = o then (if k' = k then v else f o k') else f o' k'
theorem j_u_same {α : Type} (f : Nat → Nat → α) (o k : Nat) (v : α) : j_u f o k v o k = v := by simp [j_u]
theorem j_u_k {α : Type} (f : Nat → Nat → α) {o k k' : Nat} (v : α) (h : k' ≠ k) : j_u f o k v o k' = f o k' := by simp [j_u, h]
theorem j_u_o {α : Type} (f : Nat → Nat → α) {o o' k : Nat} (v : α) (k' : Nat) (h : o' ≠ o) : j_u f o k v o' k' = f o' k' := by simp [j_u, h]
theorem j_fv_congr {g : j_G} {t o k : Nat} {τ τ' : j_St} (h1 : τ.1 o k = τ'.1 o k) (h2 : τ.2.1 o k = τ'.2.1 o k) (h3 : τ.2.2 o k = τ'.2.2 o k) : j_fv g t τ o k = j_fv g t τ' o k := by
  unfold j_fv; rw [h1, h2, h3]
theorem j_obj.kept {g : j_G} {sh : Nat × Nat} {τ τ' : j_St} {o : Nat} {H H' : Heap} (h : j_obj g sh τ o H) (hH : H'[g.1 + o]? = H[g.1 + o]?) (h1 : τ'.1 o = τ.1 o) (h2 : τ'.2.1 o = τ.2.1 o) (h3 : τ'.2.2 o = τ.2.2 o) : j_obj g sh τ' o H' := by
  have e : ∀ t k, j_fv g t τ' o k = j_fv g t τ o k := fun t k => j_fv_congr (by rw [h1]) (by rw [h2]) (by rw [h3])
  rcases h with ⟨a, a2, b⟩ | ⟨a, a2, a3, b⟩
  · exact Or.inl ⟨a, a2, (b.kept hH).to fun k _ => (e _ k).symm⟩
  · refine Or.inr ⟨a, a2, a3, ?_⟩
    rw [hH, b]
    congr 2
    exact funext fun k => (e _ k).symm
theorem j_Rep.set {g : j_G} {w : j_Wd} {τ τ' : j_St} {o : Nat} {H H' : Heap} (h : j_Rep g w τ H) (hz : H'.size = H.size) (hk : ∀ q, q ≠ g.1 + o → H'[q]? = H[q]?) (ho : j_obj g (w.2 o) τ' o H') (hs : ∀ o', o' ≠ o → τ'.1 o' = τ.1 o' ∧ τ'.2.1 o' = τ.2.1 o' ∧ τ'.2.2 o' = τ.2.2 o') : j_Rep g w τ' H' := by
  refine ⟨hz.trans h.1, h.2.1, fun o' ho' => ?_⟩
  by_cases e : o' = o
  · subst e; exact ho
  · obtain ⟨h1, h2, h3⟩ := hs o' e
    exact (h.2.2 o' ho').kept (hk _ (by omega)) h1 h2 h3
theorem j_Rep.ob {g : j_G} {w : j_Wd} {τ : j_St} {H : Heap} {o c z : Nat} (h : j_Rep g w τ H) (ho : o < w.1) (hs : w.2 o = (c, z)) (hc : c < 100) : c < 11 ∧ t_OB (g.1 + o) (g.2.1.1 c) (j_nf c) (g.2.1.2 c) H (fun k => j_fv g (j_kd (j_fty c k)) τ o k) := by
  have := h.2.2 o ho
  rw [hs] at this
  rcases this with ⟨-, a, b⟩ | ⟨a, -⟩
  · exact ⟨a, b⟩
  · exact absurd hc (by simpa using a)
theorem j_Rep.ar {g : j_G} {w : j_Wd} {τ : j_St} {H : Heap} {o c z : Nat} (h : j_Rep g w τ H) (ho : o < w.1) (hs : w.2 o = (100 + c, z)) : c < 10 ∧ z < 2 ^ 31 ∧ H[g.1 + o]? = some (arrV (g.2.2.1 c) z (fun k => j_fv g (j_kd (j_aty c)) τ o k)) := by
  have := h.2.2 o ho
  rw [hs] at this
  rcases this with ⟨a, -⟩ | ⟨-, a2, a3, b⟩
  · exact absurd a (by show ¬ 100 + c < 100; omega)
  · have e : (100 + c) - 100 = c := by omega
    simp only [e] at b
    exact ⟨by have a4 : 100 + c < 110 := a2; omega, a3, b⟩
theorem j_ad_lt {g : j_G} {o : Nat} (h : o < 1000000) : j_ad g o = g.1 + o := if_pos h
theorem j_cv_ref {g : j_G} {w : j_Wd} {τ : j_St} {H : Heap} {o : Nat} (h : j_Rep g w τ H) (ho : o < w.1) : j_cv g (.ref o) = .ref (g.1 + o) := by
  have := h.2.1
  show (if o = 1000098 then _ else _ : Value) = _
  rw [if_neg (by omega), j_ad_lt (by omega)]
theorem j_tys_at (g : j_G) {c : Nat} (h : c < 10) : (j_tys g)[c]? = some (g.2.2.1 c, j_aty c) := by
  unfold j_tys
  rw [List.getElem?_map, List.getElem?_range h]
  rfl
theorem j_K.arr {g : j_G} {U : State} (h : j_K g U) {c : Nat} (hc : c < 10) : ArrOfT U (g.2.2.1 c) (j_aty c) ∧ va_RA U (g.2.2.1 c) (j_aty c) := h.1.2 c _ (j_tys_at g hc)
theorem j_cl {c : Nat} (h : c < 11) : vwCl[c]? = some (j_cn c, j_fT c, j_nf c) := by
  match c, h with
  | 0, _ => rfl | 1, _ => rfl | 2, _ => rfl | 3, _ => rfl | 4, _ => rfl | 5, _ => rfl | 6, _ => rfl | 7, _ => rfl | 8, _ => rfl | 9, _ => rfl | 10, _ => rfl
  | n + 11, h => exact absurd h (by omega)
