/-! where it all lies at the law's entry -/
section ST
variable {s : State} {args : Array Value}
theorem g_inst : ∀ c, c < 11 → Cond.instantiable (j_cn c) (j_nf c) ∈ lw_tbl := by decide +kernel
theorem g_over : ∀ c, c < 10 → 3 ≤ c → Cond.arrayOver (j_aty c) ∈ lw_tbl := by decide +kernel
theorem g_acls : ∀ c, c < 3 → Cond.arrayClass (j_aty c) ∈ lw_tbl := by decide +kernel
theorem g_nw : ∀ w ∈ j_nw, w ∈ lw_tbl := by decide +kernel
theorem g_nwt : ∀ w ∈ j_nw, w.onTables = true := by decide +kernel
theorem g_str : ∀ q ∈ j_strs, Cond.stringRef q.1 q.2.1 (j_txt.getD q.2.2 "") ∈ lw_tbl := by decide +kernel
theorem g_cls (hts : ∀ w ∈ lw_tbl, w.before args s = true) : ∃ D : va_G, ∀ (c : Nat) (q : vw_C), vwCl[c]? = some q → u_Kn s q.1 q.2.1 q.2.2 (D.1 c) (D.2 c) := by
  have h0 : ∀ c : Nat, ∃ x : ClassId × (Nat → Nat), c < 11 → u_Kn s (j_cn c) (j_fT c) (j_nf c) x.1 x.2 := by
    intro c
    by_cases hc : c < 11
    · obtain ⟨cC, iS, h⟩ := u_known (T := j_fT c) (N := j_nf c) hts (fun w hw => ((lw_good j_m11) w (j_uin hc w hw)).1) (hts _ (g_inst c hc))
      exact ⟨(cC, iS), fun _ => h⟩
    · exact ⟨(0, fun _ => 0), fun h => absurd h hc⟩
  obtain ⟨f, hf⟩ := Classical.axiomOfChoice h0
  refine ⟨(fun c => (f c).1, fun c => (f c).2), fun c q hq => ?_⟩
  have hc : c < 11 := (List.getElem?_eq_some_iff.mp hq).1
  rw [j_cl hc] at hq
  cases hq
  exact hf c hc
theorem g_arrP {ty : FieldType} (h1 : ∀ C, ty ≠ .object C) (h : (Cond.arrayClass ty).before args s = true) : ∃ cA : ClassId, ArrOfT s cA ty ∧ va_RA s cA ty := by
  obtain ⟨c, k, comp, a1, a2, a3⟩ := Cond.arrayClass_spec h
  refine ⟨c, fun n z => ⟨fun k h => (by cases h), k, a2, comp, a3⟩, ?_⟩
  cases ty with
  | object C => exact absurd rfl (h1 C)
  | _ => exact a1
theorem g_arrA {t : FieldType} (h : (Cond.arrayOver (.array t)).before args s = true) : ∃ cA : ClassId, ArrOfT s cA (.array t) ∧ va_RA s cA (.array t) := by
  obtain ⟨comp, c, k, a1, a2, a3, a4, a5⟩ := arrayOverA_spec h
  exact ⟨c, fun n z => ⟨fun k h => (by cases h), k, a3, comp, a4⟩, a5⟩
theorem g_arrO {C : String} (h : (Cond.arrayOver (.object C)).before args s = true) : ∃ cA : ClassId, ArrOfT s cA (.object C) ∧ va_RA s cA (.object C) := by
  obtain ⟨comp, c, k, a1, a2, a3, a4, a5⟩ := Cond.arrayOver_spec h
  exact ⟨c, fun n z => ⟨fun k h => (by cases h), k, a3, comp, a4⟩, k, comp, a3, a4, a1, a5⟩
theorem g_arr (hts : ∀ w ∈ lw_tbl, w.before args s = true) : ∃ f : Nat → ClassId, ∀ c, c < 10 → ArrOfT s (f c) (j_aty c) ∧ va_RA s (f c) (j_aty c) := by
  have h0 : ∀ c : Nat, ∃ x : ClassId, c < 10 → ArrOfT s x (j_aty c) ∧ va_RA s x (j_aty c) := by
    intro c
    by_cases hc : c < 10
    · have ho := fun h3 => hts _ (g_over c hc h3)
      have hp := fun h3 => hts _ (g_acls c h3)
      have : ∃ cA : ClassId, ArrOfT s cA (j_aty c) ∧ va_RA s cA (j_aty c) := by
        match c, hc, ho, hp with
        | 0, _, _, hp => exact g_arrP (fun C h => by cases h) (hp (by decide))
        | 1, _, _, hp => exact g_arrP (fun C h => by cases h) (hp (by decide))
        | 2, _, _, hp => exact g_arrP (fun C h => by cases h) (hp (by decide))
        | 3, _, ho, _ => exact g_arrA (ho (by decide))
        | 4, _, ho, _ => exact g_arrA (ho (by decide))
        | 5, _, ho, _ => exact g_arrA (ho (by decide))
        | 6, _, ho, _ => exact g_arrO (ho (by decide))
        | 7, _, ho, _ => exact g_arrO (ho (by decide))
        | 8, _, ho, _ => exact g_arrO (ho (by decide))
        | 9, _, ho, _ => exact g_arrO (ho (by decide))
        | n + 10, h, _, _ => exact absurd h (by omega)
      obtain ⟨x, hx⟩ := this
      exact ⟨x, fun _ => hx⟩
    · exact ⟨0, fun h => absurd h hc⟩
  obtain ⟨f, hf⟩ := Classical.axiomOfChoice h0
  exact ⟨f, hf⟩
def g_tm (i : Nat) : Term := let q := j_strs.getD (if i < 8 then i else 16) ("", 0, 0); .string q.1 q.2.1
abbrev g_fl : List Cond := flatC (Jvm.Cond.and given_1 narrow_1)
def g_val (t : Term) : Term := .field t "java/lang/String" "value" "[B"
theorem g_s1 : ∀ i, i < 9 → Cond.exactly (g_tm i) "java/lang/String" ∈ g_fl ∧ Cond.eq (.field (g_tm i) "java/lang/String" "coder" "B") (.int 0) ∈ g_fl ∧ Cond.arrayOf (g_val (g_tm i)) .byte ∈ g_fl ∧ Cond.eq (.length (g_val (g_tm i))) (.int (Int32.ofNat (j_len.getD i 0))) ∈ g_fl := by decide +kernel
theorem g_s2 : ∀ i, i < 9 → ∀ j, j < j_len.getD i 0 → Cond.eq (.elem (g_val (g_tm i)) (.int (Int32.ofNat j))) (.int ((j_byt.getD i []).getD j 0)) ∈ g_fl := by decide +kernel
theorem g_s3 : ∀ i, i < 9 → ∀ j, j < i → Cond.not (Cond.eq (g_tm j) (g_tm i)) ∈ g_fl := by decide +kernel
theorem g_s4 : ∀ q ∈ j_strs, Term.string q.1 q.2.1 = g_tm q.2.2 ∨ Cond.eq (g_tm q.2.2) (.string q.1 q.2.1) ∈ g_fl := by decide +kernel
theorem g_u1 : Cond.arrayOf (.static "WhatIfSheet" "UNDER" "[I") .int ∈ g_fl ∧ Cond.eq (.length (.static "WhatIfSheet" "UNDER" "[I")) (.int (Int32.ofNat 6)) ∈ g_fl ∧ (∀ j, j < 6 → Cond.eq (.elem (.static "WhatIfSheet" "UNDER" "[I") (.int (Int32.ofNat j))) (.int (j_under j)) ∈ g_fl) ∧ Cond.eq (.static "java/lang/String" "COMPACT_STRINGS" "Z") (.int 1) ∈ g_fl ∧ Cond.isRef (.static "jdk/internal/util/Preconditions" "SIOOBE_FORMATTER" "Ljava/util/function/BiFunction;") ∈ g_fl := by decide +kernel
theorem g_l1 : Cond.laysStatic "WhatIfSheet" "UNDER" "[I" ∈ lw_tbl ∧ Cond.initialized "WhatIfSheet" ∈ lw_tbl ∧ Cond.laysStatic "java/lang/String" "COMPACT_STRINGS" "Z" ∈ lw_tbl ∧ Cond.initialized "java/lang/String" ∈ lw_tbl ∧ Cond.laysStatic "jdk/internal/util/Preconditions" "SIOOBE_FORMATTER" "Ljava/util/function/BiFunction;" ∈ lw_tbl ∧ Cond.initialized "jdk/internal/util/Preconditions" ∈ lw_tbl := by decide +kernel
theorem lw_g (hts : ∀ w ∈ lw_tbl, w.before args s = true) (hgv : (Jvm.Cond.and given_1 narrow_1).before args s = true) : ∃ g : j_G, g.1 = s.heap.size ∧ j_K g s := by
  have hs : ∀ w ∈ g_fl, w.before args s = true := flat_of_before _ hgv
  obtain ⟨D, hD⟩ := g_cls hts
  obtain ⟨f, hf⟩ := g_arr hts
  have hA : ∀ a : Nat, a < s.heap.size → ¬ (fun q => s.heap.size ≤ q) a := fun a h => by simp only; omega
  obtain ⟨adK, adV, hS, hev⟩ := vk_Sof (args := args) (s := s) (N := 9) (tm := g_tm) (len := j_len) (byt := j_byt) (A := fun q => s.heap.size ≤ q) (by decide) (fun i hi => hs _ (g_s1 i hi).1) (fun i hi => hs _ (g_s1 i hi).2.1) (fun i hi => hs _ (g_s1 i hi).2.2.1) (fun i hi => hs _ (g_s1 i hi).2.2.2) (fun i hi j hj => hs _ (g_s2 i hi j hj))
    (fun i j hi hj hij => by
      by_cases h : j < i
      · exact Or.inr (hs _ (g_s3 i hi j h))
      · exact Or.inl (hs _ (g_s3 j hj i (by omega)))) hA
  obtain ⟨u1, u2, u3, u4, u5⟩ := g_u1
  obtain ⟨l1, l2, l3, l4, l5, l6⟩ := g_l1
  obtain ⟨t, ht, hT⟩ := va_Tof (f := fun j => .int (j_under j)) (A := fun q => s.heap.size ≤ q) (by decide) (hs _ u1) (va_eqt (hs _ u2)) (fun j hj => va_eqt (hs _ (u3 j hj))) hA
  have hZ := va_Zof (A := fun q => s.heap.size ≤ q) (hts _ l1) (hts _ l2) ht hA
  have hC := va_Zof (A := fun q => s.heap.size ≤ q) (hts _ l3) (hts _ l4) (va_eqt (hs _ u4)) hA
  have hF : ∃ r : Option Nat, va_Z "jdk/internal/util/Preconditions" "SIOOBE_FORMATTER" "Ljava/util/function/BiFunction;" (va_rf r) (fun q => s.heap.size ≤ q) s s.heap := by
    rcases va_Zqof (A := fun q => s.heap.size ≤ q) (hts _ l5) (hts _ l6) (hs _ u5) hA with h | ⟨t, h⟩
    · exact ⟨none, h⟩
    · exact ⟨some t, h⟩
  obtain ⟨r, hF⟩ := hF
  refine ⟨(s.heap.size, D, f, fun k => if k = 99 then t else if k % 2 = 0 then adK (k / 2) else adV (k / 2), r), rfl, ⟨hD, fun k q hq => ?_⟩, ⟨hZ, hT, hC, hF, ?_, ?_⟩, fun w hw => va_Nw.of (g_nwt w hw) (hts w (g_nw w hw)), Nat.le_refl _, fun c hc h3 => ?_⟩
  · have hk : k < 10 := by have := (List.getElem?_eq_some_iff.mp hq).1; simpa [j_tys] using this
    rw [j_tys_at _ hk] at hq
    cases hq
    exact hf k hk
  · have e1 : ∀ i, i < 9 → (if 2 * i = 99 then t else if 2 * i % 2 = 0 then adK (2 * i / 2) else adV (2 * i / 2)) = adK i := fun i hi => by
      rw [if_neg (by omega), if_pos (by omega), show 2 * i / 2 = i by omega]
    have e2 : ∀ i, i < 9 → (if 2 * i + 1 = 99 then t else if (2 * i + 1) % 2 = 0 then adK ((2 * i + 1) / 2) else adV ((2 * i + 1) / 2)) = adV i := fun i hi => by
      rw [if_neg (by omega), if_neg (by omega), show (2 * i + 1) / 2 = i by omega]
    refine ⟨fun i hi => ?_, fun i j hi hj h => ?_⟩
    · show va_O _ (if 2 * i = 99 then t else if 2 * i % 2 = 0 then adK (2 * i / 2) else adV (2 * i / 2)) _ _ _ ∧ va_OF _ _ _ _ (if 2 * i = 99 then t else if 2 * i % 2 = 0 then adK (2 * i / 2) else adV (2 * i / 2)) _ _ _ ∧ va_OF _ _ _ (.ref (if 2 * i + 1 = 99 then t else if (2 * i + 1) % 2 = 0 then adK ((2 * i + 1) / 2) else adV ((2 * i + 1) / 2))) (if 2 * i = 99 then t else if 2 * i % 2 = 0 then adK (2 * i / 2) else adV (2 * i / 2)) _ _ _ ∧ va_T _ (if 2 * i + 1 = 99 then t else if (2 * i + 1) % 2 = 0 then adK ((2 * i + 1) / 2) else adV ((2 * i + 1) / 2)) _ _ _ _ _
      rw [e1 i hi, e2 i hi]
      exact hS.1 i hi
    · have h' : (if 2 * i = 99 then t else if 2 * i % 2 = 0 then adK (2 * i / 2) else adV (2 * i / 2)) = (if 2 * j = 99 then t else if 2 * j % 2 = 0 then adK (2 * j / 2) else adV (2 * j / 2)) := h
      rw [e1 i hi, e1 j hj] at h'
      exact hS.2 i j hi hj h'
  · intro q hq
    have hlt : ∀ q ∈ j_strs, q.2.2 < 9 := by decide
    have hi := hlt q hq
    refine vk_R.of (hts _ (g_str q hq)) ?_
    show (Term.string q.1 q.2.1).eval args s none [] s = some (Value.ref (if 2 * q.2.2 = 99 then t else if 2 * q.2.2 % 2 = 0 then adK (2 * q.2.2 / 2) else adV (2 * q.2.2 / 2)))
    rw [if_neg (by omega), if_pos (by omega), show 2 * q.2.2 / 2 = q.2.2 by omega]
    rcases g_s4 q hq with h | h
    · rw [h]; exact hev _ hi
    · exact va_eqR (hs _ h) (hev _ hi)
  · have h := hts _ (g_over c hc h3)
    exact h
end ST
