/-! tells: the first case that is otherwise -/
def smB (f : Nat → Int32) (x : Nat → UInt64) (v : Nat → Vl) (i : Nat) : Bool := (decide (f i = 0) && decide ((v i).1 = 0) && deq (x i) (v i).2) || (decide (f i = 1) && !decide ((v i).1 = 0))
def oth (f : Nat → Int32) (x : Nat → UInt64) (v : Nat → Vl) : Nat → Nat → Int32
  | 0, _ => -1
  | m + 1, i => if smB f x v i = true then oth f x v m (i + 1) else nI i
theorem smB_0 {f : Nat → Int32} {x : Nat → UInt64} {v : Nat → Vl} {i : Nat} (hv : (v i).1 = 0) : smB f x v i = true ↔ f i = 0 ∧ deq (x i) (v i).2 = true := by
  unfold smB
  simp [hv]
theorem smB_1 {f : Nat → Int32} {x : Nat → UInt64} {v : Nat → Vl} {i : Nat} (hv : ¬ (v i).1 = 0) : smB f x v i = true ↔ f i = 1 := by
  unfold smB
  simp [hv]
theorem oth_cg {f : Nat → Int32} {x : Nat → UInt64} {v v' : Nat → Vl} : ∀ {m i : Nat}, (∀ j, i ≤ j → j < i + m → v j = v' j) → oth f x v m i = oth f x v' m i
  | 0, _, _ => rfl
  | m + 1, i, h => by
    unfold oth
    have e : smB f x v i = smB f x v' i := by unfold smB; rw [h i (Nat.le_refl _) (by omega)]
    rw [e, oth_cg (fun j h1 h2 => h j (by omega) (by omega))]
theorem deq_cm {x y : UInt64} (hx : Fi x) (hy : Fi y) : deq x y = deq y x := by
  have h1 := deq_iff hx hy
  have h2 := deq_iff hy hx
  cases h : deq x y with
  | true => exact (h2.mpr (h1.mp h).symm).symm
  | false =>
    cases g : deq y x with
    | false => rfl
    | true => rw [h1.mpr (h2.mp g).symm] at h; cases h
section OT
variable {β : Bd} {I : Nat → Nat → Int32} {D : Nat → Nat → UInt64} {R : Nat → Nat → Option Nat} {Q : j_Po}
theorem c149 {d r t n : Nat} {v : Nat → Vl} (hr : r < 4) (ht : t < 6) (hn : n ≤ 64) (hT : TLR I D (230 + 3 * t) n v) (hv : ∀ k, k < n → (v k).1 < 200) (hrow : I (248 + 3 * r) 1 = nI n) (hd : 1 ≤ d) (hq : Q (some (.int (oth (I (248 + 3 * r + 2)) (D (248 + 3 * r + 1)) v n 0))) w1 (I, D, RR R)) : j_Call d 149 [.ref (248 + 3 * r), .ref (230 + 3 * t)] w1 (I, D, RR R) 0 0 Q := by
  have hg := isRw_k r hr
  have ho := isTl_k t ht
  obtain ⟨t0, -, -, -, -, -, -, -, tv⟩ := hT
  refine u149e hg ho hd ?_
  have loop : ∀ (m k : Nat), m + k = n → oth (I (248 + 3 * r + 2)) (D (248 + 3 * r + 1)) v m k = oth (I (248 + 3 * r + 2)) (D (248 + 3 * r + 1)) v n 0 → j_W 149 d 0 0 0 0 2 [some (.ref (248 + 3 * r)), some (.ref (230 + 3 * t)), some (.int (nI k)), none] [] w1 (I, D, RR R) Q := by
    intro m
    induction m with
    | zero =>
      intro k hk he
      have hkn : k = n := by omega
      subst hkn
      have ex : ∀ {P : Prop}, ¬ k ≤ k → P := fun h => absurd (Nat.le_refl _) h
      rw [← he] at hq
      exact u149h hg ho hrow t0 hn hn hd (fun _ => hq) (fun h => ex h) (fun h => ex h) (fun h => ex h) (fun h => ex h) (fun h => ex h)
    | succ m ih =>
      intro k hk he
      obtain ⟨w, x⟩ := tv k (by omega)
      have z : I (230 + 3 * t + 2) k = 0 ↔ (v k).1 = 0 := by rw [w]; exact nI_z (hv k (by omega))
      have yes : smB (I (248 + 3 * r + 2)) (D (248 + 3 * r + 1)) v k = true → j_W 149 d 0 0 0 0 2 [some (.ref (248 + 3 * r)), some (.ref (230 + 3 * t)), some (.int (nI (k + 1))), none] [] w1 (I, D, RR R) Q := fun h => ih (k + 1) (by omega) (by
        rw [← he]; exact (if_pos h).symm)
      have no : ¬ smB (I (248 + 3 * r + 2)) (D (248 + 3 * r + 1)) v k = true → Q (some (.int (nI k))) w1 (I, D, RR R) := fun h => by
        have e : oth (I (248 + 3 * r + 2)) (D (248 + 3 * r + 1)) v (m + 1) k = nI k := if_neg h
        rw [← he, e] at hq; exact hq
      refine u149h hg ho hrow t0 (by omega) hn hd (fun h => absurd h (by omega)) (fun _ h g => no (fun q => g ((smB_0 (z.mp h)).mp q).1)) (fun _ h g g2 => yes ((smB_0 (z.mp h)).mpr ⟨g, by rw [← x (z.mp h)]; exact g2⟩)) (fun _ h g g2 => no (fun q => by
        have := ((smB_0 (z.mp h)).mp q).2
        rw [← x (z.mp h), g2] at this; cases this)) (fun _ h g => no (fun q => g ((smB_1 (fun q2 => h (z.mpr q2))).mp q))) (fun _ h g => yes ((smB_1 (fun q2 => h (z.mpr q2))).mpr g))
  exact loop n 0 rfl rfl
theorem c277 (hV : BV β) (hS : RSt β I D) {η : VEnv} (hI : RIn β I D η) {d t r : Nat} {f : Nat → Int32} {x : Nat → UInt64} (ht : t < 6) (hr : r < 4) (hl : bL β t = true) (h504 : I 504 r = nI (cas β t)) (hf : ∀ i, i < cas β t → I (511 + r) i = f i) (hx : ∀ i, i < cas β t → f i = 0 → D (506 + r) i = x i ∧ Fi (x i)) (hd : 80 ≤ d) (hq : ∀ J E, FRr I D J E → Q (some (.int (oth f x (csV β η t) (cas β t) 0))) w1 (J, E, RR R)) : j_Call d 277 [.ref 260, .int (nI t), .int (nI r)] w1 (I, D, RR R) 0 0 Q := by
  obtain ⟨k64, kw, k8, kc⟩ := cas_64 hV ht hl
  obtain ⟨-, -, s3, -, s5, -⟩ := (hS.2 t ht).2 hl
  obtain ⟨-, -, -, v4, -⟩ := hV.2.1 t ht hl
  have start : j_W 277 d 0 0 0 0 25 [some (.ref 260), some (.int (nI t)), some (.int (nI r)), some (.int (nI (wd β t))), none] [] w1 (I, D, RR R) Q := by
    refine u277b (by omega) ?_
    have loop : ∀ (m i : Nat) (K : Nat → Nat → Int32) (F : Nat → Nat → UInt64), m + i = cas β t → FRr I D K F → oth f x (csV β η t) m i = oth f x (csV β η t) (cas β t) 0 → j_W 277 d 0 0 0 0 28 [some (.ref 260), some (.int (nI t)), some (.int (nI r)), some (.int (nI (wd β t))), some (.int (nI i))] [] w1 (K, F, RR R) Q := by
      intro m
      induction m with
      | zero =>
        intro i K F hi hF he
        have hin : i = cas β t := by omega
        subst hin
        have hQ := hq K F hF
        rw [← he] at hQ
        have h4 : K 504 r = nI (cas β t) := by rw [hF.1 504 (by unfold qI; omega)]; exact h504
        exact u277h hr h4 k64 k64 (by omega) (fun _ => hQ) (fun h => absurd (Nat.le_refl _) h)
      | succ m ih =>
        intro i K F hi hF he
        have h4 : K 504 r = nI (cas β t) := by rw [hF.1 504 (by unfold qI; omega)]; exact h504
        refine u277h hr h4 k64 (by omega) (by omega) (fun h => absurd h (by omega)) (fun _ => ?_)
        obtain ⟨d1, d2⟩ := dv_nat i (by omega) (wd β t) (by omega) kw
        have w0 : ¬ nI (wd β t) = 0 := fun h => by
          have := (nI_eqN (a := wd β t) (b := 0) (by omega) (by decide)).mp h
          omega
        refine u277c (AP := fun J E => FRr K F J E ∧ VQ (J 260 31) (J 260 32) (E 260 30) (csV β η t i)) (fun Q2 hq2 => by
          rw [d2, d1]
          exact c257 (η := η) hV (hF.st hS) (hF.inp hI) ht hl (by rw [Nat.div_lt_iff_lt_mul (by omega), ← kc]; omega) (Nat.mod_lt _ (by omega)) (by omega) (fun J E g1 g2 => hq2 J E ⟨g1, g2⟩)) w0 (by omega) (fun h => w0 h) (fun J E hA => ?_)
        obtain ⟨g1, g2⟩ := hA
        have hFJ := hF.tr g1
        have ef : J (511 + r) i = f i := by rw [hFJ.1 _ (by unfold qI; omega)]; exact hf i (by omega)
        have exx : E (506 + r) = D (506 + r) := hFJ.2.2 _ (by unfold qD; omega)
        have z := g2.z
        have yes : smB f x (csV β η t) i = true → j_W 277 d 0 0 0 0 28 [some (.ref 260), some (.int (nI t)), some (.int (nI r)), some (.int (nI (wd β t))), some (.int (nI (i + 1)))] [] w1 (J, E, RR R) Q := fun h => ih (i + 1) J E (by omega) hFJ (by rw [← he]; exact (if_pos h).symm)
        have no : ¬ smB f x (csV β η t) i = true → Q (some (.int (nI i))) w1 (J, E, RR R) := fun h => by
          have hQ := hq J E hFJ
          have e : oth f x (csV β η t) (m + 1) i = nI i := if_neg h
          rw [← he, e] at hQ; exact hQ
        have dq : J 260 31 = 0 → f i = 0 → deq (E 260 30) (E (506 + r) i) = deq (x i) (csV β η t i).2 := fun h h0 => by
          obtain ⟨x1, x2⟩ := g2.2.2.1 (z.mp h)
          obtain ⟨y1, y2⟩ := hx i (by omega) h0
          rw [exx, y1, deq_cm x2.1 y2, x1]
        refine u277d hr (by omega) (by omega) (fun h g => no (fun q => g (ef.trans ((smB_0 (z.mp h)).mp q).1))) (fun h g g3 => yes ((smB_0 (z.mp h)).mpr ⟨ef.symm.trans g, by rw [← dq h (ef.symm.trans g)]; exact g3⟩)) (fun h g g3 => no (fun q => by
          have := ((smB_0 (z.mp h)).mp q).2
          rw [← dq h (ef.symm.trans g), g3] at this; cases this)) (fun h g => no (fun q => g (ef.trans ((smB_1 (fun q2 => h (z.mpr q2))).mp q)))) (fun h g => yes ((smB_1 (fun q2 => h (z.mpr q2))).mpr (ef.symm.trans g)))
    exact loop (cas β t) 0 I D rfl FRr.refl rfl
  refine u277a ht (by omega) (fun h => ?_) (fun h => ?_)
  · cases hb2 : b2 β t with
    | none => rw [hb2] at s3; exact absurd s3 h
    | some o =>
      have : wd β t = bn β t := by unfold wd; rw [hb2, if_neg (fun h => by cases h)]
      rw [s5, ← this]; exact start
  · cases hb2 : b2 β t with
    | none =>
      have : wd β t = 1 := by unfold wd; rw [hb2, if_pos rfl]
      rw [this] at start; exact start
    | some o =>
      rw [hb2] at s3
      exact absurd (s3.symm.trans h) (nI_ne_m1 (by have := (v4 o hb2).1; omega))
end OT
