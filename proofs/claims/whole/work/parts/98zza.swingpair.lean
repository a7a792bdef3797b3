/-! swing: what it answers -/
theorem fu_eta {α : Type} {f : Nat → α} {c : Nat} : fu f c (f c) = f := by
  funext k
  by_cases e : k = c
  · subst e; rw [fu_s]
  · rw [fu_n e]
def swU (β : Bd) (o : Nat) (z : UInt64) (c : Nat) : Vl := val β (fu (env β) c (0, kp (nI (bK β c)) (FP.dadd (bX β c) z))) o
def swD (β : Bd) (o : Nat) (z : UInt64) (c : Nat) : Vl := val β (fu (env β) c (0, kp (nI (bK β c)) (FP.dsub (bX β c) z))) o
def swA (β : Bd) (o : Nat) (z : UInt64) (c : Nat) : Option UInt64 := if (swU β o z c).1 = 0 ∧ (swD β o z c).1 = 0 then some (absV (swU β o z c).2 (swD β o z c).2) else none
def swX : Option UInt64 → UInt64
  | none => 13830554455654793216
  | some y => y
def swS (A : Nat → Option UInt64) (q : Nat → Bool) : Nat → Option (Nat × UInt64)
  | 0 => none
  | k + 1 => if q k = true then (match A k, swS A q k with | none, r => r | some y, none => some (k, y) | some y, some w => if dgt y w.2 = true then some (k, y) else some w) else swS A q k
def swE : Option (Nat × UInt64) → Int32
  | none => -1
  | some w => nI w.1
def swY : Option (Nat × UInt64) → UInt64
  | none => 13830554455654793216
  | some w => w.2
theorem fi_m1 : Fi 13830554455654793216 ∧ vz 13830554455654793216 < 0 := by
  refine ⟨(Jvm.FP.Core.fin_bits _).mpr (by decide), ?_⟩
  decide +kernel
def swG (y : UInt64) : Prop := Fi y ∧ 0 ≤ vz y ∧ y ≠ 0x8000000000000000
theorem swS_ok {A : Nat → Option UInt64} {q : Nat → Bool} : ∀ {n : Nat}, (∀ k y, k < n → q k = true → A k = some y → swG y) → ∀ w, swS A q n = some w → w.1 < n ∧ swG w.2
  | 0, _, w, hw => by cases hw
  | n + 1, h, w, hw => by
    have ih := swS_ok (A := A) (q := q) (n := n) (fun k y hk => h k y (by omega))
    unfold swS at hw
    by_cases hq : q n = true
    · rw [if_pos hq] at hw
      cases hA : A n with
      | none =>
        rw [hA] at hw
        have := ih w hw
        exact ⟨by omega, this.2⟩
      | some y =>
        have hy := h n y (Nat.lt_succ_self n) hq hA
        rw [hA] at hw
        cases hs : swS A q n with
        | none =>
          rw [hs] at hw
          have e : (n, y) = w := Option.some.inj hw
          subst e
          exact ⟨Nat.lt_succ_self n, hy⟩
        | some v =>
          rw [hs] at hw
          have iv := ih v hs
          have hw : (if dgt y v.2 = true then some (n, y) else some v) = some w := hw
          by_cases g : dgt y v.2 = true
          · rw [if_pos g] at hw
            have e : (n, y) = w := Option.some.inj hw
            subst e
            exact ⟨Nat.lt_succ_self n, hy⟩
          · rw [if_neg g] at hw
            have e : v = w := Option.some.inj hw
            subst e
            exact ⟨by omega, iv.2⟩
    · rw [if_neg hq] at hw
      have := ih w hw
      exact ⟨by omega, this.2⟩
section SW
variable {β : Bd} {I : Nat → Nat → Int32} {D : Nat → Nat → UInt64} {R : Nat → Nat → Option Nat} {Q : j_Po}
/-- apartBy -/
theorem c141 (hR : WFR R) (hV : BV β) (hC : CB β I D R) (hN : NM β I) (hO : OrdB β I) {o c : Nat} {z : UInt64} (ho : o < 24) (hc : c < 24) (hF : bF β c = true) (hz : Fi z) (hzm : vm z ≤ 2 ^ 1094) (h7 : I 107 7 = 0) (hE : LE β I D 0 (env β)) (hq : ∀ J E, FRc I D J E → J 107 7 = 0 → LE β J E 0 (env β) → ((swU β o z c).1 = 0 → (swD β o z c).1 = 0 → Sm (swU β o z c).2 ∧ Sm (swD β o z c).2) → Q (some (.double (swX (swA β o z c)))) w1 (J, E, RR R)) : j_Call 55 141 [.ref 0, .int (nI o), .int (nI c), .double z] w1 (I, D, RR R) 0 0 Q := by
  have ed : D 110 c = bX β c := (hC.1 c hc).2.1 hF
  obtain ⟨⟨x1, x2⟩, x3⟩ := (hV.1 c hc).2.2.2.1 hF
  have sa := sm_add x1.1 hz x3 hzm
  have ss := sm_sub x1.1 hz x3 hzm
  have ee : env β c = (0, kp (nI (bK β c)) (bX β c)) := by unfold env; rw [if_pos hF]
  refine u141a hR hV hC hN hO hc ho (by decide) (by rw [ed]; exact fi_nn sa.1) hc ho (by rw [ed]; exact sa) h7 hE (Nat.le_refl _) (fun J1 E1 f1 f2 f3 f4 => ?_)
  rw [ed] at f3 f4 ⊢
  refine u141b (η := fu (env β) c (0, kp (nI (bK β c)) (FP.dadd (bX β c) z))) hR hV (f1.cb hR hC) (f1.nm hN) (f1.or hO) hc ho (by decide) (fi_nn ss.1) hc ho ss f2 f3 (Nat.le_refl _) (fun J2 E2 g1 g2 g3 g4 => ?_)
  rw [fu_fu] at g3 g4 ⊢
  have hCJ := (f1.tr g1).cb hR hC
  refine u141c (AP := fun J E => FL 0 J2 E2 J E ∧ LE β J E 0 (env β)) hc ho (fun Q2 hq2 => c60 (η := fu (env β) c (0, kp (nI (bK β c)) (FP.dsub (bX β c) z))) hCJ hc x1 (by decide) g3 (fun J3 E3 k1 k2 => hq2 J3 E3 ⟨k1, by
    rw [fu_fu, ← ee, fu_eta] at k2; exact k2⟩)) (by decide) (fun J3 E3 hA => ?_)
  obtain ⟨k1, k2⟩ := hA
  have kk := (f1.tr g1).tr (FL.rc k1 (by decide))
  have k7 : J3 107 7 = 0 := by rw [k1.1 107 (by decide)]; exact g2
  have eu : (swU β o z c).1 = 0 → E1 213 o = (swU β o z c).2 := f4.2.1
  have ev : (swD β o z c).1 = 0 → E2 213 o = (swD β o z c).2 := g4.2.1
  have smu : Sm (E1 213 o) := f4.2.2.1
  have smv : Sm (E2 213 o) := g4.2.2.1
  have w200 : (swU β o z c).1 < 200 := f4.2.2.2
  have v200 : (swD β o z c).1 < 200 := g4.2.2.2
  have zu := nI_z w200
  have zv := nI_z v200
  have hQ := hq J3 E3 kk k7 k2 (fun a b => ⟨by rw [← eu a]; exact smu, by rw [← ev b]; exact smv⟩)
  have nu : (swU β o z c).1 = 0 → (swU β o z c).2 ≠ 0x8000000000000000 := fun h => val_ne hV ho (fun _ => fu_ne (fun _ => env_ne)) h
  have nv : (swD β o z c).1 = 0 → (swD β o z c).2 ≠ 0x8000000000000000 := fun h => val_ne hV ho (fun _ => fu_ne (fun _ => env_ne)) h
  have bad : ¬ ((swU β o z c).1 = 0 ∧ (swD β o z c).1 = 0) → Q (some (.double 13830554455654793216)) w1 (J3, E3, RR R) := fun h => by
    unfold swA at hQ; rw [if_neg h] at hQ; exact hQ
  have good : (a : (swU β o z c).1 = 0) → (b : (swD β o z c).1 = 0) → Q (some (.double (if dlt (E1 213 o) (E2 213 o) = true then FP.dsub (E2 213 o) (E1 213 o) else FP.dsub (E1 213 o) (E2 213 o)))) w1 (J3, E3, RR R) := fun a b => by
    unfold swA at hQ; rw [if_pos ⟨a, b⟩] at hQ
    have e := absV_eq smu smv (by rw [eu a]; exact nu a) (by rw [ev b]; exact nv b)
    rw [← e, eu a, ev b]; exact hQ
  refine u141d (w := (swU β o z c).1) (w2 := (swD β o z c).1) w200 v200 (by decide) (fun h => bad (fun q => h (zu.mpr q.1))) (fun _ _ _ => fi_nn (dsub_fi smu smv)) (fun a b l => ?_) (fun _ _ _ => fi_nn (dsub_fi smv smu)) (fun a b l => ?_) (fun _ h => bad (fun q => h (zv.mpr q.2)))
  · have := good (zu.mp a) (zv.mp b)
    rw [if_neg (by rw [l]; simp)] at this; exact this
  · have := good (zu.mp a) (zv.mp b)
    rw [if_pos l] at this; exact this
theorem swA_ok (hV : BV β) {o c : Nat} {z y : UInt64} (ho : o < 24) (hs : (swU β o z c).1 = 0 → (swD β o z c).1 = 0 → Sm (swU β o z c).2 ∧ Sm (swD β o z c).2) (h : swA β o z c = some y) : swG y := by
  unfold swA at h
  by_cases g : (swU β o z c).1 = 0 ∧ (swD β o z c).1 = 0
  · rw [if_pos g] at h
    have e := Option.some.inj h
    subst e
    obtain ⟨s1, s2⟩ := hs g.1 g.2
    exact absV_fi s1 s2 (val_ne hV ho (fun _ => fu_ne (fun _ => env_ne)) g.1) (val_ne hV ho (fun _ => fu_ne (fun _ => env_ne)) g.2)
  · rw [if_neg g] at h; cases h
/-- the class -/
theorem a140 (hR : WFR R) (hV : BV β) (hC : CB β I D R) (hN : NM β I) (hO : OrdB β I) {o : Nat} {b p : Int32} (ho : o < 24) (hz : Fi (FP.ddiv (FP.i2d b) 4620693217682128896)) (hzm : vm (FP.ddiv (FP.i2d b) 4620693217682128896) ≤ 2 ^ 1094) (hq : ∀ J E, FRc I D J E → (∀ k y, k < 24 → (bt (I 207 o) k && bF β k) = true → swA β o (FP.ddiv (FP.i2d b) 4620693217682128896) k = some y → swG y) → Q (some (.long (if p = 0 then (swE (swS (swA β o (FP.ddiv (FP.i2d b) 4620693217682128896)) (fun k => bt (I 207 o) k && bF β k) 24)).toInt64 else match swS (swA β o (FP.ddiv (FP.i2d b) 4620693217682128896)) (fun k => bt (I 207 o) k && bF β k) 24 with | none => ((-1 : Int32).toInt64) | some w => w.2.toInt64))) w1 (J, E, RR R)) : j_W 140 lD 0 0 0 0 31 [some (.ref 0), some (.int (nI o)), some (.int b), some (.int p), none, none, none, none, none, none] [] w1 (I, D, RR R) Q := by
  refine u140a (AP := fun J E => FRc I D J E ∧ J 107 7 = 0 ∧ LE β J E 0 (env β)) (fun Q2 hq2 => c34o hC (by decide) (fun J E a1 a2 a3 => hq2 J E ⟨a1, a2, a3⟩)) lD50 (fun J0 E0 hA => ?_)
  obtain ⟨a1, a2, a3⟩ := hA
  refine u140b lD2 ?_
  generalize hS : swS (swA β o (FP.ddiv (FP.i2d b) 4620693217682128896)) (fun k => bt (I 207 o) k && bF β k) = S at hq
  have loop : ∀ (m k : Nat) (J : Nat → Nat → Int32) (E : Nat → Nat → UInt64), m + k = 24 → FRc I D J E → J 107 7 = 0 → LE β J E 0 (env β) → (∀ i y, i < k → (bt (I 207 o) i && bF β i) = true → swA β o (FP.ddiv (FP.i2d b) 4620693217682128896) i = some y → swG y) → j_W 140 lD 0 0 0 0 49 [some (.ref 0), some (.int (nI o)), some (.int b), some (.int p), some (.int (swE (S k))), some (.double (swY (S k))), none, some (.int (nI k)), none, none] [] w1 (J, E, RR R) Q := by
    intro m
    induction m with
    | zero =>
      intro k J E hk f1 f2 f3 f4
      have : k = 24 := by omega
      subst this
      refine u140h ho (by omega) lD2 (fun _ => ?_) (fun h => absurd (Nat.le_refl _) h) (fun h => absurd (Nat.le_refl _) h) (fun h => absurd (Nat.le_refl _) h)
      have hQ := hq J E f1 f4
      cases hw : S 24 with
      | none =>
        rw [hw] at hQ
        refine u140z lD2 (fun h => ?_) (fun _ h => absurd rfl h) (fun _ h => absurd rfl h) (fun _ h => absurd rfl h) (fun h _ => ?_)
        · rw [if_pos h] at hQ; exact hQ
        · rw [if_neg h] at hQ; exact hQ
      | some w =>
        rw [hw] at hQ
        have hg := swS_ok (A := swA β o (FP.ddiv (FP.i2d b) 4620693217682128896)) (q := fun k => bt (I 207 o) k && bF β k) f4 w (by rw [hS]; exact hw)
        refine u140z lD2 (fun h => ?_) (fun _ _ => hg.2.1) (fun _ _ => hg.2.2.2) (fun h _ => ?_) (fun _ h => absurd h (nI_ne_m1 (by omega)))
        · rw [if_pos h] at hQ; exact hQ
        · rw [if_neg h] at hQ; exact hQ
    | succ m ih =>
      intro k J E hk f1 f2 f3 f4
      have k24 : k < 24 := by omega
      have CJ := f1.cb hR hC
      have e207 : J 207 = I 207 := f1.1 207 (by decide) (by decide) (by decide) (by decide)
      have e111 : J 111 k = bi (bF β k) := (CJ.1 k k24).2.2.2.1
      have skip : ¬ (bt (I 207 o) k && bF β k) = true → j_W 140 lD 0 0 0 0 49 [some (.ref 0), some (.int (nI o)), some (.int b), some (.int p), some (.int (swE (S k))), some (.double (swY (S k))), none, some (.int (nI (k + 1))), none, none] [] w1 (J, E, RR R) Q := fun h => by
        have e1 : S (k + 1) = S k := by rw [← hS, swS, if_neg h]
        have := ih (k + 1) J E (by omega) f1 f2 f3 (fun i y hi h1 h2 => by
          by_cases e : i = k
          · subst e; exact absurd h1 h
          · exact f4 i y (by omega) h1 h2)
        rw [e1] at this; exact this
      refine u140h ho (by omega) lD2 (fun h => absurd h (by omega)) (fun _ h1 h2 => ?_) (fun _ _ h2 => skip (fun q => ?_)) (fun _ h1 => skip (fun q => ?_))
      · rw [e207] at h1
        have hr := (hn_t (x := I 207 o) (k := k) (by omega)).mp h1
        have hf : bF β k = true := by
          cases hb : bF β k with
          | true => rfl
          | false => rw [e111, hb] at h2; exact absurd rfl h2
        have hqk : (bt (I 207 o) k && bF β k) = true := by rw [hr, hf]; rfl
        refine u140c (t := swX (swA β o (FP.ddiv (FP.i2d b) 4620693217682128896) k)) (AP := fun J2 E2 => FRc J E J2 E2 ∧ J2 107 7 = 0 ∧ LE β J2 E2 0 (env β) ∧ ((swU β o (FP.ddiv (FP.i2d b) 4620693217682128896) k).1 = 0 → (swD β o (FP.ddiv (FP.i2d b) 4620693217682128896) k).1 = 0 → Sm (swU β o (FP.ddiv (FP.i2d b) 4620693217682128896) k).2 ∧ Sm (swD β o (FP.ddiv (FP.i2d b) 4620693217682128896) k).2)) k24 (fun Q2 hq2 => c141 hR hV CJ (f1.nm hN) (f1.or hO) ho k24 hf hz hzm f2 f3 (fun J2 E2 b1 b2 b3 b4 => hq2 J2 E2 ⟨b1, b2, b3, b4⟩)) (by decide) (fun J2 E2 hB hg => ?_) (fun J2 E2 hB hg => ?_)
        all_goals
          obtain ⟨b1, b2, b3, b4⟩ := hB
          have hok : ∀ y, swA β o (FP.ddiv (FP.i2d b) 4620693217682128896) k = some y → swG y := fun y hy => swA_ok hV ho b4 hy
          have f4' : ∀ i y, i < k + 1 → (bt (I 207 o) i && bF β i) = true → swA β o (FP.ddiv (FP.i2d b) 4620693217682128896) i = some y → swG y := fun i y hi q1 q2 => by
            by_cases e : i = k
            · rw [e] at q2; exact hok y q2
            · exact f4 i y (by omega) q1 q2
          have nx := ih (k + 1) J2 E2 (by omega) (f1.tr b1) b2 b3 f4'
          have gk : ∀ w, S k = some w → swG w.2 := fun w hw => (swS_ok (A := swA β o (FP.ddiv (FP.i2d b) 4620693217682128896)) (q := fun k => bt (I 207 o) k && bF β k) (n := k) (fun i y hi q1 q2 => f4' i y (by omega) q1 q2) w (by rw [hS]; exact hw)).2
          have e1 : S (k + 1) = (match swA β o (FP.ddiv (FP.i2d b) 4620693217682128896) k, S k with | none, r => r | some y, none => some (k, y) | some y, some w => if dgt y w.2 = true then some (k, y) else some w) := by rw [← hS, swS, if_pos hqk]
          rw [e1] at nx
        · cases hA : swA β o (FP.ddiv (FP.i2d b) 4620693217682128896) k with
          | none => rw [hA] at nx; exact nx
          | some y =>
            rw [hA] at nx hg
            cases hw : S k with
            | none =>
              rw [hw] at hg
              exfalso
              have hy := hok y hA
              have : dgt y 13830554455654793216 = true := (dgt_iff hy.1 fi_m1.1).mpr (by have := fi_m1.2; have := hy.2.1; omega)
              have hg : dgt y 13830554455654793216 = false := hg
              rw [this] at hg; cases hg
            | some w =>
              rw [hw] at nx hg
              have hg : dgt y w.2 = false := hg
              have nx : j_W 140 lD 0 0 0 0 49 [some (.ref 0), some (.int (nI o)), some (.int b), some (.int p), some (.int (swE (if dgt y w.2 = true then some (k, y) else some w))), some (.double (swY (if dgt y w.2 = true then some (k, y) else some w))), none, some (.int (nI (k + 1))), none, none] [] w1 (J2, E2, RR R) Q := nx
              rw [if_neg (by rw [hg]; simp)] at nx; exact nx
        · cases hA : swA β o (FP.ddiv (FP.i2d b) 4620693217682128896) k with
          | none =>
            rw [hA] at hg
            exfalso
            have hg : dgt 13830554455654793216 (swY (S k)) = true := hg
            cases hw : S k with
            | none =>
              rw [hw] at hg
              have := (dgt_iff fi_m1.1 fi_m1.1).mp hg
              omega
            | some w =>
              rw [hw] at hg
              have hgw := gk w hw
              have := (dgt_iff fi_m1.1 hgw.1).mp hg
              have := fi_m1.2; have := hgw.2.1; omega
          | some y =>
            rw [hA] at nx hg
            cases hw : S k with
            | none => rw [hw] at nx; exact nx
            | some w =>
              rw [hw] at nx hg
              have hg : dgt y w.2 = true := hg
              have nx : j_W 140 lD 0 0 0 0 49 [some (.ref 0), some (.int (nI o)), some (.int b), some (.int p), some (.int (swE (if dgt y w.2 = true then some (k, y) else some w))), some (.double (swY (if dgt y w.2 = true then some (k, y) else some w))), none, some (.int (nI (k + 1))), none, none] [] w1 (J2, E2, RR R) Q := nx
              rw [if_pos hg] at nx; exact nx
      · rw [Bool.and_eq_true] at q
        rw [e111, q.2] at h2; exact absurd h2 (by decide)
      · rw [Bool.and_eq_true] at q
        rw [e207] at h1
        exact h1 ((hn_t (by omega)).mpr q.1)
  have := loop 24 0 J0 E0 rfl a1 a2 a3 (fun i _ hi => absurd hi (Nat.not_lt_zero i))
  rw [← hS] at this; exact this
/-- the reference -/
theorem a271 (hV : BV β) (hB : RB β I D) (hRN : RN β I) {o : Nat} {b p : Int32} {rd : Nat → Int32} (hrd : RdE β rd) (ho : o < 24) (hz : Fi (FP.ddiv (FP.i2d b) 4620693217682128896)) (hzm : vm (FP.ddiv (FP.i2d b) 4620693217682128896) ≤ 2 ^ 1094) (hok : ∀ k y, k < 24 → (bt (rd o) k && bF β k) = true → swA β o (FP.ddiv (FP.i2d b) 4620693217682128896) k = some y → swG y) (hq : ∀ J K F, (∀ q, q ≠ 359 → q ≠ 360 → J q = I q) → FRr J D K F → Q (some (.long (if p = 0 then (swE (swS (swA β o (FP.ddiv (FP.i2d b) 4620693217682128896)) (fun k => bt (rd o) k && bF β k) 24)).toInt64 else match swS (swA β o (FP.ddiv (FP.i2d b) 4620693217682128896)) (fun k => bt (rd o) k && bF β k) 24 with | none => ((-1 : Int32).toInt64) | some w => w.2.toInt64))) w1 (K, F, RR R)) : j_W 271 lD 0 0 0 0 31 [some (.ref 260), some (.int (nI o)), some (.int b), some (.int p), none, none, none, none, none, none, none, none, none, none, none, none] [] w1 (I, D, RR R) Q := by
  refine u271a (rd := rd) hV lD90 hrd ho (Nat.le_refl _) (rbn_of hB hRN) (fun J h1 _ => ?_)
  have hBJ : RB β J D := hB.cg (fun o h2 h3 => h1 o (by omega) (by omega)) (fun _ _ _ => rfl)
  generalize hS : swS (swA β o (FP.ddiv (FP.i2d b) 4620693217682128896)) (fun k => bt (rd o) k && bF β k) = S at hq
  generalize hs : rd o = s at *
  have loop : ∀ (m k : Nat) (K : Nat → Nat → Int32) (F : Nat → Nat → UInt64) (y : UInt64), m + k = 24 → FRr J D K F → (∀ w, S k = some w → y = w.2) → j_W 271 lD 0 0 0 0 47 [some (.ref 260), some (.int (nI o)), some (.int b), some (.int p), some (.int (swE (S k))), some (.double y), none, some (.int s), some (.int (nI k)), none, none, none, none, none, none, none] [] w1 (K, F, RR R) Q := by
    intro m
    induction m with
    | zero =>
      intro k K F y hk f1 hy
      have : k = 24 := by omega
      subst this
      refine u271h (by omega) lD2 (fun _ => ?_) (fun h => absurd (Nat.le_refl _) h) (fun h => absurd (Nat.le_refl _) h) (fun h => absurd (Nat.le_refl _) h)
      have hQ := hq J K F h1 f1
      cases hw : S 24 with
      | none =>
        rw [hw] at hQ
        refine u271z lD3 (fun h => ?_) (fun _ h => absurd rfl h) (fun _ h => absurd rfl h) (fun h _ => ?_)
        · rw [if_pos h] at hQ; exact hQ
        · rw [if_neg h] at hQ; exact hQ
      | some w =>
        rw [hw] at hQ
        have hg := swS_ok (A := swA β o (FP.ddiv (FP.i2d b) 4620693217682128896)) (q := fun k => bt s k && bF β k) (n := 24) hok w (by rw [hS]; exact hw)
        have ey := hy w hw
        subst ey
        refine u271z lD3 (fun h => ?_) (fun _ _ => hg.2.1) (fun h _ => ?_) (fun _ h => absurd h (nI_ne_m1 (by omega)))
        · rw [if_pos h] at hQ; exact hQ
        · rw [if_neg h] at hQ; exact hQ
    | succ m ih =>
      intro k K F y hk f1 hy
      have k24 : k < 24 := by omega
      have BK : RB β K F := hBJ.cg (fun o a1 a2 => f1.1 o (by unfold qI; omega)) (fun o a1 a2 => f1.2.2 o (by unfold qD; omega))
      have e262 : K 262 k = bi (bF β k) := (BK.1 k k24).2.1
      have skip : ¬ (bt s k && bF β k) = true → j_W 271 lD 0 0 0 0 47 [some (.ref 260), some (.int (nI o)), some (.int b), some (.int p), some (.int (swE (S k))), some (.double y), none, some (.int s), some (.int (nI (k + 1))), none, none, none, none, none, none, none] [] w1 (K, F, RR R) Q := fun h => by
        have e1 : S (k + 1) = S k := by rw [← hS, swS, if_neg h]
        have := ih (k + 1) K F y (by omega) f1 (fun w hw => hy w (by rw [← e1]; exact hw))
        rw [e1] at this; exact this
      refine u271h (by omega) lD2 (fun h => absurd h (by omega)) (fun _ h => skip (fun q => ?_)) (fun _ h1' h2 => ?_) (fun _ _ h2 => skip (fun q => ?_))
      · rw [Bool.and_eq_true] at q
        rw [(hn_0 (by omega)).mp h] at q; exact absurd q.1 (by simp)
      · have hr := (hn_t (x := s) (k := k) (by omega)).mp h1'
        have hf : bF β k = true := by
          cases hb : bF β k with
          | true => rfl
          | false => rw [e262, hb] at h2; exact absurd rfl h2
        have hqk : (bt s k && bF β k) = true := by rw [hr, hf]; rfl
        have ed : F 263 k = bX β k := (BK.1 k k24).2.2.1 hf
        obtain ⟨⟨x1, x2⟩, x3⟩ := (hV.1 k k24).2.2.2.1 hf
        have sa := sm_add x1.1 hz x3 hzm
        have ss := sm_sub x1.1 hz x3 hzm
        have e1 : S (k + 1) = (match swA β o (FP.ddiv (FP.i2d b) 4620693217682128896) k, S k with | none, r => r | some y, none => some (k, y) | some y, some w => if dgt y w.2 = true then some (k, y) else some w) := by rw [← hS, swS, if_pos hqk]
        -- behind the first try
        have second : ∀ (K2 : Nat → Nat → Int32) (F2 : Nat → Nat → UInt64) (u : UInt64) (g : Int32), FRr J D K2 F2 → Sm u → ((swU β o (FP.ddiv (FP.i2d b) 4620693217682128896) k).1 = 0 → g = 0 ∧ u = (swU β o (FP.ddiv (FP.i2d b) 4620693217682128896) k).2) → (¬ (swU β o (FP.ddiv (FP.i2d b) 4620693217682128896) k).1 = 0 → g = 1) → j_W 271 lD 0 0 0 0 115 [some (.ref 260), some (.int (nI o)), some (.int b), some (.int p), some (.int (swE (S k))), some (.double y), none, some (.int s), some (.int (nI k)), some (.double u), none, some (.int g), none, none, none, none] [] w1 (K2, F2, RR R) Q := by
          intro K2 F2 u g f2 hu hg0 hg1
          have B2 : RB β K2 F2 := hBJ.cg (fun o a1 a2 => f2.1 o (by unfold qI; omega)) (fun o a1 a2 => f2.2.2 o (by unfold qD; omega))
          have ed2 : F2 263 k = bX β k := (B2.1 k k24).2.2.1 hf
          have third : ∀ (K3 : Nat → Nat → Int32) (F3 : Nat → Nat → UInt64) (v : UInt64) (g2 : Int32), FRr J D K3 F3 → Sm v → ((swU β o (FP.ddiv (FP.i2d b) 4620693217682128896) k).1 = 0 → (swD β o (FP.ddiv (FP.i2d b) 4620693217682128896) k).1 = 0 → g2 = 0 ∧ v = (swD β o (FP.ddiv (FP.i2d b) 4620693217682128896) k).2) → (¬ ((swU β o (FP.ddiv (FP.i2d b) 4620693217682128896) k).1 = 0 ∧ (swD β o (FP.ddiv (FP.i2d b) 4620693217682128896) k).1 = 0) → ¬ g2 = 0) → j_W 271 lD 0 0 0 0 156 [some (.ref 260), some (.int (nI o)), some (.int b), some (.int p), some (.int (swE (S k))), some (.double y), none, some (.int s), some (.int (nI k)), some (.double u), none, some (.int g2), some (.double v), none, none, none] [] w1 (K3, F3, RR R) Q := by
            intro K3 F3 v g2 f3 hv hg2 hg3
            have hfi := dsub_fi hu hv
            by_cases hboth : (swU β o (FP.ddiv (FP.i2d b) 4620693217682128896) k).1 = 0 ∧ (swD β o (FP.ddiv (FP.i2d b) 4620693217682128896) k).1 = 0
            · obtain ⟨-, eu⟩ := hg0 hboth.1
              obtain ⟨e0, ev⟩ := hg2 hboth.1 hboth.2
              have hA : swA β o (FP.ddiv (FP.i2d b) 4620693217682128896) k = some (absV u v) := by unfold swA; rw [if_pos hboth, eu, ev]
              have hgA := hok k _ k24 hqk hA
              rw [hA] at e1
              refine u271d k24 lD3 (fi_nn hfi) (fi_nn hfi) (fun h => absurd e0 h) (fun _ he => ?_) (fun _ he hle => ?_) (fun _ he hle => ?_)
              · cases hw : S k with
                | some w => rw [hw] at he; exact absurd he (nI_ne_m1 (by
                    have := (swS_ok (A := swA β o (FP.ddiv (FP.i2d b) 4620693217682128896)) (q := fun k => bt s k && bF β k) (n := k) (fun i y hi => hok i y (by omega)) w (by rw [hS]; exact hw)).1; omega))
                | none =>
                  rw [hw] at e1
                  have := ih (k + 1) K3 F3 (absV u v) (by omega) f3 (fun w hw2 => by rw [e1] at hw2; have := Option.some.inj hw2; rw [← this])
                  rw [e1] at this; exact this
              · cases hw : S k with
                | none => rw [hw] at he; exact absurd rfl he
                | some w =>
                  have hgw := (swS_ok (A := swA β o (FP.ddiv (FP.i2d b) 4620693217682128896)) (q := fun k => bt s k && bF β k) (n := k) (fun i y hi => hok i y (by omega)) w (by rw [hS]; exact hw)).2
                  have ey := hy w hw
                  rw [hw] at e1
                  have e1 : S (k + 1) = (if dgt (absV u v) w.2 = true then some (k, absV u v) else some w) := e1
                  have hgt : dgt (absV u v) w.2 = true := by
                    rw [dgt_iff hgA.1 hgw.1]
                    refine Int.not_le.mp (fun h => ?_)
                    have h3 := (dle_iff hgA.1 hgw.1).mpr h
                    have hle : dle (absV u v) y = false := hle
                    rw [ey, h3] at hle; cases hle
                  rw [if_pos hgt] at e1
                  have := ih (k + 1) K3 F3 (absV u v) (by omega) f3 (fun w2 hw2 => by rw [e1] at hw2; have := Option.some.inj hw2; rw [← this])
                  rw [e1] at this; exact this
              · cases hw : S k with
                | none => rw [hw] at he; exact absurd rfl he
                | some w =>
                  have hgw := (swS_ok (A := swA β o (FP.ddiv (FP.i2d b) 4620693217682128896)) (q := fun k => bt s k && bF β k) (n := k) (fun i y hi => hok i y (by omega)) w (by rw [hS]; exact hw)).2
                  have ey := hy w hw
                  rw [hw] at e1
                  have e1 : S (k + 1) = (if dgt (absV u v) w.2 = true then some (k, absV u v) else some w) := e1
                  have hgt : ¬ dgt (absV u v) w.2 = true := fun h => by
                    have hle : dle (absV u v) y = true := hle
                    rw [ey] at hle
                    have h3 := (dle_iff hgA.1 hgw.1).mp hle
                    have h4 := (dgt_iff hgA.1 hgw.1).mp h
                    omega
                  rw [if_neg hgt] at e1
                  have := ih (k + 1) K3 F3 y (by omega) f3 (fun w2 hw2 => by rw [e1] at hw2; have := Option.some.inj hw2; rw [← this]; exact ey)
                  rw [e1] at this; exact this
            · have hA : swA β o (FP.ddiv (FP.i2d b) 4620693217682128896) k = none := by unfold swA; rw [if_neg hboth]
              rw [hA] at e1
              have e1 : S (k + 1) = S k := e1
              refine u271d k24 lD3 (fi_nn hfi) (fi_nn hfi) (fun _ => ?_) (fun h => absurd h (hg3 hboth)) (fun h => absurd h (hg3 hboth)) (fun h => absurd h (hg3 hboth))
              have := ih (k + 1) K3 F3 y (by omega) f3 (fun w hw => hy w (by rw [← e1]; exact hw))
              rw [e1] at this; exact this
          refine u271c (β := β) hV ho k24 lD100 (by rw [ed2]; exact fi_nn ss.1) B2.st B2.inp k24 ho (by rw [ed2]; exact ss) (Nat.le_refl _) (fun _ _ _ _ _ => Nat.le_refl _) (fun K3 F3 k1 k2 k3 h380 => ?_) (fun K3 F3 k1 k2 k3 h380 => ?_)
          all_goals
            rw [ed2] at k2
            have hz2 := k2.z
          · have d0 : (swD β o (FP.ddiv (FP.i2d b) 4620693217682128896) k).1 = 0 := hz2.mp h380
            refine third K3 F3 (F3 372 o) (g ||| 0) (f2.tr k1) k3 (fun a _ => ⟨by rw [(hg0 a).1]; rfl, (k2.2.2.1 d0).1⟩) (fun h => ?_)
            have : ¬ (swU β o (FP.ddiv (FP.i2d b) 4620693217682128896) k).1 = 0 := fun q => h ⟨q, d0⟩
            rw [hg1 this]; decide
          · have d0 : ¬ (swD β o (FP.ddiv (FP.i2d b) 4620693217682128896) k).1 = 0 := fun q => h380 (hz2.mpr q)
            refine third K3 F3 (F3 372 o) (g ||| 1) (f2.tr k1) k3 (fun _ q => absurd q d0) (fun h => ?_)
            by_cases hu0 : (swU β o (FP.ddiv (FP.i2d b) 4620693217682128896) k).1 = 0
            · rw [(hg0 hu0).1]; decide
            · rw [hg1 hu0]; decide
        refine u271b (β := β) hV ho k24 lD100 (by rw [ed]; exact fi_nn sa.1) BK.st BK.inp k24 ho (by rw [ed]; exact sa) (Nat.le_refl _) (fun _ _ _ _ _ => Nat.le_refl _) (fun K2 F2 k1 k2 k3 h380 => ?_) (fun K2 F2 k1 k2 k3 h380 => ?_)
        all_goals
          rw [ed] at k2
          have hz2 := k2.z
        · have u0 : (swU β o (FP.ddiv (FP.i2d b) 4620693217682128896) k).1 = 0 := hz2.mp h380
          exact second K2 F2 (F2 372 o) 0 (f1.tr k1) k3 (fun _ => ⟨rfl, (k2.2.2.1 u0).1⟩) (fun h => absurd u0 h)
        · have u0 : ¬ (swU β o (FP.ddiv (FP.i2d b) 4620693217682128896) k).1 = 0 := fun q => h380 (hz2.mpr q)
          exact second K2 F2 (F2 372 o) 1 (f1.tr k1) k3 (fun h => absurd h u0) (fun _ => rfl)
      · rw [Bool.and_eq_true] at q
        rw [e262, q.2] at h2; exact absurd h2 (by decide)
  have := loop 24 0 J D FP.dconst0 rfl FRr.refl (fun w hw => by rw [← hS] at hw; cases hw)
  rw [← hS] at this; exact this
end SW
theorem both_swing (a b p : Int32) : BothL Inv 140 271 [.int a, .int b, .int p] := fun σ h => by
  have hT := h
  obtain ⟨⟨hR, hW⟩, ⟨β, hC, hB, hN', hV, hN, hO, hb⟩, hRe⟩ := h
  show j_Call lD 140 [.ref 0, .int a, .int b, .int p] w1 (σ.1, σ.2.1, RR σ.2.2) 0 0 (PEndL 271 [.int a, .int b, .int p] Inv)
  have bad : ¬ ((∃ k : Nat, k < 24 ∧ a = nI k) ∧ (¬ b < (1 : Int32) ∧ ¬ (80000 : Int32) < b) ∧ (¬ p < (0 : Int32) ∧ ¬ (1 : Int32) < p)) → PEndL 271 [.int a, .int b, .int p] Inv (some (.long (-2))) w1 (σ.1, σ.2.1, RR σ.2.2) := fun hb => pend_sameL hT (u271r lD3 (fun k hk e g1 g2 => absurd ⟨⟨k, hk, e⟩, g1, g2⟩ hb) (fun _ _ _ _ _ => ⟨rfl, rfl, rfl⟩) (fun _ _ _ _ => ⟨rfl, rfl, rfl⟩) (fun _ => ⟨rfl, rfl, rfl⟩))
  refine u140r lD2 (fun c hc e h => bad (fun q => q.2.1.1 h)) (fun c hc e _ h => bad (fun q => q.2.1.2 h)) (fun c hc e _ _ h => bad (fun q => q.2.2.1 h)) (fun o ho e g1 g2 g3 g4 => ?_) (fun c hc e _ _ _ h => bad (fun q => h (Int32.not_lt.mp q.2.2.2))) (fun h => bad (fun q => h q.1))
  subst e
  have hz := (sm_i8 b).1
  have hzm : vm (FP.ddiv (FP.i2d b) 4620693217682128896) ≤ 2 ^ 1094 := i8_mi ⟨fun h => g1 (Int32.lt_trans h (by decide)), fun h => g2 (Int32.lt_trans (by decide) h)⟩
  refine a140 hR hV hC hN hO ho hz hzm (fun J E h1 hok => ?_)
  have hB2 := FRc.rb h1 hB
  have hN2 : RN β J := hN'.cg (fun o a1 a2 => h1.1 o (by omega) (by omega) (by omega) (by omega))
  refine ⟨_, (J, E, σ.2.2), rfl, rfl, rfl, u271r lD3 (fun k hk e _ _ => ?_) (fun k hk e _ h => absurd ⟨g3, Int32.not_lt.mpr g4⟩ h) (fun k hk e h => absurd ⟨g1, g2⟩ h) (fun h => absurd ⟨o, ho, rfl⟩ h)⟩
  obtain rfl := nI_in24 ho hk e
  refine a271 (rd := fun c => σ.1 207 c) hV hB2 hN2 hN.rd ho hz hzm hok (fun J2 K F k1 k2 => ⟨(K, F, σ.2.2), rfl, rfl, rfl, hT.scr (fun q hq => ?_) (fun q hq => ?_) ?_ ?_ ?_ ?_⟩)
  · unfold liveP restP CBP at hq
    rw [k2.1 q (by unfold qI; omega), k1 q (by omega) (by omega), h1.1 q (by omega) (by omega) (by omega) (by omega)]
  · unfold liveP restP CBP at hq
    rw [k2.2.2 q (by unfold qD; omega), h1.2.2.2.1 q (by omega) (by omega) (by omega)]
  · rw [k2.1 97 (by unfold qI; omega), k1 97 (by decide) (by decide), h1.1 97 (by decide) (by decide) (by decide) (by decide)]
  · rw [k2.2.1 34 (by decide) (by decide) (by decide) (by decide), k1 260 (by decide) (by decide), h1.1 260 (by decide) (by decide) (by decide) (by decide)]
  · rw [k2.2.1 57 (by decide) (by decide) (by decide) (by decide), k1 260 (by decide) (by decide), h1.1 260 (by decide) (by decide) (by decide) (by decide)]
  · rw [k2.1 0 (by unfold qI; omega), k1 0 (by decide) (by decide), h1.1 0 (by decide) (by decide) (by decide) (by decide)]
