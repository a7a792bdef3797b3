/-! film -/
theorem dv_nat : ∀ i, i < 64 → ∀ w, w < 9 → 1 ≤ w → nI i / nI w = nI (i / w) ∧ nI i - nI i / nI w * nI w = nI (i % w) := by decide +kernel
def FrF (r : Nat) (I : Nat → Nat → Int32) (D : Nat → Nat → UInt64) (K : Nat → Nat → Int32) (F : Nat → Nat → UInt64) : Prop := (∀ q, ¬ qI 0 q → q ≠ 503 → q ≠ 504 → q ≠ 511 + r → K q = I q) ∧ (∀ i, i ≠ 18 → i ≠ 26 → i ≠ 31 → i ≠ 32 → K 260 i = I 260 i) ∧ (∀ k, k ≠ r → K 503 k = I 503 k ∧ K 504 k = I 504 k) ∧ ∀ q, ¬ qD 0 q → q ≠ 506 + r → F q = D q
section FI
variable {β : Bd} {I : Nat → Nat → Int32} {D : Nat → Nat → UInt64} {R : Nat → Nat → Option Nat} {Q : j_Po}
theorem a275 (hV : BV β) (hB : RB β I D) (hN : RN β I) {t r : Nat} (ht : t < 6) (hr : r < 4) (hl : bL β t = true) (hq : ∀ K F, FrF r I D K F → K 503 r = 3 → K 504 r = nI (cas β t) → (∀ k, k < cas β t → K (511 + r) k = (if (csV β (env β) t k).1 = 0 then 0 else 1) ∧ ((csV β (env β) t k).1 = 0 → F (506 + r) k = (csV β (env β) t k).2 ∧ Sm (csV β (env β) t k).2)) → Q (some (.int (nI (cas β t)))) w1 (K, F, RR R)) : j_W 275 lD 0 0 0 0 29 [some (.ref 260), some (.int (nI t)), some (.int (nI r)), none, none] [] w1 (I, D, RR R) Q := by
  obtain ⟨k64, kw, k8, kc⟩ := cas_64 hV ht hl
  have hRB := rbn_of hB hN
  obtain ⟨-, -, s3, -, s5, -⟩ := (hB.2 t ht).2 hl
  obtain ⟨-, -, -, v4, -⟩ := hV.2.1 t ht hl
  have start : j_W 275 lD 0 0 0 0 54 [some (.ref 260), some (.int (nI t)), some (.int (nI r)), some (.int (nI (wd β t))), none] [] w1 (I, D, RR R) Q := by
    refine u275b (n := cas β t) hr (fun Q2 hq2 => c186 hV ht (hRB.frm (fun o h1 h2 => by funext i; rw [j_u_o _ _ _ (by omega)])) hl hq2) (by decide) ?_
    have loop : ∀ (m i : Nat) (K : Nat → Nat → Int32) (F : Nat → Nat → UInt64), m + i = cas β t → FrF r I D K F → K 503 r = 3 → K 504 r = nI (cas β t) → (∀ k, k < i → K (511 + r) k = (if (csV β (env β) t k).1 = 0 then 0 else 1) ∧ ((csV β (env β) t k).1 = 0 → F (506 + r) k = (csV β (env β) t k).2 ∧ Sm (csV β (env β) t k).2)) → j_W 275 lD 0 0 0 0 75 [some (.ref 260), some (.int (nI t)), some (.int (nI r)), some (.int (nI (wd β t))), some (.int (nI i))] [] w1 (K, F, RR R) Q := by
      intro m
      induction m with
      | zero =>
        intro i K F hi hF h3 h4 hk
        have hin : i = cas β t := by omega
        subst hin
        exact u275h hr h4 k64 k64 (by decide) (fun _ => hq K F hF h3 h4 hk) (fun h => absurd (Nat.le_refl _) h)
      | succ m ih =>
        intro i K F hi hF h3 h4 hk
        refine u275h hr h4 k64 (by omega) (by decide) (fun h => absurd h (by omega)) (fun _ => ?_)
        obtain ⟨d1, d2⟩ := dv_nat i (by omega) (wd β t) (by omega) kw
        have hBK : RB β K F := hB.cg (fun o a1 a2 => hF.1 o (by unfold qI; omega) (by omega) (by omega) (by omega)) (fun o a1 a2 => hF.2.2.2 o (by unfold qD; omega) (by omega))
        refine u275c (AP := fun J E => FRr K F J E ∧ VQ (J 260 31) (J 260 32) (E 260 30) (csV β (env β) t i)) (fun Q2 hq2 => by
          rw [d2, d1]
          exact c257 (η := env β) hV hBK.st hBK.inp ht hl (by rw [Nat.div_lt_iff_lt_mul (by omega), ← kc]; omega) (Nat.mod_lt _ (by omega)) (by decide) (fun J E g1 g2 => hq2 J E ⟨g1, g2⟩)) (fun h => by have := (nI_eqN (a := wd β t) (b := 0) (by omega) (by decide)).mp h; omega) (by decide) (fun h => by have := (nI_eqN (a := wd β t) (b := 0) (by omega) (by decide)).mp h; omega) (fun J E hA => ?_)
        obtain ⟨g1, g2⟩ := hA
        have nxt : ∀ (b : Int32) (x : UInt64), b = (if (csV β (env β) t i).1 = 0 then 0 else 1) → ((csV β (env β) t i).1 = 0 → x = (csV β (env β) t i).2 ∧ Sm (csV β (env β) t i).2) → j_W 275 lD 0 0 0 0 75 [some (.ref 260), some (.int (nI t)), some (.int (nI r)), some (.int (nI (wd β t))), some (.int (nI (i + 1)))] [] w1 (j_u J (511 + r) i b, j_u E (506 + r) i x, RR R) Q := fun b x hb hx => by
          refine ih (i + 1) _ _ (by omega) ⟨fun q a1 a2 a3 a4 => ?_, fun j a1 a2 a3 a4 => ?_, fun j a1 => ⟨?_, ?_⟩, fun q a1 a2 => ?_⟩ ?_ ?_ (fun k hk2 => ?_)
          · rw [← hF.1 q a1 a2 a3 a4, ← g1.1 q a1]; funext j; rw [j_u_o _ _ _ a4]
          · rw [j_u_o _ _ _ (by omega), g1.2.1 j a1 a2 a3 a4, hF.2.1 j a1 a2 a3 a4]
          · rw [j_u_o _ _ _ (by omega), g1.1 503 (by unfold qI; omega)]; exact (hF.2.2.1 j a1).1
          · rw [j_u_o _ _ _ (by omega), g1.1 504 (by unfold qI; omega)]; exact (hF.2.2.1 j a1).2
          · rw [← hF.2.2.2 q a1 a2, ← g1.2.2 q a1]; funext j; rw [j_u_o _ _ _ a2]
          · rw [j_u_o _ _ _ (by omega), g1.1 503 (by unfold qI; omega)]; exact h3
          · rw [j_u_o _ _ _ (by omega), g1.1 504 (by unfold qI; omega)]; exact h4
          · by_cases e : k = i
            · subst e; rw [j_u_same, j_u_same]; exact ⟨hb, hx⟩
            · rw [j_u_k _ _ e, j_u_k _ _ e, g1.1 (511 + r) (by unfold qI; omega), g1.2.2 (506 + r) (by unfold qD; omega)]; exact hk k (by omega)
        refine u275d hr (by omega) (by decide) (fun h => nxt 1 _ ?_ ?_) (fun h => nxt 0 _ ?_ ?_)
        · rw [if_neg (fun q => h (g2.z.mpr q))]
        · exact fun q => absurd (g2.z.mpr q) h
        · rw [if_pos (g2.z.mp h)]
        · exact fun q => ⟨(g2.2.2.1 q).1, (g2.2.2.1 q).1 ▸ (g2.2.2.1 q).2⟩
    refine loop (cas β t) 0 _ _ rfl ⟨fun q a1 a2 a3 a4 => ?_, fun j a1 a2 a3 a4 => ?_, fun j a1 => ⟨?_, ?_⟩, fun q a1 a2 => rfl⟩ ?_ ?_ (fun k hk2 => absurd hk2 (Nat.not_lt_zero k))
    · funext j; rw [j_u_o _ _ _ a3, j_u_o _ _ _ a2]
    · rw [j_u_o _ _ _ (by decide), j_u_o _ _ _ (by decide)]
    · rw [j_u_o _ _ _ (by decide), j_u_k _ _ a1]
    · rw [j_u_k _ _ a1, j_u_o _ _ _ (by decide)]
    · rw [j_u_o _ _ _ (by decide), j_u_same]
    · rw [j_u_same]
  refine u275a ht (by decide) (fun h => ?_) (fun h => ?_)
  · cases hb2 : b2 β t with
    | none => rw [hb2] at s3; exact absurd s3 h
    | some o =>
      have : wd β t = bn β t := by unfold wd; rw [hb2, if_neg (fun h => by cases h)]
      rw [s5, ← this]; exact start
  · cases hb2 : b2 β t with
    | none =>
      have : wd β t = 1 := by unfold wd; rw [hb2, if_pos rfl]
      rw [this] at start; exact start
    | some o =>
      rw [hb2] at s3
      exact absurd (s3.symm.trans h) (nI_ne_m1 (by have := (v4 o hb2).1; omega))
end FI
/-- nothing that stays is changed, but a row -/
theorem Inv.film {σ : j_I3} (h : Inv σ) {r : Nat} (hr : r < 4) {K : Nat → Nat → Int32} {F : Nat → Nat → UInt64} (eI : ∀ q, ¬ qI 0 q → q ≠ 107 → q ≠ 229 → ¬ (221 ≤ q ∧ q ≤ 227) → ¬ (230 ≤ q ∧ q < 248) → q ≠ 503 → q ≠ 504 → q ≠ 511 + r → q ≠ 248 + 3 * r → q ≠ 248 + 3 * r + 2 → K q = σ.1 q) (eD : ∀ q, ¬ qD 0 q → q ≠ 228 → ¬ (213 ≤ q ∧ q ≤ 219) → ¬ (230 ≤ q ∧ q < 248) → q ≠ 506 + r → q ≠ 248 + 3 * r + 1 → F q = σ.2.1 q) (e34 : K 260 34 = σ.1 260 34) (e57 : K 260 57 = σ.1 260 57) (e5 : ∀ k, k ≠ r → K 503 k = σ.1 503 k ∧ K 504 k = σ.1 504 k) (hrow : rowR (K, F, σ.2.2) r) : Inv (K, F, σ.2.2) := by
  obtain ⟨⟨hR, hW⟩, ⟨β, hL⟩, a1, a2, a3, a5, a4⟩ := h
  have e04 : K 0 4 = σ.1 0 4 := by rw [eI 0 (by unfold qI; omega) (by decide) (by decide) (by decide) (by decide) (by decide) (by decide) (by omega) (by omega) (by omega)]
  refine ⟨⟨hR, hW⟩, ⟨β, hL.cg (σ' := (K, F, σ.2.2)) hR (fun o ho => ?_) (fun o ho => ?_) rfl rfl⟩, rowsR.one a1 hrow e5 (fun o ho p1 p2 p3 p4 p5 p6 p7 p8 => ⟨?_, ?_⟩) hr, a2.cg ?_ e34 ?_ ?_, ?_, ?_, fun hz => ?_⟩
  · unfold liveP CBP at ho; exact eI o (by unfold qI; omega) (by omega) (by omega) (by omega) (by omega) (by omega) (by omega) (by omega) (by omega) (by omega)
  · unfold liveP CBP at ho; exact eD o (by unfold qD; omega) (by omega) (by omega) (by omega) (by omega) (by omega)
  · unfold rowsP at ho; exact eI o (by unfold qI; omega) (by omega) (by omega) (by omega) (by omega) p2 p3 p8 p4 p6
  · unfold rowsP at ho; exact eD o (by unfold qD; omega) (by omega) (by omega) (by omega) p7 p5
  · show K 97 1 = σ.1 97 1
    rw [eI 97 (by unfold qI; omega) (by decide) (by decide) (by decide) (by decide) (by decide) (by decide) (by omega) (by omega) (by omega)]
  · exact eI 98 (by unfold qI; omega) (by decide) (by decide) (by decide) (by decide) (by decide) (by decide) (by omega) (by omega) (by omega)
  · exact eI 422 (by unfold qI; omega) (by decide) (by decide) (by decide) (by decide) (by decide) (by decide) (by omega) (by omega) (by omega)
  · show K 0 4 = K 260 57
    rw [e04, e57]; exact a3
  · show K 0 4 = 0 ∨ K 0 4 = 1
    rw [e04]; exact a5
  · have hz : ¬ K 0 4 = 0 := hz
    rw [e04] at hz
    obtain ⟨γ, g1, g2, g3⟩ := a4 hz
    exact ⟨γ, g1.cg (fun o x y => eI o (by unfold qI; omega) (by omega) (by omega) (by omega) (by omega) (by omega) (by omega) (by omega) (by omega) (by omega)) (fun o x y => eD o (by unfold qD; omega) (by omega) (by omega) (by omega) (by omega) (by omega)), g2.cg (fun o x y => eI o (by unfold qI; omega) (by omega) (by omega) (by omega) (by omega) (by omega) (by omega) (by omega) (by omega) (by omega)) (fun o x y => eD o (by unfold qD; omega) (by omega) (by omega) (by omega) (by omega) (by omega)), g3⟩
theorem both_film (a b : Int32) : BothI Inv 145 275 [.int a, .int b] := fun σ h => by
  have hT := h
  obtain ⟨⟨hR, hW⟩, ⟨β, hC, hB, hN', hV, hN, hO, hb⟩, hRe⟩ := h
  show j_Call lD 145 [.ref 0, .int a, .int b] w1 (σ.1, σ.2.1, RR σ.2.2) 0 0 (PEnd 275 [.int a, .int b] Inv)
  have tl : ∀ {t : Nat}, t < 6 → ((¬ σ.1 (go σ.2.2 t) 0 = 0) ↔ bL β t = true) := fun {t} ht => by
    rw [(hC.2 t ht).1]
    cases bL β t with
    | false => exact ⟨fun h => absurd rfl h, fun h => by cases h⟩
    | true => exact ⟨fun _ => rfl, fun _ => by decide⟩
  have tr : ∀ {J : Nat → Nat → Int32} {E : Nat → Nat → UInt64} {t : Nat}, RB β J E → t < 6 → ((¬ J 315 t = 0) ↔ bL β t = true) := fun {J E t} hB2 ht => by
    rw [(hB2.2 t ht).1]
    cases bL β t with
    | false => exact ⟨fun h => absurd rfl h, fun h => by cases h⟩
    | true => exact ⟨fun _ => rfl, fun _ => by decide⟩
  have e6 : ∀ {t k : Nat}, t < 6 → k < 6 → nI t = nI k → k = t := fun h1 h2 h => ((nI_eqN (by omega) (by omega)).mp h).symm
  refine u145r hR lD2 (fun t ht e r hr e2 hl => ?_) (fun t ht e r hr e2 hl => ?_) (fun t ht e h => ?_) (fun h => ?_)
  · subst e
    subst e2
    have hb1 := (tl ht).mp hl
    obtain ⟨k64, -⟩ := cas_64 hV ht hb1
    refine u145a hR hV hC hN hO ht hr hb1 lD50 ht hb1 (Nat.le_refl _) (fun _ _ _ _ _ => k64) (fun _ _ _ h _ => h) (fun _ _ _ _ h k hk => (h k hk).1) (fun _ _ _ _ _ => Nat.le_refl _) (fun J E h1 h2 h3 J2 E2 h4 => ?_)
    obtain ⟨w1', w2, w3, w4, w5⟩ := h4
    have hB2 : RB β J2 E2 := (FRc.rb h1 hB).cg (fun o a1 a2 => w1' o (by omega) (by omega)) (fun o a1 a2 => w2 o (by omega))
    have hN2 : RN β J2 := hN'.cg (fun o a1 a2 => by rw [w1' o (by omega) (by omega), h1.1 o (by omega) (by omega) (by omega) (by omega)])
    rw [w4]
    refine ⟨nI (cas β t), (J2, E2, σ.2.2), rfl, rfl, rfl, u275r lD3 (fun k hk e p hp e2 _ => ?_) (fun k hk e p hp e2 g => absurd (by rw [e6 ht hk e] at g; exact g) ((tr hB2 ht).mpr hb1)) (fun _ _ _ h => absurd ⟨r, hr, rfl⟩ h) (fun h => absurd ⟨t, ht, rfl⟩ h)⟩
    obtain rfl := e6 ht hk e
    obtain rfl : p = r := ((nI_eqN (by omega) (by omega)).mp e2).symm
    refine a275 hV hB2 hN2 ht hr hb1 (fun K F k1 k2 k3 k4 => ⟨(K, F, σ.2.2), rfl, rfl, rfl, hT.film hr (fun q a1 a2 a3 a4 a5 a6 a7 a8 a9 a10 => ?_) (fun q a1 a2 a3 a4 a5 a6 => ?_) ?_ ?_ (fun j hj => ⟨?_, ?_⟩) ?_⟩)
    · rw [k1.1 q a1 a6 a7 a8, w1' q a9 a10, h1.1 q a2 a3 (by omega) a5]
    · rw [k1.2.2.2 q a1 a5, w2 q a6, h1.2.2.2.1 q a2 (by omega) a4]
    · rw [k1.2.1 34 (by decide) (by decide) (by decide) (by decide), w1' 260 (by omega) (by omega), h1.1 260 (by decide) (by decide) (by decide) (by decide)]
    · rw [k1.2.1 57 (by decide) (by decide) (by decide) (by decide), w1' 260 (by omega) (by omega), h1.1 260 (by decide) (by decide) (by decide) (by decide)]
    · rw [(k1.2.2.1 j hj).1, w1' 503 (by omega) (by omega), h1.1 503 (by decide) (by decide) (by decide) (by decide)]
    · rw [(k1.2.2.1 j hj).2, w1' 504 (by omega) (by omega), h1.1 504 (by decide) (by decide) (by decide) (by decide)]
    · have eg : K (248 + 3 * p) = J2 (248 + 3 * p) := k1.1 _ (by unfold qI; omega) (by omega) (by omega) (by omega)
      have eg2 : K (248 + 3 * p + 2) = J2 (248 + 3 * p + 2) := k1.1 _ (by unfold qI; omega) (by omega) (by omega) (by omega)
      have eg1 : F (248 + 3 * p + 1) = E2 (248 + 3 * p + 1) := k1.2.2.2 _ (by unfold qD; omega) (by omega)
      refine ⟨cas β k, k64, ?_, ?_, ?_, ?_, k3, fun j hj => ?_⟩
      · show ¬ K 503 p < -1
        rw [k2]; decide
      · show K 503 p ≤ 3
        rw [k2]; decide
      · show K (248 + 3 * p) 0 = K 503 p
        rw [eg, k2, w3]
      · show K (248 + 3 * p) 1 = nI (cas β k)
        rw [eg, w4]
      · obtain ⟨x1, x2⟩ := w5 j hj
        obtain ⟨y1, y2⟩ := k4 j hj
        show K (248 + 3 * p + 2) j = K (511 + p) j ∧ (K (511 + p) j = 0 ∨ K (511 + p) j = 1) ∧ (K (511 + p) j = 0 → F (248 + 3 * p + 1) j = F (506 + p) j ∧ okD (F (506 + p) j))
        rw [eg2, eg1, y1, x1]
        refine ⟨rfl, ?_, fun h0 => ?_⟩
        · split
          · exact Or.inl rfl
          · exact Or.inr rfl
        · have hz : (csV β (env β) k j).1 = 0 := by
            by_cases g : (csV β (env β) k j).1 = 0
            · exact g
            · rw [if_neg g] at h0; exact absurd h0 (by decide)
          obtain ⟨z1, z2⟩ := y2 hz
          rw [x2 hz, z1]
          exact ⟨rfl, z2, val_ne hV (hV.2.1 k ht hb1).1 (fun _ => sup_ne (fun _ => env_ne)) hz⟩
  · subst e
    subst e2
    have hb1 : ¬ bL β t = true := fun h => (tl ht).mpr h hl
    have e3 : σ.1 315 t = 0 := Classical.byContradiction fun g => hb1 ((tr hB ht).mp g)
    exact pend_same hT (u275r lD3 (fun k hk e p hp e2 g => absurd (by rw [e6 ht hk e]; exact e3) g) (fun _ _ _ _ _ _ _ => ⟨rfl, rfl, rfl⟩) (fun _ _ _ h => absurd ⟨r, hr, rfl⟩ h) (fun h => absurd ⟨t, ht, rfl⟩ h))
  · exact pend_same hT (u275r lD3 (fun k hk e p hp e2 g => absurd ⟨p, hp, e2⟩ h) (fun k hk e p hp e2 g => absurd ⟨p, hp, e2⟩ h) (fun _ _ _ _ => ⟨rfl, rfl, rfl⟩) (fun g => absurd ⟨t, ht, e⟩ g))
  · exact pend_same hT (u275r lD3 (fun k hk e => absurd ⟨k, hk, e⟩ h) (fun k hk e => absurd ⟨k, hk, e⟩ h) (fun k hk e => absurd ⟨k, hk, e⟩ h) (fun _ => ⟨rfl, rfl, rfl⟩))
