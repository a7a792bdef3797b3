section SU
variable {β : Bd} {ρ : Nat → Nat} {R : Nat → Nat → Option Nat} {r : Nat}
/-- all cells of a set are told -/
theorem tc_step (hR : WFR R) (hV : BV β) (hρ : Rk β ρ) (hF : TF β ρ R r) {d L b o : Nat} {η : VEnv} {I : Nat → Nat → Int32} {D : Nat → Nat → UInt64} {Q : j_Po} {X : Nat → Bool} {x : Int32} (ho : o < 24) (hro : ρ o < r) (hcnt : L + cnt ρ (ρ o) ≤ 6) (hb : b ≤ 36 * L) (hd : 4 * (7 - L) + 5 ≤ d) (hC : CB β I D R) (hN : NM β I) (hO : OrdB β I) (h7 : I 107 7 = nI b) (hE : LE β I D L η)
    (hX1 : ∀ c, c < 24 → X c = true → ρ c ≤ ρ o) (hX2 : ∀ c k, c < 24 → k < 24 → X c = true → nmB (bZ β c) (bS β c) k = true → X k = true) (hX3 : ∀ c, c < 24 → bt x c = true → X c = true)
    (hm : ∀ c, c < 24 → X c = true → bZ β c ≠ 0 → bt x c = false → LC I D L c (val β η c))
    (hq : ∀ I' D', GF L b (fun u => ρ (24 + u) < ρ o) I D I' D' → I' 107 7 = nI b → LE β I' D' L η → (∀ c, c < 24 → X c = true → LC I' D' L c (val β η c)) → Q none w1 (I', D', RR R)) : j_Call d 36 [.ref 107, .int (nI L), .int x] w1 (I, D, RR R) 0 0 Q := by
  obtain ⟨ord, hord, hsur⟩ := hO
  have loop : ∀ (m k : Nat) (I1 : Nat → Nat → Int32) (D1 : Nat → Nat → UInt64), m + k = 30 → GF L b (fun u => ρ (24 + u) < ρ o) I D I1 D1 → I1 107 7 = nI b → LE β I1 D1 L η → (∀ c, c < 24 → X c = true → (bZ β c = 0 ∨ bt x c = false ∨ ∃ j, j < k ∧ ord j = c) → LC I1 D1 L c (val β η c)) → j_W 36 d 0 0 0 0 2 [some (.ref 107), some (.int (nI L)), some (.int x), some (.int (nI k)), none] [] w1 (I1, D1, RR R) Q := by
    intro m
    induction m with
    | zero =>
      intro k I1 D1 hk hG h7' hE1 hI
      have hk30 : k = 30 := by omega
      subst hk30
      exact t36h (n := 0) hR (by omega) (fun h => absurd h (Nat.lt_irrefl _)) (by decide) (by omega) (fun _ => hq I1 D1 hG h7' hE1 (fun c hc hx => hI c hc hx (Or.inr (Or.inr (by obtain ⟨j, j1, j2⟩ := hsur c (by omega); exact ⟨j, j1, j2⟩))))) (fun h => absurd (Nat.le_refl _) h) (fun h => absurd (Nat.le_refl _) h) (fun h => absurd (Nat.le_refl _) h) (fun h => absurd (Nat.le_refl _) h)
    | succ m ih =>
      intro k I1 D1 hk hG h7' hE1 hI
      have hk30 : k < 30 := by omega
      obtain ⟨o1, o2⟩ := hord.1 k hk30
      have hC1 := hG.mono (L := 0) (b := 0) (U := fun _ => True) (by omega) (by omega) (fun _ _ _ => trivial)
      have hCB := hC1.cb hR hC
      have e205 : I1 205 k = nI (ord k) := by rw [hG.1 205 (by omega) (by omega) (by omega) (by omega)]; exact o1
      have hz : ord k < 24 → (I1 ((R 112 (ord k)).getD 0) 1 ≤ 0 ↔ bZ β (ord k) = 0) := fun h24 => by
        show I1 (fo R (ord k)) 1 ≤ 0 ↔ _
        rw [(hCB.1 _ h24).2.2.2.2.1, show (0 : Int32) = nI 0 from rfl, nI_leI (by have := (hV.1 _ h24).2.1; omega) (by decide)]; omega
      have skip : (ord k < 24 → X (ord k) = true → bZ β (ord k) = 0 ∨ bt x (ord k) = false) → j_W 36 d 0 0 0 0 2 [some (.ref 107), some (.int (nI L)), some (.int x), some (.int (nI (k + 1))), none] [] w1 (I1, D1, RR R) Q := fun hs => ih (k + 1) I1 D1 (by omega) hG h7' hE1 (fun c hc hx hor => by
        rcases hor with h | h | ⟨j, j1, j2⟩
        · exact hI c hc hx (Or.inl h)
        · exact hI c hc hx (Or.inr (Or.inl h))
        · by_cases e : j = k
          · subst e; subst j2
            rcases hs hc hx with h | h
            · exact hI _ hc hx (Or.inl h)
            · exact hI _ hc hx (Or.inr (Or.inl h))
          · exact hI c hc hx (Or.inr (Or.inr ⟨j, by omega, j2⟩)))
      refine t36h (n := ord k) hR (by omega) (fun _ => e205) o2 (by omega) (fun h => absurd h (by omega)) (fun _ h => skip (fun h2 => absurd h (by omega))) (fun _ h24 h3 h4 => skip (fun h2 _ => Or.inl ((hz h2).mp h4))) (fun _ h24 h3 h4 => ?_) (fun _ h24 h3 => skip (fun h2 _ => Or.inr ((hn_0 (by omega)).mp (Classical.byContradiction h3))))
      have hn24 : ord k < 24 := by omega
      have hbit := (hn_t (by omega)).mp h3
      have hXn := hX3 _ hn24 hbit
      have hzn : bZ β (ord k) ≠ 0 := fun q => h4 ((hz hn24).mpr q)
      have hρn := hX1 _ hn24 hXn
      refine t36c (AP := fun J E => GF L b (fun u => ρ (24 + u) < ρ (ord k)) I1 D1 J E ∧ (∀ i, i ≠ ord k → J (221 + L) i = I1 (221 + L) i ∧ E (213 + L) i = D1 (213 + L) i) ∧ J 107 7 = nI b ∧ LC J E L (ord k) (val β η (ord k))) hk30 (fun Q2 hq2 => hF (d - 1) L b (ord k) η I1 D1 Q2 hn24 hzn (by omega) (by have := cnt_le (ρ := ρ) hρn; omega) hb (by omega) hCB (hC1.nm hN) (hC1.or ⟨ord, hord, hsur⟩) h7' hE1 (fun v hv hnm => ?_) (fun J E a1 a2 a3 a4 => hq2 J E ⟨a1, a2, a3, a4⟩)) (by omega) (fun J E hA => ?_)
      · refine hI v hv (hX2 _ v hn24 hv hXn hnm) (Or.inr (Or.inr ?_))
        exact hord.2.1 k hk30 v (by omega) (ed_1 hn24 hnm)
      · obtain ⟨a1, a2, a3, a4⟩ := hA
        refine ih (k + 1) J E (by omega) (hG.tr (a1.mono (Nat.le_refl _) (Nat.le_refl _) (fun u _ h => by show ρ (24 + u) < ρ o; omega))) a3 (fun c hc hz0 => ?_) (fun c hc hx hor => ?_)
        · have : c ≠ ord k := fun q => hzn (q ▸ hz0)
          exact (hE1 c hc hz0).cg (a2 c this).1 (a2 c this).2
        · by_cases e : c = ord k
          · rw [e]; exact a4
          · refine (hI c hc hx ?_).cg (a2 c e).1 (a2 c e).2
            rcases hor with h | h | ⟨j, j1, j2⟩
            · exact Or.inl h
            · exact Or.inr (Or.inl h)
            · exact Or.inr (Or.inr ⟨j, by
                have : j ≠ k := fun q => e (by rw [← j2, q])
                omega, j2⟩)
  refine t36e (by omega) (loop 30 0 I D rfl GF.refl h7 hE (fun c hc hx hor => ?_))
  rcases hor with h | h | ⟨j, j1, -⟩
  · have := val_eq hV η hc
    rw [if_pos h] at this
    rw [this]; exact hE c hc h
  · by_cases hz : bZ β c = 0
    · have := val_eq hV η hc
      rw [if_pos hz] at this
      rw [this]; exact hE c hc hz
    · exact hm c hc hx hz h
  · exact absurd j1 (Nat.not_lt_zero j)
theorem supV_eq {η η' : VEnv} {t i j : Nat} (h : ∀ c, c ≠ b1 β t → b2 β t ≠ some c → η' c = η c) : supV β η' t i j = supV β η t i j := by
  funext c
  unfold supV
  by_cases e : c = b1 β t
  · subst e; rw [fu_s, fu_s]
  · rw [fu_n e, fu_n e]
    cases hb : b2 β t with
    | none => exact h c e (by rw [hb]; exact fun q => by cases q)
    | some o =>
      by_cases e2 : c = o
      · subst e2; simp only [fu_s]
      · simp only [fu_n e2]; exact h c e (by rw [hb]; exact fun q => e2 (Option.some.inj q).symm)
theorem supV_o {η : VEnv} {t i j c : Nat} (h1 : c ≠ b1 β t) (h2 : b2 β t ≠ some c) : supV β η t i j c = η c := by
  unfold supV
  rw [fu_n h1]
  cases hb : b2 β t with
  | none => rfl
  | some o => exact fu_n (fun q => h2 (by rw [hb, q]))
/-- what the names say is read decides -/
theorem val_nm {I : Nat → Nat → Int32} {η η' : VEnv} {c : Nat} (hV : BV β) (hN : NM β I) (hc : c < 24) (h : ∀ v, v < 24 → bt (I 207 c) v = true → η v = η' v) : val β η c = val β η' c := by
  obtain ⟨ρ, hρ⟩ := Rk.ex hV
  refine val_sl (Rd := fun c v => bt (I 207 c) v) hV (fun c hc hz => ?_) (fun c k v hc hk hv h1 h2 => ?_) (fun c t v hc ht hv h1 hl h2 h3 => ?_) hρ 30 η η' c hc (hρ.1 c (by omega)) h
  · show bt (I 207 c) c = true
    rw [(hN.1 c hc).2.1 c (by omega), decide_eq_true hz, decide_eq_true rfl]; rfl
  · show bt (I 207 c) v = true
    rw [(hN.1 c hc).2.1 v (by omega)]
    have : (anyB 24 fun k => nmB (bZ β c) (bS β c) k && bt (I 207 k) v) = true := anyB_iff.mpr ⟨k, hk, by rw [h1]; exact h2⟩
    rw [this, Bool.or_true]; rfl
  · show bt (I 207 c) v = true
    rw [(hN.1 c hc).2.1 v (by omega)]
    have : (anyB 6 fun t => decide (0 < tmB β c t) && bL β t && (bt (I 207 (bO β t)) v && !vr β t v)) = true := anyB_iff.mpr ⟨t, ht, by
      have h2 : bt (I 207 (bO β t)) v = true := h2
      have h9 : decide (0 < tmB β c t) = true := (tm_nm (fun k hk => ((hV.1 c hc).2.2.2.2.1 k hk).1)).symm.trans h1
      rw [h2, h3, hl, h9]; rfl⟩
    rw [this, Bool.or_true]
/-- a table is told -/
theorem tt_step (hR : WFR R) (hV : BV β) (hρ : Rk β ρ) (hF : TF β ρ R r) : TT β ρ R (r + 1) := by
  intro d L b t η I D Q ht hl hrt hcnt hb hd hC hN hO h7 hE hq
  obtain ⟨k64, k1, k8, kc⟩ := cas_64 hV ht hl
  obtain ⟨wo1, w2, w3, w4, w5, w6, w7, w8, w9, w10, w11⟩ := hV.2.1 t ht hl
  have hout := (hρ.out hV ht hl).2
  have hgb := isBG_rng (hR.2.1 t ht).2
  have hG := hR.g t ht
  have hA := hV.2.2
  have hXc := hN.rc
  have hX1 : ∀ c, c < 24 → bt (I 206 (bO β t)) c = true → ρ c ≤ ρ (bO β t) := fun c hc h => hXc.cl hA (T := fun v => ρ v ≤ ρ (bO β t)) (fun u v hu hv hT hnm => by
    have := hρ.2 u v (by omega) (by omega) (ed_1 hu hnm)
    show ρ v ≤ ρ (bO β t)
    have hT : ρ u ≤ ρ (bO β t) := hT
    omega) (bO β t) wo1 (Nat.le_refl _) c (by omega) h
  have hX2 : ∀ c k, c < 24 → k < 24 → bt (I 206 (bO β t)) c = true → nmB (bZ β c) (bS β c) k = true → bt (I 206 (bO β t)) k = true := fun c k hc hk h hnm => hXc.tr2 hA wo1 (by omega) hk h hc hnm
  have hXo : bt (I 206 (bO β t)) (bO β t) = true := by
    rw [(hN.1 _ wo1).1 _ (by omega), decide_eq_true rfl]; rfl
  refine t41a (v := csV β η t) hR ht (by omega) (fun I1 D1 a1 a2 => ?_)
  have G1 : GF (L + 1) b (fun u => u = t ∨ ρ (24 + u) < ρ (24 + t)) I D I1 D1 := a2.gf ht (Or.inl rfl)
  refine t41b hG.2 (isTl_k t ht) (by omega) (by omega) (fun _ => by omega) (fun _ => by omega) (fun _ => by omega) (fun _ I2 D2 f1 f2 => ?_) (fun h => absurd (by omega) h)
  have G2 := G1.tr (f1.gf (L := L + 1) (b := b) (U := fun u => u = t ∨ ρ (24 + u) < ρ (24 + t)) (Nat.le_refl _) (by omega))
  have T2 : TLR I2 D2 (230 + 3 * t) 0 (csV β η t) := by
    obtain ⟨q0, q1, q2, q3, q4, q5, q6, q7, -⟩ := a1
    have e1 : I2 (230 + 3 * t) = I1 (230 + 3 * t) := f1.1 _ (by omega)
    have e2 : D2 (230 + 3 * t) = D1 (230 + 3 * t) := f1.2 _ (by omega)
    exact ⟨by rw [e1]; exact q0, by rw [e1]; exact q1, by rw [e1]; exact q2, by rw [e2]; exact q3, by rw [e2]; exact q4, by rw [e2]; exact q5, by rw [e1]; exact q6, by rw [e1]; exact q7, fun k hk => absurd hk (Nat.not_lt_zero k)⟩
  have E2 : LE β I2 D2 (L + 1) η := fun c hc hz => by
    have hL1 := G1.lc (l := L) (by omega) (by omega) (hE c hc hz)
    obtain ⟨p1, p2⟩ := f2 c hc
    rw [show L + 1 - 1 = L by omega] at p1 p2
    unfold LC at hL1 ⊢
    rw [p1, p2]; exact hL1
  have top2 : I2 107 7 = nI b := by rw [f1.1 107 (by omega), a2.1 107 (by omega) (by omega)]; exact h7
  have C2 := G2.cb hR hC
  have N2 := G2.nm hN
  obtain ⟨g0, g1⟩ := C2.2 t ht
  obtain ⟨c1, c2, c3, c4, c5, -⟩ := g1 hl
  refine t41c (β := β) hR hG.2 (isTl_k t ht) c1 wo1 (by omega) hV C2 ht hl (by decide) (fun y y1 y2 => ?_)
  have e206 : I2 206 = I 206 := G2.1 206 (by omega) (by omega) (by omega) (by omega)
  have e207 : I2 207 = I 207 := G2.1 207 (by omega) (by omega) (by omega) (by omega)
  have hsl : ∀ c, c < 24 → bt y c = slB β I t c := fun c hc => by rw [y1 c hc]; unfold slB; rw [e206, e207]
  rw [e206]
  -- the invariant of both loops, n cases being told
  have hw0 : 0 < wd β t := by omega
  let INV : Nat → Int32 → (Nat → Nat → Int32) → (Nat → Nat → UInt64) → Prop := fun n x J E => GF (L + 1) b (fun u => u = t ∨ ρ (24 + u) < ρ (24 + t)) I D J E ∧ J 107 7 = nI b ∧ TLR J E (230 + 3 * t) n (csV β η t) ∧ (∀ q, q < n → (csV β η t q).1 < 200 ∧ ((csV β η t q).1 = 0 → Sm (csV β η t q).2)) ∧ (∃ η', LE β J E (L + 1) η' ∧ ∀ c, c ≠ b1 β t → b2 β t ≠ some c → η' c = η c) ∧ (∀ c, c < 24 → bt x c = true → bt (I 206 (bO β t)) c = true) ∧ (∀ c, c < 24 → bt (I 206 (bO β t)) c = true → bZ β c ≠ 0 → bt x c = false → ∀ i j, LC J E (L + 1) c (val β (supV β η t i j) c))
  have body : ∀ (i j n : Nat) (x : Int32) (J : Nat → Nat → Int32) (E : Nat → Nat → UInt64), i < bm β t → j < wd β t → n = i * wd β t + j → n < cas β t → INV n x J E → (∀ J' E', INV (n + 1) y J' E' → j_W 41 d 0 0 0 0 85 [some (.ref 107), some (.int (nI L)), some (.int (nI t)), some (.ref (go R t)), some (.ref (230 + 3 * t)), some (.int (nI (L + 1))), some (.int y), some (.int y), some (.int (nI i)), some (.int (nI (j + 1)))] [] w1 (J', E', RR R) Q) → j_W 41 d 0 0 0 0 94 [some (.ref 107), some (.int (nI L)), some (.int (nI t)), some (.ref (go R t)), some (.ref (230 + 3 * t)), some (.int (nI (L + 1))), some (.int x), some (.int y), some (.int (nI i)), some (.int (nI j))] [] w1 (J, E, RR R) Q := by
    intro i j n x J E hi hj hn hnc hI hK
    obtain ⟨GJ, topJ, TJ, okJ, ⟨η', LJ, hη'⟩, xJ, mJ⟩ := hI
    have CJ := GJ.cb hR hC
    refine t41s (AP := fun J' E' => FL (L + 1) J E J' E' ∧ (∀ c, c ≠ b1 β t → b2 β t ≠ some c → J' (221 + (L + 1)) c = J (221 + (L + 1)) c ∧ E' (213 + (L + 1)) c = E (213 + (L + 1)) c) ∧ LE β J' E' (L + 1) (supV β η t i j)) hG.2 (isTl_k t ht) (fun Q2 hq2 => c45 (η := η') hR hV CJ ht hl (by omega) (by omega) hi hj (by omega) LJ (fun J' E' p1 p2 p3 => hq2 J' E' ⟨p1, p2, by rw [← supV_eq hη']; exact p3⟩)) (by omega) (fun J2 E2' hA2 => ?_)
    obtain ⟨p1, p2, p3⟩ := hA2
    have GJ2 := GJ.tr (p1.gf (L := L + 1) (b := b) (U := fun u => u = t ∨ ρ (24 + u) < ρ (24 + t)) (Nat.le_refl _) (by omega))
    refine t41t (AP := fun J' E' => GF (L + 1) b (fun u => ρ (24 + u) < ρ (bO β t)) J2 E2' J' E' ∧ J' 107 7 = nI b ∧ LE β J' E' (L + 1) (supV β η t i j) ∧ (∀ c, c < 24 → bt (I 206 (bO β t)) c = true → LC J' E' (L + 1) c (val β (supV β η t i j) c))) hG.2 (isTl_k t ht) (fun Q2 hq2 => tc_step hR hV hρ hF (X := fun c => bt (I 206 (bO β t)) c) wo1 (by omega) (by have := cnt_le (ρ := ρ) (show ρ (bO β t) ≤ ρ (24 + t) by omega); omega) hb (by omega) (GJ2.cb hR hC) (GJ2.nm hN) (GJ2.or hO) (by rw [p1.1 107 (by omega)]; exact topJ) p3 hX1 hX2 xJ (fun c hc hx hz hbit => ?_) (fun J' E' q1 q2 q3 q4 => hq2 J' E' ⟨q1, q2, q3, q4⟩)) (by omega) (fun J3 E3 hA3 => ?_)
    · have nb1 : c ≠ b1 β t := fun q => hz (q ▸ w3)
      have nb2 : b2 β t ≠ some c := fun q => hz (w4 c q).2.2
      exact (mJ c hc hx hz hbit i j).cg (p2 c nb1 nb2).1 (p2 c nb1 nb2).2
    · obtain ⟨q1, q2, q3, q4⟩ := hA3
      have GJ3 := GJ2.tr (q1.mono (Nat.le_refl _) (Nat.le_refl _) (fun u _ h => Or.inr (by show ρ (24 + u) < ρ (24 + t); omega)))
      have hv := q4 (bO β t) wo1 hXo
      have ev : csV β η t n = val β (supV β η t i j) (bO β t) := by
        unfold csV
        have e1 : n / wd β t = i := by rw [hn, Nat.mul_comm, Nat.mul_add_div hw0, Nat.div_eq_of_lt hj, Nat.add_zero]
        have e2 : n % wd β t = j := by rw [hn, Nat.mul_comm, Nat.mul_add_mod, Nat.mod_eq_of_lt hj]
        rw [e1, e2]
      obtain ⟨v1, v2, v3, v4⟩ := hv
      obtain ⟨t1, t2, t3, t4⟩ := q1.2.2.2.2.2 t ht (by show ¬ ρ (24 + t) < ρ (bO β t); omega)
      have TJ3 : TLR J3 E3 (230 + 3 * t) n (csV β η t) := by
        obtain ⟨x0, x1, x2, x3, x4, x5, x6, x7, x8⟩ := TJ
        have y1' : J3 (230 + 3 * t) = J (230 + 3 * t) := t1.trans (p1.1 _ (by omega))
        have y2' : J3 (230 + 3 * t + 2) = J (230 + 3 * t + 2) := t2.trans (p1.1 _ (by omega))
        have y3' : E3 (230 + 3 * t) = E (230 + 3 * t) := t3.trans (p1.2 _ (by omega))
        have y4' : E3 (230 + 3 * t + 1) = E (230 + 3 * t + 1) := t4.trans (p1.2 _ (by omega))
        exact ⟨by rw [y1']; exact x0, by rw [y1']; exact x1, by rw [y1']; exact x2, by rw [y3']; exact x3, by rw [y3']; exact x4, by rw [y3']; exact x5, by rw [y1']; exact x6, by rw [y1']; exact x7, fun k hk => by rw [y2', y4']; exact x8 k hk⟩
      have CJ3 := GJ3.cb hR hC
      obtain ⟨-, gg⟩ := CJ3.2 t ht
      have c1' := (gg hl).1
      refine t41u (n := n) (v := csV β η t) (a := bO β t) hG.2 (isTl_k t ht) (by omega) c1' wo1 (by omega) (by rw [ev]; exact v1) (by omega) (by omega) (fun k hk => (okJ k hk).2) TJ3 (by rw [ev]; exact ⟨rfl, v2, v3, v4⟩) (by decide) (fun J4 E4 z1 z2 => hK J4 E4 ⟨GJ3.tr (z2.gf ht (Or.inl rfl)), by rw [z2.1 107 (by omega) (by omega)]; exact q2, z1, fun q hq9 => ?_, ⟨supV β η t i j, fun c hc hz => (q3 c hc hz).cg (by rw [z2.1 _ (by omega) (by omega)]) (by rw [z2.2 _ (by omega) (by omega)]), fun c h1 h2 => supV_o h1 h2⟩, fun c hc hb9 => ?_, fun c hc hx hz hb9 i' j' => ?_⟩)
      · by_cases e : q = n
        · subst e; rw [ev]; exact ⟨v4, fun h0 => by rw [← v2 h0]; exact v3⟩
        · exact okJ q (by omega)
      · rw [hsl c hc] at hb9
        unfold slB at hb9
        rw [Bool.and_eq_true, Bool.and_eq_true] at hb9
        exact hb9.2.1
      · have hno : (anyB 24 fun v => bt (I 207 c) v && vr β t v) = false := by
          rw [hsl c hc] at hb9
          unfold slB at hb9
          rw [hx, decide_eq_true hz] at hb9
          rw [Bool.and_self, Bool.and_true] at hb9; exact hb9
        have heq : val β (supV β η t i' j') c = val β (supV β η t i j) c := val_nm hV hN hc (fun v hv hr => by
          have hvr : vr β t v = false := by
            cases h : vr β t v with
            | false => rfl
            | true => rw [anyB_iff.mpr ⟨v, hv, by rw [hr, h]; rfl⟩] at hno; cases hno
          unfold vr at hvr
          rw [Bool.or_eq_false_iff, decide_eq_false_iff_not, decide_eq_false_iff_not] at hvr
          rw [supV_o hvr.1 hvr.2, supV_o hvr.1 hvr.2])
        rw [heq]
        exact (q4 c hc hx).cg (by rw [z2.1 _ (by omega) (by omega)]) (by rw [z2.2 _ (by omega) (by omega)])
  have cols : ∀ n x J E, INV n x J E → (J (go R t) 5 ≤ 0 ∧ wd β t = 1) ∨ (J (go R t) 5 = nI (wd β t) ∧ 1 ≤ wd β t ∧ wd β t ≤ 8) := fun n x J E hI => by
    obtain ⟨-, gg⟩ := (hI.1.cb hR hC).2 t ht
    have g5 := (gg hl).2.2.2.2.1
    cases hb2 : b2 β t with
    | none =>
      refine Or.inl ⟨?_, by unfold wd; rw [if_pos hb2]⟩
      rw [g5, w7 hb2]; exact Int32.le_refl _
    | some o =>
      have hne : b2 β t ≠ none := fun h => by rw [hb2] at h; cases h
      have e : wd β t = bn β t := by unfold wd; rw [if_neg hne]
      rw [e]
      exact Or.inr ⟨g5, w8 hne, w9⟩
  have ones : ∀ n x J E, INV n x J E → J (go R t) 4 = nI (bm β t) := fun n x J E hI => by
    obtain ⟨-, gg⟩ := (hI.1.cb hR hC).2 t ht
    exact (gg hl).2.2.2.1
  have inner : ∀ (m j i n : Nat) (x : Int32) (J : Nat → Nat → Int32) (E : Nat → Nat → UInt64), m + j = wd β t → i < bm β t → n = i * wd β t + j → INV n x J E → (∀ J' E' x', INV ((i + 1) * wd β t) x' J' E' → j_W 41 d 0 0 0 0 73 [some (.ref 107), some (.int (nI L)), some (.int (nI t)), some (.ref (go R t)), some (.ref (230 + 3 * t)), some (.int (nI (L + 1))), some (.int x'), some (.int y), some (.int (nI (i + 1))), none] [] w1 (J', E', RR R) Q) → j_W 41 d 0 0 0 0 85 [some (.ref 107), some (.int (nI L)), some (.int (nI t)), some (.ref (go R t)), some (.ref (230 + 3 * t)), some (.int (nI (L + 1))), some (.int x), some (.int y), some (.int (nI i)), some (.int (nI j))] [] w1 (J, E, RR R) Q := by
    intro m
    induction m with
    | zero =>
      intro j i n x J E hm hi hn hI hK
      have : j = wd β t := by omega
      refine t41j (w := wd β t) hG.2 (isTl_k t ht) k8 (by omega) (by omega) (by omega) (cols n x J E hI) (fun _ => hK J E x ?_) (fun h => absurd (by omega) h)
      have e : (i + 1) * wd β t = n := by rw [Nat.succ_mul]; omega
      rw [e]; exact hI
    | succ m ih =>
      intro j i n x J E hm hi hn hI hK
      have hj : j < wd β t := by omega
      have hnc : n < cas β t := by
        rw [kc, hn]
        have : (i + 1) * wd β t ≤ bm β t * wd β t := Nat.mul_le_mul_right _ hi
        rw [Nat.succ_mul] at this
        omega
      refine t41j (w := wd β t) hG.2 (isTl_k t ht) k8 (by omega) (by omega) (by omega) (cols n x J E hI) (fun h => absurd h (by omega)) (fun _ => body i j n x J E hi hj hn hnc hI (fun J' E' hI' => ih (j + 1) i (n + 1) y J' E' (by omega) hi (by omega) hI' hK))
  have outer : ∀ (m i : Nat) (x : Int32) (J : Nat → Nat → Int32) (E : Nat → Nat → UInt64), m + i = bm β t → INV (i * wd β t) x J E → j_W 41 d 0 0 0 0 73 [some (.ref 107), some (.int (nI L)), some (.int (nI t)), some (.ref (go R t)), some (.ref (230 + 3 * t)), some (.int (nI (L + 1))), some (.int x), some (.int y), some (.int (nI i)), none] [] w1 (J, E, RR R) Q := by
    intro m
    induction m with
    | zero =>
      intro i x J E hm hI
      have hi : i = bm β t := by omega
      subst hi
      refine t41i hG.2 (isTl_k t ht) (ones _ x J E hI) w6 w6 (by omega) (fun _ => ?_) (fun h => absurd (Nat.le_refl _) h)
      obtain ⟨GJ, topJ, TJ, okJ, -⟩ := hI
      rw [← kc] at TJ okJ
      exact hq J E GJ topJ TJ okJ
    | succ m ih =>
      intro i x J E hm hI
      exact t41i hG.2 (isTl_k t ht) (ones _ x J E hI) w6 (by omega) (by omega) (fun h => absurd h (by omega)) (fun _ => inner (wd β t) 0 i (i * wd β t) x J E (by omega) (by omega) (by omega) hI (fun J' E' x' hI' => ih (i + 1) x' J' E' (by omega) hI'))
  refine outer (bm β t) 0 (I 206 (bO β t)) I2 D2 rfl ⟨G2, top2, ?_, fun q h => absurd h (by rw [Nat.zero_mul]; exact Nat.not_lt_zero q), ⟨η, E2, fun _ _ _ => rfl⟩, fun c _ h => h, fun c _ h1 _ h2 => by rw [h1] at h2; cases h2⟩
  rw [Nat.zero_mul]; exact T2
theorem tf_all (hR : WFR R) (hV : BV β) (hρ : Rk β ρ) : ∀ r, TF β ρ R r ∧ TT β ρ R r
  | 0 => ⟨fun d L b c η I D Q _ _ h => absurd h (Nat.not_lt_zero _), fun d L b t η I D Q _ _ h => absurd h (Nat.not_lt_zero _)⟩
  | r + 1 => ⟨tf_step hR hV hρ (tf_all hR hV hρ r).2, tt_step hR hV hρ (tf_all hR hV hρ r).1⟩
end SU
