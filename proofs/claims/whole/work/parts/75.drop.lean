/-! drop -/
def otherT (β β' : Bd) (t : Nat) : Prop := (bK β' = bK β ∧ bX β' = bX β ∧ bF β' = bF β ∧ bZ β' = bZ β ∧ bS β' = bS β) ∧ ∀ u, u < 6 → u ≠ t → bL β' u = bL β u ∧ bO β' u = bO β u ∧ b1 β' u = b1 β u ∧ b2 β' u = b2 β u ∧ bm β' u = bm β u ∧ bn β' u = bn β u ∧ bA β' (2 * u) = bA β (2 * u) ∧ bA β' (2 * u + 1) = bA β (2 * u + 1)
theorem CB.tab {β β' : Bd} {I I' : Nat → Nat → Int32} {D D' : Nat → Nat → UInt64} {R R' : Nat → Nat → Option Nat} {t : Nat} (h : CB β I D R) (hb : otherT β β' t)
    (h109 : I' 109 = I 109) (h111 : I' 111 = I 111) (h110 : D' 110 = D 110)
    (hf : ∀ c, c < 24 → R' 112 c = R 112 c ∧ I' (fo R c) = I (fo R c) ∧ I' (fo R c + 1) = I (fo R c + 1) ∧ I' (fo R c + 2) = I (fo R c + 2))
    (hg : ∀ u, u < 6 → u ≠ t → R' 113 u = R 113 u ∧ I' (go R u) = I (go R u) ∧ D' (go R u + 1) = D (go R u + 1) ∧ D' (go R u + 2) = D (go R u + 2))
    (hn : GR β' t I' D' (go R' t)) : CB β' I' D' R' := by
  obtain ⟨⟨q1, q2, q3, q4, q5⟩, hb⟩ := hb
  refine ⟨fun c hc => ?_, fun u hu => ?_⟩
  · obtain ⟨f0, f1, f2, f3⟩ := hf c hc
    obtain ⟨c1, c2, c3, c4, c5⟩ := h.1 c hc
    have e0 : fo R' c = fo R c := by show (R' 112 c).getD 0 = (R 112 c).getD 0; rw [f0]
    rw [h109, h111, h110, q1, q2, q3, q4, q5, e0]
    exact ⟨c1, c2, c3, c4, c5.cg f1 f2 f3⟩
  · by_cases e : u = t
    · subst e; exact hn
    · obtain ⟨f0, f1, f2, f3⟩ := hg u hu e
      have e0 : go R' u = go R u := by show (R' 113 u).getD 0 = (R 113 u).getD 0; rw [f0]
      obtain ⟨a1, a2, a3, a4, a5, a6, a7, a8⟩ := hb u hu e
      have := (h.2 u hu).cg f1 f2 f3
      unfold GR at this ⊢
      rw [e0, a1, a2, a3, a4, a5, a6, a7, a8]
      exact this
theorem RB.tab {β β' : Bd} {I I' : Nat → Nat → Int32} {D D' : Nat → Nat → UInt64} {t : Nat} (h : RB β I D) (hb : otherT β β' t)
    (hi : ∀ o, 261 ≤ o → o < 291 → I' o = I o) (hd : ∀ o, 261 ≤ o → o < 321 → D' o = D o)
    (hg : ∀ u, u < 6 → u ≠ t → I' 315 u = I 315 u ∧ I' 316 u = I 316 u ∧ I' 317 u = I 317 u ∧ I' 318 u = I 318 u ∧ I' 319 (2 * u) = I 319 (2 * u) ∧ I' 319 (2 * u + 1) = I 319 (2 * u + 1) ∧ D' (321 + 2 * u) = D (321 + 2 * u) ∧ D' (321 + 2 * u + 1) = D (321 + 2 * u + 1))
    (hn : I' 315 t = bi (bL β' t) ∧ (bL β' t = true → I' 316 t = nI (bO β' t) ∧ I' 317 t = nI (b1 β' t) ∧ I' 318 t = oI (b2 β' t) ∧ I' 319 (2 * t) = nI (bm β' t) ∧ I' 319 (2 * t + 1) = nI (bn β' t) ∧ (∀ k, k < bm β' t → D' (321 + 2 * t) k = bA β' (2 * t) k) ∧ (∀ k, k < bn β' t → D' (321 + 2 * t + 1) k = bA β' (2 * t + 1) k))) : RB β' I' D' := by
  obtain ⟨⟨q1, q2, q3, q4, q5⟩, hb⟩ := hb
  refine ⟨fun c hc => ?_, fun u hu => ?_⟩
  · rw [hi 261 (by omega) (by omega), hi 262 (by omega) (by omega), hd 263 (by omega) (by omega), hi 264 (by omega) (by omega), hi (266 + c) (by omega) (by omega), hd (291 + c) (by omega) (by omega), q1, q2, q3, q4, q5]
    exact h.1 c hc
  · by_cases e : u = t
    · subst e; exact hn
    · obtain ⟨f0, f1, f2, f3, f4, f5, f6, f7⟩ := hg u hu e
      obtain ⟨a1, a2, a3, a4, a5, a6, a7, a8⟩ := hb u hu e
      rw [f0, f1, f2, f3, f4, f5, f6, f7, a1, a2, a3, a4, a5, a6, a7, a8]
      exact h.2 u hu
def bdrop (β : Bd) (t : Nat) : Bd := (β.1, β.2.1, β.2.2.1, β.2.2.2.1, β.2.2.2.2.1, fu β.2.2.2.2.2.1 t false, β.2.2.2.2.2.2)
theorem bdrop_l {β : Bd} {t u : Nat} (h : bL (bdrop β t) u = true) : u ≠ t ∧ bL β u = true := by
  by_cases e : u = t
  · subst e
    rw [show bL (bdrop β u) u = false from fu_s] at h; cases h
  · exact ⟨e, by rw [← h]; exact (fu_n e).symm⟩
theorem bdrop_less {β : Bd} {t : Nat} : lessB β (bdrop β t) := ⟨fun c hc => Or.inr ⟨rfl, rfl⟩, fun u hu hl => ⟨(bdrop_l hl).2, rfl, rfl⟩⟩
theorem bdrop_V {β : Bd} {t : Nat} (h : BV β) : BV (bdrop β t) := ⟨h.1, fun u hu hl => h.2.1 u hu (bdrop_l hl).2, bdrop_less.acyc h.2.2⟩
theorem bdrop_o {β : Bd} {t : Nat} : otherT β (bdrop β t) t := ⟨⟨rfl, rfl, rfl, rfl, rfl⟩, fun u hu e => ⟨fu_n e, rfl, rfl, rfl, rfl, rfl, rfl, rfl⟩⟩
theorem isBG_ne {R : Nat → Nat → Option Nat} (hR : WFR R) (hW : WFD R) {c k : Nat} (hc : c < 6) (hk : k < 6) (e : c ≠ k) : ∀ i j, i ≤ 2 → j ≤ 2 → go R c + i ≠ go R k + j := fun i j hi hj h => by
  have h0 := hW.2.2.1 c k hc hk
  have h1 := (hR.2.1 c hc).2
  have h2 := (hR.2.1 k hk).2
  unfold isBG at h1 h2
  rcases h1 with h1 | ⟨p, hp, h1⟩ <;> rcases h2 with h2 | ⟨q, hq, h2⟩
  · exact e (h0 (h1.trans h2.symm))
  · omega
  · omega
  · exact e (h0 (by omega))
theorem drop_CB {β : Bd} {I : Nat → Nat → Int32} {D : Nat → Nat → UInt64} {R : Nat → Nat → Option Nat} (hR : WFR R) (hW : WFD R) (h : CB β I D R) {k : Nat} (hk : k < 6) : CB (bdrop β k) (j_u I ((R 113 k).getD 0) 0 0) D R := by
  have hbk : (R 113 k).getD 0 = 102 ∨ (186 ≤ (R 113 k).getD 0 ∧ (R 113 k).getD 0 ≤ 201) := isBG_rng (hR.2.1 k hk).2
  have hJ : ∀ o, o ≠ (R 113 k).getD 0 → j_u I ((R 113 k).getD 0) 0 0 o = I o := fun o ho => by funext i; rw [j_u_o _ _ _ ho]
  refine h.tab bdrop_o (hJ _ (by omega)) (hJ _ (by omega)) rfl (fun c hc => ?_) (fun u hu e => ?_) ⟨?_, fun hl => absurd rfl (bdrop_l hl).1⟩
  · have hb := isBF_rng (hR.1 c hc).2
    have hd : ∀ i, i ≤ 2 → fo R c + i ≠ (R 113 k).getD 0 := fun i hi => by
      rcases hb with hb | hb <;> rcases hbk with hbk | hbk <;> omega
    exact ⟨rfl, hJ _ (hd 0 (by omega)), hJ _ (hd 1 (by omega)), hJ _ (hd 2 (by omega))⟩
  · exact ⟨rfl, hJ _ (isBG_ne hR hW hu hk e 0 0 (by omega) (by omega)), rfl, rfl⟩
  · rw [show bL (bdrop β k) k = false from fu_s]
    exact j_u_same _ _ _ _
theorem drop_inv {β : Bd} {σ : j_I3} (hR : WFR σ.2.2) (hW : WFD σ.2.2) (hL : Live β σ) (hRe : Rest σ) {k : Nat} (hk : k < 6) {K : Nat → Nat → Int32} (k1 : ∀ o, (o < 205 ∨ 211 ≤ o) → K o = j_u σ.1 ((σ.2.2 113 k).getD 0) 0 0 o) (k2 : NM (bdrop β k) K) (k3 : OrdB (bdrop β k) K) : Inv (j_u K 315 k 0, σ.2.1, σ.2.2) := by
  obtain ⟨a1, a2, a3, a4, a5, a6, a7⟩ := hL
  have hbk : (σ.2.2 113 k).getD 0 = 102 ∨ (186 ≤ (σ.2.2 113 k).getD 0 ∧ (σ.2.2 113 k).getD 0 ≤ 201) := isBG_rng (hR.2.1 k hk).2
  have hV' := bdrop_V (t := k) a4
  have hC := drop_CB hR hW a1 hk
  have hLK : ∀ o, o ≠ 315 → j_u K 315 k 0 o = K o := fun o h1 => by funext i; rw [j_u_o _ _ _ h1]
  have hLI : ∀ o, o ≠ 315 → o ≠ (σ.2.2 113 k).getD 0 → (o < 205 ∨ 211 ≤ o) → j_u K 315 k 0 o = σ.1 o := fun o h1 h2 h3 => by
    rw [hLK o h1, k1 o h3]; funext i; rw [j_u_o _ _ _ h2]
  refine Inv.mk (β := bdrop β k) hR hW (hC.cg hR (fun o ho => ?_) (fun o ho => rfl)) (a2.tab bdrop_o (fun o h1 h2 => hLI o (by omega) (by omega) (by omega)) (fun o h1 h2 => rfl) (fun u hu e => ?_) ⟨?_, fun hl => absurd rfl (bdrop_l hl).1⟩) (fun c hc => ?_) hV' (k2.cg (fun o h1 h2 => hLK o (by omega))) (k3.cg (hLK 205 (by omega))) (fun v hv => ?_) (hRe.cg' (fun o ho => ?_) (fun o ho => rfl) ?_ ?_ ?_ ?_)
  · unfold CBP at ho
    rw [hLK o (by omega), k1 o (by omega)]
  · have e1 : ∀ o, 316 ≤ o → o < 320 → j_u K 315 k 0 o = σ.1 o := fun o h1 h2 => hLI o (by omega) (by omega) (by omega)
    rw [e1 316 (by omega) (by omega), e1 317 (by omega) (by omega), e1 318 (by omega) (by omega), e1 319 (by omega) (by omega)]
    refine ⟨?_, rfl, rfl, rfl, rfl, rfl, rfl, rfl⟩
    rw [j_u_k _ _ e, k1 315 (by omega), j_u_o _ _ _ (by omega)]
  · rw [j_u_same, show bL (bdrop β k) k = false from fu_s]; rfl
  · rw [hLI 333 (by omega) (by omega) (by omega), hLI (335 + c) (by omega) (by omega) (by omega)]; exact a3 c hc
  · have h1 := NM.mono a4 hV' bdrop_less a5 k2 v hv
    have h2 := a7 v hv
    unfold bu at h1 h2 ⊢
    rw [hLK 208 (by omega)]
    omega
  · unfold restP at ho
    exact hLI o (by omega) (by omega) (by omega)
  · rw [hLI 97 (by omega) (by omega) (by omega)]
  · rw [hLI 260 (by omega) (by omega) (by omega)]
  · rw [hLI 260 (by omega) (by omega) (by omega)]
  · rw [hLI 0 (by omega) (by omega) (by omega)]
theorem Live.l {β : Bd} {σ : j_I3} (h : Live β σ) {t : Nat} (ht : t < 6) : (σ.1 ((σ.2.2 113 t).getD 0) 0 = 0 ↔ bL β t = false) ∧ (σ.1 315 t = 0 ↔ bL β t = false) := by
  rw [show σ.1 ((σ.2.2 113 t).getD 0) 0 = bi (bL β t) from (h.1.2 t ht).1, (h.2.1.2 t ht).1]
  exact ⟨bi_eq0, bi_eq0⟩
theorem both_drop (a : Int32) : BothI Inv 116 254 [.int a] := fun σ h => by
  have hT := h
  obtain ⟨⟨hR, hW⟩, ⟨β, hL⟩, hRe⟩ := h
  show j_Call lD 116 [.ref 0, .int a] w1 (σ.1, σ.2.1, RR σ.2.2) 0 0 (PEnd 254 [.int a] Inv)
  by_cases ha : ∃ k : Nat, k < 6 ∧ a = nI k
  case neg => exact s116 (β := β) hR lD4' (fun k1 h2 h3 h4 => absurd ⟨k1, h2, h3⟩ ha) (fun k1 h2 h3 h4 => absurd ⟨k1, h2, h3⟩ ha) (fun k1 h2 h3 h4 => absurd ⟨k1, h2, h3⟩ ha) (fun k1 h2 h3 h4 J7 h6 h7 h8 => absurd ⟨k1, h2, h3⟩ ha) (fun k1 h2 h3 h4 => absurd ⟨k1, h2, h3⟩ ha) (fun h1 => pend_same hT (s254 lD2 (fun k1 g2 g3 g4 => absurd ⟨k1, g2, g3⟩ ha) (fun k1 g2 g3 g4 => absurd ⟨k1, g2, g3⟩ ha) (fun g1 => ⟨rfl, rfl, rfl⟩)))
  obtain ⟨k, hk, rfl⟩ := ha
  obtain ⟨e1, e2⟩ := hL.l hk
  by_cases hl : bL β k = false
  · have l1 := e1.mpr hl
    have l2 := e2.mpr hl
    exact s116n (β := β) hR hk lD4' (fun h1 => False.elim (by first | exact absurd h1 l1 | exact absurd l1 h1 | exact (Int32.not_lt.mpr h1) l1 | exact (Int32.not_lt.mpr l1) h1 | exact h1 (Int32.not_le.mp l1) | exact l1 (Int32.not_le.mp h1) | omega)) (fun h1 => False.elim (by first | exact absurd h1 l1 | exact absurd l1 h1 | exact (Int32.not_lt.mpr h1) l1 | exact (Int32.not_lt.mpr l1) h1 | exact h1 (Int32.not_le.mp l1) | exact l1 (Int32.not_le.mp h1) | omega)) (fun h1 => False.elim (by first | exact absurd h1 l1 | exact absurd l1 h1 | exact (Int32.not_lt.mpr h1) l1 | exact (Int32.not_lt.mpr l1) h1 | exact h1 (Int32.not_le.mp l1) | exact l1 (Int32.not_le.mp h1) | omega)) (fun h1 J6 h3 h4 h5 => False.elim (by first | exact absurd h1 l1 | exact absurd l1 h1 | exact (Int32.not_lt.mpr h1) l1 | exact (Int32.not_lt.mpr l1) h1 | exact h1 (Int32.not_le.mp l1) | exact l1 (Int32.not_le.mp h1) | omega)) (fun h1 => pend_same hT (s254n hk lD2 (fun g1 => False.elim (by first | exact absurd g1 l2 | exact absurd l2 g1 | exact (Int32.not_lt.mpr g1) l2 | exact (Int32.not_lt.mpr l2) g1 | exact g1 (Int32.not_le.mp l2) | exact l2 (Int32.not_le.mp g1) | omega)) (fun g1 => ⟨rfl, rfl, rfl⟩)))
  have l1 := mt e1.mp hl
  have l2 := mt e2.mp hl
  have hbk : (σ.2.2 113 k).getD 0 = 102 ∨ (186 ≤ (σ.2.2 113 k).getD 0 ∧ (σ.2.2 113 k).getD 0 ≤ 201) := isBG_rng (hR.2.1 k hk).2
  have hNB : NB (j_u σ.1 ((σ.2.2 113 k).getD 0) 0 0) := by
    have := hL.2.2.2.2.1.nb
    unfold NB bu shr at this ⊢
    have e8 : j_u σ.1 ((σ.2.2 113 k).getD 0) 0 0 208 = σ.1 208 := by funext i; rw [j_u_o _ _ _ (by omega)]
    have e9 : j_u σ.1 ((σ.2.2 113 k).getD 0) 0 0 209 = σ.1 209 := by funext i; rw [j_u_o _ _ _ (by omega)]
    rw [e8, e9]; exact this
  refine s116n (β := bdrop β k) hR hk lD4' (fun h1 => bdrop_V hL.2.2.2.1) (fun h1 => drop_CB hR hW hL.1 hk) (fun h1 => hNB) (fun h1 J6 h3 h4 h5 => ?_) (fun h1 => False.elim (by first | exact absurd h1 l1 | exact absurd l1 h1 | exact (Int32.not_lt.mpr h1) l1 | exact (Int32.not_lt.mpr l1) h1 | exact h1 (Int32.not_le.mp l1) | exact l1 (Int32.not_le.mp h1) | omega))
  have l3 : ¬ J6 315 k = 0 := by rw [h3 315 (by omega), j_u_o _ _ _ (by omega)]; exact l2
  exact pend_go (s254n hk lD2 (fun g1 => ⟨_, rfl, rfl, rfl, drop_inv hR hW hL hRe hk h3 h4 h5⟩) (fun g1 => False.elim (by first | exact absurd g1 l3 | exact absurd l3 g1 | exact (Int32.not_lt.mpr g1) l3 | exact (Int32.not_lt.mpr l3) g1 | exact g1 (Int32.not_le.mp l3) | exact l3 (Int32.not_le.mp g1) | omega)))
