/-! formula: what holds behind it -/
def bfw (β : Bd) (k z : Nat) (st : Nat → Nat × Nat) : Bd := (β.1, β.2.1, β.2.2.1, fu β.2.2.2.1 k z, fu β.2.2.2.2.1 k st, β.2.2.2.2.2)
def bfm (β : Bd) (k z : Nat) (st : Nat → Nat × Nat) : Bd := (β.1, β.2.1, fu β.2.2.1 k false, fu β.2.2.2.1 k z, fu β.2.2.2.2.1 k st, β.2.2.2.2.2)
section FM
variable {β : Bd} {c z : Nat} {st : Nat → Nat × Nat}
theorem bfw_o : otherC β (bfw β c z st) c := ⟨rfl, fun k hk e => ⟨rfl, rfl, rfl, fu_n e, fu_n e⟩⟩
theorem bfm_o : otherC β (bfm β c z st) c := ⟨rfl, fun k hk e => ⟨rfl, rfl, fu_n e, fu_n e, fu_n e⟩⟩
theorem bfw_ed {u v : Nat} (hu : u ≠ c) (h : ed (bfw β c z st) u v = true) : ed β u v = true := by
  unfold ed at h ⊢
  split at h
  · rename_i hc
    rw [if_pos hc]
    rw [show bZ (bfw β c z st) u = bZ β u from fu_n hu, show bS (bfw β c z st) u = bS β u from fu_n hu] at h
    exact h
  · rename_i hc
    rw [if_neg hc]; exact h
theorem nm_lt {z : Nat} {s : Nat → Nat × Nat} (hs : ∀ k, k < z → stV (s k)) {v : Nat} (h : nmB z s v = true) : v < 30 := by
  induction z with
  | zero => cases h
  | succ z ih =>
    rw [nmB, Bool.or_eq_true] at h
    rcases h with h | h
    · exact ih (fun k hk => hs k (by omega)) h
    · obtain ⟨v0, v1, v2, v3, v4⟩ := hs z (by omega)
      unfold stN at h
      simp only [Bool.or_eq_true, decide_eq_true_eq] at h
      rcases h with h | h
      · have := v2 h.1; omega
      · have := v4 h.1; omega
theorem bfw_ac (hc : c < 24) (hA : acyc β) {x : Int32} (hx : Clo (ed β) (fun v => nmB z st v) x) (hn : bt x c = false) : acyc (bfw β c z st) := by
  refine acyc_add (x := x) (n := c) hA (fun u v hu hv h1 h2 => bfw_ed h1 h2) (fun v hv h => ?_) hx.2.1 hn
  unfold ed at h
  rw [if_pos hc, show bZ (bfw β c z st) c = z from fu_s, show bS (bfw β c z st) c = st from fu_s] at h
  exact hx.1 v (by omega) h
theorem vrB_f (hr : vrB β c = false) {t : Nat} (ht : t < 6) (hl : bL β t = true) : b1 β t ≠ c ∧ ∀ o, b2 β t = some o → o ≠ c := by
  have h : vr β t c = false := by
    cases h : vr β t c with
    | false => rfl
    | true => rw [vrB_t ht hl h] at hr; cases hr
  unfold vr at h
  rw [Bool.or_eq_false_iff, decide_eq_false_iff_not, decide_eq_false_iff_not] at h
  exact ⟨fun e => h.1 e.symm, fun o ho e => h.2 (by rw [ho, e])⟩
theorem bfm_tb (hr : vrB β c = false) (hV : BV β) : ∀ t, t < 6 → bL β t = true → bO β t < 24 ∧ b1 β t < 24 ∧ bZ (bfm β c z st) (b1 β t) = 0 ∧ (∀ o, b2 β t = some o → o < 24 ∧ o ≠ b1 β t ∧ bZ (bfm β c z st) o = 0) ∧ 1 ≤ bm β t ∧ bm β t ≤ 8 ∧ (b2 β t = none → bn β t = 0) ∧ (b2 β t ≠ none → 1 ≤ bn β t) ∧ bn β t ≤ 8 ∧ (∀ k, k < bm β t → Sm (bA β (2 * t) k)) ∧ (∀ k, k < bn β t → Sm (bA β (2 * t + 1) k)) := by
  intro t ht hl
  obtain ⟨a1, a2, a3, a4, a5⟩ := hV.2.1 t ht hl
  obtain ⟨r1, r2⟩ := vrB_f hr ht hl
  exact ⟨a1, a2, (fu_n r1).trans a3, fun o ho => by obtain ⟨q1, q2, q3⟩ := a4 o ho; exact ⟨q1, q2, (fu_n (r2 o ho)).trans q3⟩, a5⟩
theorem bfw_V (hV : BV β) (hz : z ≤ 96) (hs : stOK z st) (hr : vrB β c = false) (hA : acyc (bfw β c z st)) : BVw (bfw β c z st) := by
  refine ⟨fun k hk => ?_, bfm_tb hr hV, hA⟩
  obtain ⟨a1, a2, a3, a4, a5⟩ := hV.1 k hk
  by_cases e : k = c
  · subst e
    rw [show bZ (bfw β k z st) k = z from fu_s, show bS (bfw β k z st) k = st from fu_s]
    exact ⟨a1, hz, trivial, a4, hs⟩
  · rw [show bZ (bfw β c z st) k = bZ β k from fu_n e, show bS (bfw β c z st) k = bS β k from fu_n e]
    exact ⟨a1, a2, trivial, a4, a5⟩
theorem bfm_V (hV : BV β) (hz : z ≤ 96) (hs : stOK z st) (hr : vrB β c = false) (hA : acyc (bfw β c z st)) : BV (bfm β c z st) := by
  refine ⟨fun k hk => ?_, bfm_tb hr hV, hA⟩
  obtain ⟨a1, a2, a3, a4, a5⟩ := hV.1 k hk
  by_cases e : k = c
  · subst e
    rw [show bZ (bfm β k z st) k = z from fu_s, show bS (bfm β k z st) k = st from fu_s, show bF (bfm β k z st) k = false from fu_s]
    exact ⟨a1, hz, fun _ => rfl, fun h => (by cases h), hs⟩
  · rw [show bZ (bfm β c z st) k = bZ β k from fu_n e, show bS (bfm β c z st) k = bS β k from fu_n e, show bF (bfm β c z st) k = bF β k from fu_n e]
    exact ⟨a1, a2, a3, a4, a5⟩
/-- nothing but a reading and one formula is other -/
def Fr65 (σ : j_I3) (c : Nat) (K : Nat → Nat → Int32) (E : Nat → Nat → UInt64) : Prop :=
  (∀ o, o ≠ 97 → o ≠ 260 → o ≠ fm σ.2.2 → o ≠ fm σ.2.2 + 1 → o ≠ fm σ.2.2 + 2 → (o < 205 ∨ 211 ≤ o) → o ≠ 111 → o ≠ 262 → o ≠ 264 → o ≠ 333 → o ≠ 335 + c → o ≠ 266 + c → o ≠ 423 → o ≠ 425 → o ≠ 361 → o ≠ 362 → K o = σ.1 o) ∧
  (∀ o, o ≠ 263 → o ≠ 291 + c → o ≠ 424 → o ≠ 426 → E o = σ.2.1 o) ∧ K 97 1 = 0 ∧ K 260 34 = 0 ∧ K 260 57 = σ.1 260 57
theorem Fr65.rest {σ : j_I3} {K : Nat → Nat → Int32} {E : Nat → Nat → UInt64} {R' : Nat → Nat → Option Nat} (hR : WFR σ.2.2) (hc : c < 24) (h : Fr65 σ c K E) (hRe : Rest σ) : Rest (K, E, R') := by
  obtain ⟨f1, f2, f3, f4, f5⟩ := h
  obtain ⟨r1, r2, r3, r4, r5⟩ := hRe
  have ho := isBF_rng hR.2.2.1.2
  have hI : ∀ o, restP o → K o = σ.1 o := fun o h => by
    unfold restP at h
    exact f1 o (by omega) (by omega) (by omega) (by omega) (by omega) (by omega) (by omega) (by omega) (by omega) (by omega) (by omega) (by omega) (by omega) (by omega) (by omega) (by omega)
  have hD : ∀ o, restP o → E o = σ.2.1 o := fun o h => by
    unfold restP at h
    exact f2 o (by omega) (by omega) (by omega) (by omega)
  have k0 : K 0 = σ.1 0 := f1 0 (by omega) (by omega) (by omega) (by omega) (by omega) (by omega) (by omega) (by omega) (by omega) (by omega) (by omega) (by omega) (by omega) (by omega) (by omega) (by omega)
  refine ⟨r1.cg (fun o h => hI o (by unfold rowsP at h; unfold restP; omega)) (fun o h => hD o (by unfold rowsP at h; unfold restP; omega)), ⟨0, by decide, f3, f4, fun k hk => absurd hk (Nat.not_lt_zero k)⟩, ?_, ?_, fun h => ?_⟩
  · show K 0 4 = K 260 57
    rw [k0, f5]; exact r3
  · show K 0 4 = 0 ∨ K 0 4 = 1
    rw [k0]; exact r4
  · have h' : ¬ K 0 4 = 0 := h
    rw [k0] at h'
    obtain ⟨γ, hγ⟩ := r5 h'
    exact ⟨γ, hγ.cg hI hD⟩
theorem fm_ne {R : Nat → Nat → Option Nat} (hR : WFR R) (hW : WFD R) {k : Nat} (hk : k < 24) : ∀ i j, i ≤ 2 → j ≤ 2 → fo R k + i ≠ fm R + j := fun i j hi hj e => by
  have h0 := hW.2.1 k hk
  have h1 := (hR.1 k hk).2
  have h2 := hR.2.2.1.2
  unfold isBF at h1 h2
  rcases h1 with h1 | ⟨p, hp, h1⟩ <;> rcases h2 with h2 | ⟨q, hq, h2⟩
  · exact h0 (h1.trans h2.symm)
  · omega
  · omega
  · exact h0 (by omega)
/-- refused: both sides hold the old board -/
theorem refused_inv {σ : j_I3} (hR : WFR σ.2.2) (hW : WFD σ.2.2) (hL : Live β σ) (hRe : Rest σ) (hc : c < 24) {K : Nat → Nat → Int32} {E : Nat → Nat → UInt64} (hf : Fr65 σ c K E) (h111 : K 111 = σ.1 111) (h262 : K 262 = σ.1 262) (h264 : ∀ i, i < 24 → K 264 i = σ.1 264 i) (h263 : E 263 = σ.2.1 263) (hN : RN β K) (hm : ∀ k, k < 96 → K (266 + c) k = σ.1 (266 + c) k) (hg : ∀ k, k < 96 → E (291 + c) k = σ.2.1 (291 + c) k) (hNM : NM β K) (hO : OrdB β K) : Inv (K, E, σ.2.2) := by
  obtain ⟨a1, a2, a3, a4, a5, a6, a7⟩ := hL
  have hRest := hf.rest (R' := σ.2.2) hR hc hRe
  obtain ⟨f1, f2, -⟩ := hf
  have hs := isBF_rng hR.2.2.1.2
  refine Inv.mk (β := β) hR hW ⟨fun k hk => ?_, fun t ht => ?_⟩ ⟨fun k hk => ?_, fun t ht => ?_⟩ hN a4 hNM hO (fun v hv => ?_) hRest
  · have hb := isBF_rng (hR.1 k hk).2
    have hd := fm_ne hR hW hk
    obtain ⟨c1, c2, c3, c4, c5⟩ := a1.1 k hk
    rw [f1 109 (by omega) (by omega) (by omega) (by omega) (by omega) (by omega) (by omega) (by omega) (by omega) (by omega) (by omega) (by omega) (by omega) (by omega) (by omega) (by omega), h111, f2 110 (by omega) (by omega) (by omega) (by omega)]
    have ff : ∀ i, i ≤ 2 → K (fo σ.2.2 k + i) = σ.1 (fo σ.2.2 k + i) := fun i hi => f1 _ (by omega) (by omega) (by have := hd i 0 hi (by omega); omega) (hd i 1 hi (by omega)) (hd i 2 hi (by omega)) (by omega) (by omega) (by omega) (by omega) (by omega) (by omega) (by omega) (by omega) (by omega) (by omega) (by omega)
    exact ⟨c1, c2, c3, c4, c5.cg (ff 0 (by omega)) (ff 1 (by omega)) (ff 2 (by omega))⟩
  · have hb := isBG_rng (hR.2.1 t ht).2
    exact (a1.2 t ht).cg (f1 _ (by omega) (by omega) (by omega) (by omega) (by omega) (by omega) (by omega) (by omega) (by omega) (by omega) (by omega) (by omega) (by omega) (by omega) (by omega) (by omega)) (f2 _ (by omega) (by omega) (by omega) (by omega)) (f2 _ (by omega) (by omega) (by omega) (by omega))
  · obtain ⟨d1, d2, d3, d4, d5, d6⟩ := a2.1 k hk
    rw [f1 261 (by omega) (by omega) (by omega) (by omega) (by omega) (by omega) (by omega) (by omega) (by omega) (by omega) (by omega) (by omega) (by omega) (by omega) (by omega) (by omega), h262, h264 k hk, h263]
    refine ⟨d1, d2, d3, d4, d5, fun j hj => ?_⟩
    have hz := (a4.1 k hk).2.1
    by_cases e : k = c
    · subst e
      have := d6 j hj
      unfold MR at this ⊢
      rw [hm j (by omega)]
      refine ⟨fun h0 => ?_, this.2⟩
      obtain ⟨q, q1, q2, q3⟩ := this.1 h0
      exact ⟨q, q1, q2, by rw [hg q q1]; exact q3⟩
    · rw [f1 (266 + k) (by omega) (by omega) (by omega) (by omega) (by omega) (by omega) (by omega) (by omega) (by omega) (by omega) (by omega) (by omega) (by omega) (by omega) (by omega) (by omega), f2 (291 + k) (by omega) (by omega) (by omega) (by omega)]
      exact d6 j hj
  · have e : ∀ o, 315 ≤ o → o < 320 → K o = σ.1 o := fun o h1 h2 => f1 o (by omega) (by omega) (by omega) (by omega) (by omega) (by omega) (by omega) (by omega) (by omega) (by omega) (by omega) (by omega) (by omega) (by omega) (by omega) (by omega)
    rw [e 315 (by omega) (by omega), e 316 (by omega) (by omega), e 317 (by omega) (by omega), e 318 (by omega) (by omega), e 319 (by omega) (by omega), f2 (321 + 2 * t) (by omega) (by omega) (by omega) (by omega), f2 (321 + 2 * t + 1) (by omega) (by omega) (by omega) (by omega)]
    exact a2.2 t ht
  · have h1 := NM.mono a4 a4 lessB.rf a5 hNM v hv
    have h2 := a7 v hv
    omega
/-- taken: both sides hold the new board -/
theorem taken_inv {σ : j_I3} (hR : WFR σ.2.2) (hW : WFD σ.2.2) (hL : Live β σ) (hRe : Rest σ) (hc : c < 24) (hV : BV (bfm β c z st)) {K : Nat → Nat → Int32} {E : Nat → Nat → UInt64} (hf : Fr65 σ c K E) (h111 : ∀ i, K 111 i = if i = c then 0 else σ.1 111 i) (h262 : ∀ i, K 262 i = if i = c then 0 else σ.1 262 i) (h264 : ∀ i, K 264 i = if i = c then nI z else σ.1 264 i) (h263 : ∀ i, E 263 i = if i = c then FP.dconst0 else σ.2.1 263 i) (hn1 : ∀ i, i ≠ c → K 333 i = σ.1 333 i) (hn2 : ∀ v, v < 32 → bt (K 333 c) v = (decide (v < 24) && nmB z st v)) (hn3 : ∀ t, t < 6 → K (335 + c) t = nI (tmN z st t)) (hm : ∀ k, k < z → MR (st k) (K (266 + c) k) (E (291 + c))) (hFR : FR z st K (fm σ.2.2)) (hNM : NM (bfm β c z st) K) (hO : OrdB (bfm β c z st) K) (hb : ∀ v, v < 30 → bu K v ≤ 2000) : Inv (K, E, j_u (j_u σ.2.2 112 c (some (fm σ.2.2))) 97 2 (some (fo σ.2.2 c))) := by
  obtain ⟨a1, a2, a3, a4, a5, a6, a7⟩ := hL
  have hRest := hf.rest (R' := j_u (j_u σ.2.2 112 c (some (fm σ.2.2))) 97 2 (some (fo σ.2.2 c))) hR hc hRe
  obtain ⟨f1, f2, -⟩ := hf
  have hs := isBF_rng hR.2.2.1.2
  have zc : bZ (bfm β c z st) c = z := fu_s
  have sc : bS (bfm β c z st) c = st := fu_s
  have fc : bF (bfm β c z st) c = false := fu_s
  obtain ⟨c1, c2, c3, c4, c5⟩ := a1.1 c hc
  obtain ⟨d1, d2, d3, d4, d5, d6⟩ := a2.1 c hc
  have e109 : K 109 = σ.1 109 := f1 109 (by omega) (by omega) (by omega) (by omega) (by omega) (by omega) (by omega) (by omega) (by omega) (by omega) (by omega) (by omega) (by omega) (by omega) (by omega) (by omega)
  have e110 : E 110 = σ.2.1 110 := f2 110 (by omega) (by omega) (by omega) (by omega)
  have e261 : K 261 = σ.1 261 := f1 261 (by omega) (by omega) (by omega) (by omega) (by omega) (by omega) (by omega) (by omega) (by omega) (by omega) (by omega) (by omega) (by omega) (by omega) (by omega) (by omega)
  refine Inv.mk (β := bfm β c z st) (hR.sw112 hc) (hW.sw112 hc) (a1.cell bfm_o (fun i e => ?_) (fun i e => ?_) (fun i e => ?_) (fun k hk e => ?_) (fun t ht => ?_) ⟨?_, fun h => ?_, ?_, ?_, ?_⟩) (a2.cell bfm_o (fun i e => ?_) (fun i e => ?_) (fun i e => ?_) (fun i e => ?_) (fun k hk e => ?_) (fun o h1 h2 => ?_) (fun o h1 h2 => ?_) ⟨?_, ?_, fun h => ?_, ?_, ?_, ?_⟩) (fun k hk => ?_) hV hNM hO hb hRest
  · rw [e109]
  · rw [h111, if_neg e]
  · rw [e110]
  · have hb := isBF_rng (hR.1 k hk).2
    have hd := fm_ne hR hW hk
    have ff : ∀ i, i ≤ 2 → K (fo σ.2.2 k + i) = σ.1 (fo σ.2.2 k + i) := fun i hi => f1 _ (by omega) (by omega) (by have := hd i 0 hi (by omega); omega) (hd i 1 hi (by omega)) (hd i 2 hi (by omega)) (by omega) (by omega) (by omega) (by omega) (by omega) (by omega) (by omega) (by omega) (by omega) (by omega) (by omega)
    refine ⟨?_, ff 0 (by omega), ff 1 (by omega), ff 2 (by omega)⟩
    rw [j_u_o _ _ _ (by decide), j_u_k _ _ e]
  · have hb := isBG_rng (hR.2.1 t ht).2
    refine ⟨?_, f1 _ (by omega) (by omega) (by omega) (by omega) (by omega) (by omega) (by omega) (by omega) (by omega) (by omega) (by omega) (by omega) (by omega) (by omega) (by omega) (by omega), f2 _ (by omega) (by omega) (by omega) (by omega), f2 _ (by omega) (by omega) (by omega) (by omega)⟩
    rw [j_u_o _ _ _ (by decide), j_u_o _ _ _ (by decide)]
  · rw [e109]; exact c1
  · rw [fc] at h; cases h
  · rw [e110]; exact c3
  · rw [h111, if_pos rfl, fc]; rfl
  · rw [zc, sc]
    have : fo (j_u (j_u σ.2.2 112 c (some (fm σ.2.2))) 97 2 (some (fo σ.2.2 c))) c = fm σ.2.2 := by
      show ((j_u (j_u σ.2.2 112 c (some (fm σ.2.2))) 97 2 (some (fo σ.2.2 c))) 112 c).getD 0 = _
      rw [j_u_o _ _ _ (by decide), j_u_same]; rfl
    rw [this]; exact hFR
  · rw [e261]
  · rw [h262, if_neg e]
  · rw [h264, if_neg e]
  · rw [h263, if_neg e]
  · exact ⟨f1 _ (by omega) (by omega) (by omega) (by omega) (by omega) (by omega) (by omega) (by omega) (by omega) (by omega) (by omega) (by omega) (by omega) (by omega) (by omega) (by omega), f2 _ (by omega) (by omega) (by omega) (by omega)⟩
  · exact f1 o (by omega) (by omega) (by omega) (by omega) (by omega) (by omega) (by omega) (by omega) (by omega) (by omega) (by omega) (by omega) (by omega) (by omega) (by omega) (by omega)
  · exact f2 o (by omega) (by omega) (by omega) (by omega)
  · rw [e261]; exact d1
  · rw [h262, if_pos rfl, fc]; rfl
  · rw [fc] at h; cases h
  · rw [h263, if_pos rfl]; exact sm_0
  · rw [h264, if_pos rfl, zc]
  · rw [zc, sc]; exact hm
  · by_cases e : k = c
    · subst e
      rw [zc, sc]; exact ⟨hn2, hn3⟩
    · rw [show bZ (bfm β c z st) k = bZ β k from fu_n e, show bS (bfm β c z st) k = bS β k from fu_n e, hn1 k e, f1 (335 + k) (by omega) (by omega) (by omega) (by omega) (by omega) (by omega) (by omega) (by omega) (by omega) (by omega) (by omega) (by omega) (by omega) (by omega) (by omega) (by omega)]
      exact a3 k hk
end FM
