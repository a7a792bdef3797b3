/-! what holds between the calls -/
def restP (o : Nat) : Prop := (2 ≤ o ∧ o ≤ 96) ∨ o = 98 ∨ (248 ≤ o ∧ o < 260) ∨ o = 422 ∨ (431 ≤ o ∧ o < 517)
def liveP (o : Nat) : Prop := CBP o ∨ (205 ≤ o ∧ o < 211) ∨ (261 ≤ o ∧ o < 359)
def Img (γ : Bd) (I : Nat → Nat → Int32) (D : Nat → Nat → UInt64) : Prop := CK γ I D ∧ RK γ I D ∧ BV γ ∧ ∃ J, NM γ J ∧ ∀ v, v < 30 → bu J v ≤ 2000
def Rest (σ : j_I3) : Prop := rowsR σ ∧ tapeR σ ∧ σ.1 0 4 = σ.1 260 57 ∧ (σ.1 0 4 = 0 ∨ σ.1 0 4 = 1) ∧ (¬ σ.1 0 4 = 0 → ∃ γ, Img γ σ.1 σ.2.1)
def Live (β : Bd) (σ : j_I3) : Prop := CB β σ.1 σ.2.1 σ.2.2 ∧ RB β σ.1 σ.2.1 ∧ RN β σ.1 ∧ BV β ∧ NM β σ.1 ∧ OrdB β σ.1 ∧ ∀ v, v < 30 → bu σ.1 v ≤ 2000
def Inv (σ : j_I3) : Prop := (WFR σ.2.2 ∧ WFD σ.2.2) ∧ (∃ β, Live β σ) ∧ Rest σ
theorem CBg.cg {oK oN oF : Nat} {ff gg : Nat → Nat} {β : Bd} {I I' : Nat → Nat → Int32} {D D' : Nat → Nat → UInt64} (h : CBg oK oN oF ff gg β I D) (h1 : I' oK = I oK) (h2 : D' oN = D oN) (h3 : I' oF = I oF) (hf : ∀ c, c < 24 → I' (ff c) = I (ff c) ∧ I' (ff c + 1) = I (ff c + 1) ∧ I' (ff c + 2) = I (ff c + 2)) (hg : ∀ t, t < 6 → I' (gg t) = I (gg t) ∧ D' (gg t + 1) = D (gg t + 1) ∧ D' (gg t + 2) = D (gg t + 2)) : CBg oK oN oF ff gg β I' D' := by
  refine ⟨fun c hc => ?_, fun t ht => ?_⟩
  · obtain ⟨a1, a2, a3, a4, a5⟩ := h.1 c hc
    obtain ⟨f1, f2, f3⟩ := hf c hc
    rw [h1, h2, h3]
    exact ⟨a1, a2, a3, a4, a5.cg f1 f2 f3⟩
  · obtain ⟨f1, f2, f3⟩ := hg t ht
    exact (h.2 t ht).cg f1 f2 f3
theorem CK.cg {β : Bd} {I I' : Nat → Nat → Int32} {D D' : Nat → Nat → UInt64} (h : CK β I D) (hI : ∀ o, 2 ≤ o → o ≤ 96 → I' o = I o) (hD : ∀ o, 2 ≤ o → o ≤ 96 → D' o = D o) : CK β I' D' := by
  unfold CK at h ⊢
  exact CBg.cg h (hI _ (by omega) (by omega)) (hD _ (by omega) (by omega)) (hI _ (by omega) (by omega)) (fun c hc => ⟨hI _ (by omega) (by omega), hI _ (by omega) (by omega), hI _ (by omega) (by omega)⟩) (fun t ht => ⟨hI _ (by omega) (by omega), hD _ (by omega) (by omega), hD _ (by omega) (by omega)⟩)
theorem RBg.cg {k f n s mk fg la ou on ot ax axs : Nat} {β : Bd} {I I' : Nat → Nat → Int32} {D D' : Nat → Nat → UInt64} (h : RBg k f n s mk fg la ou on ot ax axs β I D) (hk : I' k = I k) (hf : I' f = I f) (hn : D' n = D n) (hs : I' s = I s) (hm : ∀ c, c < 24 → I' (mk + c) = I (mk + c) ∧ D' (fg + c) = D (fg + c)) (hl : I' la = I la) (ho : I' ou = I ou) (h1 : I' on = I on) (h2 : I' ot = I ot) (ha : I' ax = I ax) (hx : ∀ a, a < 12 → D' (axs + a) = D (axs + a)) : RBg k f n s mk fg la ou on ot ax axs β I' D' := by
  refine ⟨fun c hc => ?_, fun t ht => ?_⟩
  · obtain ⟨f1, f2⟩ := hm c hc
    rw [hk, hf, hn, hs, f1, f2]; exact h.1 c hc
  · have e1 := hx (2 * t) (by omega)
    have e2 := hx (2 * t + 1) (by omega)
    rw [← Nat.add_assoc] at e2
    rw [hl, ho, h1, h2, ha, e1, e2]; exact h.2 t ht
theorem RB.cg {β : Bd} {I I' : Nat → Nat → Int32} {D D' : Nat → Nat → UInt64} (h : RB β I D) (hI : ∀ o, 261 ≤ o → o < 333 → I' o = I o) (hD : ∀ o, 261 ≤ o → o < 333 → D' o = D o) : RB β I' D' := by
  unfold RB at h ⊢
  exact RBg.cg h (hI _ (by omega) (by omega)) (hI _ (by omega) (by omega)) (hD _ (by omega) (by omega)) (hI _ (by omega) (by omega)) (fun c hc => ⟨hI _ (by omega) (by omega), hD _ (by omega) (by omega)⟩) (hI _ (by omega) (by omega)) (hI _ (by omega) (by omega)) (hI _ (by omega) (by omega)) (hI _ (by omega) (by omega)) (hI _ (by omega) (by omega)) (fun a ha => hD _ (by omega) (by omega))
theorem RK.cg {β : Bd} {I I' : Nat → Nat → Int32} {D D' : Nat → Nat → UInt64} (h : RK β I D) (hI : ∀ o, 431 ≤ o → o < 503 → I' o = I o) (hD : ∀ o, 431 ≤ o → o < 503 → D' o = D o) : RK β I' D' := by
  unfold RK at h ⊢
  exact RBg.cg h (hI _ (by omega) (by omega)) (hI _ (by omega) (by omega)) (hD _ (by omega) (by omega)) (hI _ (by omega) (by omega)) (fun c hc => ⟨hI _ (by omega) (by omega), hD _ (by omega) (by omega)⟩) (hI _ (by omega) (by omega)) (hI _ (by omega) (by omega)) (hI _ (by omega) (by omega)) (hI _ (by omega) (by omega)) (hI _ (by omega) (by omega)) (fun a ha => hD _ (by omega) (by omega))
theorem RN.cg {β : Bd} {I I' : Nat → Nat → Int32} (h : RN β I) (hI : ∀ o, 333 ≤ o → o < 359 → I' o = I o) : RN β I' := fun c hc => by
  rw [hI 333 (by omega) (by omega), hI (335 + c) (by omega) (by omega)]; exact h c hc
theorem NM.cg {β : Bd} {I I' : Nat → Nat → Int32} (h : NM β I) (hI : ∀ o, 206 ≤ o → o < 210 → I' o = I o) : NM β I' := by
  refine ⟨fun c hc => ?_, fun t ht => ?_⟩
  · unfold NMc bu shr
    rw [hI 206 (by omega) (by omega), hI 207 (by omega) (by omega), hI 208 (by omega) (by omega), hI 209 (by omega) (by omega)]; exact h.1 c hc
  · unfold NMt bu
    rw [hI 208 (by omega) (by omega)]; exact h.2 t ht
theorem OrdB.cg {β : Bd} {I I' : Nat → Nat → Int32} (h : OrdB β I) (hI : I' 205 = I 205) : OrdB β I' := by
  obtain ⟨o, ⟨h1, h2, h3⟩, h4⟩ := h
  exact ⟨o, ⟨fun k hk => by rw [hI]; exact h1 k hk, h2, h3⟩, h4⟩
theorem CB.R {β : Bd} {I : Nat → Nat → Int32} {D : Nat → Nat → UInt64} {R R' : Nat → Nat → Option Nat} (h : CB β I D R) (h1 : R' 112 = R 112) (h2 : R' 113 = R 113) : CB β I D R' := by
  unfold CB fo go at h ⊢
  rw [h1, h2]; exact h
theorem WFR.R {R R' : Nat → Nat → Option Nat} (h : WFR R) (h1 : R' 112 = R 112) (h2 : R' 113 = R 113) (h3 : R' 97 = R 97) (h4 : R' 0 = R 0) : WFR R' := by
  unfold WFR fo go fm gs at h ⊢
  rw [h1, h2, h3, h4]; exact h
theorem WFD.R {R R' : Nat → Nat → Option Nat} (h : WFD R) (h1 : R' 112 = R 112) (h2 : R' 113 = R 113) (h3 : R' 97 = R 97) (h4 : R' 0 = R 0) : WFD R' := by
  unfold WFD fo go fm gs at h ⊢
  rw [h1, h2, h3, h4]; exact h
theorem Live.cg {β : Bd} {σ σ' : j_I3} (hR : WFR σ.2.2) (h : Live β σ) (hI : ∀ o, liveP o → σ'.1 o = σ.1 o) (hD : ∀ o, liveP o → σ'.2.1 o = σ.2.1 o) (h1 : σ'.2.2 112 = σ.2.2 112) (h2 : σ'.2.2 113 = σ.2.2 113) : Live β σ' := by
  obtain ⟨a1, a2, a3, a4, a5, a6, a7⟩ := h
  refine ⟨(a1.cg hR (fun o ho => hI o (Or.inl ho)) (fun o ho => hD o (Or.inl ho))).R h1 h2, a2.cg (fun o x y => hI o (Or.inr (Or.inr ⟨x, by omega⟩))) (fun o x y => hD o (Or.inr (Or.inr ⟨x, by omega⟩))), a3.cg (fun o x y => hI o (Or.inr (Or.inr ⟨by omega, y⟩))), a4, a5.cg (fun o x y => hI o (Or.inr (Or.inl ⟨by omega, by omega⟩))), a6.cg (hI _ (Or.inr (Or.inl ⟨by omega, by omega⟩))), fun v hv => ?_⟩
  unfold bu
  rw [hI 208 (Or.inr (Or.inl ⟨by omega, by omega⟩))]
  exact a7 v hv
theorem rowsR.cg {σ σ' : j_I3} (h : rowsR σ) (hI : ∀ o, rowsP o → σ'.1 o = σ.1 o) (hD : ∀ o, rowsP o → σ'.2.1 o = σ.2.1 o) : rowsR σ' := by
  intro r hr
  obtain ⟨n, h1, h2, h3, h4, h5, h6, h7⟩ := h r hr
  have p : ∀ o, (248 ≤ o ∧ o < 260) ∨ (503 ≤ o ∧ o < 517) → rowsP o := fun o h => h
  have e1 := hI 503 (p _ (by omega))
  have e2 := hI 504 (p _ (by omega))
  have e3 := hI (248 + 3 * r) (p _ (by omega))
  have e4 := hI (248 + 3 * r + 2) (p _ (by omega))
  have e5 := hI (511 + r) (p _ (by omega))
  have e6 := hD (248 + 3 * r + 1) (p _ (by omega))
  have e7 := hD (506 + r) (p _ (by omega))
  exact ⟨n, h1, by rw [e1]; exact h2, by rw [e1]; exact h3, by rw [e3, e1]; exact h4, by rw [e3]; exact h5, by rw [e2]; exact h6, fun k hk => by rw [e4, e5, e6, e7]; exact h7 k hk⟩
theorem tapeR.cg {σ σ' : j_I3} (h : tapeR σ) (h1 : σ'.1 97 1 = σ.1 97 1) (h2 : σ'.1 260 34 = σ.1 260 34) (h3 : σ'.1 98 = σ.1 98) (h4 : σ'.1 422 = σ.1 422) : tapeR σ' := by
  obtain ⟨z, a1, a2, a3, a4⟩ := h
  exact ⟨z, a1, by rw [h1]; exact a2, by rw [h2]; exact a3, fun k hk => by rw [h3, h4]; exact a4 k hk⟩
theorem Img.cg {γ : Bd} {I I' : Nat → Nat → Int32} {D D' : Nat → Nat → UInt64} (h : Img γ I D) (hI : ∀ o, restP o → I' o = I o) (hD : ∀ o, restP o → D' o = D o) : Img γ I' D' :=
  ⟨h.1.cg (fun o x y => hI o (Or.inl ⟨x, y⟩)) (fun o x y => hD o (Or.inl ⟨x, y⟩)), h.2.1.cg (fun o x y => hI o (Or.inr (Or.inr (Or.inr (Or.inr ⟨x, by omega⟩))))) (fun o x y => hD o (Or.inr (Or.inr (Or.inr (Or.inr ⟨x, by omega⟩))))), h.2.2⟩
theorem Rest.cg {σ σ' : j_I3} (h : Rest σ) (hI : ∀ o, restP o → σ'.1 o = σ.1 o) (hD : ∀ o, restP o → σ'.2.1 o = σ.2.1 o) (h97 : σ'.1 97 1 = σ.1 97 1) (h34 : σ'.1 260 34 = σ.1 260 34) (h57 : σ'.1 260 57 = σ.1 260 57) (h04 : σ'.1 0 4 = σ.1 0 4) : Rest σ' := by
  obtain ⟨a1, a2, a3, a5, a4⟩ := h
  refine ⟨a1.cg (fun o ho => hI o ?_) (fun o ho => hD o ?_), a2.cg h97 h34 (hI _ (Or.inr (Or.inl rfl))) (hI _ (Or.inr (Or.inr (Or.inr (Or.inl rfl))))), by rw [h04, h57]; exact a3, by rw [h04]; exact a5, fun h => ?_⟩
  · unfold rowsP at ho; unfold restP; omega
  · unfold rowsP at ho; unfold restP; omega
  · rw [h04] at h
    obtain ⟨γ, hγ⟩ := a4 h
    exact ⟨γ, hγ.cg hI hD⟩
/-- what only touches the rows -/
theorem Inv.rows {σ σ' : j_I3} (h : Inv σ) (hr : rowsR σ') (hs : same rowsP σ σ') : Inv σ' := by
  obtain ⟨⟨hR, hW⟩, ⟨β, hL⟩, a1, a2, a3, a5, a4⟩ := h
  have np : ∀ o, ¬ ((248 ≤ o ∧ o < 260) ∨ (503 ≤ o ∧ o < 517)) → ¬ rowsP o := fun o h => h
  refine ⟨⟨hR.R (hs 112 (np _ (by omega))).2.2 (hs 113 (np _ (by omega))).2.2 (hs 97 (np _ (by omega))).2.2 (hs 0 (np _ (by omega))).2.2, hW.R (hs 112 (np _ (by omega))).2.2 (hs 113 (np _ (by omega))).2.2 (hs 97 (np _ (by omega))).2.2 (hs 0 (np _ (by omega))).2.2⟩, ⟨β, hL.cg hR (fun o ho => (hs o (np _ ?_)).1) (fun o ho => (hs o (np _ ?_)).2.1) (hs 112 (np _ (by omega))).2.2 (hs 113 (np _ (by omega))).2.2⟩, hr, a2.cg (by rw [(hs 97 (np _ (by omega))).1]) (by rw [(hs 260 (np _ (by omega))).1]) (hs 98 (np _ (by omega))).1 (hs 422 (np _ (by omega))).1, by rw [(hs 0 (np _ (by omega))).1, (hs 260 (np _ (by omega))).1]; exact a3, by rw [(hs 0 (np _ (by omega))).1]; exact a5, fun h => ?_⟩
  · unfold liveP CBP at ho; omega
  · unfold liveP CBP at ho; omega
  · rw [(hs 0 (np _ (by omega))).1] at h
    obtain ⟨γ, h1, h2, h3⟩ := a4 h
    exact ⟨γ, h1.cg (fun o x y => (hs o (np _ (by omega))).1) (fun o x y => (hs o (np _ (by omega))).2.1), h2.cg (fun o x y => (hs o (np _ (by omega))).1) (fun o x y => (hs o (np _ (by omega))).2.1), h3⟩
theorem Pair.mono {i j : Nat} {av : List Value} {σ : j_I3} {T T' : j_I3 → Prop} (h : Pair i j av σ T) (hT : ∀ σ2, T σ2 → T' σ2) : Pair i j av σ T' :=
  j_Call.mono h fun r w τ ⟨v, σ1, h1, h2, h3, h4⟩ => ⟨v, σ1, h1, h2, h3, j_Call.mono h4 fun r w τ ⟨σ2, k1, k2, k3, k4⟩ => ⟨σ2, k1, k2, k3, hT σ2 k4⟩⟩
theorem PairL.mono {i j : Nat} {av : List Value} {σ : j_I3} {T T' : j_I3 → Prop} (h : PairL i j av σ T) (hT : ∀ σ2, T σ2 → T' σ2) : PairL i j av σ T' :=
  j_Call.mono h fun r w τ ⟨v, σ1, h1, h2, h3, h4⟩ => ⟨v, σ1, h1, h2, h3, j_Call.mono h4 fun r w τ ⟨σ2, k1, k2, k3, k4⟩ => ⟨σ2, k1, k2, k3, hT σ2 k4⟩⟩
theorem both_row (a b c : Int32) : BothI Inv 160 284 [.int a, .int b, .int c] := fun σ h => (pair_row h.2.2.1 h.1.1).mono fun σ2 h2 => h.rows h2.1 h2.2
theorem both_put (a b c : Int32) : BothI Inv 161 285 [.int a, .int b, .int c] := fun σ h => (pair_put fpP h.2.2.1 h.1.1).mono fun σ2 h2 => h.rows h2.1 h2.2
theorem both_item (a b : Int32) : BothL Inv 163 287 [.int a, .int b] := fun σ h => (pair_item fpB h.2.2.1 h.1.1).mono fun σ2 h2 => h.rows h2.1 h2.2
theorem both_copy (a b c e f : Int32) : BothI Inv 164 288 [.int a, .int b, .int c, .int e, .int f] := fun σ h => (pair_copy h.2.2.1 h.1.1).mono fun σ2 h2 => h.rows h2.1 h2.2
theorem both_feed (n a b c e f : Int32) : BothI Inv 62 208 [.int n, .int a, .int b, .int c, .int e, .int f] := fun σ h => (pair_feed h.2.2.2.1 h.1.1).mono fun σ2 ⟨k1, k2, k3, k4, k5⟩ => by
  obtain ⟨⟨hR, hW⟩, ⟨β, hL⟩, a1, a2, a3, a5, a4⟩ := h
  have np : ∀ o, o ≠ 97 → o ≠ 98 → o ≠ 260 → o ≠ 422 → ¬ tapeP o := fun o h1 h2 h3 h4 h => by unfold tapeP at h; omega
  have hI : ∀ o, o ≠ 97 → o ≠ 98 → o ≠ 260 → o ≠ 422 → σ2.1 o = σ.1 o := fun o h1 h2 h3 h4 => (k2 o (np o h1 h2 h3 h4)).1
  have e0 : σ2.1 0 4 = σ.1 0 4 := by rw [hI 0 (by decide) (by decide) (by decide) (by decide)]
  refine ⟨by rw [k5]; exact ⟨hR, hW⟩, ⟨β, hL.cg hR (fun o ho => hI o ?_ ?_ ?_ ?_) (fun o _ => by rw [k5]) (by rw [k5]) (by rw [k5])⟩, a1.cg (fun o ho => hI o ?_ ?_ ?_ ?_) (fun o _ => by rw [k5]), k1, by rw [e0, k4 57 (by decide)]; exact a3, by rw [e0]; exact a5, fun h => ?_⟩
  · unfold liveP CBP at ho; omega
  · unfold liveP CBP at ho; omega
  · unfold liveP CBP at ho; omega
  · unfold liveP CBP at ho; omega
  · unfold rowsP at ho; omega
  · unfold rowsP at ho; omega
  · unfold rowsP at ho; omega
  · unfold rowsP at ho; omega
  · rw [e0] at h
    obtain ⟨γ, h1, h2, h3⟩ := a4 h
    exact ⟨γ, h1.cg (fun o x y => hI o (by omega) (by omega) (by omega) (by omega)) (fun o x y => by rw [k5]), h2.cg (fun o x y => hI o (by omega) (by omega) (by omega) (by omega)) (fun o x y => by rw [k5]), h3⟩
theorem Live.kinds {β : Bd} {σ : j_I3} (h : Live β σ) : kindsR σ := fun c hc => by
  have e1 := (h.1.1 c hc).1
  have e2 := (h.2.1.1 c hc).1
  exact ⟨by rw [e1, e2], bK β c, (h.2.2.2.1.1 c hc).1, e2⟩
theorem both_taken (a b : Int32) : BothI Inv 61 207 [.int a, .int b] := fun σ h => by
  obtain ⟨hR, ⟨β, hL⟩, hRe⟩ := h
  exact pair_taken hL.kinds hR.1 ⟨hR, ⟨β, hL⟩, hRe⟩
theorem bi_eq0 {b : Bool} : bi b = 0 ↔ b = false := by cases b <;> decide
theorem Live.counts {β : Bd} {σ : j_I3} (h : Live β σ) (ht : tapeR σ) : countR σ := by
  refine ⟨fun c hc => ?_, fun t ht => ?_, ?_⟩
  · obtain ⟨c1, c2, c3, c4, c5⟩ := h.1.1 c hc
    obtain ⟨r1, r2, r3, r4, r5, r6⟩ := h.2.1.1 c hc
    obtain ⟨v1, v2, v3, v4, v5⟩ := h.2.2.2.1.1 c hc
    rw [show σ.1 ((σ.2.2 112 c).getD 0) 1 = nI (bZ β c) from c5.1, r5, c4, r2]
    have hz : nI (bZ β c) ≤ 0 ↔ nI (bZ β c) = 0 := by
      rcases Nat.eq_zero_or_pos (bZ β c) with h | h
      · rw [h]; decide
      · exact ⟨fun h2 => absurd h2 (nI_nle h (by omega)), fun h2 => absurd h2 (nI_ne0 h (by omega))⟩
    refine ⟨hz, ?_⟩
    rw [bi_eq0]
    have e0 : nI (bZ β c) = 0 ↔ bZ β c = 0 := nI_eq (b := 0) (by omega) (by decide)
    rw [e0]
    constructor
    · intro hb ⟨_, h2⟩; rw [hb] at h2; exact h2 rfl
    · intro hn
      cases hb : bF β c with
      | false => rfl
      | true =>
        exfalso
        refine hn ⟨?_, by rw [hb]; decide⟩
        rcases Nat.eq_zero_or_pos (bZ β c) with h | h
        · exact h
        · rw [v3 h] at hb; cases hb
  · rw [show σ.1 ((σ.2.2 113 t).getD 0) 0 = bi (bL β t) from (h.1.2 t ht).1, (h.2.1.2 t ht).1]
  · obtain ⟨z, -, a, b, -⟩ := ht
    rw [a, b]
theorem both_count (a : Int32) : BothI Inv 157 283 [.int a] := fun σ h => by
  obtain ⟨hR, ⟨β, hL⟩, hRe⟩ := h
  exact pair_count (hL.counts hRe.2.1) hR.1 ⟨hR, ⟨β, hL⟩, hRe⟩
