/-! formula: both sides -/
section F65
theorem tape_of {σ : j_I3} (h : tapeR σ) : ∃ T n, TC T n σ.1 ∧ TR T n σ.1 := by
  obtain ⟨z, hz, h1, h2, h3⟩ := h
  refine ⟨fun k => (σ.1 98 k).toNatClampNeg, z, ⟨hz, h1, fun k hk => ?_⟩, ⟨hz, h2, fun k hk => ?_⟩⟩
  · obtain ⟨-, b, hb, e⟩ := h3 k hk
    show (σ.1 98 k).toNatClampNeg < 256 ∧ σ.1 98 k = nI (σ.1 98 k).toNatClampNeg
    rw [e, nI_clamp (by omega)]; exact ⟨hb, rfl⟩
  · obtain ⟨q, b, hb, e⟩ := h3 k hk
    show (σ.1 98 k).toNatClampNeg < 256 ∧ σ.1 422 k = nI (σ.1 98 k).toNatClampNeg
    rw [← q, e, nI_clamp (by omega)]; exact ⟨hb, rfl⟩
theorem TR.fr {T : Nat → Nat} {n : Nat} {I J : Nat → Nat → Int32} (h : TR T n I) (h1 : J 260 = I 260) (h2 : J 422 = I 422) : TR T n J := h.cg (by rw [h1]) h2
theorem j_uo_k {α : Type} (f : Nat → Nat → α) {o o' : Nat} (g : Nat → α) (h : o' ≠ o) : j_uo f o g o' = f o' := by unfold j_uo; funext i; first | rw [if_neg h] | simp [h]
theorem j_uo_s {α : Type} (f : Nat → Nat → α) {o : Nat} (g : Nat → α) : j_uo f o g o = g := by unfold j_uo; funext i; first | rw [if_pos rfl] | simp
/-- behind the class's reading, before the reference's: the class's frame -/
def FrC (σ : j_I3) (J : Nat → Nat → Int32) : Prop := (∀ o, o ≠ 97 → o ≠ fm σ.2.2 → o ≠ fm σ.2.2 + 1 → o ≠ fm σ.2.2 + 2 → J o = σ.1 o) ∧ J 97 1 = 0
theorem FrC.of {σ : j_I3} {J : Nat → Nat → Int32} (h : RCg (fm σ.2.2) σ.1 J) : FrC σ (j_u J 97 1 0) := ⟨fun o h1 h2 h3 h4 => by rw [← h.1 o h1 h2 h3 h4]; funext i; rw [j_u_o _ _ _ h1], by rw [j_u_same]⟩
/-- behind both readings -/
theorem fr_both {σ : j_I3} (hR : WFR σ.2.2) {c : Nat} (hc : c < 24) {J K : Nat → Nat → Int32} {E : Nat → Nat → UInt64} (hJ : FrC σ J) (hK : RRg J σ.2.1 K E) : Fr65 σ c (j_u K 260 34 0) E := by
  have ho := isBF_rng hR.2.2.1.2
  obtain ⟨j1, j2⟩ := hJ
  obtain ⟨k1, k2, k3⟩ := hK
  refine ⟨fun o h1 h2 h3 h4 h5 _ _ _ _ _ _ _ h13 _ _ _ => ?_, fun o _ _ h3 _ => k3 o h3, ?_, by rw [j_u_same], ?_⟩
  · rw [← j1 o h1 h3 h4 h5, ← k1 o h2 h13]; funext i; rw [j_u_o _ _ _ h2]
  · rw [j_u_o _ _ _ (by decide), k1 97 (by decide) (by decide)]; exact j2
  · rw [j_u_k _ _ (by decide), k2 57 (by decide), j1 260 (by omega) (by omega) (by omega) (by omega)]
theorem refused0 {σ : j_I3} {β : Bd} (hR : WFR σ.2.2) (hW : WFD σ.2.2) (hL : Live β σ) (hRe : Rest σ) {J K : Nat → Nat → Int32} {E : Nat → Nat → UInt64} (hJ : FrC σ J) (hK : RRg J σ.2.1 K E) : Inv (j_u K 260 34 0, E, σ.2.2) := by
  have hf := fr_both (c := 0) hR (by decide) hJ hK
  have ho := isBF_rng hR.2.2.1.2
  have e : ∀ o, o ≠ 97 → o ≠ 260 → o ≠ fm σ.2.2 → o ≠ fm σ.2.2 + 1 → o ≠ fm σ.2.2 + 2 → o ≠ 423 → j_u K 260 34 0 o = σ.1 o := fun o h1 h2 h3 h4 h5 h6 => by
    rw [← hJ.1 o h1 h3 h4 h5, ← hK.1 o h2 h6]; funext i; rw [j_u_o _ _ _ h2]
  have a5 := hL.2.2.2.2.1
  have a6 := hL.2.2.2.2.2.1
  exact refused_inv (c := 0) hR hW hL hRe (by decide) hf (e 111 (by omega) (by omega) (by omega) (by omega) (by omega) (by omega)) (e 262 (by omega) (by omega) (by omega) (by omega) (by omega) (by omega)) (fun i _ => by rw [e 264 (by omega) (by omega) (by omega) (by omega) (by omega) (by omega)]) (hK.2.2 263 (by decide)) (hL.2.2.1.cg (fun o h1 h2 => e o (by omega) (by omega) (by omega) (by omega) (by omega) (by omega))) (fun k _ => by rw [e (266 + 0) (by omega) (by omega) (by omega) (by omega) (by omega) (by omega)]) (fun k _ => by rw [hK.2.2 (291 + 0) (by decide)]) (a5.cg (fun o h1 h2 => e o (by omega) (by omega) (by omega) (by omega) (by omega) (by omega))) (a6.cg (e 205 (by omega) (by omega) (by omega) (by omega) (by omega) (by omega)))
theorem RBN.fm {β : Bd} {I K : Nat → Nat → Int32} {c z : Nat} {st : Nat → Nat × Nat} (h : RBN β I) (h264 : K 264 c = nI z) (h264o : ∀ i, i ≠ c → K 264 i = I 264 i) (hn1 : ∀ i, i ≠ c → K 333 i = I 333 i) (hn2 : ∀ v, v < 32 → bt (K 333 c) v = (decide (v < 24) && nmB z st v)) (hn3 : ∀ t, t < 6 → K (335 + c) t = nI (tmN z st t)) (ho : ∀ k, k < 24 → k ≠ c → K (335 + k) = I (335 + k)) (ht : ∀ o, 315 ≤ o → o < 320 → K o = I o) : RBN (bfm β c z st) K := by
  refine ⟨fun k hk => ?_, fun t ht6 => ?_⟩
  · by_cases e : k = c
    · subst e
      have zc : bZ (bfm β k z st) k = z := fu_s
      have sc : bS (bfm β k z st) k = st := fu_s
      unfold tmB
      rw [zc, sc]; exact ⟨h264, hn2, hn3⟩
    · have zc : bZ (bfm β c z st) k = bZ β k := fu_n e
      have sc : bS (bfm β c z st) k = bS β k := fu_n e
      unfold tmB
      rw [zc, sc, h264o k e, hn1 k e, ho k hk e]; exact h.1 k hk
  · rw [ht 315 (by omega) (by omega), ht 316 (by omega) (by omega), ht 317 (by omega) (by omega), ht 318 (by omega) (by omega), ht 319 (by omega) (by omega)]
    exact h.2 t ht6
end F65
