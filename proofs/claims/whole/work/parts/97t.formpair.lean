/-! formula: both sides -/
section F65
theorem tape_of {σ : j_I3} (h : tapeR σ) : ∃ T n, TC T n σ.1 ∧ TR T n σ.1 := by
  obtain ⟨z, hz, h1, h2, h3⟩ := h
  refine ⟨fun k => (σ.1 98 k).toNatClampNeg, z, ⟨hz, h1, fun k hk => ?_⟩, ⟨hz, h2, fun k hk => ?_⟩⟩
  · obtain ⟨-, b, hb, e⟩ := h3 k hk
    show (σ.1 98 k).toNatClampNeg < 256 ∧ σ.1 98 k = nI (σ.1 98 k).toNatClampNeg
    rw [e, nI_clamp (by omega)]; exact ⟨hb, rfl⟩
  · obtain ⟨q, b, hb, e⟩ := h3 k hk
    show (σ.1 98 k).toNatClampNeg < 256 ∧ σ.1 422 k = nI (σ.1 98 k).toNatClampNeg
    rw [← q, e, nI_clamp (by omega)]; exact ⟨hb, rfl⟩
theorem TR.fr {T : Nat → Nat} {n : Nat} {I J : Nat → Nat → Int32} (h : TR T n I) (h1 : J 260 = I 260) (h2 : J 422 = I 422) : TR T n J := h.cg (by rw [h1]) h2
theorem j_uo_k {α : Type} (f : Nat → Nat → α) {o o' : Nat} (g : Nat → α) (h : o' ≠ o) : j_uo f o g o' = f o' := by unfold j_uo; funext i; first | rw [if_neg h] | simp [h]
theorem j_uo_s {α : Type} (f : Nat → Nat → α) {o : Nat} (g : Nat → α) : j_uo f o g o = g := by unfold j_uo; funext i; first | rw [if_pos rfl] | simp
/-- behind the class's reading, before the reference's: the class's frame -/
def FrC (σ : j_I3) (J : Nat → Nat → Int32) : Prop := (∀ o, o ≠ 97 → o ≠ fm σ.2.2 → o ≠ fm σ.2.2 + 1 → o ≠ fm σ.2.2 + 2 → J o = σ.1 o) ∧ J 97 1 = 0
theorem FrC.of {σ : j_I3} {J : Nat → Nat → Int32} (h : RCg (fm σ.2.2) σ.1 J) : FrC σ (j_u J 97 1 0) := ⟨fun o h1 h2 h3 h4 => by rw [← h.1 o h1 h2 h3 h4]; funext i; rw [j_u_o _ _ _ h1], by rw [j_u_same]⟩
/-- behind both readings -/
theorem fr_both {σ : j_I3} (hR : WFR σ.2.2) {c : Nat} (hc : c < 24) {J K : Nat → Nat → Int32} {E : Nat → Nat → UInt64} (hJ : FrC σ J) (hK : RRg J σ.2.1 K E) : Fr65 σ c (j_u K 260 34 0) E := by
  have ho := isBF_rng hR.2.2.1.2
  obtain ⟨j1, j2⟩ := hJ
  obtain ⟨k1, k2, k3⟩ := hK
  refine ⟨fun o h1 h2 h3 h4 h5 _ _ _ _ _ _ _ h13 _ _ _ => ?_, fun o _ _ h3 _ => k3 o h3, ?_, by rw [j_u_same], ?_⟩
  · rw [← j1 o h1 h3 h4 h5, ← k1 o h2 h13]; funext i; rw [j_u_o _ _ _ h2]
  · rw [j_u_o _ _ _ (by decide), k1 97 (by decide) (by decide)]; exact j2
  · rw [j_u_k _ _ (by decide), k2 57 (by decide), j1 260 (by omega) (by omega) (by omega) (by omega)]
theorem refused0 {σ : j_I3} {β : Bd} (hR : WFR σ.2.2) (hW : WFD σ.2.2) (hL : Live β σ) (hRe : Rest σ) {J K : Nat → Nat → Int32} {E : Nat → Nat → UInt64} (hJ : FrC σ J) (hK : RRg J σ.2.1 K E) : Inv (j_u K 260 34 0, E, σ.2.2) := by
  have hf := fr_both (c := 0) hR (by decide) hJ hK
  have ho := isBF_rng hR.2.2.1.2
  have e : ∀ o, o ≠ 97 → o ≠ 260 → o ≠ fm σ.2.2 → o ≠ fm σ.2.2 + 1 → o ≠ fm σ.2.2 + 2 → o ≠ 423 → j_u K 260 34 0 o = σ.1 o := fun o h1 h2 h3 h4 h5 h6 => by
    rw [← hJ.1 o h1 h3 h4 h5, ← hK.1 o h2 h6]; funext i; rw [j_u_o _ _ _ h2]
  have a5 := hL.2.2.2.2.1
  have a6 := hL.2.2.2.2.2.1
  exact refused_inv (c := 0) hR hW hL hRe (by decide) hf (e 111 (by omega) (by omega) (by omega) (by omega) (by omega) (by omega)) (e 262 (by omega) (by omega) (by omega) (by omega) (by omega) (by omega)) (fun i _ => by rw [e 264 (by omega) (by omega) (by omega) (by omega) (by omega) (by omega)]) (hK.2.2 263 (by decide)) (hL.2.2.1.cg (fun o h1 h2 => e o (by omega) (by omega) (by omega) (by omega) (by omega) (by omega))) (fun k _ => by rw [e (266 + 0) (by omega) (by omega) (by omega) (by omega) (by omega) (by omega)]) (fun k _ => by rw [hK.2.2 (291 + 0) (by decide)]) (a5.cg (fun o h1 h2 => e o (by omega) (by omega) (by omega) (by omega) (by omega) (by omega))) (a6.cg (e 205 (by omega) (by omega) (by omega) (by omega) (by omega) (by omega)))
theorem RBN.fm {β : Bd} {I K : Nat → Nat → Int32} {c z : Nat} {st : Nat → Nat × Nat} (h : RBN β I) (h264 : K 264 c = nI z) (h264o : ∀ i, i ≠ c → K 264 i = I 264 i) (hn1 : ∀ i, i ≠ c → K 333 i = I 333 i) (hn2 : ∀ v, v < 32 → bt (K 333 c) v = (decide (v < 24) && nmB z st v)) (hn3 : ∀ t, t < 6 → K (335 + c) t = nI (tmN z st t)) (ho : ∀ k, k < 24 → k ≠ c → K (335 + k) = I (335 + k)) (ht : ∀ o, 315 ≤ o → o < 320 → K o = I o) : RBN (bfm β c z st) K := by
  refine ⟨fun k hk => ?_, fun t ht6 => ?_⟩
  · by_cases e : k = c
    · subst e
      have zc : bZ (bfm β k z st) k = z := fu_s
      have sc : bS (bfm β k z st) k = st := fu_s
      unfold tmB
      rw [zc, sc]; exact ⟨h264, hn2, hn3⟩
    · have zc : bZ (bfm β c z st) k = bZ β k := fu_n e
      have sc : bS (bfm β c z st) k = bS β k := fu_n e
      unfold tmB
      rw [zc, sc, h264o k e, hn1 k e, ho k hk e]; exact h.1 k hk
  · rw [ht 315 (by omega) (by omega), ht 316 (by omega) (by omega), ht 317 (by omega) (by omega), ht 318 (by omega) (by omega), ht 319 (by omega) (by omega)]
    exact h.2 t ht6
theorem clo_le {E : Nat → Nat → Bool} {S : Nat → Bool} {x x' : Int32} (h : Clo E S x) (h' : Clo E S x') : ∀ v, v < 32 → bt x v = true → bt x' v = true := h.2.2 (fun v => bt x' v = true) h'.1 (fun u v hu hv hT he => h'.2.1 u hu hT v hv he)
section A210
variable {β : Bd} {c z : Nat} {st : Nat → Nat × Nat} {T : Nat → Nat} {n b e : Nat} {tk : Nat × Nat} {o : POut} {I : Nat → Nat → Int32} {D : Nat → Nat → UInt64} {R : Nat → Nat → Option Nat} {Q : j_Po}
theorem a210 (hc : c < 24) (hT : TR T n I) (hx : Lx T n 0 b e tk) (hP : PP T n 5 0 0 0 (s00 b e tk) o) (hV : BV β) (hN : RBN β I) (hg : ∀ s', o = .inr s' → z = pz s' ∧ st = pS s') (hz : z ≤ 96) (hst : ∀ k, k < z → stV (st k))
    (hbad : ∀ J E f, pF o = some f → RRg I D J E → Q (some (.int ((-100) - nI f))) w1 (j_u J 260 34 0, E, RR R))
    (hvr : ∀ J E, pF o = none → vrB β c = true → RRg I D J E → Q (some (.int (-3))) w1 (j_u J 260 34 0, E, RR R))
    (hring : ∀ J E x, pF o = none → vrB β c = false → Clo (ed β) (fun v => nmB z st v) x → bt x c = true → RRg I D J E → Q (some (.int (-5))) w1 (j_u J 260 34 0, E, RR R))
    (hgo : ∀ J E x, pF o = none → vrB β c = false → Clo (ed β) (fun v => nmB z st v) x → bt x c = false → RRg I D J E → RMk z st J E → j_W 210 lD 0 0 0 0 62 [some (.ref 260), some (.int (nI c)), none, none] [] w1 (j_u J 260 34 0, E, RR R) Q) : j_Call lD 210 [.ref 260, .int (nI c)] w1 (I, D, RR R) 0 0 Q := by
  have gp : ∀ s', o = .inr s' → (ptk s').1 = 256 → pF o = none := fun s' h1 h2 => by rw [h1]; exact if_pos h2
  have nb : ∀ J E, RRg I D J E → RBN β (j_u J 260 34 0) := fun J E h => hN.frm (fun q q1 q2 => by rw [← h.1 q (by omega) (by omega)]; funext i; rw [j_u_o _ _ _ (by omega)])
  have mk : ∀ J E s', o = .inr s' → RMk (pz s') (pS s') J E → RMk z st J E := fun J E s' h1 h2 => by rw [(hg s' h1).1, (hg s' h1).2]; exact h2
  exact s210a (β := β) (S := fun v => nmB z st v) (T := T) (n := n) (b := b) (e := e) (tk := tk) (o := o) (z := z) (st := st) hc lD82 hT hx hP (by decide) (fun J E f h1 h2 h3 => by rw [h2]; exact hbad J E f h1 h3) (fun _ _ _ _ _ _ _ => hV) (fun J E s' _ _ _ h => nb J E h) (fun _ _ _ _ _ _ _ => hc) (fun _ _ _ _ _ _ _ => by decide) (fun J E s' h1 h2 _ h4 h5 => hvr J E (gp s' h1 h2) h5 h4) (fun _ _ _ _ _ _ _ _ => hz) (fun _ _ _ _ _ _ _ _ => hst) (fun J E s' h1 _ h3 _ _ => (mk J E s' h1 h3).cg (by rw [j_u_k _ _ (by decide)]) (by rw [j_u_k _ _ (by decide)]) (by funext i; rw [j_u_o _ _ _ (by decide)])) (fun _ _ _ _ _ _ _ _ _ h => h) (fun _ _ _ _ _ _ _ _ _ _ v hv h => nm_lt hst h) (fun J E s' h1 h2 h3 h4 h5 x _ y h6 h7 => hgo J E y (gp s' h1 h2) h5 h6 (n1_f (by omega) h7) h4 (mk J E s' h1 h3)) (fun J E s' h1 h2 h3 h4 h5 x _ y h6 h7 => hring J E y (gp s' h1 h2) h5 h6 ((hn_1 (by omega)).mp h7) h4)
/-- what the taking has changed -/
def FrT (c : Nat) (I K : Nat → Nat → Int32) (D E : Nat → Nat → UInt64) : Prop := (∀ q, q ≠ 262 → q ≠ 264 → q ≠ 333 → q ≠ 335 + c → q ≠ 266 + c → q ≠ 425 → q ≠ 361 → q ≠ 362 → K q = I q) ∧ (∀ i, i ≠ c → K 264 i = I 264 i) ∧ (∀ i, i ≠ c → K 333 i = I 333 i) ∧ ∀ q, q ≠ 263 → q ≠ 291 + c → q ≠ 426 → E q = D q
theorem b210 {X : Nat → Nat → Bool} {bv : Nat → Nat} (hc : c < 24) (hz : z ≤ 96) (hst : ∀ k, k < z → stV (st k)) (hM : RMk z st I D) (hz0 : bZ β c ≤ 96) (hst0 : ∀ k, k < bZ β c → stV (bS β c k)) (hm0 : ∀ k, k < bZ β c → MR (bS β c k) (I (266 + c) k) (D (291 + c))) (hN : RBN β I) (hV2 : BV (bfm β c z st)) (hX : RcE (bfm β c z st) X) (hE : BuE (bfm β c z st) X bv)
    (hok : (∀ v, v < 30 → bv v ≤ 2000) → ∀ K E, FrT c I K D E → K 264 c = nI z → (∀ i, K 262 i = if i = c then 0 else I 262 i) → (∀ i, E 263 i = if i = c then FP.dconst0 else D 263 i) → (∀ v, v < 32 → bt (K 333 c) v = (decide (v < 24) && nmB z st v)) → (∀ t, t < 6 → K (335 + c) t = nI (tmN z st t)) → (∀ k, k < z → MR (st k) (K (266 + c) k) (E (291 + c))) → Q (some (.int 1)) w1 (K, E, RR R))
    (hfull : (∃ v, v < 30 ∧ 2000 < bv v) → ∀ K E, FrT c I K D E → K 264 c = I 264 c → K 262 = I 262 → E 263 = D 263 → (∀ v, v < 32 → bt (K 333 c) v = (decide (v < 24) && nmB (bZ β c) (bS β c) v)) → (∀ t, t < 6 → K (335 + c) t = nI (tmN (bZ β c) (bS β c) t)) → (∀ k, k < 96 → K (266 + c) k = I (266 + c) k) → (∀ k, k < 96 → E (291 + c) k = D (291 + c) k) → Q (some (.int (-4))) w1 (K, E, RR R)) : j_W 210 lD 0 0 0 0 62 [some (.ref 260), some (.int (nI c)), none, none] [] w1 (I, D, RR R) Q := by
  obtain ⟨h37, m, m1, m2, m3⟩ := hM
  have hz0c := (hN.1 c hc).1
  refine s210b hc (by decide) ?_
  generalize hI1 : (j_u (j_uo (j_uo I 425 (va_cpy (I (266 + c)) (I 425) 0 0 96)) (266 + c) (va_cpy ((j_uo I 425 (va_cpy (I (266 + c)) (I 425) 0 0 96)) 423) ((j_uo I 425 (va_cpy (I (266 + c)) (I 425) 0 0 96)) (266 + c)) 0 0 96)) 264 c ((j_uo (j_uo I 425 (va_cpy (I (266 + c)) (I 425) 0 0 96)) (266 + c) (va_cpy ((j_uo I 425 (va_cpy (I (266 + c)) (I 425) 0 0 96)) 423) ((j_uo I 425 (va_cpy (I (266 + c)) (I 425) 0 0 96)) (266 + c)) 0 0 96)) 260 37)) = I1
  generalize hD1 : (j_uo (j_uo D 426 (va_cpy (D (291 + c)) (D 426) 0 0 96)) (291 + c) (va_cpy ((j_uo D 426 (va_cpy (D (291 + c)) (D 426) 0 0 96)) 424) ((j_uo D 426 (va_cpy (D (291 + c)) (D 426) 0 0 96)) (291 + c)) 0 0 96)) = D1
  have i1 : ∀ q, q ≠ 264 → q ≠ 266 + c → q ≠ 425 → I1 q = I q := fun q h1 h2 h3 => by
    rw [← hI1]; funext i; rw [j_u_o _ _ _ h1, j_uo_ne _ _ h2, j_uo_ne _ _ h3]
  have i264 : ∀ i, i ≠ c → I1 264 i = I 264 i := fun i h => by
    rw [← hI1, j_u_k _ _ h, j_uo_ne _ _ (by omega), j_uo_ne _ _ (by omega)]
  have i264c : I1 264 c = nI z := by
    rw [← hI1, j_u_same, j_uo_ne _ _ (by omega), j_uo_ne _ _ (by omega)]; exact h37
  have i425 : ∀ k, k < 96 → I1 425 k = I (266 + c) k := fun k hk => by
    rw [← hI1, j_u_o _ _ _ (by omega), j_uo_ne _ _ (by omega), j_uo_same, va_cpy_in _ _ (by omega) (by omega)]
    congr 1; omega
  have imk : ∀ k, k < 96 → I1 (266 + c) k = I 423 k := fun k hk => by
    rw [← hI1, j_u_o _ _ _ (by omega), j_uo_same, va_cpy_in _ _ (by omega) (by omega), j_uo_ne _ _ (by omega)]
    congr 1; omega
  have d1 : ∀ q, q ≠ 291 + c → q ≠ 426 → D1 q = D q := fun q h1 h2 => by
    rw [← hD1, j_uo_ne _ _ h1, j_uo_ne _ _ h2]
  have d426 : ∀ k, k < 96 → D1 426 k = D (291 + c) k := fun k hk => by
    rw [← hD1, j_uo_ne _ _ (by omega), j_uo_same, va_cpy_in _ _ (by omega) (by omega)]
    congr 1; omega
  have dfg : ∀ k, k < 96 → D1 (291 + c) k = D 424 k := fun k hk => by
    rw [← hD1, j_uo_same, va_cpy_in _ _ (by omega) (by omega), j_uo_ne _ _ (by omega)]
    congr 1; omega
  have hmk : ∀ k, k < z → MR (st k) (I1 (266 + c) k) (D1 (291 + c)) := fun k hk => by
    obtain ⟨q0, q1, q2, q3⟩ := m3 k hk
    unfold MR
    rw [imk k (by omega)]
    refine ⟨fun h => ?_, q1, q2, q3⟩
    obtain ⟨j, j1, j2, j3⟩ := q0 h
    exact ⟨j, by omega, j2, by rw [dfg j (by omega)]; exact j3⟩
  have rbn : ∀ K : Nat → Nat → Int32, TnI I1 c st z K → RBN (bfm β c z st) K := fun K hK => by
    refine hN.fm ?_ (fun i h => ?_) (fun i h => ?_) hK.2.2.1 hK.2.2.2 (fun k hk h => ?_) (fun q q1 q2 => ?_)
    · rw [hK.1 264 (by omega) (by omega)]; exact i264c
    · rw [hK.1 264 (by omega) (by omega)]; exact i264 i h
    · rw [hK.2.1 i h, i1 333 (by omega) (by omega) (by omega)]
    · rw [hK.1 _ (by omega) (by omega), i1 _ (by omega) (by omega) (by omega)]
    · rw [hK.1 _ (by omega) (by omega), i1 _ (by omega) (by omega) (by omega)]
  refine s210c (o := .inl 0) (β2 := bfm β c z st) (X := X) (bv := bv) (z := z) (st := st) hc lD82 hc hz i264c hst hmk (fun _ _ => hV2) (fun _ _ => hX) (fun _ _ => hE) (fun _ _ => by decide) (fun J h => rbn J h) (fun J hJ hb K hK _ => ?_) (fun J hJ hb K hK _ => ?_)
  · refine s210d hc lD82 ?_
    generalize hI2 : (j_uo (j_u K 264 c (I 264 c)) (266 + c) (va_cpy ((j_u K 264 c (I 264 c)) 425) ((j_u K 264 c (I 264 c)) (266 + c)) 0 0 96)) = I2
    generalize hD2 : (j_uo D1 (291 + c) (va_cpy (D1 426) (D1 (291 + c)) 0 0 96)) = D2
    have k0 : ∀ q, q ≠ 264 → q ≠ 266 + c → q ≠ 333 → q ≠ 335 + c → q ≠ 361 → q ≠ 362 → I2 q = I1 q := fun q h1 h2 h3 h4 h5 h6 => by
      rw [← hI2, j_uo_ne _ _ h2]
      funext i; rw [j_u_o _ _ _ h1, hK q h5 h6, hJ.1 q h3 h4]
    have k264 : ∀ i, i ≠ c → I2 264 i = I 264 i := fun i h => by
      rw [← hI2, j_uo_ne _ _ (by omega), j_u_k _ _ h, hK 264 (by omega) (by omega), hJ.1 264 (by omega) (by omega)]; exact i264 i h
    have k264c : I2 264 c = I 264 c := by rw [← hI2, j_uo_ne _ _ (by omega), j_u_same]
    have k333 : ∀ i, i ≠ c → I2 333 i = I 333 i := fun i h => by
      rw [← hI2, j_uo_ne _ _ (by omega), j_u_o _ _ _ (by omega), hK 333 (by omega) (by omega), hJ.2.1 i h, i1 333 (by omega) (by omega) (by omega)]
    have kmk : ∀ k, k < 96 → I2 (266 + c) k = I (266 + c) k := fun k hk => by
      rw [← hI2, j_uo_same, va_cpy_in _ _ (by omega) (by omega), j_u_o _ _ _ (by omega), hK 425 (by omega) (by omega), hJ.1 425 (by omega) (by omega), show 0 + (k - 0) = k by omega]; exact i425 k hk
    have e0 : ∀ q, q ≠ 291 + c → D2 q = D1 q := fun q h1 => by rw [← hD2, j_uo_ne _ _ h1]
    have efg : ∀ k, k < 96 → D2 (291 + c) k = D (291 + c) k := fun k hk => by
      rw [← hD2, j_uo_same, va_cpy_in _ _ (by omega) (by omega), show 0 + (k - 0) = k by omega]; exact d426 k hk
    refine s210e (z0 := bZ β c) (st0 := bS β c) hc lD82 hc hz0 (by rw [k264c]; exact hz0c) hst0 (fun k hk => ?_) (fun L hL => ?_)
    · have := hm0 k hk
      unfold MR at this ⊢
      rw [kmk k (by omega)]
      refine ⟨fun h => ?_, this.2⟩
      obtain ⟨j, j1, j2, j3⟩ := this.1 h
      exact ⟨j, j1, j2, by rw [efg j j1]; exact j3⟩
    · have l0 : ∀ q, q ≠ 264 → q ≠ 266 + c → q ≠ 333 → q ≠ 335 + c → q ≠ 361 → q ≠ 362 → q ≠ 425 → L q = I q := fun q h1 h2 h3 h4 h5 h6 h7 => by rw [hL.1 q h3 h4, k0 q h1 h2 h3 h4 h5 h6, i1 q h1 h2 h7]
      refine hfull hb L D2 ⟨fun q h1 h2 h3 h4 h5 h6 h7 h8 => l0 q h2 h5 h3 h4 h7 h8 h6, fun i h => ?_, fun i h => ?_, fun q h1 h2 h3 => ?_⟩ ?_ (l0 262 (by omega) (by omega) (by omega) (by omega) (by omega) (by omega) (by omega)) ?_ hL.2.2.1 hL.2.2.2 (fun k hk => ?_) efg
      · rw [hL.1 264 (by omega) (by omega)]; exact k264 i h
      · rw [hL.2.1 i h]; exact k333 i h
      · rw [e0 q h2, d1 q h2 h3]
      · rw [hL.1 264 (by omega) (by omega)]; exact k264c
      · rw [e0 263 (by omega), d1 263 (by omega) (by omega)]
      · rw [hL.1 (266 + c) (by omega) (by omega)]; exact kmk k hk
  · refine s210f hc lD82 ?_
    have kk : ∀ q, q ≠ 262 → q ≠ 333 → q ≠ 335 + c → q ≠ 361 → q ≠ 362 → j_u K 262 c 0 q = I1 q := fun q h1 h3 h4 h5 h6 => by
      funext i; rw [j_u_o _ _ _ h1, hK q h5 h6, hJ.1 q h3 h4]
    have ee : ∀ q, q ≠ 263 → j_u D1 263 c FP.dconst0 q = D1 q := fun q h => by funext i; rw [j_u_o _ _ _ h]
    refine hok hb _ _ ⟨fun q h1 h2 h3 h4 h5 h6 h7 h8 => ?_, fun i h => ?_, fun i h => ?_, fun q h1 h2 h3 => ?_⟩ ?_ (fun i => ?_) (fun i => ?_) (fun v hv => ?_) (fun t ht => ?_) (fun k hk => ?_)
    · rw [kk q h1 h3 h4 h7 h8, i1 q h2 h5 h6]
    · rw [kk 264 (by omega) (by omega) (by omega) (by omega) (by omega)]; exact i264 i h
    · rw [j_u_o _ _ _ (by omega), hK 333 (by omega) (by omega), hJ.2.1 i h, i1 333 (by omega) (by omega) (by omega)]
    · rw [ee q h1, d1 q h2 h3]
    · rw [kk 264 (by omega) (by omega) (by omega) (by omega) (by omega)]; exact i264c
    · by_cases e : i = c
      · subst e; rw [if_pos rfl, j_u_same]
      · rw [if_neg e, j_u_k _ _ e, hK 262 (by omega) (by omega), hJ.1 262 (by omega) (by omega), i1 262 (by omega) (by omega) (by omega)]
    · by_cases e : i = c
      · subst e; rw [if_pos rfl, j_u_same]
      · rw [if_neg e, j_u_k _ _ e, d1 263 (by omega) (by omega)]
    · rw [j_u_o _ _ _ (by omega), hK 333 (by omega) (by omega)]; exact hJ.2.2.1 v hv
    · rw [j_u_o _ _ _ (by omega), hK (335 + c) (by omega) (by omega)]; exact hJ.2.2.2 t ht
    · rw [kk (266 + c) (by omega) (by omega) (by omega) (by omega) (by omega), ee (291 + c) (by omega)]; exact hmk k hk
end A210
theorem lD50 : 50 ≤ lD := by decide
theorem Fr65.of {σ : j_I3} (hR : WFR σ.2.2) {c : Nat} (hc : c < 24) {J K K2 : Nat → Nat → Int32} {E E2 : Nat → Nat → UInt64} (hJ : ∀ o, o ≠ 97 → o ≠ fm σ.2.2 → o ≠ fm σ.2.2 + 1 → o ≠ fm σ.2.2 + 2 → o ≠ 111 → (o < 205 ∨ 211 ≤ o) → J o = σ.1 o) (hJ97 : J 97 1 = 0) (hK : RRg J σ.2.1 K E) (hT : FrT c (j_u K 260 34 0) K2 E E2) : Fr65 σ c K2 E2 := by
  have ho := isBF_rng hR.2.2.1.2
  obtain ⟨k1, k2, k3⟩ := hK
  obtain ⟨t1, -, -, t4⟩ := hT
  refine ⟨fun o h1 h2 h3 h4 h5 h6 h7 h8 h9 h10 h11 h12 h13 h14 h15 h16 => ?_, fun o h1 h2 h3 h4 => by rw [t4 o h1 h2 h4]; exact k3 o h3, ?_, ?_, ?_⟩
  · rw [t1 o h8 h9 h10 h11 h12 h14 h15 h16, ← hJ o h1 h3 h4 h5 h7 h6, ← k1 o h2 h13]; funext i; rw [j_u_o _ _ _ h2]
  · rw [t1 97 (by omega) (by omega) (by omega) (by omega) (by omega) (by omega) (by omega) (by omega), j_u_o _ _ _ (by decide), k1 97 (by decide) (by decide)]; exact hJ97
  · rw [t1 260 (by omega) (by omega) (by omega) (by omega) (by omega) (by omega) (by omega) (by omega), j_u_same]
  · rw [t1 260 (by omega) (by omega) (by omega) (by omega) (by omega) (by omega) (by omega) (by omega), j_u_k _ _ (by decide), k2 57 (by decide), hJ 260 (by omega) (by omega) (by omega) (by omega) (by omega) (by omega)]
theorem form_n {σ : j_I3} {β : Bd} (hR : WFR σ.2.2) (hW : WFD σ.2.2) (hL : Live β σ) (hRe : Rest σ) {c : Nat} (hc : c < 24) : Pair 65 210 [.int (nI c)] σ Inv := by
  show j_Call lD 65 [.ref 0, .int (nI c)] w1 (σ.1, σ.2.1, RR σ.2.2) 0 0 (PEnd 210 [.int (nI c)] Inv)
  obtain ⟨T, n, hTC, hTR⟩ := tape_of hRe.2.1
  have ho := isBF_rng hR.2.2.1.2
  have hV := hL.2.2.2.1
  have hN := hL.2.1.n hL.2.2.1
  have hTT : ∀ k, k < n → T k < 256 := fun k hk => (hTC.2.2 k hk).1
  obtain ⟨d1, d2, d3, d4, d5, d6⟩ := hL.2.1.1 c hc
  have hz0 := (hV.1 c hc).2.1
  have hst0 : ∀ k, k < bZ β c → stV (bS β c k) := fun k hk => ((hV.1 c hc).2.2.2.2.1 k hk).1
  have trJ : ∀ {J : Nat → Nat → Int32}, (∀ o, o ≠ 97 → o ≠ fm σ.2.2 → o ≠ fm σ.2.2 + 1 → o ≠ fm σ.2.2 + 2 → o ≠ 111 → (o < 205 ∨ 211 ≤ o) → J o = σ.1 o) → TR T n J ∧ RBN β J := fun h => ⟨hTR.fr (h 260 (by omega) (by omega) (by omega) (by omega) (by omega) (by omega)) (h 422 (by omega) (by omega) (by omega) (by omega) (by omega) (by omega)), hN.frm (fun o h1 h2 => h o (by omega) (by omega) (by omega) (by omega) (by omega) (by omega))⟩
  refine s65a (T := T) (n := n) hR hc lD50 hTC (by decide) (fun J b e tk o f _ _ _ hf _ h => absurd h (nI_ne_m1 (by omega))) (fun J b e tk o f hx hP hpf hf hg _ => ?_) (fun J b e tk s' hx hP ht hg hFR => ?_)
  · have hJ := FrC.of hg
    obtain ⟨tr, nb⟩ := trJ (fun q h1 h2 h3 h4 _ _ => hJ.1 q h1 h2 h3 h4)
    have no : ∀ {p : Prop}, pF o = none → p := fun h => by rw [h] at hpf; cases hpf
    have fin : ∀ K E f', pF o = some f' → RRg (j_u J 97 1 0) σ.2.1 K E → ∃ σ2 : j_I3, some (Value.int ((-100) - nI f')) = some (.int ((-100) - nI f)) ∧ w1 = w1 ∧ (j_u K 260 34 0, E, RR σ.2.2) = e3 σ2 ∧ Inv σ2 := fun K E f' h1 h2 => by
      have e : f' = f := by rw [hpf] at h1; cases h1; rfl
      subst e
      exact ⟨(j_u K 260 34 0, E, σ.2.2), rfl, rfl, rfl, refused0 hR hW hL hRe hJ h2⟩
    cases o with
    | inl f0 => exact pend_go (a210 (β := β) (z := 0) (st := fun _ => (0, 0)) hc tr hx hP hV nb (fun s' h => by cases h) (by decide) (fun k hk => absurd hk (Nat.not_lt_zero k)) fin (fun _ _ h => no h) (fun _ _ _ h => no h) (fun _ _ _ h => no h))
    | inr s' =>
      obtain ⟨z1, z2, z3, z4⟩ := hP.st hTT hTC.1 (s00_ok hx) (hx.T hTT)
      exact pend_go (a210 (β := β) (z := pz s') (st := pS s') hc tr hx hP hV nb (fun s2 h => by cases h; exact ⟨rfl, rfl⟩) z2 (fun k hk => (z4.1 k hk).1) fin (fun _ _ h => no h) (fun _ _ _ h => no h) (fun _ _ _ h => no h))
  · have hJ := FrC.of hg
    obtain ⟨z1, z2, z3, z4⟩ := hP.st hTT hTC.1 (s00_ok hx) (hx.T hTT)
    have hpn : pF (.inr s') = none := if_pos ht
    have hst : ∀ k, k < pz s' → stV (pS s' k) := fun k hk => (z4.1 k hk).1
    obtain ⟨tr, nb⟩ := trJ (fun q h1 h2 h3 h4 _ _ => hJ.1 q h1 h2 h3 h4)
    have nb0 : ∀ {p : Prop} {f : Nat}, pF (.inr s') = some f → p := fun h => by rw [hpn] at h; cases h
    generalize hJ0 : j_u J 97 1 0 = J0 at hJ tr nb ⊢
    have hFR0 : FR (pz s') (pS s') J0 (fm σ.2.2) := by rw [← hJ0]; exact hFR.of (fun q h => by funext i; rw [j_u_o _ _ _ h]) hR.2.2.1.2
    have hC : CB β J0 σ.2.1 σ.2.2 := by
      refine ⟨fun k hk => ?_, fun t ht => ?_⟩
      · have hb := isBF_rng (hR.1 k hk).2
        have hd := fm_ne hR hW hk
        obtain ⟨c1, c2, c3, c4, c5⟩ := hL.1.1 k hk
        have ff : ∀ i, i ≤ 2 → J0 (fo σ.2.2 k + i) = σ.1 (fo σ.2.2 k + i) := fun i hi => hJ.1 _ (by omega) (by have := hd i 0 hi (by omega); omega) (hd i 1 hi (by omega)) (hd i 2 hi (by omega))
        rw [hJ.1 109 (by omega) (by omega) (by omega) (by omega), hJ.1 111 (by omega) (by omega) (by omega) (by omega)]
        exact ⟨c1, c2, c3, c4, c5.cg (ff 0 (by omega)) (ff 1 (by omega)) (ff 2 (by omega))⟩
      · have hb := isBG_rng (hR.2.1 t ht).2
        exact (hL.1.2 t ht).cg (hJ.1 _ (by omega) (by omega) (by omega) (by omega)) rfl rfl
    have hfb : ∀ v, v < 32 → bt (J0 (fm σ.2.2) 2) v = nmB (pz s') (pS s') v := hFR0.2.2.1
    have hNB : NB J0 := hL.2.2.2.2.1.nb.cg (hJ.1 _ (by omega) (by omega) (by omega) (by omega)) (hJ.1 _ (by omega) (by omega) (by omega) (by omega))
    have hC2 : CB (bfw β c (pz s') (pS s')) J0 σ.2.1 (j_u σ.2.2 112 c (some (fm σ.2.2))) := by
      obtain ⟨c1, c2, c3, c4, c5⟩ := hC.1 c hc
      refine hC.cell bfw_o (fun i e => rfl) (fun i e => rfl) (fun i e => rfl) (fun k hk e => ⟨j_u_k _ _ e, rfl, rfl, rfl⟩) (fun t ht => ⟨j_u_o _ _ _ (by decide), rfl, rfl, rfl⟩) ⟨c1, c2, c3, c4, ?_⟩
      have e0 : fo (j_u σ.2.2 112 c (some (fm σ.2.2))) c = fm σ.2.2 := by
        show (j_u σ.2.2 112 c (some (fm σ.2.2)) 112 c).getD 0 = _
        rw [j_u_same]; rfl
      rw [e0, show bZ (bfw β c (pz s') (pS s')) c = pz s' from fu_s, show bS (bfw β c (pz s') (pS s')) c = pS s' from fu_s]
      exact hFR0
    have hAc : vrB β c = false → ∀ x, Clo (ed β) (fun v => nmB (pz s') (pS s') v) x → bt x c = false → acyc (bfw β c (pz s') (pS s')) := fun _ x hx hb => bfw_ac hc hV.2.2 hx hb
    refine s65b (β := β) (β2 := bfw β c (pz s') (pS s')) (S := fun v => nmB (pz s') (pS s') v) hR hc lD50 hV hC hc (by decide) (fun hv => ?_) (fun _ => hC.eds hV) (fun _ u v hu h => ed_lt hV hu h) (fun _ => hfb) (fun _ v hv h => nm_lt hst h) (fun hv x hx1 hx2 => ?_) (fun _ _ _ _ => by decide) (fun _ _ _ _ => hV.w) (fun _ _ _ _ => hNB) (fun hv x hx1 hx2 => bfw_V hV z2 z4 hv (hAc hv x hx1 ((hn_0 (by omega)).mp (Classical.byContradiction hx2)))) (fun _ _ _ _ => hC2) (fun hv x hx1 hx2 J2 j1 j2 j3 j4 => ?_) (fun hv x hx1 hx2 J2 j1 j2 j3 j4 => ?_)
    · exact pend_go (a210 (β := β) (z := pz s') (st := pS s') hc tr hx hP hV nb (fun s2 h => by cases h; exact ⟨rfl, rfl⟩) z2 hst (fun _ _ _ h => nb0 h) (fun K E _ _ h2 => ⟨_, rfl, rfl, rfl, refused0 hR hW hL hRe hJ h2⟩) (fun K E y _ h => by rw [hv] at h; cases h) (fun K E y _ h => by rw [hv] at h; cases h))
    · have hb := (hn_t (by omega)).mp hx2
      exact pend_go (a210 (β := β) (z := pz s') (st := pS s') hc tr hx hP hV nb (fun s2 h => by cases h; exact ⟨rfl, rfl⟩) z2 hst (fun _ _ _ h => nb0 h) (fun K E _ h => by rw [hv] at h; cases h) (fun K E y _ _ _ _ h2 => ⟨_, rfl, rfl, rfl, refused0 hR hW hL hRe hJ h2⟩) (fun K E y _ _ h3 h4 => by rw [clo_le hx1 h3 c (by omega) hb] at h4; cases h4))
    · have hb := (hn_0 (by omega)).mp (Classical.byContradiction hx2)
      have hAc' := hAc hv x hx1 hb
      have hV2 : BV (bfm β c (pz s') (pS s')) := bfm_V hV z2 z4 hv hAc'
      have jf : ∀ o, o ≠ 97 → o ≠ fm σ.2.2 → o ≠ fm σ.2.2 + 1 → o ≠ fm σ.2.2 + 2 → o ≠ 111 → (o < 205 ∨ 211 ≤ o) → j_u J2 111 c 0 o = σ.1 o := fun o h1 h2 h3 h4 h5 h6 => by
        rw [← hJ.1 o h1 h2 h3 h4, ← j1 o h6]; funext i; rw [j_u_o _ _ _ h5]
      obtain ⟨tr2, nb2⟩ := trJ jf
      have j2m : NM (bfm β c (pz s') (pS s')) J2 := j2
      refine pend_go (a210 (β := β) (z := pz s') (st := pS s') hc tr2 hx hP hV nb2 (fun s2 h => by cases h; exact ⟨rfl, rfl⟩) z2 hst (fun _ _ _ h => nb0 h) (fun K E _ h => by rw [hv] at h; cases h) (fun K E y _ _ h3 h4 => by rw [clo_le h3 hx1 c (by omega) h4] at hb; cases hb) (fun K E y _ _ h3 h4 h5 h6 => ?_))
      have kf : ∀ q, q ≠ 260 → q ≠ 423 → j_u K 260 34 0 q = j_u J2 111 c 0 q := fun q h1 h2 => by rw [← h5.1 q h1 h2]; funext i; rw [j_u_o _ _ _ h1]
      have nbK : RBN β (j_u K 260 34 0) := nb2.frm (fun q h1 h2 => kf q (by omega) (by omega))
      refine b210 (β := β) (z := pz s') (st := pS s') (X := fun c v => bt (J2 206 c) v) (bv := bu J2) hc z2 hst (h6.cg (by rw [j_u_k _ _ (by decide)]) (by rw [j_u_k _ _ (by decide)]) (by funext i; rw [j_u_o _ _ _ (by decide)])) hz0 hst0 (fun k hk => ?_) nbK hV2 j2m.rc j2m.be (fun hb2 K2 E2 hT q1 q2 q3 q4 q5 q6 => ?_) (fun hb2 => ?_)
      · rw [kf _ (by omega) (by omega), jf _ (by omega) (by omega) (by omega) (by omega) (by omega) (by omega), h5.2.2 _ (by omega)]; exact d6 k hk
      · have hfr := Fr65.of hR hc jf (by rw [j_u_o _ _ _ (by decide), j1 97 (by decide)]; exact hJ.2) h5 hT
        have k2 : ∀ q, q ≠ 262 → q ≠ 264 → q ≠ 333 → q ≠ 335 + c → q ≠ 266 + c → q ≠ 425 → q ≠ 361 → q ≠ 362 → q ≠ 260 → q ≠ 423 → K2 q = j_u J2 111 c 0 q := fun q a1 a2 a3 a4 a5 a6 a7 a8 a9 a10 => (hT.1 q a1 a2 a3 a4 a5 a6 a7 a8).trans (kf q a9 a10)
        have e111 : K2 111 = j_u J2 111 c 0 111 := k2 111 (by omega) (by omega) (by omega) (by omega) (by omega) (by omega) (by omega) (by omega) (by omega) (by omega)
        have kJ : ∀ q, q < 260 → q ≠ 111 → K2 q = J2 q := fun q a1 a2 => by
          rw [k2 q (by omega) (by omega) (by omega) (by omega) (by omega) (by omega) (by omega) (by omega) (by omega) (by omega)]; funext i; rw [j_u_o _ _ _ a2]
        refine ⟨(K2, E2, j_u (j_u σ.2.2 112 c (some (fm σ.2.2))) 97 2 (some (fo σ.2.2 c))), rfl, rfl, rfl, taken_inv hR hW hL hRe hc hV2 hfr (fun i => ?_) (fun i => ?_) (fun i => ?_) (fun i => ?_) (fun i h => ?_) q4 q5 q6 ?_ (j2m.cg (fun o a1 a2 => kJ o (by omega) (by omega))) ?_ (fun v hv => ?_)⟩
        · rw [e111]
          by_cases e : i = c
          · subst e; rw [if_pos rfl, j_u_same]
          · rw [if_neg e, j_u_k _ _ e, j1 111 (by decide), hJ.1 111 (by omega) (by omega) (by omega) (by omega)]
        · rw [q2 i, kf 262 (by omega) (by omega), jf 262 (by omega) (by omega) (by omega) (by omega) (by omega) (by omega)]
        · by_cases e : i = c
          · subst e; rw [if_pos rfl]; exact q1
          · rw [if_neg e, hT.2.1 i e, kf 264 (by omega) (by omega), jf 264 (by omega) (by omega) (by omega) (by omega) (by omega) (by omega)]
        · rw [q3 i, h5.2.2 263 (by decide)]
        · rw [hT.2.2.1 i h, kf 333 (by omega) (by omega), jf 333 (by omega) (by omega) (by omega) (by omega) (by omega) (by omega)]
        · exact hFR0.cg ((kJ _ (by omega) (by omega)).trans (j1 _ (by omega))) ((kJ _ (by omega) (by omega)).trans (j1 _ (by omega))) ((kJ _ (by omega) (by omega)).trans (j1 _ (by omega)))
        · have j3m : OrdB (bfm β c (pz s') (pS s')) J2 := j3
          exact j3m.cg (kJ 205 (by omega) (by omega))
        · have := j4 v hv
          unfold bu at this ⊢
          rw [kJ 208 (by omega) (by omega)]; exact this
      · obtain ⟨v, v1, v2⟩ := hb2
        have := j4 v v1
        omega
    · have hb := (hn_0 (by omega)).mp (Classical.byContradiction hx2)
      have hAc' := hAc hv x hx1 hb
      have hV2 : BV (bfm β c (pz s') (pS s')) := bfm_V hV z2 z4 hv hAc'
      have jf : ∀ o, o ≠ 97 → o ≠ fm σ.2.2 → o ≠ fm σ.2.2 + 1 → o ≠ fm σ.2.2 + 2 → o ≠ 111 → (o < 205 ∨ 211 ≤ o) → J2 o = σ.1 o := fun o h1 h2 h3 h4 _ h6 => by rw [← hJ.1 o h1 h2 h3 h4, ← j1 o h6]
      obtain ⟨tr2, nb2⟩ := trJ jf
      obtain ⟨J', j4, j5⟩ := j4
      have j4m : NM (bfm β c (pz s') (pS s')) J' := j4
      refine pend_go (a210 (β := β) (z := pz s') (st := pS s') hc tr2 hx hP hV nb2 (fun s2 h => by cases h; exact ⟨rfl, rfl⟩) z2 hst (fun _ _ _ h => nb0 h) (fun K E _ h => by rw [hv] at h; cases h) (fun K E y _ _ h3 h4 => by rw [clo_le h3 hx1 c (by omega) h4] at hb; cases hb) (fun K E y _ _ h3 h4 h5 h6 => ?_))
      have kf : ∀ q, q ≠ 260 → q ≠ 423 → j_u K 260 34 0 q = J2 q := fun q h1 h2 => by rw [← h5.1 q h1 h2]; funext i; rw [j_u_o _ _ _ h1]
      have nbK : RBN β (j_u K 260 34 0) := nb2.frm (fun q h1 h2 => kf q (by omega) (by omega))
      refine b210 (β := β) (z := pz s') (st := pS s') (X := fun c v => bt (J' 206 c) v) (bv := bu J') hc z2 hst (h6.cg (by rw [j_u_k _ _ (by decide)]) (by rw [j_u_k _ _ (by decide)]) (by funext i; rw [j_u_o _ _ _ (by decide)])) hz0 hst0 (fun k hk => ?_) nbK hV2 j4m.rc j4m.be (fun hb2 => ?_) (fun hb2 K2 E2 hT q1 q2 q3 q4 q5 q6 q7 => ?_)
      · rw [kf _ (by omega) (by omega), jf _ (by omega) (by omega) (by omega) (by omega) (by omega) (by omega), h5.2.2 _ (by omega)]; exact d6 k hk
      · obtain ⟨v, v1, v2⟩ := j5
        have := hb2 v v1
        omega
      · have hfr := Fr65.of hR hc jf (by rw [j1 97 (by decide)]; exact hJ.2) h5 hT
        have k2 : ∀ q, q ≠ 262 → q ≠ 264 → q ≠ 333 → q ≠ 335 + c → q ≠ 266 + c → q ≠ 425 → q ≠ 361 → q ≠ 362 → q ≠ 260 → q ≠ 423 → K2 q = J2 q := fun q a1 a2 a3 a4 a5 a6 a7 a8 a9 a10 => (hT.1 q a1 a2 a3 a4 a5 a6 a7 a8).trans (kf q a9 a10)
        have kJ : ∀ q, q < 260 → K2 q = J2 q := fun q a1 => k2 q (by omega) (by omega) (by omega) (by omega) (by omega) (by omega) (by omega) (by omega) (by omega) (by omega)
        have kσ : ∀ q, 211 ≤ q → q ≠ fm σ.2.2 → q ≠ 260 → q ≠ 423 → j_u K 260 34 0 q = σ.1 q := fun q a1 a2 a3 a4 => by
          rw [kf q a3 a4]; exact jf q (by omega) (by omega) (by omega) (by omega) (by omega) (by omega)
        refine ⟨(K2, E2, σ.2.2), rfl, rfl, rfl, refused_inv hR hW hL hRe hc hfr ?_ ?_ (fun i hi => ?_) ?_ (fun k hk => ?_) (fun k hk => ?_) (fun k hk => ?_) (j2.cg (fun o a1 a2 => kJ o (by omega))) (j3.cg (kJ 205 (by omega)))⟩
        · rw [kJ 111 (by omega), j1 111 (by omega), hJ.1 111 (by omega) (by omega) (by omega) (by omega)]
        · rw [q2]; exact kσ 262 (by omega) (by omega) (by omega) (by omega)
        · by_cases e : i = c
          · subst e; rw [q1, kσ 264 (by omega) (by omega) (by omega) (by omega)]
          · rw [hT.2.1 i e, kσ 264 (by omega) (by omega) (by omega) (by omega)]
        · rw [q3, h5.2.2 263 (by decide)]
        · by_cases e : k = c
          · subst e; exact ⟨q4, q5⟩
          · rw [hT.2.2.1 k e, kσ 333 (by omega) (by omega) (by omega) (by omega), hT.1 (335 + k) (by omega) (by omega) (by omega) (by omega) (by omega) (by omega) (by omega) (by omega), kσ (335 + k) (by omega) (by omega) (by omega) (by omega)]
            exact hL.2.2.1 k hk
        · rw [q6 k hk, kσ (266 + c) (by omega) (by omega) (by omega) (by omega)]
        · rw [q7 k hk, h5.2.2 (291 + c) (by omega)]
theorem both_formula (a : Int32) : BothI Inv 65 210 [.int a] := fun σ h => by
  have hT := h
  obtain ⟨⟨hR, hW⟩, ⟨β, hL⟩, hRe⟩ := h
  show j_Call lD 65 [.ref 0, .int a] w1 (σ.1, σ.2.1, RR σ.2.2) 0 0 (PEnd 210 [.int a] Inv)
  by_cases ha : ∃ k : Nat, k < 24 ∧ a = nI k
  · obtain ⟨c, hc, rfl⟩ := ha
    exact form_n hR hW hL hRe hc
  · exact s65r hR lD50 (fun k h1 h2 => absurd ⟨k, h1, h2⟩ ha) (fun _ => pend_same hT (s210r lD82 (fun k h1 h2 => absurd ⟨k, h1, h2⟩ ha) (fun _ => ⟨rfl, rfl, rfl⟩)))
end F65
