/-! value, blame, at -/
theorem pend_tell {j : Nat} {av : List Value} {σ : j_I3} {v : Int32} (hT : Inv σ) {J : Nat → Nat → Int32} {E : Nat → Nat → UInt64} (h1 : FRc σ.1 σ.2.1 J E) (hv : ∀ (Q : j_Po), (∀ K F, FRr J E K F → Q (some (.int v)) w1 (K, F, RR σ.2.2)) → j_Call lD j (.ref 260 :: av) w1 (J, E, RR σ.2.2) 0 0 Q) : PEnd j av Inv (some (.int v)) w1 (J, E, RR σ.2.2) := ⟨v, (J, E, σ.2.2), rfl, rfl, rfl, hv _ (fun K F h => ⟨(K, F, σ.2.2), rfl, rfl, rfl, hT.tell h1 h⟩)⟩
theorem pend_tellL {j : Nat} {av : List Value} {σ : j_I3} {v : Int64} (hT : Inv σ) {J : Nat → Nat → Int32} {E : Nat → Nat → UInt64} (h1 : FRc σ.1 σ.2.1 J E) (hv : ∀ (Q : j_Po), (∀ K F, FRr J E K F → Q (some (.long v)) w1 (K, F, RR σ.2.2)) → j_Call lD j (.ref 260 :: av) w1 (J, E, RR σ.2.2) 0 0 Q) : PEndL j av Inv (some (.long v)) w1 (J, E, RR σ.2.2) := ⟨v, (J, E, σ.2.2), rfl, rfl, rfl, hv _ (fun K F h => ⟨(K, F, σ.2.2), rfl, rfl, rfl, hT.tell h1 h⟩)⟩
theorem lD90 : 90 ≤ lD := by decide
theorem lD80 : 80 ≤ lD := by decide
section VA
variable {β : Bd} {I : Nat → Nat → Int32} {D : Nat → Nat → UInt64} {R : Nat → Nat → Option Nat} {Q : j_Po}
theorem nI_in24 {c : Nat} (hc : c < 24) {k : Nat} (hk : k < 24) (h : nI c = nI k) : k = c := ((nI_eqN (by omega) (by omega)).mp h).symm
theorem a198 (hV : BV β) (hB : RB β I D) {c : Nat} (hc : c < 24) (hq : ∀ K F, FRr I D K F → Q (some (.long (ansV (val β (env β) c)))) w1 (K, F, RR R)) : j_Call lD 198 [.ref 260, .int (nI c)] w1 (I, D, RR R) 0 0 Q := by
  refine u198e lD2 (fun k hk e => ?_) (fun h => absurd ⟨c, hc, rfl⟩ h)
  obtain rfl := nI_in24 hc hk e
  exact u198g (η := env β) hV hc lD90 hB.st hB.inp hc (Nat.le_refl _) (fun _ _ _ _ => Nat.le_refl _) (fun _ _ _ _ => Nat.le_refl _) (fun _ _ _ h => h) (fun K F h _ => hq K F h)
end VA
theorem both_value (a : Int32) : BothL Inv 55 198 [.int a] := fun σ h => by
  have hT := h
  obtain ⟨⟨hR, hW⟩, ⟨β, hC, hB, hN', hV, hN, hO, hb⟩, hRe⟩ := h
  show j_Call lD 55 [.ref 0, .int a] w1 (σ.1, σ.2.1, RR σ.2.2) 0 0 (PEndL 198 [.int a] Inv)
  refine u55e lD1 (fun c hc e => ?_) (fun h => pend_sameL hT (u198e lD2 (fun k hk e => absurd ⟨k, hk, e⟩ h) (fun _ => ⟨rfl, rfl, rfl⟩)))
  subst e
  refine u55g hR hV hC hN hO hc lD50 hc (Nat.le_refl _) (fun _ _ _ _ => Nat.le_refl _) (fun J E _ h2 => ?_) (fun J E _ _ h => val_ne hV hc (fun _ => env_ne) h) (fun J E h1 _ => pend_tellL hT h1 (fun Q hq => a198 hV (FRc.rb h1 hB) hc hq))
  rw [← h2.1]; exact h2
theorem both_blame (a i j : Int32) : BothI Inv 120 258 [.int a, .int i, .int j] := fun σ h => by
  have hT := h
  obtain ⟨⟨hR, hW⟩, ⟨β, hC, hB, hN', hV, hN, hO, hb⟩, hRe⟩ := h
  show j_Call lD 120 [.ref 0, .int a, .int i, .int j] w1 (σ.1, σ.2.1, RR σ.2.2) 0 0 (PEnd 258 [.int a, .int i, .int j] Inv)
  have n1 : ¬ rfV β a = 1 := fun h => by rcases rfV_2 (β := β) (a := a) with e | e <;> exact absurd (e.symm.trans h) (by decide)
  have n0 : ¬ rfV β a = 0 := fun h => by rcases rfV_2 (β := β) (a := a) with e | e <;> exact absurd (e.symm.trans h) (by decide)
  refine u120e hR hV hC lD2 (Nat.le_refl _) (fun ok => ?_) (fun _ h => absurd h n1) (fun ok _ => pend_same hT (u258e hV hB.st lD3 (Nat.le_refl _) (fun h => absurd h ok) (fun _ h => absurd h n0) (fun _ _ => ⟨rfl, rfl, rfl⟩)))
  have ok' := ok
  obtain ⟨t, ht, rfl, hl, ⟨p, hp, rfl⟩, ⟨q, hq, rfl⟩⟩ := ok
  refine u120g hR hV hC hN hO ht hl hp hq lD50 ht hl hp hq (Nat.le_refl _) (fun _ _ _ h => h.2.2.2) (fun J E h1 _ => pend_tell hT h1 (fun Q hQ => u258e hV (FRc.rb h1 hB).st lD3 (Nat.le_refl _) (fun _ => u258g hV ht hl hp hq lD80 (FRc.rb h1 hB).st (FRc.rb h1 hB).inp ht hl hp hq (Nat.le_refl _) (fun K F k1 k2 => ?_)) (fun h _ => absurd ok' h) (fun h _ => absurd ok' h)))
  have := hQ K F k1
  rw [show blV (val β (supV β (env β) t p q) (bO β t)).1 = K 260 32 from k2.2.1.symm] at this
  exact this
theorem both_at (a i j : Int32) : BothL Inv 117 255 [.int a, .int i, .int j] := fun σ h => by
  have hT := h
  obtain ⟨⟨hR, hW⟩, ⟨β, hC, hB, hN', hV, hN, hO, hb⟩, hRe⟩ := h
  show j_Call lD 117 [.ref 0, .int a, .int i, .int j] w1 (σ.1, σ.2.1, RR σ.2.2) 0 0 (PEndL 255 [.int a, .int i, .int j] Inv)
  have n1 : ¬ rfV β a = 1 := fun h => by rcases rfV_2 (β := β) (a := a) with e | e <;> exact absurd (e.symm.trans h) (by decide)
  have n0 : ¬ rfV β a = 0 := fun h => by rcases rfV_2 (β := β) (a := a) with e | e <;> exact absurd (e.symm.trans h) (by decide)
  refine u117e hR hV hC lD2 (Nat.le_refl _) (fun ok => ?_) (fun _ h => absurd h n1) (fun ok _ => pend_sameL hT (u255e hV hB.st lD3 (Nat.le_refl _) (fun h => absurd h ok) (fun _ h => absurd h n0) (fun _ _ => ⟨rfl, rfl, rfl⟩)))
  have ok' := ok
  obtain ⟨t, ht, rfl, hl, ⟨p, hp, rfl⟩, ⟨q, hq, rfl⟩⟩ := ok
  have ho := (hV.2.1 t ht hl).1
  refine u117g hR hV hC hN hO ht hl hp hq lD50 ht hl hp hq (Nat.le_refl _) (fun J E h1 h2 => u117h hR ht ho ((((h1.cb hR hC).2 t ht).2 hl).1) (by decide) (Nat.le_refl _) (by rw [← h2.1]; exact h2) (fun h => val_ne hV ho (fun _ => sup_ne (fun _ => env_ne)) h) (pend_tellL hT h1 (fun Q hQ => u255e hV (FRc.rb h1 hB).st lD3 (Nat.le_refl _) (fun _ => u255g hV ht hl hp hq lD80 (FRc.rb h1 hB).st (FRc.rb h1 hB).inp ht hl hp hq (Nat.le_refl _) (fun K F k1 k2 => u255h k2 (by decide) (Nat.le_refl _) k2 (hQ K F k1))) (fun h _ => absurd ok' h) (fun h _ => absurd ok' h))))
