/-! the reference reads what the grammar says -/
/-- a loop's head -/
def RKl (T : Nat → Nat) (n : Nat) (R : Nat → Nat → Option Nat) (dd d1 d2 j pc : Nat) (L : List (Option Value)) (s : PSt) (o : POut) : Prop := ∀ (d : Nat) (I : Nat → Nat → Int32) (D : Nat → Nat → UInt64) (Q : j_Po), dd ≤ d → okP n s → pz s ≤ pb s → tkK (ptk s) → RRs T n d1 s I D → (∀ J D', RRo T n d2 o J D' → RRg I D J D' → Q none w1 (J, D', RR R)) → j_W j d 0 0 0 0 pc L [] w1 (I, D, RR R) Q
def MOT (T : Nat → Nat) (n : Nat) (R : Nat → Nat → Option Nat) : PRel := fun m dep k i s o => PP T n m dep k i s o ∧ (dep ≤ 4 → match m with
  | 0 => RKc T n R (8 + 5 * (4 - dep)) dep 237 [.ref 260] s o
  | 1 => RKc T n R (9 + 5 * (4 - dep)) dep 236 [.ref 260] s o
  | 2 => RKl T n R (9 + 5 * (4 - dep)) dep dep 236 4 [some (.ref 260), none] s o
  | 3 => RKc T n R (10 + 5 * (4 - dep)) dep 235 [.ref 260] s o
  | 4 => RKl T n R (10 + 5 * (4 - dep)) dep dep 235 4 [some (.ref 260), none] s o
  | 5 => RKc T n R (11 + 5 * (4 - dep)) dep 234 [.ref 260] s o
  | 6 => 1 ≤ k → k ≤ 3 → RKc T n R (7 + 5 * (4 - dep)) dep 240 [.ref 260, .int (nI k)] s o
  | 7 => 1 ≤ k → k ≤ 3 → dep < 4 → i ≤ k → (i = 0 → (ptk s).1 = 40 → RKl T n R (7 + 5 * (4 - dep)) dep dep 240 15 [some (.ref 260), some (.int (nI k)), none] s o) ∧ (1 ≤ i → (ptk s).1 = (if i < k then 44 else 41) → RKl T n R (7 + 5 * (4 - dep)) (dep + 1) dep 240 25 [some (.ref 260), some (.int (nI k)), some (.int (nI i))] s o)
  | _ => True)
section RI
variable {R : Nat → Nat → Option Nat} {T : Nat → Nat} {n : Nat}
theorem nx_z {s s1 : PSt} (h : nxP T n s s1) (hs : okP n s) (hz : pz s ≤ pb s) : okP n s1 ∧ pz s1 ≤ pb s1 ∧ pe s ≤ pb s1 := by
  obtain ⟨h1, h2⟩ := h.ok hs
  have := h.2.1
  have := hs.1
  exact ⟨h1, by omega, h2⟩
/-- behind a part: it goes on, and so do the steps -/
theorem PP.z {m dep k i : Nat} {s s2 : PSt} (h : PP T n m dep k i s (.inr s2)) (hs : okP n s) (hz : pz s ≤ pb s) : okP n s2 ∧ pz s2 ≤ pb s2 := by
  obtain ⟨k1, k2, k3, -⟩ := h.g hs
  exact ⟨k1, by omega⟩
theorem RRo.bad {dep : Nat} {f : Nat} {I : Nat → Nat → Int32} {D : Nat → Nat → UInt64} (h : RRo T n dep (.inl f) I D) : I 260 46 = 1 := h.2.2
theorem mr_k {a g : Nat} (ha : 2 ≤ a) (ha2 : a ≤ 12) (hg : g = 198 + a) : ∀ m F, MRj m (a, 0) (nI g) F := fun m F => ⟨fun h => by simp only at h; omega, fun h => by simp only at h; omega, fun _ _ => by rw [hg], fun h => by simp only at h; omega⟩
theorem hTT {I : Nat → Nat → Int32} {D : Nat → Nat → UInt64} {dep : Nat} {s : PSt} (h : RRs T n dep s I D) : ∀ k, k < n → T k < 256 := by
  by_cases e : (ptk s).1 = 262
  · exact fun k hk => ((h.1 e).1.2.2 k hk).1
  · exact fun k hk => ((h.2 e).1.2.2 k hk).1
theorem tN {I : Nat → Nat → Int32} {D : Nat → Nat → UInt64} {dep : Nat} {s : PSt} (h : RRs T n dep s I D) : n ≤ 96 := by
  by_cases e : (ptk s).1 = 262
  · exact (h.1 e).1.1
  · exact (h.2 e).1.1

theorem R1 : PC1 T n (MOT T n R) := by
  refine ⟨fun dep s f h => ⟨PP1.1 dep s f h.1, fun hd4 => ?_⟩, fun dep s s1 o h1 h2 => ⟨PP1.2.1 dep s s1 o h1.1 h2.1, fun hd4 => ?_⟩, fun dep s h => ⟨PP1.2.2.1 dep s h, fun hd4 => ?_⟩, fun dep s s1 f h1 h2 h3 => ⟨PP1.2.2.2.1 dep s s1 f h1 h2 h3.1, fun hd4 => ?_⟩, fun dep s s1 s2 o h1 h2 h3 h4 => ⟨PP1.2.2.2.2 dep s s1 s2 o h1 h2 h3.1 h4.1, fun hd4 => ?_⟩⟩
  · intro d I D Q hd hs hz hk hS hq
    refine r236a (h.2 hd4) hd hs hz hk hS (fun J E h1 h2 => ?_)
    exact r236v h1.bad (by omega) h1.bad (hq J E h1 h2)
  · intro d I D Q hd hs hz hk hS hq
    refine r236a (h1.2 hd4) hd hs hz hk hS (fun J E g1 g2 => ?_)
    obtain ⟨z1, z2⟩ := h1.1.z hs hz
    exact h2.2 hd4 d J E Q hd z1 z2 (h1.1.k (hTT hS) hk) g1 (fun J' E' a b => hq J' E' a (g2.tr b))
  · intro d I D Q hd hs hz hk hS hq
    by_cases e : (ptk s).1 = 262
    · exact r236v (hS.bad e) (by omega) (hS.bad e) (hq I D hS RRg.refl)
    · have hG := hS.2 e
      have hQ := hq I D hS RRg.refl
      exact r236g (by omega) hG (by decide) (fun a _ => absurd (show isT (ptk s).1 by unfold isT; omega) h) (fun _ _ => by decide) (fun _ b c => absurd (show isT (ptk s).1 by unfold isT; omega) h) (fun _ b c => absurd (show isT (ptk s).1 by unfold isT; omega) h) (fun _ => by decide) (fun _ _ a => absurd (show isT (ptk s).1 by unfold isT; omega) h) (fun _ _ b c => absurd (show isT (ptk s).1 by unfold isT; omega) h) (fun _ _ b c => absurd (show isT (ptk s).1 by unfold isT; omega) h) (fun _ _ => by decide) (fun _ _ _ a => absurd (show isT (ptk s).1 by unfold isT; omega) h) (fun _ _ _ b c => absurd (show isT (ptk s).1 by unfold isT; omega) h) (fun _ _ _ b c => absurd (show isT (ptk s).1 by unfold isT; omega) h) (fun _ _ _ => hQ)
  · intro d I D Q hd hs hz hk hS hq
    have hlt : pb s < pe s := hs.2.2 (by unfold isT at h1; omega)
    have hG := hS.2 (by unfold isT at h1; omega)
    obtain ⟨a1, a2, a3⟩ := nx_z h2 hs hz
    have key : ∀ g, j_W 236 d 0 0 0 0 65 [some (.ref 260), some (.int (nI g))] [] w1 (I, D, RR R) Q := fun g =>
      r236h (h3.2 hd4) hd h2 hs hG (Nat.le_refl _) (fun _ _ _ => a1) (fun _ _ _ => a2) (fun _ _ _ => h2.1.K (hTT hS)) (fun _ x _ => x) (fun J x1 x2 J4 E5 x3 x4 => r236m x3.bad (by omega) x3.bad (r236v x3.bad (by omega) x3.bad (hq J4 E5 x3 (x2.tr x4))))
    exact r236g (by omega) hG (by decide) (fun a _ => key 203) (fun _ _ => by decide) (fun _ b c => key 204) (fun _ b c => key 205) (fun _ => by decide) (fun _ _ a => key 203) (fun _ _ b c => key 204) (fun _ _ b c => key 205) (fun _ _ => by decide) (fun _ _ _ a => key 203) (fun _ _ _ b c => key 204) (fun _ _ _ b c => key 205) (fun a b c => absurd h1 (show ¬ isT (ptk s).1 by unfold isT; omega))
  · intro d I D Q hd hs hz hk hS hq
    have hlt : pb s < pe s := hs.2.2 (by unfold isT at h1; omega)
    have hG := hS.2 (by unfold isT at h1; omega)
    obtain ⟨a1, a2, a3⟩ := nx_z h2 hs hz
    obtain ⟨b1, b2, b3, b4, b5, b6⟩ := h3.1.g a1
    have b7 := b5 ⟨by decide, by decide⟩
    have b8 := b6 (by decide)
    have b9 := b1.1
    have b10 := b1.2.1
    have b11 := tN hS
    have b12 := h2.2.1
    have hk2 := h3.1.k (hTT hS) (h2.1.K (hTT hS))
    have key : ∀ g, g = 198 + opT (ptk s).1 → j_W 236 d 0 0 0 0 65 [some (.ref 260), some (.int (nI g))] [] w1 (I, D, RR R) Q := by
      intro g hg
      refine r236h (h3.2 hd4) hd h2 hs hG (Nat.le_refl _) (fun _ _ _ => a1) (fun _ _ _ => a2) (fun _ _ _ => h2.1.K (hTT hS)) (fun _ x _ => x) (fun J x1 x2 J4 E5 x3 x4 => ?_)
      have fin : ∀ J, RRs T n dep (addP s2 (opT (ptk s).1) 0) J E5 → RRg J4 E5 J E5 → j_W 236 d 0 0 0 0 4 [some (.ref 260), none] [] w1 (J, E5, RR R) Q := fun J y1 y2 => h4.2 hd4 d J E5 Q hd b1 (by show pz s2 + 1 ≤ pb s2; omega) hk2 y1 (fun J' E' u v => hq J' E' u (x2.tr (x4.tr (y2.tr v))))
      have x3 : RRs T n dep s2 J4 E5 := x3
      by_cases e : (ptk s2).1 = 262
      · exact r236m (x3.bad e) (by omega) (x3.bad e) (fin J4 ⟨fun _ => x3.1 e, fun h => absurd e h⟩ RRg.refl)
      · exact r236n (a := opT (ptk s).1) (by omega) (mr_k (by unfold opT; (repeat' split) <;> omega) (by unfold opT; (repeat' split) <;> omega) hg) (by omega) (x3.2 e) (fun J y1 y2 => fin J y1.st y2)
    exact r236g (by omega) hG (by decide) (fun a _ => key 203 (by unfold opT; rw [if_pos a])) (fun _ _ => by decide) (fun _ b c => key 204 (by unfold opT; rw [if_neg b, if_pos c])) (fun _ b c => key 205 (by unfold opT; rw [if_neg b, if_neg c])) (fun _ => by decide) (fun _ _ a => key 203 (by unfold opT; rw [if_pos a])) (fun _ _ b c => key 204 (by unfold opT; rw [if_neg b, if_pos c])) (fun _ _ b c => key 205 (by unfold opT; rw [if_neg b, if_neg c])) (fun _ _ => by decide) (fun _ _ _ a => key 203 (by unfold opT; rw [if_pos a])) (fun _ _ _ b c => key 204 (by unfold opT; rw [if_neg b, if_pos c])) (fun _ _ _ b c => key 205 (by unfold opT; rw [if_neg b, if_neg c])) (fun a b c => absurd h1 (show ¬ isT (ptk s).1 by unfold isT; omega))
theorem R2 : PC2 T n (MOT T n R) := by
  refine ⟨fun dep s f h => ⟨PP2.1 dep s f h.1, fun hd4 => ?_⟩, fun dep s s1 o h1 h2 => ⟨PP2.2.1 dep s s1 o h1.1 h2.1, fun hd4 => ?_⟩, fun dep s h => ⟨PP2.2.2.1 dep s h, fun hd4 => ?_⟩, fun dep s s1 f h1 h2 h3 => ⟨PP2.2.2.2.1 dep s s1 f h1 h2 h3.1, fun hd4 => ?_⟩, fun dep s s1 s2 o h1 h2 h3 h4 => ⟨PP2.2.2.2.2 dep s s1 s2 o h1 h2 h3.1 h4.1, fun hd4 => ?_⟩⟩
  · intro d I D Q hd hs hz hk hS hq
    refine r235a (h.2 hd4) hd hs hz hk hS (fun J E h1 h2 => ?_)
    exact r235v h1.bad (by omega) h1.bad (hq J E h1 h2)
  · intro d I D Q hd hs hz hk hS hq
    refine r235a (h1.2 hd4) hd hs hz hk hS (fun J E g1 g2 => ?_)
    obtain ⟨z1, z2⟩ := h1.1.z hs hz
    exact h2.2 hd4 d J E Q hd z1 z2 (h1.1.k (hTT hS) hk) g1 (fun J' E' a b => hq J' E' a (g2.tr b))
  · intro d I D Q hd hs hz hk hS hq
    by_cases e : (ptk s).1 = 262
    · exact r235v (hS.bad e) (by omega) (hS.bad e) (hq I D hS RRg.refl)
    · have hG := hS.2 e
      have hQ := hq I D hS RRg.refl
      exact r235g (by omega) hG (by decide) (fun a _ => absurd (show isS (ptk s).1 by unfold isS; omega) h) (fun _ a => absurd (show isS (ptk s).1 by unfold isS; omega) h) (fun _ => by decide) (fun _ _ a => absurd (show isS (ptk s).1 by unfold isS; omega) h) (fun _ _ a => absurd (show isS (ptk s).1 by unfold isS; omega) h) (fun _ _ => hQ)
  · intro d I D Q hd hs hz hk hS hq
    have hlt : pb s < pe s := hs.2.2 (by unfold isS at h1; omega)
    have hG := hS.2 (by unfold isS at h1; omega)
    obtain ⟨a1, a2, a3⟩ := nx_z h2 hs hz
    have key : ∀ g, j_W 235 d 0 0 0 0 41 [some (.ref 260), some (.int (nI g))] [] w1 (I, D, RR R) Q := fun g =>
      r235h (h3.2 hd4) hd h2 hs hG (Nat.le_refl _) (fun _ _ _ => a1) (fun _ _ _ => a2) (fun _ _ _ => h2.1.K (hTT hS)) (fun _ x _ => x) (fun J x1 x2 J4 E5 x3 x4 => r235m x3.bad (by omega) x3.bad (r235v x3.bad (by omega) x3.bad (hq J4 E5 x3 (x2.tr x4))))
    exact r235g (by omega) hG (by decide) (fun a _ => key 201) (fun _ a => key 202) (fun _ => by decide) (fun _ _ a => key 201) (fun _ _ a => key 202) (fun a b => absurd h1 (show ¬ isS (ptk s).1 by unfold isS; omega))
  · intro d I D Q hd hs hz hk hS hq
    have hlt : pb s < pe s := hs.2.2 (by unfold isS at h1; omega)
    have hG := hS.2 (by unfold isS at h1; omega)
    obtain ⟨a1, a2, a3⟩ := nx_z h2 hs hz
    obtain ⟨b1, b2, b3, b4, b5, b6⟩ := h3.1.g a1
    have b7 := b5 ⟨by decide, by decide⟩
    have b8 := b6 (by decide)
    have b9 := b1.1
    have b10 := b1.2.1
    have b11 := tN hS
    have b12 := h2.2.1
    have hk2 := h3.1.k (hTT hS) (h2.1.K (hTT hS))
    have key : ∀ g, g = 198 + opS (ptk s).1 → j_W 235 d 0 0 0 0 41 [some (.ref 260), some (.int (nI g))] [] w1 (I, D, RR R) Q := by
      intro g hg
      refine r235h (h3.2 hd4) hd h2 hs hG (Nat.le_refl _) (fun _ _ _ => a1) (fun _ _ _ => a2) (fun _ _ _ => h2.1.K (hTT hS)) (fun _ x _ => x) (fun J x1 x2 J4 E5 x3 x4 => ?_)
      have fin : ∀ J, RRs T n dep (addP s2 (opS (ptk s).1) 0) J E5 → RRg J4 E5 J E5 → j_W 235 d 0 0 0 0 4 [some (.ref 260), none] [] w1 (J, E5, RR R) Q := fun J y1 y2 => h4.2 hd4 d J E5 Q hd b1 (by show pz s2 + 1 ≤ pb s2; omega) hk2 y1 (fun J' E' u v => hq J' E' u (x2.tr (x4.tr (y2.tr v))))
      have x3 : RRs T n dep s2 J4 E5 := x3
      by_cases e : (ptk s2).1 = 262
      · exact r235m (x3.bad e) (by omega) (x3.bad e) (fin J4 ⟨fun _ => x3.1 e, fun h => absurd e h⟩ RRg.refl)
      · exact r235n (a := opS (ptk s).1) (by omega) (mr_k (by unfold opS; (repeat' split) <;> omega) (by unfold opS; (repeat' split) <;> omega) hg) (by omega) (x3.2 e) (fun J y1 y2 => fin J y1.st y2)
    exact r235g (by omega) hG (by decide) (fun a _ => key 201 (by unfold opS; rw [if_pos a])) (fun _ a => key 202 (by unfold opS; rw [if_neg a])) (fun _ => by decide) (fun _ _ a => key 201 (by unfold opS; rw [if_pos a])) (fun _ _ a => key 202 (by unfold opS; rw [if_neg a])) (fun a b => absurd h1 (show ¬ isS (ptk s).1 by unfold isS; omega))
theorem gM (T : Nat → Nat) (n : Nat) {J : Nat → Nat → Int32} {tk : Nat × Nat} (h : RTk J tk) (h2 : tk.1 = 40 ∨ tk.1 = 45 ∨ tk.1 < 257) : ∃ k, k < 4 ∧ k ≠ 1 ∧ k ≠ 2 ∧ J 260 41 = nI k := by
  rcases h with ⟨e, h⟩ | ⟨e1, e2, h⟩ | ⟨-, v, -, -, ⟨e, -⟩ | ⟨f, -, e, -⟩⟩ | ⟨e, h, -⟩
  · exact ⟨0, by decide, by decide, by decide, h⟩
  · omega
  · rw [e] at h2; simp only at h2; omega
  · rw [e] at h2; simp only at h2; omega
  · exact ⟨3, by decide, by decide, by decide, h⟩
theorem gN {J : Nat → Nat → Int32} {tk : Nat × Nat} (h : RTk J tk) (h2 : tk.1 = 257 ∨ tk.1 = 258) : J 260 41 = 2 ∧ ∃ v, v < 10000 ∧ J 260 43 = nI v ∧ ((tk = (257, 1000 * v) ∧ J 260 44 = -1) ∨ ∃ f, f < 1000 ∧ tk = (258, 1000 * v + f) ∧ J 260 44 = nI f) := by
  rcases h with ⟨e, h⟩ | ⟨e1, e2, h⟩ | h | ⟨e, h, -⟩
  · omega
  · omega
  · exact h
  · omega
theorem gW {J : Nat → Nat → Int32} {tk : Nat × Nat} (h : RTk J tk) (h2 : 259 ≤ tk.1) (h3 : tk.1 ≤ 261) : J 260 41 = nI 1 := by
  rcases h with ⟨e, h⟩ | ⟨e1, e2, h⟩ | ⟨-, v, -, -, ⟨e, -⟩ | ⟨f, -, e, -⟩⟩ | ⟨e, h, -⟩
  · omega
  · exact h
  · rw [e] at h2; simp only at h2; omega
  · rw [e] at h2; simp only at h2; omega
  · omega
/-- wrong within parts: it runs out -/
theorem rw240 {d : Nat} {I : Nat → Nat → Int32} {D : Nat → Nat → UInt64} {Q : j_Po} {k : Nat} (hk3 : k ≤ 3) (hd : 4 ≤ d) (hw : I 260 46 = 1) (hq : Q none w1 (I, D, RR R)) : ∀ (m i : Nat), k - i ≤ m → i ≤ k → j_W 240 d 0 0 0 0 25 [some (.ref 260), some (.int (nI k)), some (.int (nI i))] [] w1 (I, D, RR R) Q
  | m, i, hm, hi => by
    have go : ¬ k ≤ i → j_W 240 d 0 0 0 0 44 [some (.ref 260), some (.int (nI k)), some (.int (nI i))] [] w1 (I, D, RR R) Q := by
      intro h
      match m, hm with
      | 0, hm => omega
      | m + 1, hm => exact r240d hk3 (by omega) (by omega) (rw240 hk3 hd hw hq m (i + 1) (by omega) (by omega))
    exact r240v hw hk3 hi hd (fun _ => hw) (fun _ => by rw [ju_id hw]; exact hq) (fun _ _ => hw) (fun _ _ => Nat.le_refl _) (fun h _ => go h) (fun _ _ => hw) (fun _ _ => Nat.le_refl _) (fun _ _ => Nat.le_refl _) (fun h _ => go h)
theorem rw240b {d : Nat} {I : Nat → Nat → Int32} {D : Nat → Nat → UInt64} {Q : j_Po} {k i : Nat} (hk3 : k ≤ 3) (hd : 4 ≤ d) (hw : I 260 46 = 1) (hi : i < k) (hq : Q none w1 (I, D, RR R)) : j_W 240 d 0 0 0 0 44 [some (.ref 260), some (.int (nI k)), some (.int (nI i))] [] w1 (I, D, RR R) Q :=
  r240d hk3 hi (by omega) (rw240 hk3 hd hw hq _ _ (Nat.le_refl _) (by omega))
theorem nI_le0 {i : Nat} (h : 1 ≤ i) (h3 : i ≤ 3) : ¬ (nI i) ≤ 0 := by
  have : ∀ i, i < 4 → 1 ≤ i → ¬ (nI i) ≤ 0 := by decide +kernel
  exact this i (by omega) h
theorem RRf.op {f : Nat} {I : Nat → Nat → Int32} {x : Int32} (h : RRf T n f I) : RRf T n f (j_u I 260 45 x) := ⟨h.1.u (by decide), by rw [j_u_k _ _ (by decide)]; exact h.2.1, by rw [j_u_k _ _ (by decide)]; exact h.2.2⟩
/-- one round of parts -/
theorem r7 {d dep k i : Nat} {s s1 : PSt} {o : POut} {I : Nat → Nat → Int32} {D : Nat → Nat → UInt64} {Q : j_Po} (hk1 : 1 ≤ k) (hk3 : k ≤ 3) (hdl : dep < 4) (hik : i < k) (hN : nxP T n s s1) (hC : RKc T n R (11 + 5 * (4 - (dep + 1))) (dep + 1) 234 [.ref 260] s1 o) (hd : 7 + 5 * (4 - dep) ≤ d) (hs : okP n s) (hz : pz s ≤ pb s) (hK : ∀ J E, RRo T n (dep + 1) o J E → RRg I D J E → j_W 240 d 0 0 0 0 44 [some (.ref 260), some (.int (nI k)), some (.int (nI i))] [] w1 (J, E, RR R) Q) : (i = 0 → (ptk s).1 = 40 → RRs T n dep s I D → j_W 240 d 0 0 0 0 15 [some (.ref 260), some (.int (nI k)), none] [] w1 (I, D, RR R) Q) ∧ (1 ≤ i → (ptk s).1 = (if i < k then 44 else 41) → RRs T n (dep + 1) s I D → j_W 240 d 0 0 0 0 25 [some (.ref 260), some (.int (nI k)), some (.int (nI i))] [] w1 (I, D, RR R) Q) := by
  rw [show 11 + 5 * (4 - (dep + 1)) = 6 + 5 * (4 - dep) from by omega] at hC
  obtain ⟨a1, a2, a3⟩ := nx_z hN hs hz
  constructor
  · intro hi ht hS
    subst hi
    have hG := hS.2 (by omega)
    exact r240a hk3 hk1 hdl hC hd hdl hN hs hG (by omega) (fun J1 g1 g2 h => by omega) (fun J1 g1 g2 _ => a1) (fun _ _ _ _ => a2) (fun _ _ _ _ => hN.1.K (hTT hS)) (fun _ g1 _ _ => g1) (fun J1 g1 g2 _ J5 E6 x1 x2 => hK J5 E6 x1 (g2.tr x2))
  · intro hi ht hS
    rw [if_pos hik] at ht
    have hG := hS.2 (by omega)
    exact r240i hk3 (by omega) (by omega) (fun h => by omega) (fun _ h => absurd h (nI_le0 hi (by omega))) (fun _ _ => r240c hk3 hik hdl hC hd (by decide) ht hN hs hG (by omega) (fun _ _ _ => a1) (fun _ _ _ => a2) (fun _ _ _ => hN.1.K (hTT hS)) (fun _ g1 _ => g1) (fun J1 g1 g2 J5 E6 x1 x2 => hK J5 E6 x1 (g2.tr x2)))
theorem R3 : PC3 T n (MOT T n R) := by
  refine ⟨fun dep s f h => ⟨PP3.1 dep s f h.1, fun hd4 => ?_⟩, fun dep s s1 h1 h2 => ⟨PP3.2.1 dep s s1 h1.1 h2, fun hd4 => ?_⟩, fun dep s s1 s2 o h1 h2 h3 h4 => ⟨PP3.2.2.1 dep s s1 s2 o h1.1 h2 h3 h4.1, fun hd4 => ?_⟩, fun dep k s h => ⟨PP3.2.2.2.1 dep k s h, fun hd4 hk1 hk3 => ?_⟩, fun dep k s o h1 h2 h3 => ⟨PP3.2.2.2.2.1 dep k s o h1 h2 h3.1, fun hd4 hk1 hk3 => ?_⟩, fun dep k s s' h => ⟨PP3.2.2.2.2.2.1 dep k s s' h, fun hd4 hk1 hk3 hdl hik => ⟨fun h0 => by omega, fun _ ht => ?_⟩⟩, fun dep k i s s1 f hik h2 h3 => ⟨PP3.2.2.2.2.2.2.1 dep k i s s1 f hik h2 h3.1, fun hd4 hk1 hk3 hdl _ => ?_⟩, fun dep k i s s1 s2 hik h2 h3 h4 => ⟨PP3.2.2.2.2.2.2.2.1 dep k i s s1 s2 hik h2 h3.1 h4, fun hd4 hk1 hk3 hdl _ => ?_⟩, fun dep k i s s1 s2 o hik h2 h3 h4 h5 => ⟨PP3.2.2.2.2.2.2.2.2 dep k i s s1 s2 o hik h2 h3.1 h4 h5.1, fun hd4 hk1 hk3 hdl hik2 => ?_⟩⟩
  · intro d I D Q hd hs hz hk hS hq
    exact r234a (h.2 hd4) hd hs hz hk hS (fun J E h1 h2 => r234v h1.bad (by omega) h1.bad (hq J E h1 h2))
  · intro d I D Q hd hs hz hk hS hq
    refine r234a (h1.2 hd4) hd hs hz hk hS (fun J E g1 g2 => ?_)
    have g1 : RRs T n dep s1 J E := g1
    have hQ := hq J E g1 g2
    by_cases e : (ptk s1).1 = 262
    · exact r234v (g1.bad e) (by omega) (g1.bad e) hQ
    · exact r234g (by omega) (g1.2 e) (by decide) (fun a _ => absurd (show isW (ptk s1).1 by unfold isW; omega) h2) (fun _ a => absurd (show isW (ptk s1).1 by unfold isW; omega) h2) (fun _ => by decide) (fun _ _ a => absurd (show isW (ptk s1).1 by unfold isW; omega) h2) (fun _ _ a => absurd (show isW (ptk s1).1 by unfold isW; omega) h2) (fun _ _ => hQ)
  · intro d I D Q hd hs hz hk hS hq
    refine r234a (h1.2 hd4) hd hs hz hk hS (fun J E g1 g2 => ?_)
    have g1 : RRs T n dep s1 J E := g1
    have hG := g1.2 (by unfold isW at h2; omega)
    obtain ⟨z1, z2⟩ := h1.1.z hs hz
    have hk1 := h1.1.k (hTT hS) hk
    have hlt : pb s1 < pe s1 := z1.2.2 (by unfold isW at h2; omega)
    obtain ⟨a1, a2, a3⟩ := nx_z h3 z1 z2
    have key : ∀ g, g = 198 + opW (ptk s1).1 → j_W 234 d 0 0 0 0 42 [some (.ref 260), some (.int (nI g))] [] w1 (J, E, RR R) Q := by
      intro g hg
      refine r234h (h4.2 hd4) hd h3 z1 hG (Nat.le_refl _) (fun _ _ _ => a1) (fun _ _ _ => a2) (fun _ _ _ => h3.1.K (hTT hS)) (fun _ x _ => x) (fun J1 x1 x2 J4 E5 x3 x4 => ?_)
      cases o with
      | inl f => exact r234m x3.bad (by omega) x3.bad (hq J4 E5 x3 (g2.tr (x2.tr x4)))
      | inr s3 =>
        obtain ⟨b1, b2, b3, b4, b5, b6⟩ := h4.1.g a1
        have b7 := b5 ⟨by decide, by decide⟩
        have b8 := b6 (by decide)
        have b9 := b1.1
        have b10 := b1.2.1
        have b11 := tN hS
        have b12 := h3.2.1
        have x3 : RRs T n dep s3 J4 E5 := x3
        by_cases e : (ptk s3).1 = 262
        · exact r234m (x3.bad e) (by omega) (x3.bad e) (hq J4 E5 (show RRs T n dep (addP s3 (opW (ptk s1).1) 0) J4 E5 from ⟨fun _ => x3.1 e, fun h => absurd e h⟩) (g2.tr (x2.tr x4)))
        · exact r234n (a := opW (ptk s1).1) (by omega) (mr_k (by unfold opW; split <;> omega) (by unfold opW; split <;> omega) hg) (by omega) (x3.2 e) (fun J5 y1 y2 => hq J5 E5 (show RRs T n dep (addP s3 (opW (ptk s1).1) 0) J5 E5 from y1.st) (g2.tr (x2.tr (x4.tr y2))))
    exact r234g (by omega) hG (by decide) (fun a _ => key 206 (by unfold opW; rw [if_pos a])) (fun _ a => key 207 (by unfold opW; rw [if_neg a])) (fun _ => by decide) (fun _ _ a => key 206 (by unfold opW; rw [if_pos a])) (fun _ _ a => key 207 (by unfold opW; rw [if_neg a])) (fun a b => absurd h2 (show ¬ isW (ptk s1).1 by unfold isW; omega))
  · intro d I D Q hd hs hz hk hS hq
    by_cases e : (ptk s).1 = 262
    · exact r240w (hS.bad e) (by omega) (hS.bad e) (hq _ D hS.w (RRg.u (by decide) (by decide)))
    · have hG := hS.2 e
      refine r240e (by omega) hG (by decide) (fun h40 => ?_) (fun _ => hq _ D hG.w (RRg.u (by decide) (by decide)))
      have h4 : dep = 4 := by omega
      subst h4
      exact r240b (by omega) hG (hq _ D hG.w (RRg.u (by decide) (by decide)))
  · intro d I D Q hd hs hz hk hS hq
    have hG := hS.2 (by omega)
    exact r240e (by omega) hG (by decide) (fun _ => ((h3.2 hd4 hk1 hk3 h1 (by omega)).1 rfl h2) d I D Q hd hs hz hk hS hq) (fun h' => absurd h2 h')
  · intro d I D Q hd hs hz hk hS hq
    rw [if_neg (Nat.lt_irrefl _)] at ht
    have hG := hS.2 (by omega)
    refine r240x hk3 (Nat.le_refl _) hk3 hG.2.2.2.2.2.2.1 (by omega) (fun _ => hG) (fun _ => by decide) (fun _ _ => ?_) (fun _ h' => absurd ht h') (fun h' => absurd (Nat.le_refl _) h')
    exact r240z hG.2.2.2.2.2.2.1 hdl (by omega) h hs (by rw [nI_p1 hdl]; exact hG.op) (by omega) (fun J g1 g2 => hq J D g1 ((RRg.u (by decide) (by decide)).tr g2))
  · have go : ∀ (d : Nat) (I : Nat → Nat → Int32) (D : Nat → Nat → UInt64) (Q : j_Po), 7 + 5 * (4 - dep) ≤ d → (∀ J D', RRo T n dep (.inl f) J D' → RRg I D J D' → Q none w1 (J, D', RR R)) → ∀ J E, RRo T n (dep + 1) (.inl f) J E → RRg I D J E → j_W 240 d 0 0 0 0 44 [some (.ref 260), some (.int (nI k)), some (.int (nI i))] [] w1 (J, E, RR R) Q := fun d I D Q hd hq J E x1 x2 => rw240b hk3 (by omega) x1.bad hik (hq J E x1 x2)
    exact ⟨fun h0 ht d I D Q hd hs hz hk hS hq => (r7 hk1 hk3 hdl hik h2 (h3.2 (by omega)) hd hs hz (go d I D Q hd hq)).1 h0 ht hS, fun h0 ht d I D Q hd hs hz hk hS hq => (r7 hk1 hk3 hdl hik h2 (h3.2 (by omega)) hd hs hz (go d I D Q hd hq)).2 h0 ht hS⟩
  · have go : ∀ (d : Nat) (I : Nat → Nat → Int32) (D : Nat → Nat → UInt64) (Q : j_Po), 7 + 5 * (4 - dep) ≤ d → (∀ J D', RRo T n dep (.inl (pb s2)) J D' → RRg I D J D' → Q none w1 (J, D', RR R)) → ∀ J E, RRo T n (dep + 1) (.inr s2) J E → RRg I D J E → j_W 240 d 0 0 0 0 44 [some (.ref 260), some (.int (nI k)), some (.int (nI i))] [] w1 (J, E, RR R) Q := by
      intro d I D Q hd hq J E x1 x2
      have x1 : RRs T n (dep + 1) s2 J E := x1
      by_cases e : (ptk s2).1 = 262
      · exact rw240b hk3 (by omega) (x1.bad e) hik (hq J E (x1.1 e) x2)
      · have hG := x1.2 e
        refine r240d hk3 hik (by omega) ?_
        have hQ := hq _ E hG.w (x2.tr (RRg.u (by decide) (by decide)))
        by_cases hl : i + 1 < k
        · rw [if_pos hl] at h4
          exact r240i hk3 (by omega) (by omega) (fun h => by omega) (fun _ h => absurd h (nI_le0 (by omega) (by omega))) (fun _ _ => r240y hk3 hl (by omega) hG (by decide) h4 (by decide) (by rw [j_u_same]) (by decide) (rw240b hk3 (by omega) (by rw [j_u_same]) hl hQ))
        · rw [if_neg hl] at h4
          exact r240u hk3 (by omega) (by omega) (by omega) (fun _ => hG) (fun _ => by decide) (fun _ h => absurd h h4) (fun _ _ => hQ) (fun h => by omega)
    exact ⟨fun h0 ht d I D Q hd hs hz hk hS hq => (r7 hk1 hk3 hdl hik h2 (h3.2 (by omega)) hd hs hz (go d I D Q hd hq)).1 h0 ht hS, fun h0 ht d I D Q hd hs hz hk hS hq => (r7 hk1 hk3 hdl hik h2 (h3.2 (by omega)) hd hs hz (go d I D Q hd hq)).2 h0 ht hS⟩
  · have go : ∀ (d : Nat) (I : Nat → Nat → Int32) (D : Nat → Nat → UInt64) (Q : j_Po), 7 + 5 * (4 - dep) ≤ d → okP n s → pz s ≤ pb s → (∀ k, k < n → T k < 256) → (∀ J D', RRo T n dep o J D' → RRg I D J D' → Q none w1 (J, D', RR R)) → ∀ J E, RRo T n (dep + 1) (.inr s2) J E → RRg I D J E → j_W 240 d 0 0 0 0 44 [some (.ref 260), some (.int (nI k)), some (.int (nI i))] [] w1 (J, E, RR R) Q := by
      intro d I D Q hd hs hz hT hq J E x1 x2
      obtain ⟨a1, a2, a3⟩ := nx_z h2 hs hz
      obtain ⟨z1, z2⟩ := h3.1.z a1 a2
      exact r240d hk3 hik (by omega) ((h5.2 hd4 hk1 hk3 hdl hik).2 (by omega) h4 d J E Q hd z1 z2 (h3.1.k hT (h2.1.K hT)) x1 (fun J' E' u v => hq J' E' u (x2.tr v)))
    exact ⟨fun h0 ht d I D Q hd hs hz hk hS hq => (r7 hk1 hk3 hdl hik h2 (h3.2 (by omega)) hd hs hz (go d I D Q hd hs hz (hTT hS) hq)).1 h0 ht hS, fun h0 ht d I D Q hd hs hz hk hS hq => (r7 hk1 hk3 hdl hik h2 (h3.2 (by omega)) hd hs hz (go d I D Q hd hs hz (hTT hS) hq)).2 h0 ht hS⟩
end RI
