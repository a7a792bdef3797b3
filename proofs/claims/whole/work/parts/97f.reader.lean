/-! the class reads -/
/-- nothing but the reader and the formula that it makes is other -/
def RCg (o : Nat) (I0 I : Nat → Nat → Int32) : Prop := (∀ q, q ≠ 97 → q ≠ o → q ≠ o + 1 → q ≠ o + 2 → I q = I0 q) ∧ ∀ i, i < 3 → I 97 i = I0 97 i
/-- the class's reader stands in state s -/
def RC (T : Nat → Nat) (n o : Nat) (I0 I : Nat → Nat → Int32) (s : PSt) : Prop := RCg o I0 I ∧ TC T n I ∧ I 97 7 = -1 ∧ I 97 3 = nI (pb s) ∧ I 97 4 = nI (pe s) ∧ I 97 5 = nI (ptk s).1 ∧ (257 ≤ (ptk s).1 → (ptk s).1 ≤ 261 → I 97 6 = nI (ptk s).2) ∧ FR (pz s) (pS s) I o
/-- it has met its fault at f -/
def RCf (T : Nat → Nat) (n o : Nat) (I0 I : Nat → Nat → Int32) (f : Nat) : Prop := RCg o I0 I ∧ TC T n I ∧ I 97 7 = nI f ∧ FRj I o
def RCo (T : Nat → Nat) (n o : Nat) (I0 I : Nat → Nat → Int32) : POut → Prop
  | .inl f => RCf T n o I0 I f
  | .inr s => RC T n o I0 I s
section RC9
variable {d : Nat} {I0 I : Nat → Nat → Int32} {D : Nat → Nat → UInt64} {R : Nat → Nat → Option Nat} {Q : j_Po} {T : Nat → Nat} {n o : Nat} {s : PSt}
theorem RCg.tr {I J : Nat → Nat → Int32} (h : RCg o I0 I) (h' : RCg o I J) : RCg o I0 J := ⟨fun q a b c e => (h'.1 q a b c e).trans (h.1 q a b c e), fun i hi => (h'.2 i hi).trans (h.2 i hi)⟩
theorem rc_o (ho : isBF o) : o = 99 ∨ 114 ≤ o := by rcases isBF_rng ho with h | h <;> omega
theorem FR.of {z : Nat} {f : Nat → Nat × Nat} {J : Nat → Nat → Int32} (h : FR z f I o) (hJ : ∀ q, q ≠ 97 → J q = I q) (ho : isBF o) : FR z f J o := by
  have := rc_o ho
  exact h.cg (hJ o (by omega)) (hJ (o + 1) (by omega)) (hJ (o + 2) (by omega))
/-- a look: the next state -/
theorem rc_look (ho : isBF o) (hs : okP n s) (h : RC T n o I0 I s) (hd : 6 ≤ d) (hq : ∀ J s', nxP T n s s' → okP n s' → pe s ≤ pb s' → RC T n o I0 J s' → Q none w1 (J, D, RR R)) : j_Call d 67 [.ref 97] w1 (I, D, RR R) 0 0 Q := by
  obtain ⟨hg, hT, h7, h3, h4, h5, h6, hF⟩ := h
  refine c67 hT h4 hs.2.1 hd (fun J b e tk hx hr => ?_)
  obtain ⟨r1, r2, r3, r4, r5, r6⟩ := hr
  have hn : nxP T n s (b, e, tk, pz s, pS s) := ⟨hx, rfl, rfl⟩
  obtain ⟨k1, k2⟩ := hn.ok hs
  refine hq J (b, e, tk, pz s, pS s) hn k1 k2 ⟨hg.tr ⟨fun q a _ _ _ => r1 q a, fun i hi => r2 i (by omega) (by omega) (by omega) (by omega)⟩, ?_, ?_, r3, r4, r5, r6, hF.of r1 ho⟩
  · exact hT.cg (r2 1 (by decide) (by decide) (by decide) (by decide)) (r1 98 (by decide))
  · rw [r2 7 (by decide) (by decide) (by decide) (by decide)]; exact h7
/-- the fault is set down -/
theorem rc_stop (hs : okP n s) (hz : pz s ≤ 96) (h : RC T n o I0 I s) (hq : ∀ J, RCf T n o I0 J (pb s) → Q none w1 (J, D, RR R)) : j_Call d 94 [.ref 97] w1 (I, D, RR R) 0 0 Q := by
  obtain ⟨hg, hT, h7, h3, h4, h5, h6, hF⟩ := h
  refine s94 (Nat.zero_le _) (fun h => absurd h7 h) (fun _ => hq _ ⟨hg.tr ⟨fun q a _ _ _ => ?_, fun i hi => ?_⟩, ?_, ?_, ?_⟩)
  · funext i; rw [j_u_o _ _ _ a]
  · rw [j_u_k _ _ (by omega)]
  · exact hT.cg (by rw [j_u_k _ _ (by decide)]) (by funext i; rw [j_u_o _ _ _ (by decide)])
  · rw [j_u_same]; exact h3
  · refine ⟨pz s, hz, ?_⟩
    by_cases e : o = 97
    · subst e; rw [j_u_k _ _ (by decide)]; exact hF.1
    · rw [j_u_o _ _ _ e]; exact hF.1
theorem RCg.fm {J : Nat → Nat → Int32} (ho : isBF o) (hJ : ∀ q, q ≠ o → q ≠ o + 1 → q ≠ o + 2 → J q = I q) : RCg o I J ∧ J 97 = I 97 ∧ J 98 = I 98 := by
  have := rc_o ho
  have h97 := hJ 97 (by omega) (by omega) (by omega)
  exact ⟨⟨fun q _ a b c => hJ q a b c, fun i _ => by rw [h97]⟩, h97, hJ 98 (by omega) (by omega) (by omega)⟩
theorem RC.fm {J : Nat → Nat → Int32} {a w : Nat} (ho : isBF o) (h : RC T n o I0 I s) (hJ : ∀ q, q ≠ o → q ≠ o + 1 → q ≠ o + 2 → J q = I q) (hF : FR (pz s + 1) (fu (pS s) (pz s) (a, w)) J o) : RC T n o I0 J (addP s a w) := by
  obtain ⟨hg, hT, h7, h3, h4, h5, h6, -⟩ := h
  obtain ⟨k1, k2, k3⟩ := RCg.fm ho hJ
  refine ⟨hg.tr k1, hT.cg (by rw [k2]) k3, ?_, ?_, ?_, ?_, ?_, hF⟩
  · rw [k2]; exact h7
  · rw [k2]; exact h3
  · rw [k2]; exact h4
  · rw [k2]; exact h5
  · rw [k2]; exact h6
/-- a step that names nothing -/
theorem rc_add {a w : Nat} (ho : isBF o) (hz : pz s < 96) (h : RC T n o I0 I s) (h1 : a ≠ 1) (h2 : a < 13) (hw : w < 16777216) (hq : ∀ J, RC T n o I0 J (addP s a w) → Q none w1 (J, D, RR R)) : j_Call d 90 [.ref o, .int (nI a), .int (nI w)] w1 (I, D, RR R) 0 0 Q :=
  c90 (isBF_F ho) h.2.2.2.2.2.2.2 hz (by omega) hw (fun J hJ hF => hq J (h.fm ho (fun q q1 q2 _ => hJ q q1 q2) (hF.p h1 h2)))
/-- a step behind a fault -/
theorem rc_addj {f : Nat} {x y : Int32} (ho : isBF o) (h : RCf T n o I0 I f) (hq : ∀ J, RCf T n o I0 J f → Q none w1 (J, D, RR R)) : j_Call d 90 [.ref o, .int x, .int y] w1 (I, D, RR R) 0 0 Q := by
  obtain ⟨hg, hT, h7, hF⟩ := h
  refine c90j (isBF_F ho) hF (fun J hJ hF2 => ?_)
  obtain ⟨k1, k2, k3⟩ := RCg.fm ho (fun q q1 q2 _ => hJ q q1 q2)
  exact hq J ⟨hg.tr k1, hT.cg (by rw [k2]) k3, by rw [k2]; exact h7, hF2⟩
def RCx (T : Nat → Nat) (n o : Nat) (I0 I : Nat → Nat → Int32) (s : PSt) (a w : Nat) : Prop := RCg o I0 I ∧ TC T n I ∧ I 97 7 = -1 ∧ I 97 3 = nI (pb s) ∧ I 97 4 = nI (pe s) ∧ I 97 5 = nI (ptk s).1 ∧ (257 ≤ (ptk s).1 → (ptk s).1 ≤ 261 → I 97 6 = nI (ptk s).2) ∧ FRx (pz s) (pS s) a w I o
/-- a step whose name comes behind it -/
theorem rc_addx {a w : Nat} (ho : isBF o) (hz : pz s < 96) (h : RC T n o I0 I s) (ha : a ≤ 17) (hw : w < 16777216) (hq : ∀ J, RCx T n o I0 J s a w → Q none w1 (J, D, RR R)) : j_Call d 90 [.ref o, .int (nI a), .int (nI w)] w1 (I, D, RR R) 0 0 Q := by
  obtain ⟨hg, hT, h7, h3, h4, h5, h6, hF⟩ := h
  refine c90 (isBF_F ho) hF hz ha hw (fun J hJ hF2 => ?_)
  obtain ⟨k1, k2, k3⟩ := RCg.fm ho (fun q q1 q2 _ => hJ q q1 q2)
  exact hq J ⟨hg.tr k1, hT.cg (by rw [k2]) k3, by rw [k2]; exact h7, by rw [k2]; exact h3, by rw [k2]; exact h4, by rw [k2]; exact h5, by rw [k2]; exact h6, hF2⟩
theorem RCx.fm {J : Nat → Nat → Int32} {a w : Nat} (ho : isBF o) (h : RCx T n o I0 I s a w) (hJ : ∀ q, q ≠ o → q ≠ o + 1 → q ≠ o + 2 → J q = I q) (hF : FR (pz s + 1) (fu (pS s) (pz s) (a, w)) J o) : RC T n o I0 J (addP s a w) := by
  obtain ⟨hg, hT, h7, h3, h4, h5, h6, -⟩ := h
  obtain ⟨k1, k2, k3⟩ := RCg.fm ho hJ
  exact ⟨hg.tr k1, hT.cg (by rw [k2]) k3, by rw [k2]; exact h7, by rw [k2]; exact h3, by rw [k2]; exact h4, by rw [k2]; exact h5, by rw [k2]; exact h6, hF⟩
theorem rc_cell {w : Nat} (ho : isBF o) (hw : w < 24) (h : RCx T n o I0 I s 1 w) (hq : ∀ J, RC T n o I0 J (addP s 1 w) → Q none w1 (J, D, RR R)) : j_Call d 91 [.ref o, .int (nI w)] w1 (I, D, RR R) 0 0 Q :=
  c91 (isBF_F ho) hw h.2.2.2.2.2.2.2 (fun J hJ hF => hq J (h.fm ho (fun q q1 _ _ => hJ q q1) hF))
theorem rc_table {a w : Nat} (ho : isBF o) (hw : w < 6) (ha : 13 ≤ a) (h : RCx T n o I0 I s a w) (hq : ∀ J, RC T n o I0 J (addP s a w) → Q none w1 (J, D, RR R)) : j_Call d 96 [.ref o, .int (nI w)] w1 (I, D, RR R) 0 0 Q :=
  c96 (isBF_F ho) hw ha h.2.2.2.2.2.2.2 (fun J hJ hF => hq J (h.fm ho (fun q q1 _ q3 => hJ q q1 q3) hF))
end RC9
