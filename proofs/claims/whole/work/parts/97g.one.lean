/-! the class reads one -/
set_option maxRecDepth 10000 in
set_option maxHeartbeats 4000000 in
theorem s89e {d : Nat} {I : Nat → Nat → Int32} {D : Nat → Nat → UInt64} {R : Nat → Nat → Option Nat} {Q : j_Po} {p : Nat}   (hd : 6 ≤ d)
    (v1 : j_W 89 d 0 0 0 0 4 [some (.ref 97), some (.int (nI p))] [.int (I 97 5)] w1 (I, D, RR R) Q) : j_Call d 89 [.ref 97, .int (nI p)] w1 (I, D, RR R) 0 0 Q := by
  refine q_enter (L := [some (.ref 97), some (.int (nI p))]) j_m89 (Nat.le_of_ble_eq_true rfl) rfl ?_
  refine q_aload_n d89_0 rfl ?_
  refine q_getI d89_1 (fs5_42 89 rfl) rfl (lt_w1 rfl) sh97 ?_
  exact r_sub (L' := [some (.ref 97), some (.int (nI p))]) ⟨rfl, rfl, trivial⟩ v1

theorem sw89 {d mc ms k n : Nat} {L : List (Option Value)} {st : List Value} {w : j_Wd} {τ : j_St} {Q : j_Po} {t : Nat} (ht : t < 300) (c40 : t = 40 → j_W 89 d mc ms k n 144 L st w τ Q) (c45 : t = 45 → j_W 89 d mc ms k n 136 L st w τ Q) (cN : t = 257 ∨ t = 258 → j_W 89 d mc ms k n 72 L st w τ Q) (cI : t = 259 → j_W 89 d mc ms k n 91 L st w τ Q) (cC : t = 260 → j_W 89 d mc ms k n 121 L st w τ Q) (cQ : t = 261 → j_W 89 d mc ms k n 129 L st w τ Q) (cD : t ≠ 257 → t ≠ 258 → t ≠ 259 → t ≠ 260 → t ≠ 261 → t ≠ 45 → t ≠ 40 → j_W 89 d mc ms k n 153 L st w τ Q) : j_W 89 d mc ms k n 4 L (.int (nI t) :: st) w τ Q := by
  by_cases h40 : t = 40
  · subst h40; exact q_lookup (tgt := 144) (off := 140) d89_4 (by decide) (by decide +kernel) (by decide) (c40 rfl)
  by_cases h45 : t = 45
  · subst h45; exact q_lookup (tgt := 136) (off := 132) d89_4 (by decide) (by decide +kernel) (by decide) (c45 rfl)
  by_cases h257 : t = 257
  · subst h257; exact q_lookup (tgt := 72) (off := 68) d89_4 (by decide) (by decide +kernel) (by decide) (cN (Or.inl rfl))
  by_cases h258 : t = 258
  · subst h258; exact q_lookup (tgt := 72) (off := 68) d89_4 (by decide) (by decide +kernel) (by decide) (cN (Or.inr rfl))
  by_cases h259 : t = 259
  · subst h259; exact q_lookup (tgt := 91) (off := 87) d89_4 (by decide) (by decide +kernel) (by decide) (cI rfl)
  by_cases h260 : t = 260
  · subst h260; exact q_lookup (tgt := 121) (off := 117) d89_4 (by decide) (by decide +kernel) (by decide) (cC rfl)
  by_cases h261 : t = 261
  · subst h261; exact q_lookup (tgt := 129) (off := 125) d89_4 (by decide) (by decide +kernel) (by decide) (cQ rfl)
  have hoff : ∀ t, t < 300 → (t = 40 ∨ t = 45 ∨ t = 257 ∨ t = 258 ∨ t = 259 ∨ t = 260 ∨ t = 261) ∨ Op.lookupswitch.offset (#[(40, 140), (45, 132), (257, 68), (258, 68), (259, 87), (260, 117), (261, 125)] : Array (Int × Int)).toList 149 (nI t).toInt = 149 := by decide +kernel
  exact q_lookup (tgt := 153) (off := 149) d89_4 (by decide) ((hoff t ht).resolve_left (fun h => by omega)) (by decide) (cD h257 h258 h259 h260 h261 h45 h40)
