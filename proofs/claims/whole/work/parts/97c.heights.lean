/-! heights of what is read -/
abbrev Hp (s : PSt) : Nat := hgt (pS s) (pz s)
theorem hgt_cg {f g : Nat → Nat × Nat} : ∀ {k : Nat}, (∀ j, j < k → f j = g j) → hgt f k = hgt g k
  | 0, _ => rfl
  | k + 1, h => by
    show hgt f k + 1 - pops (f k).1 = hgt g k + 1 - pops (g k).1
    rw [hgt_cg (fun j hj => h j (by omega)), h k (by omega)]
def Ext (s s' : PSt) (M : Nat) : Prop := pz s ≤ pz s' ∧ (∀ j, j < pz s → pS s' j = pS s j) ∧ ∀ j, pz s ≤ j → j < pz s' → stV (pS s' j) ∧ pops (pS s' j).1 ≤ hgt (pS s') j ∧ hgt (pS s') (j + 1) ≤ M
theorem Ext.tr {s s1 s2 : PSt} {M : Nat} (h : Ext s s1 M) (h' : Ext s1 s2 M) : Ext s s2 M := by
  obtain ⟨a1, a2, a3⟩ := h
  obtain ⟨b1, b2, b3⟩ := h'
  refine ⟨by omega, fun j hj => (b2 j (by omega)).trans (a2 j hj), fun j h1 h2 => ?_⟩
  by_cases hj : j < pz s1
  · obtain ⟨c1, c2, c3⟩ := a3 j h1 hj
    rw [b2 j hj, hgt_cg (k := j) (g := pS s1) (fun i hi => b2 i (by omega)), hgt_cg (k := j + 1) (g := pS s1) (fun i hi => b2 i (by omega))]
    exact ⟨c1, c2, c3⟩
  · exact b3 j (by omega) h2
theorem Ext.mo {s s' : PSt} {M M' : Nat} (h : Ext s s' M) (hM : M ≤ M') : Ext s s' M' := ⟨h.1, h.2.1, fun j h1 h2 => by obtain ⟨a, b, c⟩ := h.2.2 j h1 h2; exact ⟨a, b, by omega⟩⟩
theorem Ext.rf {s : PSt} {M : Nat} : Ext s s M := ⟨Nat.le_refl _, fun _ _ => rfl, fun j h1 h2 => by omega⟩
theorem Ext.nx {T : Nat → Nat} {n : Nat} {s s' : PSt} {M : Nat} (h : nxP T n s s') : Ext s s' M ∧ Hp s' = Hp s := by
  obtain ⟨-, h1, h2⟩ := h
  refine ⟨⟨by omega, fun j _ => by rw [h2], fun j a b => by omega⟩, ?_⟩
  show hgt (pS s') (pz s') = hgt (pS s) (pz s)
  rw [h1, h2]
theorem Ext.ad {s : PSt} {a w M : Nat} (hv : stV (a, w)) (hp : pops a ≤ Hp s) (hM : Hp s + 1 - pops a ≤ M) : Ext s (addP s a w) M ∧ Hp (addP s a w) = Hp s + 1 - pops a := by
  have e1 : ∀ j, j < pz s → pS (addP s a w) j = pS s j := fun j hj => fu_n (Nat.ne_of_lt hj)
  have e2 : pS (addP s a w) (pz s) = (a, w) := fu_s
  have e3 : hgt (pS (addP s a w)) (pz s) = Hp s := hgt_cg e1
  have e4 : hgt (pS (addP s a w)) (pz s + 1) = Hp s + 1 - pops a := by
    show hgt (pS (addP s a w)) (pz s) + 1 - pops (pS (addP s a w) (pz s)).1 = _
    rw [e3, e2]
  refine ⟨⟨by show pz s ≤ pz s + 1; omega, e1, fun j h1 h2 => ?_⟩, e4⟩
  have h2' : j < pz s + 1 := h2
  have : j = pz s := by omega
  subst this
  rw [e2, e3, e4]
  exact ⟨hv, hp, hM⟩
/-- tokens as they are looked at -/
def okT (t : Nat × Nat) : Prop := ((t.1 = 257 ∨ t.1 = 258) → t.2 < 10000000) ∧ (t.1 = 259 → t.2 < 24) ∧ (t.1 = 260 → t.2 = 10 ∨ t.2 = 11 ∨ t.2 = 12) ∧ (t.1 = 261 → t.2 ≤ 4)
theorem okT_s {c w : Nat} (h : c < 257 ∨ c = 262) : okT (c, w) := ⟨fun h2 => by simp only at h2; omega, fun h2 => by simp only at h2; omega, fun h2 => by simp only at h2; omega, fun h2 => by simp only at h2; omega⟩
theorem wtok_T {q : Nat} (h : q < 8) : okT (wtok q) := by
  have : ∀ q, q < 8 → ((wtok q).1 = 260 → (wtok q).2 = 10 ∨ (wtok q).2 = 11 ∨ (wtok q).2 = 12) ∧ ((wtok q).1 = 261 → (wtok q).2 ≤ 4) ∧ 260 ≤ (wtok q).1 := by decide
  obtain ⟨a, b, c⟩ := this q h
  exact ⟨fun h2 => by omega, fun h2 => by omega, a, b⟩
theorem Lx.T {T : Nat → Nat} {n p b e : Nat} {tk : Nat × Nat} (hT : ∀ j, j < n → T j < 256) (h : Lx T n p b e tk) : okT tk := by
  rcases h.2 with ⟨-, -, rfl⟩ | ⟨h0, h1, -, h2⟩ | ⟨h0, h1, c, hc, h2⟩ | ⟨a1, -, -, -, ⟨-, rfl⟩ | ⟨-, rfl⟩⟩
  · exact okT_s (Or.inl (by decide))
  · rcases h2 with ⟨-, h3, rfl⟩ | ⟨-, -, rfl⟩ | ⟨-, q, hq, -, rfl⟩ | ⟨-, -, rfl⟩
    · unfold isLt at h1
      exact ⟨fun h => by simp only at h; omega, fun _ => by show T b - 97 < 24; omega, fun h => by simp only at h; omega, fun h => by simp only at h; omega⟩
    · exact okT_s (Or.inr rfl)
    · exact wtok_T hq
    · exact okT_s (Or.inr rfl)
  · have hdv : c - b ≤ 4 → dvl T b (c - b) < 10000 := fun h4 => dvl_lt (fun j hj => (hc.2.1 (b + j) (by omega) (by omega)).2) h4
    rcases h2 with ⟨-, -, ⟨-, rfl⟩ | ⟨h4, rfl⟩⟩ | ⟨-, hr, ⟨-, rfl⟩ | ⟨⟨h4, -, h5⟩, rfl⟩⟩
    · exact okT_s (Or.inr rfl)
    · have := hdv h4
      exact ⟨fun _ => by show 1000 * dvl T b (c - b) < 10000000; omega, fun h => by simp only at h; omega, fun h => by simp only at h; omega, fun h => by simp only at h; omega⟩
    · exact okT_s (Or.inr rfl)
    · have h6 := hdv h4
      have h7 : gvl T (c + 1) (e - (c + 1)) < 1000 := gvl_lt (fun j hj => (hr.2.1 (c + 1 + j) (by omega) (by omega)).2)
      exact ⟨fun _ => by show 1000 * dvl T b (c - b) + gvl T (c + 1) (e - (c + 1)) < 10000000; omega, fun h => by simp only at h; omega, fun h => by simp only at h; omega, fun h => by simp only at h; omega⟩
  · exact okT_s (Or.inl (by have := hT b a1; omega))
  · exact okT_s (Or.inr rfl)
def Bm (m dep k i : Nat) : Nat := if m = 0 then 1 + 6 * (4 - dep) else if m = 1 then 2 + 6 * (4 - dep) else if m = 2 then 1 + 6 * (4 - dep) else if m = 3 then 3 + 6 * (4 - dep) else if m = 4 then 2 + 6 * (4 - dep) else if m = 5 then 4 + 6 * (4 - dep) else (k - i) + 4 + 6 * (3 - dep)
def dl (m k i : Nat) : Nat := if m = 0 ∨ m = 1 ∨ m = 3 ∨ m = 5 then 1 else if m = 2 ∨ m = 4 then 0 else k - i
def hP : PRel := fun m dep k i s o => okT (ptk s) → ((m = 2 ∨ m = 4) → 1 ≤ Hp s) → ((m = 6 ∨ m = 7) → i ≤ k ∧ k ≤ 3) → match o with
  | .inl _ => True
  | .inr s' => okT (ptk s') ∧ Ext s s' (Hp s + Bm m dep k i) ∧ Hp s' = Hp s + dl m k i ∧ (m = 6 → dep < 4)
theorem st_n {w : Nat} (h : w < 10000000) : stV (0, w) := by unfold stV; simp only; omega
theorem st_i {w : Nat} (h : w < 24) : stV (1, w) := by unfold stV; simp only; omega
theorem st_o {a : Nat} (h1 : 2 ≤ a) (h2 : a ≤ 12) : stV (a, 0) := ⟨(by show a ≤ 17; omega), fun h => absurd (show a = 0 from h) (by omega), fun h => absurd (show a = 1 from h) (by omega), fun _ _ => rfl, fun h => absurd (show 13 ≤ a from h) (by omega)⟩
theorem st_q {q t : Nat} (h1 : q ≤ 4) (h2 : t < 6) : stV (13 + q, t) := by unfold stV; simp only; omega
theorem pops_b {a : Nat} (h1 : 3 ≤ a) (h2 : a ≤ 11) : pops a = 2 := by unfold pops; rw [if_neg (by omega), if_neg (by omega), if_pos h2]
/-- one more operand and its operator -/
theorem hPl {T : Nat → Nat} {n : Nat} {s s1 s2 : PSt} {B a : Nat} (h2 : nxP T n s s1) (hH : 1 ≤ Hp s) (h3 : Ext s1 s2 (Hp s1 + B) ∧ Hp s2 = Hp s1 + 1) (ha : 3 ≤ a) (ha2 : a ≤ 11) (hB : 0 < B) : Ext s (addP s2 a 0) (Hp s + B) ∧ Hp (addP s2 a 0) = Hp s := by
  obtain ⟨e1, e2⟩ := Ext.nx (M := Hp s + B) h2
  have hp := pops_b ha ha2
  obtain ⟨g1, g2⟩ := h3
  rw [e2] at g1 g2
  obtain ⟨f1, f2⟩ := Ext.ad (s := s2) (w := 0) (M := Hp s + B) (st_o (a := a) (by omega) (by omega)) (by rw [hp]; show 2 ≤ Hp s2; omega) (by rw [hp]; show Hp s2 + 1 - 2 ≤ Hp s + B; omega)
  exact ⟨(e1.tr g1).tr f1, by rw [f2, hp]; show Hp s2 + 1 - 2 = Hp s; omega⟩
