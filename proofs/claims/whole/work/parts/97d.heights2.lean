/-! the rules keep heights -/
section HR9
variable {T : Nat → Nat} {n : Nat}
theorem pops_q {q : Nat} : pops (13 + q) = 0 := by unfold pops; rw [if_neg (by omega), if_neg (by omega), if_neg (by omega), if_neg (by omega)]
theorem hP0 (hT : ∀ j, j < n → T j < 256) : PC0 T n hP := by
  refine ⟨fun dep s s' h1 h2 hs _ _ => ?_, fun dep s s' h1 h2 hs _ _ => ?_, fun dep s s1 o h1 h2 h3 hs _ _ => ?_, fun dep s s1 s2 h1 h2 h3 h4 h5 hs _ _ => ?_, fun dep s s1 h1 h2 h3 hs _ _ => trivial, fun dep s h1 h2 hs _ _ => trivial, fun dep s s1 o h1 h2 h3 h4 hs _ _ => ?_, fun dep s o h1 h2 hs _ _ => ?_, fun dep s a b c d e f g hs _ _ => trivial⟩
  · obtain ⟨f1, f2⟩ := Ext.ad (s := s) (a := 0) (w := (ptk s).2) (M := Hp s + Bm 0 dep 0 0) (st_n (hs.1 h1)) (Nat.zero_le _) (by show Hp s + 1 - 0 ≤ Hp s + (1 + 6 * (4 - dep)); omega)
    obtain ⟨g1, g2⟩ := Ext.nx (M := Hp s + Bm 0 dep 0 0) h2
    exact ⟨h2.1.T hT, f1.tr g1, g2.trans f2, fun h => absurd h (by decide)⟩
  · obtain ⟨f1, f2⟩ := Ext.ad (s := s) (a := 1) (w := (ptk s).2) (M := Hp s + Bm 0 dep 0 0) (st_i (hs.2.1 h1)) (Nat.zero_le _) (by show Hp s + 1 - 0 ≤ Hp s + (1 + 6 * (4 - dep)); omega)
    obtain ⟨g1, g2⟩ := Ext.nx (M := Hp s + Bm 0 dep 0 0) h2
    exact ⟨h2.1.T hT, f1.tr g1, g2.trans f2, fun h => absurd h (by decide)⟩
  · cases o with
    | inl f => trivial
    | inr t =>
      have hw := hs.2.2.1 h1
      have hk : (if (ptk s).2 = 12 then 3 else 2) ≤ 3 := by split <;> omega
      obtain ⟨q1, q2, q3, q4⟩ := h3 (h2.1.T hT) (fun h => by omega) (fun _ => ⟨Nat.zero_le _, hk⟩)
      obtain ⟨g1, g2⟩ := Ext.nx (M := Hp s + Bm 0 dep 0 0) h2
      have hdep := q4 rfl
      have hpk : pops (ptk s).2 = (if (ptk s).2 = 12 then 3 else 2) := by rcases hw with e | e | e <;> rw [e] <;> rfl
      have q3' : Hp t = Hp s1 + ((if (ptk s).2 = 12 then 3 else 2) - 0) := q3
      have q2' : Ext s1 t (Hp s1 + (((if (ptk s).2 = 12 then 3 else 2) - 0) + 4 + 6 * (3 - dep))) := q2
      rw [g2] at q3' q2'
      obtain ⟨f1, f2⟩ := Ext.ad (s := t) (a := (ptk s).2) (w := 0) (M := Hp s + Bm 0 dep 0 0) (st_o (by omega) (by omega)) (by rw [hpk]; omega) (by rw [hpk]; show Hp t + 1 - _ ≤ Hp s + (1 + 6 * (4 - dep)); omega)
      refine ⟨q1, (g1.tr (q2'.mo ?_)).tr f1, ?_, fun h => absurd h (by decide)⟩
      · show _ ≤ Hp s + (1 + 6 * (4 - dep)); omega
      · show Hp (addP t (ptk s).2 0) = Hp s + 1
        rw [f2, hpk]; show Hp t + 1 - _ = _; omega
  · have hq := hs.2.2.2 h1
    obtain ⟨g1, g2⟩ := Ext.nx (M := Hp s + Bm 0 dep 0 0) h2
    obtain ⟨f1, f2⟩ := Ext.ad (s := s1) (a := 13 + (ptk s).2) (w := (ptk s1).2 / 1000) (M := Hp s + Bm 0 dep 0 0) (st_q hq (by omega)) (by rw [pops_q]; exact Nat.zero_le _) (by rw [pops_q, g2]; show Hp s + 1 - 0 ≤ Hp s + (1 + 6 * (4 - dep)); omega)
    obtain ⟨k1, k2⟩ := Ext.nx (M := Hp s + Bm 0 dep 0 0) h5
    refine ⟨h5.1.T hT, (g1.tr f1).tr k1, k2.trans (f2.trans ?_), fun h => absurd h (by decide)⟩
    rw [pops_q, g2]; rfl
  · cases o with
    | inl f => trivial
    | inr t =>
      obtain ⟨q1, q2, q3, q4⟩ := h4 (h3.1.T hT) (fun h => by omega) (fun h => by omega)
      obtain ⟨g1, g2⟩ := Ext.nx (M := Hp s + Bm 0 dep 0 0) h3
      have q3' : Hp t = Hp s1 + 1 := q3
      have q2' : Ext s1 t (Hp s1 + (1 + 6 * (4 - (dep + 1)))) := q2
      rw [g2] at q3' q2'
      obtain ⟨f1, f2⟩ := Ext.ad (s := t) (a := 2) (w := 0) (M := Hp s + Bm 0 dep 0 0) (st_o (by decide) (by decide)) (by show 1 ≤ Hp t; omega) (by show Hp t + 1 - 1 ≤ Hp s + (1 + 6 * (4 - dep)); omega)
      refine ⟨q1, (g1.tr (q2'.mo ?_)).tr f1, ?_, fun h => absurd h (by decide)⟩
      · show _ ≤ Hp s + (1 + 6 * (4 - dep)); omega
      · show Hp (addP t 2 0) = Hp s + 1
        rw [f2]; show Hp t + 1 - 1 = _; omega
  · cases o with
    | inl f => trivial
    | inr t =>
      obtain ⟨q1, q2, q3, q4⟩ := h2 hs (fun h => by omega) (fun _ => ⟨by decide, by decide⟩)
      have hdep := q4 rfl
      have q2' : Ext s t (Hp s + ((1 - 0) + 4 + 6 * (3 - dep))) := q2
      exact ⟨q1, q2'.mo (by show _ ≤ Hp s + (1 + 6 * (4 - dep)); omega), q3, fun h => absurd h (by decide)⟩
theorem hP1 (hT : ∀ j, j < n → T j < 256) : PC1 T n hP := by
  refine ⟨fun dep s f h hs _ _ => trivial, fun dep s s1 o h1 h2 hs _ _ => ?_, fun dep s h hs _ _ => ⟨hs, Ext.rf, rfl, fun h => absurd h (by decide)⟩, fun dep s s1 f h1 h2 h3 hs _ _ => trivial, fun dep s s1 s2 o h1 h2 h3 h4 hs hH _ => ?_⟩
  · cases o with
    | inl f => trivial
    | inr t =>
      obtain ⟨q1, q2, q3, q4⟩ := h1 hs (fun h => by omega) (fun h => by omega)
      have q3' : Hp s1 = Hp s + 1 := q3
      obtain ⟨k1, k2, k3, k4⟩ := h2 q1 (fun _ => by omega) (fun h => by omega)
      have k3' : Hp t = Hp s1 := k3
      have q2' : Ext s s1 (Hp s + (1 + 6 * (4 - dep))) := q2
      have k2' : Ext s1 t (Hp s1 + (1 + 6 * (4 - dep))) := k2
      refine ⟨k1, (q2'.mo ?_).tr (k2'.mo ?_), ?_, fun h => absurd h (by decide)⟩
      · show _ ≤ Hp s + (2 + 6 * (4 - dep)); omega
      · show _ ≤ Hp s + (2 + 6 * (4 - dep)); omega
      · show Hp t = Hp s + 1; omega
  · have hH' := hH (Or.inl rfl)
    obtain ⟨q1, q2, q3, q4⟩ := h3 (h2.1.T hT) (fun h => by omega) (fun h => by omega)
    have hop : 3 ≤ opT (ptk s).1 ∧ opT (ptk s).1 ≤ 11 := by unfold opT; split <;> (try split) <;> omega
    obtain ⟨f1, f2⟩ := hPl (B := 1 + 6 * (4 - dep)) h2 hH' ⟨q2, q3⟩ hop.1 hop.2 (by omega)
    have e4 := h4 q1 (fun _ => by rw [f2]; exact hH') (fun h => by omega)
    cases o with
    | inl f => trivial
    | inr t =>
      obtain ⟨k1, k2, k3, k4⟩ := e4
      have k3' : Hp t = Hp (addP s2 (opT (ptk s).1) 0) := k3
      have k2' : Ext (addP s2 (opT (ptk s).1) 0) t (Hp (addP s2 (opT (ptk s).1) 0) + (1 + 6 * (4 - dep))) := k2
      rw [f2] at k3' k2'
      exact ⟨k1, f1.tr k2', k3', fun h => absurd h (by decide)⟩
theorem hP2 (hT : ∀ j, j < n → T j < 256) : PC2 T n hP := by
  refine ⟨fun dep s f h hs _ _ => trivial, fun dep s s1 o h1 h2 hs _ _ => ?_, fun dep s h hs _ _ => ⟨hs, Ext.rf, rfl, fun h => absurd h (by decide)⟩, fun dep s s1 f h1 h2 h3 hs _ _ => trivial, fun dep s s1 s2 o h1 h2 h3 h4 hs hH _ => ?_⟩
  · cases o with
    | inl f => trivial
    | inr t =>
      obtain ⟨q1, q2, q3, q4⟩ := h1 hs (fun h => by omega) (fun h => by omega)
      have q3' : Hp s1 = Hp s + 1 := q3
      obtain ⟨k1, k2, k3, k4⟩ := h2 q1 (fun _ => by omega) (fun h => by omega)
      have k3' : Hp t = Hp s1 := k3
      have q2' : Ext s s1 (Hp s + (2 + 6 * (4 - dep))) := q2
      have k2' : Ext s1 t (Hp s1 + (2 + 6 * (4 - dep))) := k2
      refine ⟨k1, (q2'.mo ?_).tr (k2'.mo ?_), ?_, fun h => absurd h (by decide)⟩
      · show _ ≤ Hp s + (3 + 6 * (4 - dep)); omega
      · show _ ≤ Hp s + (3 + 6 * (4 - dep)); omega
      · show Hp t = Hp s + 1; omega
  · have hH' := hH (Or.inr rfl)
    obtain ⟨q1, q2, q3, q4⟩ := h3 (h2.1.T hT) (fun h => by omega) (fun h => by omega)
    have hop : 3 ≤ opS (ptk s).1 ∧ opS (ptk s).1 ≤ 11 := by unfold opS; split <;> omega
    obtain ⟨f1, f2⟩ := hPl (B := 2 + 6 * (4 - dep)) h2 hH' ⟨q2, q3⟩ hop.1 hop.2 (by omega)
    have e4 := h4 q1 (fun _ => by rw [f2]; exact hH') (fun h => by omega)
    cases o with
    | inl f => trivial
    | inr t =>
      obtain ⟨k1, k2, k3, k4⟩ := e4
      have k3' : Hp t = Hp (addP s2 (opS (ptk s).1) 0) := k3
      have k2' : Ext (addP s2 (opS (ptk s).1) 0) t (Hp (addP s2 (opS (ptk s).1) 0) + (2 + 6 * (4 - dep))) := k2
      rw [f2] at k3' k2'
      exact ⟨k1, f1.tr k2', k3', fun h => absurd h (by decide)⟩
theorem hP3 (hT : ∀ j, j < n → T j < 256) : PC3 T n hP := by
  refine ⟨fun dep s f h hs _ _ => trivial, fun dep s s1 h1 h2 hs _ _ => ?_, fun dep s s1 s2 o h1 h2 h3 h4 hs _ _ => ?_, fun dep k s h hs _ _ => trivial, fun dep k s o h1 h2 h3 hs _ hk => ?_, fun dep k s s' h hs _ _ => ?_, fun dep k i s s1 f h1 h2 h3 hs _ _ => trivial, fun dep k i s s1 s2 h1 h2 h3 h4 hs _ _ => trivial, fun dep k i s s1 s2 o h1 h2 h3 h4 h5 hs _ hk => ?_⟩
  · obtain ⟨q1, q2, q3, q4⟩ := h1 hs (fun h => by omega) (fun h => by omega)
    have q2' : Ext s s1 (Hp s + (3 + 6 * (4 - dep))) := q2
    exact ⟨q1, q2'.mo (by show _ ≤ Hp s + (4 + 6 * (4 - dep)); omega), q3, fun h => absurd h (by decide)⟩
  · cases o with
    | inl f => trivial
    | inr t =>
      obtain ⟨q1, q2, q3, q4⟩ := h1 hs (fun h => by omega) (fun h => by omega)
      have q3' : Hp s1 = Hp s + 1 := q3
      have q2' : Ext s s1 (Hp s + (3 + 6 * (4 - dep))) := q2
      obtain ⟨g1, g2⟩ := Ext.nx (M := Hp s + (4 + 6 * (4 - dep))) h3
      obtain ⟨k1, k2, k3, k4⟩ := h4 (h3.1.T hT) (fun h => by omega) (fun h => by omega)
      have k3' : Hp t = Hp s2 + 1 := k3
      have k2' : Ext s2 t (Hp s2 + (3 + 6 * (4 - dep))) := k2
      rw [g2] at k3' k2'
      have hop : opW (ptk s1).1 = 8 ∨ opW (ptk s1).1 = 9 := by unfold opW; split <;> omega
      have hp : pops (opW (ptk s1).1) = 2 := by rcases hop with e | e <;> rw [e] <;> rfl
      obtain ⟨f1, f2⟩ := Ext.ad (s := t) (a := opW (ptk s1).1) (w := 0) (M := Hp s + (4 + 6 * (4 - dep))) (st_o (by omega) (by omega)) (by rw [hp]; show 2 ≤ Hp t; omega) (by rw [hp]; show Hp t + 1 - 2 ≤ _; omega)
      refine ⟨k1, (((q2'.mo ?_).tr g1).tr (k2'.mo ?_)).tr f1, ?_, fun h => absurd h (by decide)⟩
      · omega
      · omega
      · show Hp (addP t (opW (ptk s1).1) 0) = Hp s + 1
        rw [f2, hp]; show Hp t + 1 - 2 = _; omega
  · cases o with
    | inl f => trivial
    | inr t =>
      obtain ⟨q1, q2, q3, q4⟩ := h3 hs (fun h => by omega) (fun _ => hk (Or.inl rfl))
      exact ⟨q1, q2, q3, fun _ => h1⟩
  · obtain ⟨g1, g2⟩ := Ext.nx (M := Hp s + Bm 7 dep k k) h
    exact ⟨h.1.T hT, g1, by show Hp s' = Hp s + (k - k); rw [g2]; omega, fun h => absurd h (by decide)⟩
  · have hk' := hk (Or.inr rfl)
    obtain ⟨g1, g2⟩ := Ext.nx (M := Hp s + ((k - i) + 4 + 6 * (3 - dep))) h2
    obtain ⟨q1, q2, q3, q4⟩ := h3 (h2.1.T hT) (fun h => by omega) (fun h => by omega)
    have q3' : Hp s2 = Hp s1 + 1 := q3
    have q2' : Ext s1 s2 (Hp s1 + (4 + 6 * (4 - (dep + 1)))) := q2
    rw [g2] at q3' q2'
    have e5 := h5 q1 (fun h => by omega) (fun _ => ⟨h1, hk'.2⟩)
    cases o with
    | inl f => trivial
    | inr t =>
      obtain ⟨k1, k2, k3, k4⟩ := e5
      have k3' : Hp t = Hp s2 + (k - (i + 1)) := k3
      have k2' : Ext s2 t (Hp s2 + ((k - (i + 1)) + 4 + 6 * (3 - dep))) := k2
      refine ⟨k1, (g1.tr (q2'.mo ?_)).tr (k2'.mo ?_), ?_, fun h => absurd h (by decide)⟩
      · omega
      · omega
      · show Hp t = Hp s + (k - i); omega
theorem PP.h (hT : ∀ j, j < n → T j < 256) {m dep k i : Nat} {s : PSt} {o : POut} (h : PP T n m dep k i s o) : hP m dep k i s o := h _ ⟨hP0 hT, hP1 hT, hP2 hT, hP3 hT⟩
/-- a whole that is read: its steps are a formula's -/
theorem PP.st (hT : ∀ j, j < n → T j < 256) (hn : n ≤ 96) {b e : Nat} {tk : Nat × Nat} {f : Nat → Nat × Nat} {s' : PSt} (hk : okP n (b, e, tk, 0, f)) (ht : okT tk) (h : PP T n 5 0 0 0 (b, e, tk, 0, f) (.inr s')) : okP n s' ∧ pz s' ≤ 96 ∧ 0 < pz s' ∧ stOK (pz s') (pS s') := by
  obtain ⟨a1, a2, a3, -⟩ := h.g hk
  obtain ⟨-, ⟨c1, c2, c3⟩, c4, -⟩ := h.h hT ht (fun h => by omega) (fun h => by omega)
  have c4' : Hp s' = 0 + 1 := c4
  have a3' : pz s' + b ≤ 0 + pb s' := a3
  have hb := a1.1
  have he := a1.2.1
  have hz : 0 < pz s' := by
    rcases Nat.eq_zero_or_pos (pz s') with h0 | h0
    · have : Hp s' = 0 := by show hgt (pS s') (pz s') = 0; rw [h0]; rfl
      omega
    · exact h0
  refine ⟨a1, by omega, hz, fun j hj => ?_, fun _ => c4'⟩
  obtain ⟨d1, d2, d3⟩ := c3 j (Nat.zero_le _) hj
  have d3' : hgt (pS s') (j + 1) ≤ 0 + (4 + 6 * (4 - 0)) := d3
  exact ⟨d1, d2, by omega⟩
end HR9
