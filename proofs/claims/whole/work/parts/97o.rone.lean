/-! the reference reads one -/
section RJ
variable {R : Nat → Nat → Option Nat} {T : Nat → Nat} {n : Nat}
theorem MRj.up {m m' : Nat} {p : Nat × Nat} {mk : Int32} {F F' : Nat → UInt64} (h : MRj m p mk F) (hm : m ≤ m') (hF : ∀ j, j < m → F' j = F j) : MRj m' p mk F' := by
  refine ⟨fun h0 => ?_, h.2.1, h.2.2.1, h.2.2.2⟩
  obtain ⟨j, h1, h2, h3⟩ := h.1 h0
  exact ⟨j, by omega, h2, by rw [hF j h1]; exact h3⟩
theorem n64_fig (w : Nat) : vf_n64 (FP.ddiv (FP.i2d (nI w)) 4652007308841189376) := Jvm.Free.Fl.ddiv_out (n64_i _) (by unfold Jvm.Free.Fl.Fin64; decide) (by unfold Jvm.Free.Fl.Nz64; decide)
theorem nI_ne_m9 {f : Nat} (h : f < 1000) : ¬ (nI f) = (-1) := by
  intro h2
  have := congrArg Int32.toInt h2
  rw [nI_toInt (by omega)] at this
  have h3 : ((-1 : Int32)).toInt = -1 := by decide
  rw [h3] at this
  omega
theorem nI_s1 {b : Nat} (h : b ≤ 96) : (nI (b + 1)) - (nI b) = 1 := by
  rw [pk_sub (by omega), show b + 1 - b = 1 by omega]; rfl
theorem nI_s2 {b e : Nat} (h : e ≤ 96) (h2 : b + 1 < e) : ¬ (nI e) - (nI b) = 1 := by
  rw [pk_sub (by omega), show (1 : Int32) = nI 1 from rfl, nI_eq (by omega) (by omega)]; omega
/-- a number -/
theorem rnum {dep : Nat} {s s' : PSt} (h1 : (ptk s).1 = 257 ∨ (ptk s).1 = 258) (h2 : nxP T n (addP s 0 (ptk s).2) s') : RKc T n R (8 + 5 * (4 - dep)) dep 237 [.ref 260] s (.inr s') := by
  intro d I D Q hd hs hz hk hS hq
  have hG := hS.2 (by omega)
  obtain ⟨hT, h40, h46, h39, hk', hW, h45, h37, mm, m1, m2, m3⟩ := hG
  have hlt : pb s < pe s := hs.2.2 (by omega)
  have hen := hs.2.1
  have hn := hT.1
  obtain ⟨h41, v, hv, h43, e⟩ := gN hk' h1
  refine r237e (by omega) (fun _ => r237a (k := 2) h41 (by decide) (by omega) (fun h _ => absurd rfl h) (fun h _ => absurd rfl h) (fun _ => ?_)) (fun h => absurd h46 h)
  have newg : ∀ x, x = fig (ptk s).2 → RRG T n dep (addP s 0 (ptk s).2) (j_u (j_u (j_u I 423 (pz s) (nI (100 + mm))) 260 37 (nI (pz s + 1))) 260 38 (nI (mm + 1))) (j_u D 424 mm x) := by
    intro x hx
    refine ⟨?_, ?_, ?_, ?_, ?_, hW, ?_, ?_, mm + 1, ?_, ?_, ?_⟩
    · exact hT.cg (by simp (disch := decide) only [j_u_k, j_u_o]) (by funext i; simp (disch := decide) only [j_u_o])
    · simp (disch := decide) only [j_u_k, j_u_o]; exact h40
    · simp (disch := decide) only [j_u_k, j_u_o]; exact h46
    · simp (disch := decide) only [j_u_k, j_u_o]; exact h39
    · exact hk'.cg (by simp (disch := decide) only [j_u_k, j_u_o]) (by simp (disch := decide) only [j_u_k, j_u_o]) (by simp (disch := decide) only [j_u_k, j_u_o]) (by simp (disch := decide) only [j_u_k, j_u_o])
    · simp (disch := decide) only [j_u_k, j_u_o]; exact h45
    · rw [j_u_k _ _ (by decide), j_u_same]; rfl
    · show mm + 1 ≤ pz s + 1; omega
    · rw [j_u_same]
    · intro k hk9
      have hk9' : k < pz s + 1 := hk9
      rw [j_u_o _ _ _ (by decide : (423 : Nat) ≠ 260), j_u_o _ _ _ (by decide : (423 : Nat) ≠ 260)]
      show MRj (mm + 1) (fu (pS s) (pz s) (0, (ptk s).2) k) _ _
      by_cases e : k = pz s
      · subst e
        rw [j_u_same, fu_s]
        exact ⟨fun _ => ⟨mm, by omega, rfl, by rw [j_u_same]; exact hx⟩, fun h => absurd h (by simp only; omega), fun h => absurd h (by simp only; omega), fun h => absurd h (by simp only; omega)⟩
      · rw [j_u_k _ _ e, fu_n e]
        exact (m3 k (by omega)).up (by omega) (fun j hj => by rw [j_u_k _ _ (by omega)])
  have newr : ∀ x, RRg I D (j_u (j_u (j_u I 423 (pz s) (nI (100 + mm))) 260 37 (nI (pz s + 1))) 260 38 (nI (mm + 1))) (j_u D 424 mm x) := fun x => ⟨fun q q1 q2 => by funext i; rw [j_u_o _ _ _ q1, j_u_o _ _ _ q1, j_u_o _ _ _ q2], fun i hi => by rw [j_u_k _ _ (by omega), j_u_k _ _ (by omega), j_u_o _ _ _ (by decide)], fun q hq => by funext i; rw [j_u_o _ _ _ hq]⟩
  rcases e with ⟨e, h44⟩ | ⟨f, hf, e, h44⟩
  · exact r237A (w := (ptk s).2) (z := pz s) m2 (by omega) h43 hv h44 (by omega) (fun h => absurd h44 h) (fun _ => h46) (fun _ => h37) (fun _ => by omega) (fun _ => h2) (fun _ => hs) (fun _ => newg _ (by rw [e]; exact fig_w hv)) (fun _ => by omega) (fun _ J r1 r2 => hq J _ r1 ((newr _).tr r2))
  · exact r237B (w := (ptk s).2) (z := pz s) m2 (by omega) h43 hv h44 hf (by omega) (fun _ => n64_fig _) (fun _ => h46) (fun _ => h37) (fun _ => by omega) (fun _ => h2) (fun _ => hs) (fun _ => newg _ (by rw [e]; rfl)) (fun _ => by omega) (fun _ J r1 r2 => hq J _ r1 ((newr _).tr r2)) (fun h => absurd h (nI_ne_m9 hf))
/-- a cell -/
theorem rcell {dep : Nat} {s s' : PSt} (h1 : (ptk s).1 = 259) (h2 : nxP T n (addP s 1 (ptk s).2) s') : RKc T n R (8 + 5 * (4 - dep)) dep 237 [.ref 260] s (.inr s') := by
  intro d I D Q hd hs hz hk hS hq
  have hG := hS.2 (by omega)
  obtain ⟨w1, w2, w3, w4, w5⟩ := hG.2.2.2.2.2.1.1 h1
  have hn := tN hS
  have hen := hs.2.1
  rw [w4] at h2
  refine r237e (by omega) (fun _ => r237a (k := 1) (gW hG.2.2.2.2.1 (by omega) (by omega)) (by decide) (by omega) (fun _ h => absurd rfl h) (fun _ _ => ?_) (fun h => absurd h (by decide))) (fun h => absurd hG.2.2.1 h)
  have hx : (nI (T (pb s))) - 97 = nI (T (pb s) - 97) := by rw [show (97 : Int32) = nI 97 from rfl, pk_sub w2]
  refine r237b (gW hG.2.2.2.2.1 (by omega) (by omega)) hG.2.2.2.1 hG.2.1 hs.1 (by omega) (by omega) (fun h => absurd (by rw [w1]; exact nI_s1 (by omega)) h) (fun _ => ?_)
  exact r237c (s := s) (t1 := s') hG.2.1 (by omega) hG.1 (by omega) (fun _ m F => ⟨fun h => absurd h (by simp only; omega), fun _ => hx, fun h => absurd h (by simp only; omega), fun h => absurd h (by simp only; omega)⟩) (fun _ => by omega) (fun _ => hG) (fun _ J a b => h2) (fun _ J a b => hs) (fun _ J a b => a) (fun _ J a b => by omega) (fun _ J a b J5 c e => hq J5 D c (b.tr e)) (fun h => absurd w5 h) (fun h => absurd w5 h) (fun h => absurd w5 h) (fun h => absurd w5 h) (fun h => absurd w5 h) (fun h => absurd w5 h) (fun h => absurd w5 h) (fun h => absurd w5 h)
/-- a word of more letters -/
theorem rword {dep w : Nat} {s s1 : PSt} {d : Nat} {I : Nat → Nat → Int32} {D : Nat → Nat → UInt64} {Q : j_Po} (h1 : (ptk s).1 = 260 ∨ (ptk s).1 = 261) (h2 : nxP T n s s1) (hd : 7 ≤ d) (hs : okP n s) (hS : RRs T n dep s I D) (hK : ∀ x, x < 8 → ptk s = wtok x → ∀ J, RRs T n dep s1 J D → RRg I D J D → j_W 237 d 0 0 0 0 147 [some (.ref 260), some (.int (nI (rwd x)))] [] w1 (J, D, RR R) Q) : j_Call d 237 [.ref 260] w1 (I, D, RR R) 0 0 Q := by
  have hG := hS.2 (by omega)
  obtain ⟨w1, x, w2, w3, w4⟩ := hG.2.2.2.2.2.1.2 h1
  have hn := tN hS
  have hen := hs.2.1
  refine r237e (by omega) (fun _ => r237a (k := 1) (gW hG.2.2.2.2.1 (by omega) (by omega)) (by decide) (by omega) (fun _ h => absurd rfl h) (fun _ _ => ?_) (fun h => absurd h (by decide))) (fun h => absurd hG.2.2.1 h)
  refine r237b (gW hG.2.2.2.2.1 (by omega) (by omega)) hG.2.2.2.1 hG.2.1 hs.1 (by omega) (by omega) (fun _ => ?_) (fun h => absurd h (nI_s2 (by omega) w1))
  exact r237d (w := rwd x) (x := x) hd hs w2 w3 rfl hG (by omega) h2 (by omega) (fun J a b => hK x w2 w4 J a b)
/-- a call -/
theorem rcall {dep : Nat} {s s1 : PSt} {o : POut} (h1 : (ptk s).1 = 260) (h2 : nxP T n s s1) (hP : PP T n 6 dep (if (ptk s).2 = 12 then 3 else 2) 0 s1 o) (h3 : RKc T n R (7 + 5 * (4 - dep)) dep 240 [.ref 260, .int (nI (if (ptk s).2 = 12 then 3 else 2))] s1 o) : RKc T n R (8 + 5 * (4 - dep)) dep 237 [.ref 260] s (mapO (fun t => addP t (ptk s).2 0) o) := by
  intro d I D Q hd hs hz hk hS hq
  obtain ⟨a1, a2, a3⟩ := nx_z h2 hs hz
  have hTt := hTT hS
  have hn := tN hS
  have hlt : pb s < pe s := hs.2.2 (by omega)
  refine rword (w := 0) (Or.inl h1) h2 (by omega) hs hS (fun x hx hw J g1 g2 => ?_)
  have hx3 : x = 0 ∨ x = 1 ∨ x = 2 := by
    have : ∀ x, x < 8 → (wtok x).1 = 260 → x = 0 ∨ x = 1 ∨ x = 2 := by decide
    exact this x hx (by rw [← hw]; exact h1)
  have hr : 5 ≤ rwd x ∧ rwd x < 8 := by rcases hx3 with h | h | h <;> subst h <;> decide
  have hm : (ptk s).2 = (if rwd x = 5 then 12 else if rwd x = 6 then 10 else 11) := by rw [hw]; rcases hx3 with h | h | h <;> subst h <;> decide
  refine r237p (by omega) (by omega) (fun _ => ?_) (fun h => absurd hr.1 h)
  have mid : ∀ J1 E1, RRo T n dep o J1 E1 → RRg J D J1 E1 → j_W 237 d 0 0 0 0 172 [some (.ref 260), some (.int (nI (rwd x)))] [] w1 (J1, E1, RR R) Q := by
    intro J1 E1 x1 x2
    cases o with
    | inl f =>
      have hQ := hq J1 E1 (show RRo T n dep (.inl f) J1 E1 from x1) (g2.tr x2)
      exact r237x x1.bad hr.2 (by omega) (fun _ _ => x1.bad) (fun _ _ => hQ) (fun _ _ => x1.bad) (fun _ _ => hQ) (fun _ => x1.bad) (fun _ => hQ)
    | inr t =>
      obtain ⟨b1, b2, b3, b4, b5, b6⟩ := hP.g a1
      have b7 := b5 ⟨by decide, by decide⟩
      have b9 := b1.1
      have b10 := b1.2.1
      have b12 := h2.2.1
      have b13 := a1.1
      have x1 : RRs T n dep t J1 E1 := x1
      by_cases e : (ptk t).1 = 262
      · have hQ := hq J1 E1 (show RRs T n dep (addP t (ptk s).2 0) J1 E1 from ⟨fun _ => x1.1 e, fun h => absurd e h⟩) (g2.tr x2)
        exact r237x (x1.bad e) hr.2 (by omega) (fun _ _ => x1.bad e) (fun _ _ => hQ) (fun _ _ => x1.bad e) (fun _ _ => hQ) (fun _ => x1.bad e) (fun _ => hQ)
      · have hQ := fun a (ha : (ptk s).2 = a) J2 (y1 : RRG T n dep (addP t a 0) J2 E1) (y2 : RRg J1 E1 J2 E1) => hq J2 E1 (show RRs T n dep (addP t (ptk s).2 0) J2 E1 from by rw [ha]; exact y1.st) (g2.tr (x2.tr y2))
        exact r237q (s := t) hr.2 (by omega) (fun _ _ => mr_k (g := 209) (by decide) (by decide) rfl) (fun _ _ => by omega) (fun _ _ => x1.2 e) (fun c1 c2 J2 y1 y2 => hQ 11 (by rw [hm, if_neg c1, if_neg c2]) J2 y1 y2) (fun _ _ => mr_k (g := 208) (by decide) (by decide) rfl) (fun _ _ => by omega) (fun _ _ => x1.2 e) (fun c1 c2 J2 y1 y2 => hQ 10 (by rw [hm, if_neg c1, if_pos c2]) J2 y1 y2) (fun _ => mr_k (g := 210) (by decide) (by decide) rfl) (fun _ => by omega) (fun _ => x1.2 e) (fun c1 J2 y1 y2 => hQ 12 (by rw [hm, if_pos c1]) J2 y1 y2)
  by_cases h12 : rwd x = 5
  · rw [if_pos (by rw [hm, if_pos h12])] at h3
    exact r237f3 hr.2 h3 (by omega) (fun h => absurd h12 h) (fun _ => a1) (fun _ => a2) (fun _ => h2.1.K hTt) (fun _ => g1) (fun _ J2 E3 x1 x2 => mid J2 E3 x1 x2)
  · rw [if_neg (by rw [hm, if_neg h12]; split <;> decide)] at h3
    exact r237f2 hr.2 h3 (by omega) (fun _ => a1) (fun _ => a2) (fun _ => h2.1.K hTt) (fun _ => g1) (fun _ J2 E3 x1 x2 => mid J2 E3 x1 x2) (fun h => absurd h h12)
/-- the table of a question -/
theorem c239ok {dep c : Nat} {s s' : PSt} (hc : c < 5) (h1 : (ptk s).1 = 257) (h9 : (ptk s).2 ≤ 5000) (h2 : nxP T n (addP s (13 + c) ((ptk s).2 / 1000)) s') (hz9 : pz s < 96) : RKc T n R 7 dep 239 [.ref 260, .int (nI c)] s (.inr s') := by
  intro d I D Q hd hs hz hk hS hq
  have hG := hS.2 (by omega)
  obtain ⟨h41, v, hv, h43, e⟩ := gN hG.2.2.2.2.1 (Or.inl h1)
  rcases e with ⟨e, h44⟩ | ⟨f, hf, e, h44⟩
  · have e2 : (ptk s).2 = 1000 * v := by rw [e]
    have e3 : (ptk s).2 / 1000 = v := by omega
    rw [e3] at h2
    refine r239e (by omega) (fun _ => r239a (k := 2) h41 (by decide) (by omega) (fun h => absurd rfl h) (fun _ => ?_)) (fun h => absurd hG.2.2.1 h)
    refine r239c h44 h43 hv (by omega) (fun h => absurd h44 h) (fun _ _ => ?_) (fun _ h => absurd (by omega) h)
    exact r239f (s := s) (t1 := s') (p := dep) h43 (by omega) hc hd (fun m F => ⟨fun h => by simp only at h; omega, fun h => by simp only at h; omega, fun _ h => by simp only at h; omega, fun _ => by simp only; rw [show 13 + c - 13 = c by omega]⟩) hz9 hG (fun _ _ _ => h2) (fun _ _ _ => hs) (fun _ a _ => a) (fun _ _ _ => by omega) (fun J a b J4 x y => hq J4 D x (b.tr y))
  · rw [e] at h1; simp only at h1; omega
theorem c239bad {dep c : Nat} {s : PSt} (h1 : ¬ ((ptk s).1 = 257 ∧ (ptk s).2 ≤ 5000)) : RKc T n R 7 dep 239 [.ref 260, .int (nI c)] s (.inl (pb s)) := by
  intro d I D Q hd hs hz hk hS hq
  by_cases e : (ptk s).1 = 262
  · exact r239w (hS.bad e) (by omega) (fun h => absurd ((hS.bad e).symm.trans h) (by decide)) (fun _ => hq I D (hS.1 e) RRg.refl)
  · have hG := hS.2 e
    have hQ := hq _ D hG.w (RRg.u (by decide) (by decide))
    refine r239e (by omega) (fun _ => ?_) (fun h => absurd hG.2.2.1 h)
    by_cases hn : (ptk s).1 = 257 ∨ (ptk s).1 = 258
    · obtain ⟨h41, v, hv, h43, e⟩ := gN hG.2.2.2.2.1 hn
      refine r239a (k := 2) h41 (by decide) (by omega) (fun h => absurd rfl h) (fun _ => ?_)
      rcases e with ⟨e, h44⟩ | ⟨f, hf, e, h44⟩
      · refine r239c h44 h43 hv (by omega) (fun h => absurd h44 h) (fun _ h6 => ?_) (fun _ _ => r239d (by omega) hQ)
        exact absurd (by rw [e]; exact ⟨rfl, by simp only; omega⟩) h1
      · exact r239b h44 hf (by omega) (fun _ => hQ) (fun h => absurd h (nI_ne_m9 hf))
    · have : ∃ k, k < 4 ∧ k ≠ 2 ∧ I 260 41 = nI k := by
        rcases hG.2.2.2.2.1 with ⟨e, h⟩ | ⟨e1, e2, h⟩ | ⟨-, v, -, -, ⟨e, -⟩ | ⟨f, -, e, -⟩⟩ | ⟨e, h, -⟩
        · exact ⟨0, by decide, by decide, h⟩
        · exact ⟨1, by decide, by decide, h⟩
        · exact absurd (Or.inl (by rw [e])) hn
        · exact absurd (Or.inr (by rw [e])) hn
        · exact ⟨3, by decide, by decide, h⟩
      obtain ⟨k, k1, k2, k3⟩ := this
      exact r239a (k := k) k3 k1 (by omega) (fun _ => hQ) (fun h => absurd h k2)
/-- a question -/
theorem rquest {dep : Nat} {s s1 : PSt} {o : POut} (h1 : (ptk s).1 = 261) (h2 : nxP T n s s1) (h3 : (ptk s).2 ≤ 4 → pz s < 96 → RKc T n R 7 dep 239 [.ref 260, .int (nI (ptk s).2)] s1 o) : RKc T n R (8 + 5 * (4 - dep)) dep 237 [.ref 260] s o := by
  intro d I D Q hd hs hz hk hS hq
  obtain ⟨a1, a2, a3⟩ := nx_z h2 hs hz
  have hTt := hTT hS
  have hn := tN hS
  have hlt : pb s < pe s := hs.2.2 (by omega)
  have hen := hs.2.1
  have hw4 := hk.1.2.2.2 h1
  refine rword (w := 0) (Or.inr h1) h2 (by omega) hs hS (fun x hx hw J g1 g2 => ?_)
  have hx3 : rwd x = (ptk s).2 := by
    have : ∀ x, x < 8 → (wtok x).1 = 261 → rwd x = (wtok x).2 := by decide
    rw [hw]; exact this x hx (by rw [← hw]; exact h1)
  rw [hx3]
  exact r237p (by omega) (by omega) (fun h => by omega) (fun _ => r237t (by omega) (h3 hw4 (by omega)) (by omega) a1 a2 (h2.1.K hTt) g1 (fun J2 E3 x1 x2 => hq J2 E3 x1 (g2.tr x2)))
theorem R0 : PC0 T n (MOT T n R) := by
  refine ⟨fun dep s s' h1 h2 => ⟨PP0.1 dep s s' h1 h2, fun hd4 => rnum h1 h2⟩, fun dep s s' h1 h2 => ⟨PP0.2.1 dep s s' h1 h2, fun hd4 => rcell h1 h2⟩, fun dep s s1 o h1 h2 h3 => ⟨PP0.2.2.1 dep s s1 o h1 h2 h3.1, fun hd4 => rcall h1 h2 h3.1 (h3.2 hd4 (by split <;> decide) (by split <;> decide))⟩, fun dep s s1 s2 h1 h2 h3 h4 h5 => ⟨PP0.2.2.2.1 dep s s1 s2 h1 h2 h3 h4 h5, fun hd4 => rquest h1 h2 (fun hw hz => c239ok (by omega) h3 h4 h5 (by have := h2.2.1; omega))⟩, fun dep s s1 h1 h2 h3 => ⟨PP0.2.2.2.2.1 dep s s1 h1 h2 h3, fun hd4 => rquest h1 h2 (fun _ _ => c239bad h3)⟩, fun dep s h1 h2 => ⟨PP0.2.2.2.2.2.1 dep s h1 h2, fun hd4 => ?_⟩, fun dep s s1 o h1 h2 h3 h4 => ⟨PP0.2.2.2.2.2.2.1 dep s s1 o h1 h2 h3 h4.1, fun hd4 => ?_⟩, fun dep s o h1 h2 => ⟨PP0.2.2.2.2.2.2.2.1 dep s o h1 h2.1, fun hd4 => ?_⟩, fun dep s a b c e f g h => ⟨PP0.2.2.2.2.2.2.2.2 dep s a b c e f g h, fun hd4 => ?_⟩⟩
  · intro d I D Q hd hs hz hk hS hq
    have hG := hS.2 (by omega)
    obtain ⟨k, k1, k2, k3, k4⟩ := gM T n hG.2.2.2.2.1 (Or.inr (Or.inl h1))
    have h4 : dep = 4 := by omega
    subst h4
    refine r237e (by omega) (fun _ => r237a (k := k) k4 k1 (by omega) (fun _ _ => ?_) (fun _ h => absurd h k2) (fun h => absurd h k3)) (fun h => absurd hG.2.2.1 h)
    exact r237l (by omega) hG (by decide) (fun _ => hq _ D hG.w (RRg.u (by decide) (by decide))) (fun h => absurd h1 h)
  · intro d I D Q hd hs hz hk hS hq
    have hG := hS.2 (by omega)
    obtain ⟨k, k1, k2, k3, k4⟩ := gM T n hG.2.2.2.2.1 (Or.inr (Or.inl h1))
    obtain ⟨a1, a2, a3⟩ := nx_z h3 hs hz
    have hTt := hTT hS
    have hn := tN hS
    have hlt : pb s < pe s := hs.2.2 (by omega)
    have hC := h4.2 (by omega)
    rw [show 8 + 5 * (4 - (dep + 1)) = 3 + 5 * (4 - dep) from by omega] at hC
    refine r237e (by omega) (fun _ => r237a (k := k) k4 k1 (by omega) (fun _ _ => ?_) (fun _ h => absurd h k2) (fun h => absurd h k3)) (fun h => absurd hG.2.2.1 h)
    refine r237m h2 (by omega) hG (by decide) (fun _ => h2) (fun _ => h3) (fun _ => hs) (fun _ => by omega) (fun _ J g1 g2 => ?_) (fun h => absurd h1 h)
    refine r237n hC (by omega) a1 a2 (h3.1.K hTt) g1 (fun J1 E2 x1 x2 => ?_)
    cases o with
    | inl f => exact r237y x1.bad (by omega) (by rw [j_u_k _ _ (by decide)]; exact x1.bad) (hq _ E2 (show RRo T n dep (.inl f) _ E2 from RRf.op x1) (g2.tr (x2.tr (RRg.u (by decide) (by decide)))))
    | inr t =>
      obtain ⟨b1, b2, b3, b4, b5, b6⟩ := h4.1.g a1
      have b7 := b5 ⟨by decide, by decide⟩
      have b9 := b1.1
      have b10 := b1.2.1
      have b12 := h3.2.1
      have b13 := a1.1
      have x1 : RRs T n (dep + 1) t J1 E2 := x1
      by_cases e : (ptk t).1 = 262
      · exact r237y (x1.bad e) (by omega) (by rw [j_u_k _ _ (by decide)]; exact x1.bad e) (hq _ E2 (show RRs T n dep (addP t 2 0) _ E2 from ⟨fun _ => (x1.1 e).op, fun h => absurd e h⟩) (g2.tr (x2.tr (RRg.u (by decide) (by decide)))))
      · have hG1 := x1.2 e
        exact r237o (s := t) (p := dep) hG1.2.2.2.2.2.2.1 h2 (by omega) (mr_k (g := 200) (by decide) (by decide) rfl) (by omega) (by rw [nI_p1 h2]; exact hG1.op) (fun J3 y1 y2 => hq J3 E2 (show RRs T n dep (addP t 2 0) J3 E2 from y1.st) (g2.tr (x2.tr ((RRg.u (by decide) (by decide)).tr y2))))
  · intro d I D Q hd hs hz hk hS hq
    have hG := hS.2 (by omega)
    obtain ⟨k, k1, k2, k3, k4⟩ := gM T n hG.2.2.2.2.1 (Or.inl h1)
    refine r237e (by omega) (fun _ => r237a (k := k) k4 k1 (by omega) (fun _ _ => ?_) (fun _ h => absurd h k2) (fun h => absurd h k3)) (fun h => absurd hG.2.2.1 h)
    refine r237r (by omega) hG (by decide) (fun h => by omega) (fun _ => ?_)
    exact r237v (h2.2 hd4 (by decide) (by decide)) hd hG (by decide) (fun _ => hs) (fun _ => hz) (fun _ => hk) (fun _ => hS) (fun _ J E x1 x2 => hq J E x1 x2) (fun h => absurd h1 h)
  · intro d I D Q hd hs hz hk hS hq
    by_cases e9 : (ptk s).1 = 262
    · exact r237w (hS.bad e9) (by omega) (fun h => absurd ((hS.bad e9).symm.trans h) (by decide)) (fun _ => hq I D (hS.1 e9) RRg.refl)
    · have hG := hS.2 e9
      have ht : (ptk s).1 < 257 := by
        rcases hG.2.2.2.2.1 with ⟨e, h⟩ | ⟨e1, e2, h⟩ | ⟨-, v, -, -, ⟨e, -⟩ | ⟨f, -, e, -⟩⟩ | ⟨e, h, -⟩
        · omega
        · omega
        · exact absurd (by rw [e]) a
        · exact absurd (by rw [e]) b
        · omega
      obtain ⟨k, k1, k2, k3, k4⟩ := gM T n hG.2.2.2.2.1 (Or.inr (Or.inr ht))
      refine r237e (by omega) (fun _ => r237a (k := k) k4 k1 (by omega) (fun _ _ => ?_) (fun _ h => absurd h k2) (fun h => absurd h k3)) (fun h => absurd hG.2.2.1 h)
      refine r237r (by omega) hG (by decide) (fun h => absurd h g) (fun _ => ?_)
      refine r237V (by omega) hG (by decide) (fun h9 => absurd h9 h) (fun _ => ?_)
      exact r237z (by omega) (hq _ D hG.w (RRg.u (by decide) (by decide)))
theorem PP.ref {m dep k i : Nat} {s : PSt} {o : POut} (h : PP T n m dep k i s o) : MOT T n R m dep k i s o := h _ ⟨R0, R1, R2, R3⟩
end RJ
