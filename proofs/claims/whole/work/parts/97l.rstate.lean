/-! the reference reads: its state -/
theorem Lx.det {T : Nat → Nat} {n p b e b' e' : Nat} {tk tk' : Nat × Nat} (h : Lx T n p b e tk) (h' : Lx T n p b' e' tk') : b' = b ∧ e' = e ∧ tk' = tk := by
  obtain ⟨h0, h⟩ := h
  obtain ⟨h0', h'⟩ := h'
  have hb := h0.eq h0'
  subst hb
  have lt_dg : ∀ c, isLt c → ¬ isDg c := fun c h h2 => by unfold isLt isDg at *; omega
  rcases h with ⟨a1, a2, a3⟩ | ⟨a1, a2, a3, a4⟩ | ⟨a1, a2, c, a3, a4⟩ | ⟨a1, a2, a3, a4, a5⟩
  · rcases h' with ⟨c1, c2, c3⟩ | ⟨c1, -⟩ | ⟨c1, -⟩ | ⟨c1, -⟩
    · subst a2 c2 a3 c3; exact ⟨rfl, rfl, rfl⟩
    · exact absurd c1 a1
    · exact absurd c1 a1
    · exact absurd c1 a1
  · rcases h' with ⟨c1, -⟩ | ⟨c1, c2, c3, c4⟩ | ⟨c1, c2, -⟩ | ⟨c1, c2, -⟩
    · exact absurd a1 c1
    · have he := a3.eq c3
      subst he
      refine ⟨rfl, rfl, ?_⟩
      rcases a4 with ⟨x1, x2, x3⟩ | ⟨x1, x2, x3⟩ | ⟨x1, q, x2, x3, x4⟩ | ⟨x1, x2, x3⟩ <;> rcases c4 with ⟨y1, y2, y3⟩ | ⟨y1, y2, y3⟩ | ⟨y1, q', y2, y3, y4⟩ | ⟨y1, y2, y3⟩
      all_goals first | (exfalso; omega) | (rw [x3, y3]; done) | skip
      · rw [x4, y4, WM.eq x2 y2 x3 y3]
      · exact absurd x3 (y2 q x2)
      · exact absurd y3 (x2 q' y2)
    · exact absurd c2 (lt_dg _ a2)
    · exact absurd a2 c2
  · rcases h' with ⟨c1, -⟩ | ⟨c1, c2, c3, c4⟩ | ⟨c1, c2, c', c3, c4⟩ | ⟨c1, c2, c3, -⟩
    · exact absurd a1 c1
    · exact absurd a2 (lt_dg _ c2)
    · have he := Run.eq a3 c3
      subst he
      rcases a4 with ⟨x1, x2, x3⟩ | ⟨x1, x2, x3⟩ <;> rcases c4 with ⟨y1, y2, y3⟩ | ⟨y1, y2, y3⟩
      · subst x2 y2
        refine ⟨rfl, rfl, ?_⟩
        rcases x3 with ⟨z1, z2⟩ | ⟨z1, z2⟩ <;> rcases y3 with ⟨t1, t2⟩ | ⟨t1, t2⟩
        all_goals first | (exfalso; omega) | rw [z2, t2]
      · exact absurd y1 x1
      · exact absurd x1 y1
      · have he := Run.eq x2 y2
        subst he
        refine ⟨rfl, rfl, ?_⟩
        rcases x3 with ⟨z1, z2⟩ | ⟨z1, z2⟩ <;> rcases y3 with ⟨t1, t2⟩ | ⟨t1, t2⟩
        all_goals first | (exfalso; omega) | rw [z2, t2]
    · exact absurd a2 c3
  · rcases h' with ⟨c1, -⟩ | ⟨c1, c2, c3, c4⟩ | ⟨c1, c2, -⟩ | ⟨c1, c2, c3, c4, c5⟩
    · exact absurd a1 c1
    · exact absurd c2 a2
    · exact absurd c2 a3
    · subst a4 c4
      refine ⟨rfl, rfl, ?_⟩
      rcases a5 with ⟨x1, x2⟩ | ⟨x1, x2⟩ <;> rcases c5 with ⟨y1, y2⟩ | ⟨y1, y2⟩
      · rw [x2, y2]
      · exact absurd x1 y1
      · exact absurd y1 x1
      · rw [x2, y2]
theorem nxP.det {T : Nat → Nat} {n : Nat} {s s1 : PSt} {b e : Nat} {tk : Nat × Nat} (h : nxP T n s s1) (h' : Lx T n (pe s) b e tk) : b = pb s1 ∧ e = pe s1 ∧ tk = ptk s1 := Lx.det h.1 h'
/-- what stands where the token stands -/
def tkW (T : Nat → Nat) (n b e : Nat) (tk : Nat × Nat) : Prop := (tk.1 = 259 → e = b + 1 ∧ 97 ≤ T b ∧ T b < 121 ∧ tk.2 = T b - 97 ∧ b < n) ∧ (tk.1 = 260 ∨ tk.1 = 261 → b + 1 < e ∧ ∃ q, q < 8 ∧ WM T b e q ∧ tk = wtok q)
theorem Lx.W {T : Nat → Nat} {n p b e : Nat} {tk : Nat × Nat} (hT : ∀ k, k < n → T k < 256) (h : Lx T n p b e tk) : tkW T n b e tk := by
  rcases h.2 with ⟨-, -, h⟩ | ⟨hb, hl, -, h⟩ | ⟨-, -, c, -, h⟩ | ⟨hb, -, -, -, h⟩
  · rw [h]; exact ⟨fun h => absurd h (by decide), fun h => absurd h (by decide)⟩
  · rcases h with ⟨h1, h2, h⟩ | ⟨-, -, h⟩ | ⟨h1, q, h2, h3, h⟩ | ⟨-, -, h⟩
    · rw [h]; exact ⟨fun _ => ⟨h1, hl.1, h2, rfl, hb⟩, fun h => absurd h (by simp only; omega)⟩
    · rw [h]; exact ⟨fun h => absurd h (by decide), fun h => absurd h (by decide)⟩
    · refine ⟨fun h9 => ?_, fun _ => ⟨h1, q, h2, h3, h⟩⟩
      rw [h] at h9
      have : ∀ q, q < 8 → (wtok q).1 ≠ 259 := by decide
      exact absurd h9 (this q h2)
    · rw [h]; exact ⟨fun h => absurd h (by decide), fun h => absurd h (by decide)⟩
  · rcases h with ⟨-, -, ⟨-, h⟩ | ⟨-, h⟩⟩ | ⟨-, -, ⟨-, h⟩ | ⟨-, h⟩⟩ <;> (rw [h]; exact ⟨fun h => absurd h (by simp only; omega), fun h => absurd h (by simp only; omega)⟩)
  · rcases h with ⟨-, h⟩ | ⟨-, h⟩
    · rw [h]; have := hT b hb; exact ⟨fun h => absurd h (by simp only; omega), fun h => absurd h (by simp only; omega)⟩
    · rw [h]; exact ⟨fun h => absurd h (by decide), fun h => absurd h (by decide)⟩
/-- a mark of the reference against a step; its figures below j -/
def MRj (m : Nat) (p : Nat × Nat) (mk : Int32) (F : Nat → UInt64) : Prop := (p.1 = 0 → ∃ j, j < m ∧ mk = nI (100 + j) ∧ F j = fig p.2) ∧ (p.1 = 1 → mk = nI p.2) ∧ (2 ≤ p.1 → p.1 ≤ 12 → mk = nI (198 + p.1)) ∧ (13 ≤ p.1 → mk = nI (300 + 10 * (p.1 - 13) + p.2))
def RMk (z : Nat) (f : Nat → Nat × Nat) (I : Nat → Nat → Int32) (D : Nat → Nat → UInt64) : Prop := I 260 37 = nI z ∧ ∃ m, m ≤ z ∧ I 260 38 = nI m ∧ ∀ k, k < z → MRj m (f k) (I 423 k) (D 424)
/-- nothing but the reading is other -/
def RRg (I0 : Nat → Nat → Int32) (D0 : Nat → Nat → UInt64) (I : Nat → Nat → Int32) (D : Nat → Nat → UInt64) : Prop := (∀ q, q ≠ 260 → q ≠ 423 → I q = I0 q) ∧ (∀ i, i < 37 ∨ 46 < i → I 260 i = I0 260 i) ∧ ∀ q, q ≠ 424 → D q = D0 q
/-- the reference stands at a good token -/
def RRG (T : Nat → Nat) (n dep : Nat) (s : PSt) (I : Nat → Nat → Int32) (D : Nat → Nat → UInt64) : Prop := TR T n I ∧ I 260 40 = nI (pb s) ∧ I 260 46 = 0 ∧ I 260 39 = nI (pe s) ∧ RTk I (ptk s) ∧ tkW T n (pb s) (pe s) (ptk s) ∧ I 260 45 = nI dep ∧ RMk (pz s) (pS s) I D
/-- it is wrong -/
def RRf (T : Nat → Nat) (n f : Nat) (I : Nat → Nat → Int32) : Prop := TR T n I ∧ I 260 40 = nI f ∧ I 260 46 = 1
def RRs (T : Nat → Nat) (n dep : Nat) (s : PSt) (I : Nat → Nat → Int32) (D : Nat → Nat → UInt64) : Prop := ((ptk s).1 = 262 → RRf T n (pb s) I) ∧ ((ptk s).1 ≠ 262 → RRG T n dep s I D)
def RRo (T : Nat → Nat) (n dep : Nat) : POut → (Nat → Nat → Int32) → (Nat → Nat → UInt64) → Prop
  | .inl f, I, _ => RRf T n f I
  | .inr s, I, D => RRs T n dep s I D
section RF
variable {d : Nat} {I0 I : Nat → Nat → Int32} {D0 D : Nat → Nat → UInt64} {R : Nat → Nat → Option Nat} {Q : j_Po} {T : Nat → Nat} {n dep : Nat} {s s' : PSt}
theorem RRg.tr {J : Nat → Nat → Int32} {D' : Nat → Nat → UInt64} (h : RRg I0 D0 I D) (h' : RRg I D J D') : RRg I0 D0 J D' := ⟨fun q a b => (h'.1 q a b).trans (h.1 q a b), fun i hi => (h'.2.1 i hi).trans (h.2.1 i hi), fun q a => (h'.2.2 q a).trans (h.2.2 q a)⟩
theorem RNg.rg {J : Nat → Nat → Int32} (h : RNg I J) : RRg I D J D := ⟨fun q a _ => h.1 q a, fun i hi => h.2 i (by omega) (by omega) (by omega) (by omega) (by omega) (by omega) (by omega), fun _ _ => rfl⟩
theorem RMk.cg {z : Nat} {f : Nat → Nat × Nat} {J : Nat → Nat → Int32} (h : RMk z f I D) (h37 : J 260 37 = I 260 37) (h38 : J 260 38 = I 260 38) (hm : J 423 = I 423) : RMk z f J D := by
  obtain ⟨h1, m, h2, h3, h4⟩ := h
  exact ⟨by rw [h37]; exact h1, m, h2, by rw [h38]; exact h3, fun k hk => by rw [hm]; exact h4 k hk⟩
/-- the next token -/
theorem rr_next (hN : nxP T n s s') (hs : okP n s) (h : RRG T n dep s I D) (hd : 6 ≤ d) (hq : ∀ J, RRs T n dep s' J D → RRg I D J D → Q none w1 (J, D, RR R)) : j_Call d 212 [.ref 260] w1 (I, D, RR R) 0 0 Q := by
  obtain ⟨hT, h40, h46, h39, hk, hW, h45, hM⟩ := h
  refine c212 hT h39 hs.2.1 h46 hd (fun J b e tk hx hr => ?_)
  obtain ⟨e1, e2, e3⟩ := hN.det hx
  subst e1 e2 e3
  obtain ⟨r1, r2, r3, r4⟩ := hr
  have hT' : TR T n J := hT.cg (r1.2 34 (by decide) (by decide) (by decide) (by decide) (by decide) (by decide) (by decide)) (r1.1 422 (by decide))
  refine hq J ⟨fun ht => ⟨hT', r2, r3 ht⟩, fun ht => ?_⟩ r1.rg
  obtain ⟨k1, k2, k3⟩ := r4 ht
  refine ⟨hT', r2, k1, k2, k3, hx.W (fun k hk => (hT.2.2 k hk).1), ?_, ?_⟩
  · rw [r1.2 45 (by decide) (by decide) (by decide) (by decide) (by decide) (by decide) (by decide)]; exact h45
  · rw [hN.2.1, hN.2.2]
    exact hM.cg (r1.2 37 (by decide) (by decide) (by decide) (by decide) (by decide) (by decide) (by decide)) (r1.2 38 (by decide) (by decide) (by decide) (by decide) (by decide) (by decide) (by decide)) (r1.1 423 (by decide))
end RF
set_option maxRecDepth 10000 in
set_option maxHeartbeats 4000000 in
theorem r241t {d : Nat} {I : Nat → Nat → Int32} {D : Nat → Nat → UInt64} {R : Nat → Nat → Option Nat} {Q : j_Po} {c : Nat} {t : Nat} (h42 : I 260 42 = nI t) (ht : t < 256) (hc : c < 256) (hd : 0 ≤ d)
    (v1 : (¬ (I 260 46) = 0) → Q (some (.int 0)) w1 (I, D, RR R))
    (v2 : ((I 260 46) = 0) → (¬ (I 260 41) = 3) → Q (some (.int 0)) w1 (I, D, RR R))
    (v3 : ((I 260 46) = 0) → ((I 260 41) = 3) → (¬ t = c) → Q (some (.int 0)) w1 (I, D, RR R))
    (v4 : ((I 260 46) = 0) → ((I 260 41) = 3) → (t = c) → Q (some (.int 1)) w1 (I, D, RR R)) : j_Call d 241 [.ref 260, .int (nI c)] w1 (I, D, RR R) 0 0 Q := by
  refine q_enter (L := [some (.ref 260), some (.int (nI c))]) j_m241 (Nat.le_of_ble_eq_true rfl) rfl ?_
  refine q_aload_n d241_0 rfl ?_
  refine q_getI d241_1 (fs10_357 241 rfl) rfl (lt_w1 rfl) sh260 ?_
  refine q_if_ne (tgt := 27) d241_4 rfl (fun h1t => ?_) (fun h1f => ?_)
  ·
    refine q_iconst (v := 0) (by decide) d241_27 ?_
    exact q_zret d241_28 rfl (Or.inl rfl) (Nat.le_refl _) (Nat.le_refl _) (v1 h1t)
  ·
    refine q_aload_n d241_7 rfl ?_
    refine q_getI d241_8 (fs10_364 241 rfl) rfl (lt_w1 rfl) sh260 ?_
    refine q_iconst (v := 3) (by decide) d241_11 ?_
    refine q_icmp_ne (tgt := 27) d241_12 rfl (fun h2t => ?_) (fun h2f => ?_)
    ·
      refine q_iconst (v := 0) (by decide) d241_27 ?_
      exact q_zret d241_28 rfl (Or.inl rfl) (Nat.le_refl _) (Nat.le_refl _) (v2 h1f h2t)
    ·
      refine q_aload_n d241_15 rfl ?_
      refine q_getI d241_16 (fs10_378 241 rfl) rfl (lt_w1 rfl) sh260 ?_
      refine r_int (y := (nI t)) (show I 260 42 = (nI t) from h42) ?_
      refine q_iload_n d241_19 rfl ?_
      refine q_icmp_ne (tgt := 27) d241_20 rfl (fun h3t => ?_) (fun h3f => ?_)
      ·
        have h3tc : ¬ t = c := mt (nI_eqN (by omega) (by omega)).mpr h3t
        refine q_iconst (v := 0) (by decide) d241_27 ?_
        exact q_zret d241_28 rfl (Or.inl rfl) (Nat.le_refl _) (Nat.le_refl _) (v3 h1f h2f h3tc)
      ·
        have h3fc : t = c := (nI_eqN (by omega) (by omega)).mp h3f
        refine q_iconst (v := 1) (by decide) d241_23 ?_
        refine q_goto (tgt := 28) d241_24 rfl ?_
        exact q_zret d241_28 rfl (Or.inr rfl) (Nat.le_refl _) (Nat.le_refl _) (v4 h1f h2f h3fc)

set_option maxRecDepth 10000 in
set_option maxHeartbeats 4000000 in
theorem r241 {d : Nat} {I : Nat → Nat → Int32} {D : Nat → Nat → UInt64} {R : Nat → Nat → Option Nat} {Q : j_Po} {c : Nat}   (hd : 0 ≤ d)
    (v1 : (¬ (I 260 46) = 0) → Q (some (.int 0)) w1 (I, D, RR R))
    (v2 : ((I 260 46) = 0) → (¬ (I 260 41) = 3) → Q (some (.int 0)) w1 (I, D, RR R))
    (v3 : ((I 260 46) = 0) → ((I 260 41) = 3) → (¬ (I 260 42) = (nI c)) → Q (some (.int 0)) w1 (I, D, RR R))
    (v4 : ((I 260 46) = 0) → ((I 260 41) = 3) → ((I 260 42) = (nI c)) → Q (some (.int 1)) w1 (I, D, RR R)) : j_Call d 241 [.ref 260, .int (nI c)] w1 (I, D, RR R) 0 0 Q := by
  refine q_enter (L := [some (.ref 260), some (.int (nI c))]) j_m241 (Nat.le_of_ble_eq_true rfl) rfl ?_
  refine q_aload_n d241_0 rfl ?_
  refine q_getI d241_1 (fs10_357 241 rfl) rfl (lt_w1 rfl) sh260 ?_
  refine q_if_ne (tgt := 27) d241_4 rfl (fun h1t => ?_) (fun h1f => ?_)
  ·
    refine q_iconst (v := 0) (by decide) d241_27 ?_
    exact q_zret d241_28 rfl (Or.inl rfl) (Nat.le_refl _) (Nat.le_refl _) (v1 h1t)
  ·
    refine q_aload_n d241_7 rfl ?_
    refine q_getI d241_8 (fs10_364 241 rfl) rfl (lt_w1 rfl) sh260 ?_
    refine q_iconst (v := 3) (by decide) d241_11 ?_
    refine q_icmp_ne (tgt := 27) d241_12 rfl (fun h2t => ?_) (fun h2f => ?_)
    ·
      refine q_iconst (v := 0) (by decide) d241_27 ?_
      exact q_zret d241_28 rfl (Or.inl rfl) (Nat.le_refl _) (Nat.le_refl _) (v2 h1f h2t)
    ·
      refine q_aload_n d241_15 rfl ?_
      refine q_getI d241_16 (fs10_378 241 rfl) rfl (lt_w1 rfl) sh260 ?_
      refine q_iload_n d241_19 rfl ?_
      refine q_icmp_ne (tgt := 27) d241_20 rfl (fun h3t => ?_) (fun h3f => ?_)
      ·
        refine q_iconst (v := 0) (by decide) d241_27 ?_
        exact q_zret d241_28 rfl (Or.inl rfl) (Nat.le_refl _) (Nat.le_refl _) (v3 h1f h2f h3t)
      ·
        refine q_iconst (v := 1) (by decide) d241_23 ?_
        refine q_goto (tgt := 28) d241_24 rfl ?_
        exact q_zret d241_28 rfl (Or.inr rfl) (Nat.le_refl _) (Nat.le_refl _) (v4 h1f h2f h3f)

set_option maxRecDepth 10000 in
set_option maxHeartbeats 4000000 in
theorem r238 {d : Nat} {I : Nat → Nat → Int32} {D : Nat → Nat → UInt64} {R : Nat → Nat → Option Nat} {Q : j_Po} {x : Int32} {z : Nat} (h37 : I 260 37 = nI z) (hz : z < 96) (hd : 0 ≤ d)
    (v1 : ((I 260 46) = 0) → Q none w1 ((j_u (j_u I 423 z x) 260 37 (nI (z + 1))), D, RR R))
    (v2 : (¬ (I 260 46) = 0) → Q none w1 (I, D, RR R)) : j_Call d 238 [.ref 260, .int x] w1 (I, D, RR R) 0 0 Q := by
  refine q_enter (L := [some (.ref 260), some (.int x)]) j_m238 (Nat.le_of_ble_eq_true rfl) rfl ?_
  refine q_aload_n d238_0 rfl ?_
  refine q_getI d238_1 (fs10_357 238 rfl) rfl (lt_w1 rfl) sh260 ?_
  refine q_if_eq (tgt := 8) d238_4 rfl (fun h1t => ?_) (fun h1f => ?_)
  ·
    refine q_aload_n d238_8 rfl ?_
    refine q_getR (x := 423) d238_9 (fs10_105 238 rfl) rfl (lt_w1 rfl) sh260 (rs260_35 R) (by decide) ?_
    refine q_aload_n d238_12 rfl ?_
    refine q_getI d238_13 (fs10_424 238 rfl) rfl (lt_w1 rfl) sh260 ?_
    refine r_int (y := (nI z)) (show I 260 37 = (nI z) from h37) ?_
    refine q_iload_n d238_16 rfl ?_
    refine q_iastore (a := z) d238_17 (lt_w1 rfl) sh423 rfl (by omega) ?_
    refine q_aload_n d238_18 rfl ?_
    refine q_dup rfl d238_19 ?_
    refine q_getI d238_20 (fs10_424 238 rfl) rfl (lt_w1 rfl) sh260 ?_
    refine r_int (y := (nI z)) (show (j_u I 423 z x) 260 37 = (nI z) from ((j_u_o _ _ _ (by decide)).trans h37)) ?_
    refine q_iconst (v := 1) (by decide) d238_23 ?_
    refine q_iadd d238_24 ?_
    refine r_int (y := (nI (z + 1))) (nI_add z 1) ?_
    refine q_putI d238_25 (fs10_424 238 rfl) (Or.inl rfl) rfl (lt_w1 rfl) sh260 ?_
    exact q_ret d238_28 rfl (Nat.le_refl _) (Nat.le_refl _) (v1 h1t)
  ·
    exact q_ret d238_7 rfl (Nat.le_refl _) (Nat.le_refl _) (v2 h1f)

set_option maxRecDepth 10000 in
set_option maxHeartbeats 4000000 in
theorem r238w {d : Nat} {I : Nat → Nat → Int32} {D : Nat → Nat → UInt64} {R : Nat → Nat → Option Nat} {Q : j_Po} {x : Int32}   (hd : 0 ≤ d)
    (v1 : ((I 260 46) = 0) → j_W 238 d 0 0 0 0 8 [some (.ref 260), some (.int x)] [] w1 (I, D, RR R) Q)
    (v2 : (¬ (I 260 46) = 0) → Q none w1 (I, D, RR R)) : j_Call d 238 [.ref 260, .int x] w1 (I, D, RR R) 0 0 Q := by
  refine q_enter (L := [some (.ref 260), some (.int x)]) j_m238 (Nat.le_of_ble_eq_true rfl) rfl ?_
  refine q_aload_n d238_0 rfl ?_
  refine q_getI d238_1 (fs10_357 238 rfl) rfl (lt_w1 rfl) sh260 ?_
  refine q_if_eq (tgt := 8) d238_4 rfl (fun h1t => ?_) (fun h1f => ?_)
  ·
    exact r_sub (L' := [some (.ref 260), some (.int x)]) ⟨rfl, rfl, trivial⟩ (v1 h1t)
  ·
    exact q_ret d238_7 rfl (Nat.le_refl _) (Nat.le_refl _) (v2 h1f)

section RF2
variable {d : Nat} {I0 I : Nat → Nat → Int32} {D0 D : Nat → Nat → UInt64} {R : Nat → Nat → Option Nat} {Q : j_Po} {T : Nat → Nat} {n dep : Nat} {s s' : PSt}
theorem c241w {x : Nat} (hw : I 260 46 = 1) (hq : Q (some (.int 0)) w1 (I, D, RR R)) : j_Call d 241 [.ref 260, .int (nI x)] w1 (I, D, RR R) 0 0 Q :=
  r241 (Nat.zero_le _) (fun _ => hq) (fun h => absurd (hw.symm.trans h) (by decide)) (fun h => absurd (hw.symm.trans h) (by decide)) (fun h => absurd (hw.symm.trans h) (by decide))
theorem c238w {x : Int32} (hw : I 260 46 = 1) (hq : Q none w1 (I, D, RR R)) : j_Call d 238 [.ref 260, .int x] w1 (I, D, RR R) 0 0 Q :=
  r238w (Nat.zero_le _) (fun h => absurd (hw.symm.trans h) (by decide)) (fun _ => hq)
theorem c238g {x : Int32} {z : Nat} (h46 : I 260 46 = 0) (h37 : I 260 37 = nI z) (hz : z < 96) (hq : Q none w1 ((j_u (j_u I 423 z x) 260 37 (nI (z + 1))), D, RR R)) : j_Call d 238 [.ref 260, .int x] w1 (I, D, RR R) 0 0 Q :=
  r238 h37 hz (Nat.zero_le _) (fun _ => hq) (fun h => absurd h46 h)
theorem c241g {c : Nat} (h : RRG T n dep s I D) (hc : c < 256) (h1 : (ptk s).1 = c → Q (some (.int 1)) w1 (I, D, RR R)) (h0 : ¬ (ptk s).1 = c → Q (some (.int 0)) w1 (I, D, RR R)) : j_Call d 241 [.ref 260, .int (nI c)] w1 (I, D, RR R) 0 0 Q := by
  have h46 := h.2.2.1
  rcases h.2.2.2.2.1 with ⟨e, h41⟩ | ⟨e1, e2, h41⟩ | ⟨h41, v, -, -, e⟩ | ⟨e, h41, h42⟩
  · exact r241 (Nat.zero_le _) (fun a => absurd h46 a) (fun _ _ => h0 (by omega)) (fun _ b => absurd (h41.symm.trans b) (by decide)) (fun _ b => absurd (h41.symm.trans b) (by decide))
  · exact r241 (Nat.zero_le _) (fun a => absurd h46 a) (fun _ _ => h0 (by omega)) (fun _ b => absurd (h41.symm.trans b) (by decide)) (fun _ b => absurd (h41.symm.trans b) (by decide))
  · have e9 : (ptk s).1 = 257 ∨ (ptk s).1 = 258 := by
      rcases e with ⟨e, -⟩ | ⟨f, -, e, -⟩ <;> rw [e]
      · exact Or.inl rfl
      · exact Or.inr rfl
    exact r241 (Nat.zero_le _) (fun a => absurd h46 a) (fun _ _ => h0 (by omega)) (fun _ b => absurd (h41.symm.trans b) (by decide)) (fun _ b => absurd (h41.symm.trans b) (by decide))
  · exact r241t h42 e hc (Nat.zero_le _) (fun a => absurd h46 a) (fun _ a => absurd h41 a) (fun _ _ a => h0 a) (fun _ _ a => h1 a)
theorem RTk.cg {J : Nat → Nat → Int32} {tk : Nat × Nat} (h : RTk I tk) (h1 : J 260 41 = I 260 41) (h2 : J 260 42 = I 260 42) (h3 : J 260 43 = I 260 43) (h4 : J 260 44 = I 260 44) : RTk J tk := by
  unfold RTk; rw [h1, h2, h3, h4]; exact h
/-- a mark -/
theorem rr_mark {a w : Nat} {x : Int32} (hM : ∀ m F, MRj m (a, w) x F) (hz : pz s < 96) (h : RRG T n dep s I D) (hq : ∀ J, RRG T n dep (addP s a w) J D → RRg I D J D → Q none w1 (J, D, RR R)) : j_Call d 238 [.ref 260, .int x] w1 (I, D, RR R) 0 0 Q := by
  obtain ⟨hT, h40, h46, h39, hk, hW, h45, h37, m, m1, m2, m3⟩ := h
  refine c238g h46 h37 hz (hq _ ⟨?_, ?_, ?_, ?_, ?_, hW, ?_, ?_, m, ?_, ?_, ?_⟩ ⟨?_, ?_, fun _ _ => rfl⟩)
  · exact hT.cg (by simp (disch := decide) only [j_u_k, j_u_o]) (by funext i; simp (disch := decide) only [j_u_o])
  · simp (disch := decide) only [j_u_k, j_u_o]; exact h40
  · simp (disch := decide) only [j_u_k, j_u_o]; exact h46
  · simp (disch := decide) only [j_u_k, j_u_o]; exact h39
  · exact hk.cg (by simp (disch := decide) only [j_u_k, j_u_o]) (by simp (disch := decide) only [j_u_k, j_u_o]) (by simp (disch := decide) only [j_u_k, j_u_o]) (by simp (disch := decide) only [j_u_k, j_u_o])
  · simp (disch := decide) only [j_u_k, j_u_o]; exact h45
  · rw [j_u_same]; rfl
  · show m ≤ pz s + 1; omega
  · simp (disch := decide) only [j_u_k, j_u_o]; exact m2
  · intro k hk
    have hk' : k < pz s + 1 := hk
    rw [j_u_o _ _ _ (by decide : (423 : Nat) ≠ 260)]
    show MRj m (fu (pS s) (pz s) (a, w) k) _ _
    by_cases e : k = pz s
    · subst e; rw [j_u_same, fu_s]; exact hM m _
    · rw [j_u_k _ _ e, fu_n e]; exact m3 k (by omega)
  · intro q q1 q2; funext i; rw [j_u_o _ _ _ q1, j_u_o _ _ _ q2]
  · intro i hi; rw [j_u_k _ _ (by omega), j_u_o _ _ _ (by decide)]
theorem RRs.bad (h : RRs T n dep s I D) (ht : (ptk s).1 = 262) : I 260 46 = 1 := (h.1 ht).2.2
end RF2
def RKc (T : Nat → Nat) (n : Nat) (R : Nat → Nat → Option Nat) (dd dep j : Nat) (av : List Value) (s : PSt) (o : POut) : Prop := ∀ (d : Nat) (I : Nat → Nat → Int32) (D : Nat → Nat → UInt64) (Q : j_Po), dd ≤ d → okP n s → pz s ≤ pb s → tkK (ptk s) → RRs T n dep s I D → (∀ J D', RRo T n dep o J D' → RRg I D J D' → Q none w1 (J, D', RR R)) → j_Call d j av w1 (I, D, RR R) 0 0 Q
