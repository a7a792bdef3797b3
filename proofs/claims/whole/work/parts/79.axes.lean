/-! axis, axisBy: what is laid -/
set_option maxRecDepth 10000 in
set_option maxHeartbeats 4000000 in
theorem s110_0 {d : Nat} {I : Nat → Nat → Int32} {D : Nat → Nat → UInt64} {R : Nat → Nat → Option Nat} {Q : j_Po} {g : Nat} {k : Nat} {x : UInt64}  (hg : isG g) (hk : k < 8) (hd : 0 ≤ d)
    (v1 : ((nI k) < 0) → Q none w1 (I, D, RR R))
    (v2 : (¬ (nI k) < 0) → (k < 8) → Q none w1 (I, (j_u D (g + 1) k x), RR R))
    (v3 : (¬ (nI k) < 0) → (¬ k < 8) → Q none w1 (I, D, RR R)) : j_Call d 110 [.ref g, .int 0, .int (nI k), .double x] w1 (I, D, RR R) 0 0 Q := by
  refine q_enter (L := [some (.ref g), some (.int 0), some (.int (nI k)), some (.double x), none]) j_m110 (Nat.le_of_ble_eq_true rfl) rfl ?_
  refine q_iload_n d110_0 rfl ?_
  refine q_if_lt (tgt := 10) d110_1 rfl (fun h1t => ?_) (fun h1f => ?_)
  ·
    exact q_ret d110_10 rfl (Nat.le_refl _) (Nat.le_refl _) (v1 h1t)
  ·
    refine q_iload_n d110_4 rfl ?_
    refine q_bipush (v := 8) (by decide) d110_5 ?_
    refine q_icmp_lt (tgt := 11) d110_7 rfl (fun h2t => ?_) (fun h2f => ?_)
    ·
      have h2tc : k < 8 := (nI_ltI (by omega) (by omega)).mp h2t
      refine q_iload_n d110_11 rfl ?_
      refine q_if_ne (tgt := 25) d110_12 rfl (fun h => absurd h (by decide)) (fun _ => ?_)
      refine q_aload_n d110_15 rfl ?_
      refine q_getR (x := (g + 1)) d110_16 (fs3_9 110 rfl) rfl (isG_lt hg) (isG_sh hg) (isG_r1 R hg) (lt1000 (isG_lt1 hg)) ?_
      refine q_iload_n d110_19 rfl ?_
      refine q_dload_n d110_20 rfl ?_
      refine q_dastore (a := k) d110_21 (isG_lt1 hg) (isG_sh1 hg) rfl (by omega) ?_
      refine q_goto (tgt := 32) d110_22 rfl ?_
      exact q_ret d110_32 rfl (Nat.le_refl _) (Nat.le_refl _) (v2 h1f h2tc)
    ·
      have h2fc : ¬ k < 8 := mt (nI_ltI (by omega) (by omega)).mpr h2f
      exact q_ret d110_10 rfl (Nat.le_refl _) (Nat.le_refl _) (v3 h1f h2fc)

set_option maxRecDepth 10000 in
set_option maxHeartbeats 4000000 in
theorem s111_0 {d : Nat} {I : Nat → Nat → Int32} {D : Nat → Nat → UInt64} {R : Nat → Nat → Option Nat} {Q : j_Po} {g : Nat} {n : Nat}  (hg : isG g) (hd : 0 ≤ d)
    (v1 : Q none w1 ((j_u I g 4 (nI n)), D, RR R)) : j_Call d 111 [.ref g, .int 0, .int (nI n)] w1 (I, D, RR R) 0 0 Q := by
  refine q_enter (L := [some (.ref g), some (.int 0), some (.int (nI n))]) j_m111 (Nat.le_of_ble_eq_true rfl) rfl ?_
  refine q_iload_n d111_0 rfl ?_
  refine q_if_ne (tgt := 12) d111_1 rfl (fun h => absurd h (by decide)) (fun _ => ?_)
  refine q_aload_n d111_4 rfl ?_
  refine q_iload_n d111_5 rfl ?_
  refine q_putI d111_6 (fs3_32 111 rfl) (Or.inl rfl) rfl (isG_lt hg) (isG_sh hg) ?_
  refine q_goto (tgt := 17) d111_9 rfl ?_
  exact q_ret d111_17 rfl (Nat.le_refl _) (Nat.le_refl _) v1

set_option maxRecDepth 10000 in
set_option maxHeartbeats 4000000 in
theorem s108_0 {d : Nat} {I : Nat → Nat → Int32} {D : Nat → Nat → UInt64} {R : Nat → Nat → Option Nat} {Q : j_Po} {t : Nat}  (hR : WFR R) (ht : t < 6) (hd : 0 ≤ d)
    (v1 : ((I ((R 113 t).getD 0) 0) = 0) → Q (some (.int 0)) w1 (I, D, RR R))
    (v2 : (¬ (I ((R 113 t).getD 0) 0) = 0) → Q (some (.int 1)) w1 (I, D, RR R)) : j_Call d 108 [.ref 0, .int (nI t), .int 0] w1 (I, D, RR R) 0 0 Q := by
  refine q_enter (L := [some (.ref 0), some (.int (nI t)), some (.int 0), none]) j_m108 (Nat.le_of_ble_eq_true rfl) rfl ?_
  refine q_aload_n d108_0 rfl ?_
  refine q_getR (x := 108) d108_1 (fs9_53 108 rfl) rfl (lt_w1 rfl) sh0 (rs0_1 R) (by decide) ?_
  refine q_getR (x := 113) d108_4 (fs9_197 108 rfl) rfl (lt_w1 rfl) sh108 (rs108_4 R) (by decide) ?_
  refine q_iload_n d108_7 rfl ?_
  have g2 := hR.g t (by omega)
  refine q_aaload (c := 7) (a := t) (x := ((R 113 t).getD 0)) d108_8 (lt_w1 rfl) sh113 (by decide) rfl (by omega) ((RR_d rfl).trans g2.1) (lt1000 (isG_lt g2.2)) ?_
  refine q_astore_n (L' := [some (.ref 0), some (.int (nI t)), some (.int 0), some (.ref ((R 113 t).getD 0))]) d108_9 (Nat.le_of_ble_eq_true rfl) (Nat.ne_of_lt (Nat.lt_trans (lt1000 (isG_lt g2.2)) (by decide))) rfl ?_
  refine q_aload_n d108_10 rfl ?_
  refine q_getI d108_11 (fs9_231 108 rfl) rfl (isG_lt g2.2) (isG_sh g2.2) ?_
  refine q_if_eq (tgt := 33) d108_14 rfl (fun h3t => ?_) (fun h3f => ?_)
  ·
    refine q_iconst (v := 0) (by decide) d108_33 ?_
    exact q_zret d108_34 rfl (Or.inl rfl) (Nat.le_refl _) (Nat.le_refl _) (v1 h3t)
  ·
    refine q_iload_n d108_17 rfl ?_
    refine q_if_eq (tgt := 29) d108_18 rfl (fun _ => ?_) (fun h => absurd h (by decide))
    refine q_iconst (v := 1) (by decide) d108_29 ?_
    refine q_goto (tgt := 34) d108_30 rfl ?_
    exact q_zret d108_34 rfl (Or.inr rfl) (Nat.le_refl _) (Nat.le_refl _) (v2 h3f)

set_option maxRecDepth 10000 in
set_option maxHeartbeats 4000000 in
theorem s110_1 {d : Nat} {I : Nat → Nat → Int32} {D : Nat → Nat → UInt64} {R : Nat → Nat → Option Nat} {Q : j_Po} {g : Nat} {k : Nat} {x : UInt64}  (hg : isG g) (hk : k < 8) (hd : 0 ≤ d)
    (v1 : ((nI k) < 0) → Q none w1 (I, D, RR R))
    (v2 : (¬ (nI k) < 0) → (k < 8) → Q none w1 (I, (j_u D (g + 2) k x), RR R))
    (v3 : (¬ (nI k) < 0) → (¬ k < 8) → Q none w1 (I, D, RR R)) : j_Call d 110 [.ref g, .int 1, .int (nI k), .double x] w1 (I, D, RR R) 0 0 Q := by
  refine q_enter (L := [some (.ref g), some (.int 1), some (.int (nI k)), some (.double x), none]) j_m110 (Nat.le_of_ble_eq_true rfl) rfl ?_
  refine q_iload_n d110_0 rfl ?_
  refine q_if_lt (tgt := 10) d110_1 rfl (fun h1t => ?_) (fun h1f => ?_)
  ·
    exact q_ret d110_10 rfl (Nat.le_refl _) (Nat.le_refl _) (v1 h1t)
  ·
    refine q_iload_n d110_4 rfl ?_
    refine q_bipush (v := 8) (by decide) d110_5 ?_
    refine q_icmp_lt (tgt := 11) d110_7 rfl (fun h2t => ?_) (fun h2f => ?_)
    ·
      have h2tc : k < 8 := (nI_ltI (by omega) (by omega)).mp h2t
      refine q_iload_n d110_11 rfl ?_
      refine q_if_ne (tgt := 25) d110_12 rfl (fun _ => ?_) (fun h => absurd h (by decide))
      refine q_aload_n d110_25 rfl ?_
      refine q_getR (x := (g + 2)) d110_26 (fs3_15 110 rfl) rfl (isG_lt hg) (isG_sh hg) (isG_r2 R hg) (lt1000 (isG_lt2 hg)) ?_
      refine q_iload_n d110_29 rfl ?_
      refine q_dload_n d110_30 rfl ?_
      refine q_dastore (a := k) d110_31 (isG_lt2 hg) (isG_sh2 hg) rfl (by omega) ?_
      exact q_ret d110_32 rfl (Nat.le_refl _) (Nat.le_refl _) (v2 h1f h2tc)
    ·
      have h2fc : ¬ k < 8 := mt (nI_ltI (by omega) (by omega)).mpr h2f
      exact q_ret d110_10 rfl (Nat.le_refl _) (Nat.le_refl _) (v3 h1f h2fc)

set_option maxRecDepth 10000 in
set_option maxHeartbeats 4000000 in
theorem s111_1 {d : Nat} {I : Nat → Nat → Int32} {D : Nat → Nat → UInt64} {R : Nat → Nat → Option Nat} {Q : j_Po} {g : Nat} {n : Nat}  (hg : isG g) (hd : 0 ≤ d)
    (v1 : Q none w1 ((j_u I g 5 (nI n)), D, RR R)) : j_Call d 111 [.ref g, .int 1, .int (nI n)] w1 (I, D, RR R) 0 0 Q := by
  refine q_enter (L := [some (.ref g), some (.int 1), some (.int (nI n))]) j_m111 (Nat.le_of_ble_eq_true rfl) rfl ?_
  refine q_iload_n d111_0 rfl ?_
  refine q_if_ne (tgt := 12) d111_1 rfl (fun _ => ?_) (fun h => absurd h (by decide))
  refine q_aload_n d111_12 rfl ?_
  refine q_iload_n d111_13 rfl ?_
  refine q_putI d111_14 (fs3_35 111 rfl) (Or.inl rfl) rfl (isG_lt hg) (isG_sh hg) ?_
  exact q_ret d111_17 rfl (Nat.le_refl _) (Nat.le_refl _) v1

set_option maxRecDepth 10000 in
set_option maxHeartbeats 4000000 in
theorem s108_1 {d : Nat} {I : Nat → Nat → Int32} {D : Nat → Nat → UInt64} {R : Nat → Nat → Option Nat} {Q : j_Po} {t : Nat}  (hR : WFR R) (ht : t < 6) (hd : 0 ≤ d)
    (v1 : ((I ((R 113 t).getD 0) 0) = 0) → Q (some (.int 0)) w1 (I, D, RR R))
    (v2 : (¬ (I ((R 113 t).getD 0) 0) = 0) → ((I ((R 113 t).getD 0) 3) = (-1)) → Q (some (.int 0)) w1 (I, D, RR R))
    (v3 : (¬ (I ((R 113 t).getD 0) 0) = 0) → (¬ (I ((R 113 t).getD 0) 3) = (-1)) → Q (some (.int 1)) w1 (I, D, RR R)) : j_Call d 108 [.ref 0, .int (nI t), .int 1] w1 (I, D, RR R) 0 0 Q := by
  refine q_enter (L := [some (.ref 0), some (.int (nI t)), some (.int 1), none]) j_m108 (Nat.le_of_ble_eq_true rfl) rfl ?_
  refine q_aload_n d108_0 rfl ?_
  refine q_getR (x := 108) d108_1 (fs9_53 108 rfl) rfl (lt_w1 rfl) sh0 (rs0_1 R) (by decide) ?_
  refine q_getR (x := 113) d108_4 (fs9_197 108 rfl) rfl (lt_w1 rfl) sh108 (rs108_4 R) (by decide) ?_
  refine q_iload_n d108_7 rfl ?_
  have g2 := hR.g t (by omega)
  refine q_aaload (c := 7) (a := t) (x := ((R 113 t).getD 0)) d108_8 (lt_w1 rfl) sh113 (by decide) rfl (by omega) ((RR_d rfl).trans g2.1) (lt1000 (isG_lt g2.2)) ?_
  refine q_astore_n (L' := [some (.ref 0), some (.int (nI t)), some (.int 1), some (.ref ((R 113 t).getD 0))]) d108_9 (Nat.le_of_ble_eq_true rfl) (Nat.ne_of_lt (Nat.lt_trans (lt1000 (isG_lt g2.2)) (by decide))) rfl ?_
  refine q_aload_n d108_10 rfl ?_
  refine q_getI d108_11 (fs9_231 108 rfl) rfl (isG_lt g2.2) (isG_sh g2.2) ?_
  refine q_if_eq (tgt := 33) d108_14 rfl (fun h3t => ?_) (fun h3f => ?_)
  ·
    refine q_iconst (v := 0) (by decide) d108_33 ?_
    exact q_zret d108_34 rfl (Or.inl rfl) (Nat.le_refl _) (Nat.le_refl _) (v1 h3t)
  ·
    refine q_iload_n d108_17 rfl ?_
    refine q_if_eq (tgt := 29) d108_18 rfl (fun h => absurd h (by decide)) (fun _ => ?_)
    refine q_aload_n d108_21 rfl ?_
    refine q_getI d108_22 (fs9_410 108 rfl) rfl (isG_lt g2.2) (isG_sh g2.2) ?_
    refine q_iconst (v := (-1)) (by decide) d108_25 ?_
    refine q_icmp_eq (tgt := 33) d108_26 rfl (fun h4t => ?_) (fun h4f => ?_)
    ·
      refine q_iconst (v := 0) (by decide) d108_33 ?_
      exact q_zret d108_34 rfl (Or.inl rfl) (Nat.le_refl _) (Nat.le_refl _) (v2 h3f h4t)
    ·
      refine q_iconst (v := 1) (by decide) d108_29 ?_
      refine q_goto (tgt := 34) d108_30 rfl ?_
      exact q_zret d108_34 rfl (Or.inr rfl) (Nat.le_refl _) (Nat.le_refl _) (v3 h3f h4f)

section GB
variable {d : Nat} {I : Nat → Nat → Int32} {D : Nat → Nat → UInt64} {R : Nat → Nat → Option Nat} {Q : j_Po}
theorem c109 {g g2 : Nat} (hg : isG g) (hg2 : isG g2) (hd : 1 ≤ d) (hne : ∀ i j, i ≤ 2 → j ≤ 2 → g + i ≠ g2 + j) (h01 : I g2 0 = 0 ∨ I g2 0 = 1)
    (hq : ∀ J E, (∀ o, o ≠ g → J o = I o) → (∀ i, i < 6 → J g i = I g2 i) → (∀ o, o ≠ g + 1 → o ≠ g + 2 → E o = D o) → (∀ k, k < 8 → E (g + 1) k = D (g2 + 1) k) → (∀ k, k < 8 → E (g + 2) k = D (g2 + 2) k) → Q none w1 (J, E, RR R)) : j_Call d 109 [.ref g, .ref g2] w1 (I, D, RR R) 0 0 Q := by
  have d00 := hne 0 0 (by omega) (by omega)
  have d12 := hne 1 2 (by omega) (by omega)
  rw [Nat.add_zero, Nat.add_zero] at d00
  refine s109 hg hg2 hd h01 (hq _ _ (fun o ho => ?_) (fun i hi => ?_) (fun o h1 h2 => ?_) (fun k hk => ?_) (fun k hk => ?_))
  · funext i; simp only [j_u_o _ _ _ ho]
  · have : i = 0 ∨ i = 1 ∨ i = 2 ∨ i = 3 ∨ i = 4 ∨ i = 5 := by omega
    rcases this with rfl | rfl | rfl | rfl | rfl | rfl <;> simp (disch := omega) only [j_u_k, j_u_same, j_u_o]
  · rw [j_uo_ne _ _ h2, j_uo_ne _ _ h1]
  · rw [j_uo_ne _ _ (by omega), j_uo_same, pk_cpy_in (by omega) (by omega)]
    congr 1; omega
  · rw [j_uo_same, pk_cpy_in (by omega) (by omega), j_uo_ne _ _ (by omega)]
    congr 1; omega
theorem GR.bec {β : Bd} {t : Nat} {J : Nat → Nat → Int32} {E : Nat → Nat → UInt64} {g g2 : Nat} (h : GR β t I D g2) (hV : BV β) (ht : t < 6) (h1 : ∀ i, i < 6 → J g i = I g2 i) (h2 : ∀ k, k < 8 → E (g + 1) k = D (g2 + 1) k) (h3 : ∀ k, k < 8 → E (g + 2) k = D (g2 + 2) k) : GR β t J E g := by
  obtain ⟨a0, a⟩ := h
  refine ⟨by rw [h1 0 (by omega)]; exact a0, fun hl => ?_⟩
  obtain ⟨a1, a2, a3, a4, a5, a6, a7⟩ := a hl
  obtain ⟨-, -, -, -, -, m8, -, -, n8, -⟩ := hV.2.1 t ht hl
  exact ⟨by rw [h1 1 (by omega)]; exact a1, by rw [h1 2 (by omega)]; exact a2, by rw [h1 3 (by omega)]; exact a3, by rw [h1 4 (by omega)]; exact a4, by rw [h1 5 (by omega)]; exact a5, fun k hk => by rw [h2 k (by omega)]; exact a6 k hk, fun k hk => by rw [h3 k (by omega)]; exact a7 k hk⟩
theorem c24g {β : Bd} {t g : Nat} (hg : isG g) (hd : 1 ≤ d) (hV : BV β) (ht : t < 6) (hG : GR β t I D g) (hl : bL β t = true) (hq : Q (some (.int (nI (cas β t)))) w1 (I, D, RR R)) : j_Call d 24 [.ref g] w1 (I, D, RR R) 0 0 Q := by
  obtain ⟨-, -, -, e4, e5, -⟩ := hG.2 hl
  obtain ⟨-, -, -, -, m1, m2, n0, n1, n2, -⟩ := hV.2.1 t ht hl
  unfold cas at hq
  refine s24 hg hd (fun h => ?_) (fun h => ?_)
  · rw [e5] at h
    have hz : bn β t = 0 := by
      rcases Nat.eq_zero_or_pos (bn β t) with h9 | h9
      · exact h9
      · exact absurd h (nI_nle h9 (by omega))
    have ho : b2 β t = none := Classical.byContradiction fun ho => by have := n1 ho; omega
    rw [if_pos ho] at hq
    rw [e4, show (1 : Int32) = nI 1 from rfl, pk_mul]; exact hq
  · rw [e5] at h
    have ho : ¬ b2 β t = none := fun ho => h (by rw [n0 ho]; decide)
    rw [if_neg ho] at hq
    rw [e4, e5, pk_mul]; exact hq
end GB
/-! one axis is another one -/
def bax (β : Bd) (t w n : Nat) (xs : Nat → UInt64) : Bd := (β.1, β.2.1, β.2.2.1, β.2.2.2.1, β.2.2.2.2.1, bL β, bO β, b1 β, b2 β, (if w = 0 then fu (bm β) t n else bm β), (if w = 0 then bn β else fu (bn β) t n), fu (bA β) (2 * t + w) xs)
section BA
variable {β : Bd} {t w n : Nat} {xs : Nat → UInt64}
theorem bax_o (hw : w < 2) : otherT β (bax β t w n xs) t := by
  refine ⟨⟨rfl, rfl, rfl, rfl, rfl⟩, fun u hu h => ⟨rfl, rfl, rfl, rfl, ?_, ?_, fu_n (by omega), fu_n (by omega)⟩⟩
  · show (if w = 0 then fu (bm β) t n else bm β) u = _
    split
    · exact fu_n h
    · rfl
  · show (if w = 0 then bn β else fu (bn β) t n) u = _
    split
    · rfl
    · exact fu_n h
theorem bax_V (hV : BV β) (hw : w < 2) (ht : t < 6) (hl : bL β t = true) (hn1 : 1 ≤ n) (hn8 : n ≤ 8) (ho : w = 1 → b2 β t ≠ none) (hx : ∀ k, k < n → Sm (xs k)) : BV (bax β t w n xs) := by
  refine ⟨hV.1, fun u hu hlu => ?_, hV.2.2⟩
  by_cases h : u = t
  · subst h
    obtain ⟨a1, a2, a3, a4, a5, a6, a7, a8, a9, a10, a11⟩ := hV.2.1 u hu hl
    have hw' : w = 0 ∨ w = 1 := by omega
    rcases hw' with rfl | rfl
    · have e4 : bm (bax β u 0 n xs) u = n := fu_s
      have e6 : bA (bax β u 0 n xs) (2 * u) = xs := fu_s
      have e7 : bA (bax β u 0 n xs) (2 * u + 1) = bA β (2 * u + 1) := fu_n (by omega)
      rw [e4, e6, e7]
      exact ⟨a1, a2, a3, a4, hn1, hn8, a7, a8, a9, hx, a11⟩
    · have e4 : bn (bax β u 1 n xs) u = n := fu_s
      have e6 : bA (bax β u 1 n xs) (2 * u + 1) = xs := fu_s
      have e7 : bA (bax β u 1 n xs) (2 * u) = bA β (2 * u) := fu_n (by omega)
      rw [e4, e6, e7]
      exact ⟨a1, a2, a3, a4, a5, a6, fun h => absurd h (ho rfl), fun _ => hn1, hn8, a10, hx⟩
  · obtain ⟨-, hb⟩ := bax_o (β := β) (t := t) (n := n) (xs := xs) hw
    obtain ⟨a1, a2, a3, a4, a5, a6, a7, a8⟩ := hb u hu h
    rw [a1] at hlu
    rw [a2, a3, a4, a5, a6, a7, a8]
    exact hV.2.1 u hu hlu
theorem bax_GR {J : Nat → Nat → Int32} {E E2 : Nat → Nat → UInt64} {g : Nat} (hw : w < 2) (h : GR β t J E g) (h1 : ∀ o, o ≠ g + 1 + w → E2 o = E o) (h2 : ∀ k, k < n → E2 (g + 1 + w) k = xs k) : GR (bax β t w n xs) t (j_u J g (4 + w) (nI n)) E2 g := by
  obtain ⟨a0, a⟩ := h
  refine ⟨by rw [j_u_k _ _ (by omega)]; exact a0, fun hl => ?_⟩
  obtain ⟨a1, a2, a3, a4, a5, a6, a7⟩ := a hl
  have hw' : w = 0 ∨ w = 1 := by omega
  rcases hw' with rfl | rfl
  · have e4 : bm (bax β t 0 n xs) t = n := fu_s
    have e6 : bA (bax β t 0 n xs) (2 * t) = xs := fu_s
    have e7 : bA (bax β t 0 n xs) (2 * t + 1) = bA β (2 * t + 1) := fu_n (by omega)
    rw [e4, e6, e7]
    refine ⟨by rw [j_u_k _ _ (by omega)]; exact a1, by rw [j_u_k _ _ (by omega)]; exact a2, by rw [j_u_k _ _ (by omega)]; exact a3, j_u_same _ _ _ _, by rw [j_u_k _ _ (by omega)]; exact a5, h2, fun k hk => by rw [h1 _ (by omega)]; exact a7 k hk⟩
  · have e4 : bn (bax β t 1 n xs) t = n := fu_s
    have e6 : bA (bax β t 1 n xs) (2 * t + 1) = xs := fu_s
    have e7 : bA (bax β t 1 n xs) (2 * t) = bA β (2 * t) := fu_n (by omega)
    rw [e4, e6, e7]
    refine ⟨by rw [j_u_k _ _ (by omega)]; exact a1, by rw [j_u_k _ _ (by omega)]; exact a2, by rw [j_u_k _ _ (by omega)]; exact a3, by rw [j_u_k _ _ (by omega)]; exact a4, j_u_same _ _ _ _, fun k hk => by rw [h1 _ (by omega)]; exact a6 k hk, h2⟩
end BA
/-- a new table in the spare grid -/
theorem tab_CB {β β2 : Bd} {t : Nat} {I I2 : Nat → Nat → Int32} {D D2 : Nat → Nat → UInt64} {R : Nat → Nat → Option Nat} (hR : WFR R) (hW : WFD R) (h : CB β I D R) (ho : otherT β β2 t) (ht : t < 6) (hf : ∀ o', o' ≠ gs R → I2 o' = I o') (hg : ∀ o', o' ≠ gs R + 1 → o' ≠ gs R + 2 → D2 o' = D o') (hG : GR β2 t I2 D2 (gs R)) : CB β2 I2 D2 (j_u R 113 t (some (gs R))) := by
  have hs := isBG_rng hR.2.2.2.2
  refine h.tab ho (hf _ (by omega)) (hf _ (by omega)) (hg _ (by omega) (by omega)) (fun c hc => ?_) (fun u hu e => ?_) ?_
  · have hb := isBF_rng (hR.1 c hc).2
    have hd : ∀ i, i ≤ 2 → fo R c + i ≠ gs R := fun i hi => by
      rcases hb with hb | hb <;> rcases hs with hs | hs <;> omega
    exact ⟨j_u_o _ _ _ (by decide), hf _ (hd 0 (by omega)), hf _ (hd 1 (by omega)), hf _ (hd 2 (by omega))⟩
  · have hd : ∀ i j, i ≤ 2 → j ≤ 2 → go R u + i ≠ gs R + j := fun i j hi hj e => by
      have h0 := hW.2.2.2 u hu
      have h1 := (hR.2.1 u hu).2
      have h2 := hR.2.2.2.2
      unfold isBG at h1 h2
      rcases h1 with h1 | ⟨p, hp, h1⟩ <;> rcases h2 with h2 | ⟨q, hq, h2⟩
      · exact h0 (h1.trans h2.symm)
      · omega
      · omega
      · exact h0 (by omega)
    exact ⟨j_u_k _ _ e, hf _ (hd 0 0 (by omega) (by omega)), hg _ (hd 1 1 (by omega) (by omega)) (hd 1 2 (by omega) (by omega)), hg _ (hd 2 1 (by omega) (by omega)) (hd 2 2 (by omega) (by omega))⟩
  · have e0 : go (j_u R 113 t (some (gs R))) t = gs R := by
      show (j_u R 113 t (some (gs R)) 113 t).getD 0 = gs R
      rw [j_u_same]; rfl
    rw [e0]; exact hG
/-- both sides hold the other table -/
theorem tab_inv {β β2 : Bd} {t : Nat} {σ : j_I3} (hR : WFR σ.2.2) (hW : WFD σ.2.2) (hL : Live β σ) (hRe : Rest σ) (ht : t < 6) (hot : otherT β β2 t) {I2 J K : Nat → Nat → Int32} {D2 D3 : Nat → Nat → UInt64} (hf : ∀ o', o' ≠ gs σ.2.2 → I2 o' = σ.1 o') (hg : ∀ o', o' ≠ gs σ.2.2 + 1 → o' ≠ gs σ.2.2 + 2 → D2 o' = σ.2.1 o')
    (hC : CB β2 I2 D2 (j_u σ.2.2 113 t (some (gs σ.2.2)))) (hV : BV β2) (j1 : ∀ o', (o' < 205 ∨ 211 ≤ o') → J o' = I2 o') (j2 : NM β2 J) (j3 : OrdB β2 J) (j4 : ∀ v, v < 30 → bu J v ≤ 2000)
    (hKJ : ∀ o', o' ≠ 361 → o' ≠ 362 → (o' < 315 ∨ 320 ≤ o') → K o' = J o') (hDD : ∀ o', o' ≠ 321 + 2 * t → o' ≠ 321 + 2 * t + 1 → D3 o' = D2 o')
    (hu : ∀ u, u < 6 → u ≠ t → K 315 u = J 315 u ∧ K 316 u = J 316 u ∧ K 317 u = J 317 u ∧ K 318 u = J 318 u ∧ K 319 (2 * u) = J 319 (2 * u) ∧ K 319 (2 * u + 1) = J 319 (2 * u + 1))
    (hn : K 315 t = bi (bL β2 t) ∧ (bL β2 t = true → K 316 t = nI (bO β2 t) ∧ K 317 t = nI (b1 β2 t) ∧ K 318 t = oI (b2 β2 t) ∧ K 319 (2 * t) = nI (bm β2 t) ∧ K 319 (2 * t + 1) = nI (bn β2 t) ∧ (∀ k, k < bm β2 t → D3 (321 + 2 * t) k = bA β2 (2 * t) k) ∧ (∀ k, k < bn β2 t → D3 (321 + 2 * t + 1) k = bA β2 (2 * t + 1) k))) :
    Inv (K, D3, j_u (j_u σ.2.2 113 t (some (gs σ.2.2))) 0 6 (some (go σ.2.2 t))) := by
  obtain ⟨a1, a2, a3, a4', a5, a6', a7⟩ := hL
  have hs := isBG_rng hR.2.2.2.2
  have hKI : ∀ o', o' ≠ 361 → o' ≠ 362 → (o' < 315 ∨ 320 ≤ o') → (o' < 205 ∨ 211 ≤ o') → o' ≠ gs σ.2.2 → K o' = σ.1 o' := fun o' h1 h2 h3 h4 h5 => (hKJ o' h1 h2 h3).trans ((j1 o' h4).trans (hf o' h5))
  have hJI : ∀ o', 211 ≤ o' → J o' = σ.1 o' := fun o' h => (j1 o' (by omega)).trans (hf o' (by omega))
  have hDI : ∀ o', o' ≠ 321 + 2 * t → o' ≠ 321 + 2 * t + 1 → o' ≠ gs σ.2.2 + 1 → o' ≠ gs σ.2.2 + 2 → D3 o' = σ.2.1 o' := fun o' h1 h2 h3 h4 => (hDD o' h1 h2).trans (hg o' h3 h4)
  refine Inv.mk (β := β2) (hR.sw113 ht) (hW.sw113 ht) ((hC.cg (hR.u113 hR.2.2.2.2) (fun o' ho => ?_) (fun o' ho => ?_)).R ?_ ?_) (a2.tab hot (fun o' h1 h2 => hKI o' (by omega) (by omega) (by omega) (by omega) (by omega)) (fun o' h1 h2 => hDI o' (by omega) (by omega) (by omega) (by omega)) (fun u hu9 e' => ?_) hn) (fun c hc => ?_) hV (j2.cg (fun o' h1 h2 => hKJ o' (by omega) (by omega) (by omega))) (j3.cg (hKJ 205 (by omega) (by omega) (by omega))) (fun v hv => ?_) (hRe.cg' (fun o' ho => ?_) (fun o' ho => ?_) ?_ ?_ ?_ ?_)
  · unfold CBP at ho
    rw [hKJ o' (by omega) (by omega) (by omega), j1 o' (by omega)]
  · unfold CBP at ho
    exact hDD o' (by omega) (by omega)
  · funext i; rw [j_u_o _ _ _ (by decide)]
  · funext i; rw [j_u_o _ _ _ (by decide)]
  · obtain ⟨p1, p2, p3, p4, p5, p6⟩ := hu u hu9 e'
    rw [p1, p2, p3, p4, p5, p6, hJI 315 (by decide), hJI 316 (by decide), hJI 317 (by decide), hJI 318 (by decide), hJI 319 (by decide)]
    exact ⟨rfl, rfl, rfl, rfl, rfl, rfl, hDI _ (by omega) (by omega) (by omega) (by omega), hDI _ (by omega) (by omega) (by omega) (by omega)⟩
  · rw [hKI 333 (by omega) (by omega) (by omega) (by omega) (by omega), hKI (335 + c) (by omega) (by omega) (by omega) (by omega) (by omega), hot.1.2.2.2.1, hot.1.2.2.2.2]; exact a3 c hc
  · unfold bu
    rw [hKJ 208 (by omega) (by omega) (by omega)]; exact j4 v hv
  · unfold restP at ho
    exact hKI o' (by omega) (by omega) (by omega) (by omega) (by omega)
  · unfold restP at ho
    exact hDI o' (by omega) (by omega) (by omega) (by omega)
  · rw [hKI 97 (by omega) (by omega) (by omega) (by omega) (by omega)]
  · rw [hKI 260 (by omega) (by omega) (by omega) (by omega) (by omega)]
  · rw [hKI 260 (by omega) (by omega) (by omega) (by omega) (by omega)]
  · rw [hKI 0 (by omega) (by omega) (by omega) (by omega) (by omega)]
theorem ax_inv {β : Bd} {t w n : Nat} {xs : Nat → UInt64} {σ : j_I3} (hR : WFR σ.2.2) (hW : WFD σ.2.2) (hL : Live β σ) (hRe : Rest σ) (ht : t < 6) (hw : w < 2) {I2 J K : Nat → Nat → Int32} {D2 D3 : Nat → Nat → UInt64} (hf : ∀ o', o' ≠ gs σ.2.2 → I2 o' = σ.1 o') (hg : ∀ o', o' ≠ gs σ.2.2 + 1 → o' ≠ gs σ.2.2 + 2 → D2 o' = σ.2.1 o')
    (hC : CB (bax β t w n xs) I2 D2 (j_u σ.2.2 113 t (some (gs σ.2.2)))) (hV : BV (bax β t w n xs)) (j1 : ∀ o', (o' < 205 ∨ 211 ≤ o') → J o' = I2 o') (j2 : NM (bax β t w n xs) J) (j3 : OrdB (bax β t w n xs) J) (j4 : ∀ v, v < 30 → bu J v ≤ 2000)
    (k1 : ∀ o', o' ≠ 361 → o' ≠ 362 → K o' = j_u J 319 (2 * t + w) (nI n) o') (d1 : ∀ o', o' ≠ 321 + (2 * t + w) → D3 o' = D2 o') (d2 : ∀ k, k < n → D3 (321 + (2 * t + w)) k = xs k) :
    Inv (K, D3, j_u (j_u σ.2.2 113 t (some (gs σ.2.2))) 0 6 (some (go σ.2.2 t))) := by
  have hs := isBG_rng hR.2.2.2.2
  have hJI : ∀ o', 211 ≤ o' → J o' = σ.1 o' := fun o' h => (j1 o' (by omega)).trans (hf o' (by omega))
  have hK : ∀ o', o' ≠ 361 → o' ≠ 362 → o' ≠ 319 → K o' = J o' := fun o' h1 h2 h3 => by rw [k1 o' h1 h2]; funext i; rw [j_u_o _ _ _ h3]
  refine tab_inv hR hW hL hRe ht (bax_o hw) hf hg hC hV j1 j2 j3 j4 (fun o' h1 h2 h3 => hK o' h1 h2 (by omega)) (fun o' h1 h2 => d1 o' (by omega)) (fun u hu e => ⟨?_, ?_, ?_, ?_, ?_, ?_⟩) ⟨?_, fun hl => ?_⟩
  · rw [hK 315 (by decide) (by decide) (by decide)]
  · rw [hK 316 (by decide) (by decide) (by decide)]
  · rw [hK 317 (by decide) (by decide) (by decide)]
  · rw [hK 318 (by decide) (by decide) (by decide)]
  · rw [k1 319 (by decide) (by decide), j_u_k _ _ (by omega)]
  · rw [k1 319 (by decide) (by decide), j_u_k _ _ (by omega)]
  · rw [hK 315 (by decide) (by decide) (by decide), hJI 315 (by decide)]
    exact (hL.2.1.2 t ht).1
  · obtain ⟨b1', b2', b3', b4', b5', b6', b7'⟩ := (hL.2.1.2 t ht).2 hl
    rw [hK 316 (by decide) (by decide) (by decide), hK 317 (by decide) (by decide) (by decide), hK 318 (by decide) (by decide) (by decide), k1 319 (by decide) (by decide), hJI 316 (by decide), hJI 317 (by decide), hJI 318 (by decide)]
    have hw' : w = 0 ∨ w = 1 := by omega
    rcases hw' with rfl | rfl
    · have e4 : bm (bax β t 0 n xs) t = n := fu_s
      have e6 : bA (bax β t 0 n xs) (2 * t) = xs := fu_s
      have e7 : bA (bax β t 0 n xs) (2 * t + 1) = bA β (2 * t + 1) := fu_n (by omega)
      rw [e4, e6, e7]
      refine ⟨b1', b2', b3', j_u_same _ _ _ _, ?_, d2, fun k hk => ?_⟩
      · rw [j_u_k _ _ (by omega), hJI 319 (by decide)]; exact b5'
      · rw [d1 _ (by omega), hg _ (by omega) (by omega)]; exact b7' k hk
    · have e4 : bn (bax β t 1 n xs) t = n := fu_s
      have e6 : bA (bax β t 1 n xs) (2 * t + 1) = xs := fu_s
      have e7 : bA (bax β t 1 n xs) (2 * t) = bA β (2 * t) := fu_n (by omega)
      rw [e4, e6, e7]
      refine ⟨b1', b2', b3', ?_, j_u_same _ _ _ _, fun k hk => ?_, fun k hk => ?_⟩
      · rw [j_u_k _ _ (by omega), hJI 319 (by decide)]; exact b4'
      · rw [d1 _ (by omega), hg _ (by omega) (by omega)]; exact b6' k hk
      · rw [show 321 + 2 * t + 1 = 321 + (2 * t + 1) by omega]; exact d2 k hk
