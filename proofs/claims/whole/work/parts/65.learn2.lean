/-! learning: the loop -/
set_option maxRecDepth 10000 in
set_option maxHeartbeats 4000000 in
theorem s19e {d : Nat} {I : Nat → Nat → Int32} {D : Nat → Nat → UInt64} {R : Nat → Nat → Option Nat} {Q : j_Po}  {β : Bd} (hR : WFR R) (hV : BV β) (hC : CB β I D R) (hB : NB I) (hE : ∀ u, u < 30 → ∀ v, v < 32 → bt (nby I R u) v = ed β u v) (hA : acyc β) (hL : ∀ u v, u < 30 → ed β u v = true → v < 30) (hd : 3 ≤ d)
    (v1 : ∀ J : Nat → Nat → Int32, ∀ o : Nat → Nat, (∀ o', o' ≠ 205 → J o' = I o') → (Ord (ed β) o 30 J) → (∀ v, v < 30 → ∃ k, k < 30 ∧ o k = v) → j_W 19 d 0 0 0 0 7 [some (.ref 204), some (.ref 108), some (.int 0), none] [] w1 (J, D, RR R) Q) : j_Call d 19 [.ref 204, .ref 108] w1 (I, D, RR R) 0 0 Q := by
  refine q_enter (L := [some (.ref 204), some (.ref 108), none, none]) j_m19 (Nat.le_of_ble_eq_true rfl) rfl ?_
  refine q_aload_n d19_0 rfl ?_
  refine q_aload_n d19_1 rfl ?_
  refine q_invV (o := 204) (ci := 4) (av := [.ref 108]) (rest := []) (d' := 1) (mc' := 0) (ms' := 0) d19_2 (cv4_63 19 rfl) rfl (by decide) rfl rfl (by omega) (Nat.le_of_ble_eq_true rfl) (Nat.le_of_ble_eq_true rfl) (lt_w1 rfl) sh204 (Nat.le_refl _) (Nat.le_refl _) ?_
  refine c20 (E := ed β) hR (Nat.le_refl _) hE hA hL  (fun J o j1 j2 j3 => ?_)
  show j_W 19 d 0 0 0 0 5 [some (.ref 204), some (.ref 108), none, none] [] w1 (J, D, RR R) Q
  refine q_iconst (v := 0) (by decide) d19_5 ?_
  refine q_istore_n (L' := [some (.ref 204), some (.ref 108), some (.int 0), none]) d19_6 (Nat.le_of_ble_eq_true rfl) rfl ?_
  exact r_sub (L' := [some (.ref 204), some (.ref 108), some (.int 0), none]) ⟨rfl, rfl, rfl, trivial⟩ (v1 J o j1 j2 j3)

set_option maxRecDepth 10000 in
set_option maxHeartbeats 4000000 in
theorem s19h {d : Nat} {I : Nat → Nat → Int32} {D : Nat → Nat → UInt64} {R : Nat → Nat → Option Nat} {Q : j_Po} {k : Nat} {β : Bd} {n : Nat} (hR : WFR R) (hV : BV β) (hC : CB β I D R) (hB : NB I) (hk : k ≤ 30) (hn : k < 30 → I 205 k = nI n) (hn30 : n < 30) (hd : 3 ≤ d)
    (v1 : (30 ≤ k) → Q none w1 (I, D, RR R))
    (v2 : (¬ 30 ≤ k) → (n < 24) → ((I ((R 112 n).getD 0) 1) ≤ 0) → j_W 19 d 0 0 0 0 7 [some (.ref 204), some (.ref 108), some (.int (nI (k + 1))), none] [] w1 ((j_u (j_u (j_u (j_u I 206 n (1 <<< ((nI n) &&& 31))) 207 n (1 <<< ((nI n) &&& 31))) 208 n 0) 209 n 0), D, RR R) Q)
    (v3 : (¬ 30 ≤ k) → (n < 24) → (¬ (I ((R 112 n).getD 0) 1) ≤ 0) → ∀ x : Int32, ∀ y : Int32, (∀ v, v < 32 → bt x v = xB β I n 24 v) → (∀ v, v < 32 → bt y v = (yB β I n 24 v || zB β I n 6 v)) → j_W 19 d 0 0 0 0 7 [some (.ref 204), some (.ref 108), some (.int (nI (k + 1))), none] [] w1 ((j_u (j_u (j_u (j_u I 206 n x) 207 n y) 209 n (nI (min 2001 (1 + sB β I n 6)))) 208 n (nI (min 2001 (sumN 24 fun k => if bt x k = true then (if k = n then min 2001 (1 + sB β I n 6) else shr I k) else 0)))), D, RR R) Q)
    (v4 : (¬ 30 ≤ k) → (¬ n < 24) → j_W 19 d 0 0 0 0 7 [some (.ref 204), some (.ref 108), some (.int (nI (k + 1))), none] [] w1 ((j_u I 208 (24 + (n - 24)) (nI (if bL β (n - 24) = true then min 2001 (bu I (bO β (n - 24)) * cas β (n - 24)) else 0))), D, RR R) Q) : j_W 19 d 0 0 0 0 7 [some (.ref 204), some (.ref 108), some (.int (nI k)), none] [] w1 (I, D, RR R) Q := by
  refine q_iload_n d19_7 rfl ?_
  refine q_bipush (v := 30) (by decide) d19_8 ?_
  refine q_icmp_ge (tgt := 66) d19_10 rfl (fun h1t => ?_) (fun h1f => ?_)
  ·
    have h1tc : 30 ≤ k := (nI_leI (by omega) (by omega)).mp h1t
    exact q_ret d19_66 rfl (Nat.le_refl _) (Nat.le_refl _) (v1 h1tc)
  ·
    have h1fc : ¬ 30 ≤ k := mt (nI_leI (by omega) (by omega)).mpr h1f
    refine q_aload_n d19_13 rfl ?_
    refine q_getR (x := 205) d19_14 (fs4_9 19 rfl) rfl (lt_w1 rfl) sh204 (rs204_0 R) (by decide) ?_
    refine q_iload_n d19_17 rfl ?_
    refine q_iaload (a := k) d19_18 (lt_w1 rfl) sh205 rfl (by omega) ?_
    refine r_int (y := nI n) (hn (by omega)) ?_
    refine q_istore_n (L' := [some (.ref 204), some (.ref 108), some (.int (nI k)), some (.int (nI n))]) d19_19 (Nat.le_of_ble_eq_true rfl) rfl ?_
    refine q_iload_n d19_20 rfl ?_
    refine q_bipush (v := 24) (by decide) d19_21 ?_
    refine q_icmp_lt (tgt := 38) d19_23 rfl (fun h2t => ?_) (fun h2f => ?_)
    ·
      have h2tc : n < 24 := (nI_ltI (by omega) (by omega)).mp h2t
      refine q_aload_n d19_38 rfl ?_
      refine q_iload_n d19_39 rfl ?_
      refine q_invV (o := 108) (ci := 0) (av := [.int (nI n)]) (rest := []) (d' := 0) (mc' := 0) (ms' := 0) d19_40 (cv4_71 19 rfl) rfl (by decide) rfl rfl (by omega) (Nat.le_of_ble_eq_true rfl) (Nat.le_of_ble_eq_true rfl) (lt_w1 rfl) sh108 (Nat.le_refl _) (Nat.le_refl _) ?_
      refine s14 (k := n) hR (by first | omega | decide) (Nat.le_refl _) (fun c3 => ?_) (fun c4 => ?_)
      ·
        show j_W 19 d 0 0 0 0 43 [some (.ref 204), some (.ref 108), some (.int (nI k)), some (.int (nI n))] [.int 0] w1 (I, D, RR R) Q
        refine q_if_eq (tgt := 55) d19_43 rfl (fun _ => ?_) (fun h => absurd h (by decide))
        refine q_aload_n d19_55 rfl ?_
        refine q_iload_n d19_56 rfl ?_
        refine q_invV (o := 204) (ci := 4) (av := [.int (nI n)]) (rest := []) (d' := 0) (mc' := 0) (ms' := 0) d19_57 (cv4_78 19 rfl) rfl (by decide) rfl rfl (by omega) (Nat.le_of_ble_eq_true rfl) (Nat.le_of_ble_eq_true rfl) (lt_w1 rfl) sh204 (Nat.le_refl _) (Nat.le_refl _) ?_
        refine s29 (k := n) (by first | omega | decide) (Nat.le_refl _) ?_
        show j_W 19 d 0 0 0 0 60 [some (.ref 204), some (.ref 108), some (.int (nI k)), some (.int (nI n))] [] w1 ((j_u (j_u (j_u (j_u I 206 n (1 <<< ((nI n) &&& 31))) 207 n (1 <<< ((nI n) &&& 31))) 208 n 0) 209 n 0), D, RR R) Q
        refine q_iinc (L' := [some (.ref 204), some (.ref 108), some (.int (nI (k + 1))), some (.int (nI n))]) (v := (nI (k + 1))) d19_60 rfl (nI_inc _) rfl ?_
        refine q_goto (tgt := 7) d19_63 rfl ?_
        exact r_sub (L' := [some (.ref 204), some (.ref 108), some (.int (nI (k + 1))), none]) ⟨rfl, rfl, rfl, trivial⟩ (v2 h1fc h2tc c3)
      ·
        show j_W 19 d 0 0 0 0 43 [some (.ref 204), some (.ref 108), some (.int (nI k)), some (.int (nI n))] [.int 1] w1 (I, D, RR R) Q
        refine q_if_eq (tgt := 55) d19_43 rfl (fun h => absurd h (by decide)) (fun _ => ?_)
        refine q_aload_n d19_46 rfl ?_
        refine q_aload_n d19_47 rfl ?_
        refine q_iload_n d19_48 rfl ?_
        refine q_invV (o := 204) (ci := 4) (av := [.ref 108, .int (nI n)]) (rest := []) (d' := 1) (mc' := 0) (ms' := 0) d19_49 (cv4_75 19 rfl) rfl (by decide) rfl rfl (by omega) (Nat.le_of_ble_eq_true rfl) (Nat.le_of_ble_eq_true rfl) (lt_w1 rfl) sh204 (Nat.le_refl _) (Nat.le_refl _) ?_
        refine c27 hR (Nat.le_refl _) (by omega) hV hC hB  (fun x y hx hy => ?_)
        show j_W 19 d 0 0 0 0 52 [some (.ref 204), some (.ref 108), some (.int (nI k)), some (.int (nI n))] [] w1 ((j_u (j_u (j_u (j_u I 206 n x) 207 n y) 209 n (nI (min 2001 (1 + sB β I n 6)))) 208 n (nI (min 2001 (sumN 24 fun k => if bt x k = true then (if k = n then min 2001 (1 + sB β I n 6) else shr I k) else 0)))), D, RR R) Q
        refine q_goto (tgt := 60) d19_52 rfl ?_
        refine q_iinc (L' := [some (.ref 204), some (.ref 108), some (.int (nI (k + 1))), some (.int (nI n))]) (v := (nI (k + 1))) d19_60 rfl (nI_inc _) rfl ?_
        refine q_goto (tgt := 7) d19_63 rfl ?_
        exact r_sub (L' := [some (.ref 204), some (.ref 108), some (.int (nI (k + 1))), none]) ⟨rfl, rfl, rfl, trivial⟩ (v3 h1fc h2tc c4 x y hx hy)
    ·
      have h2fc : ¬ n < 24 := mt (nI_ltI (by omega) (by omega)).mpr h2f
      refine q_aload_n d19_26 rfl ?_
      refine q_aload_n d19_27 rfl ?_
      refine q_iload_n d19_28 rfl ?_
      refine q_bipush (v := 24) (by decide) d19_29 ?_
      refine q_isub d19_31 ?_
      refine r_int (y := (nI (n - 24))) (pk_sub (b := 24) (by omega)) ?_
      refine q_invV (o := 204) (ci := 4) (av := [.ref 108, .int (nI (n - 24))]) (rest := []) (d' := 2) (mc' := 0) (ms' := 0) d19_32 (cv4_67 19 rfl) rfl (by decide) rfl rfl (by omega) (Nat.le_of_ble_eq_true rfl) (Nat.le_of_ble_eq_true rfl) (lt_w1 rfl) sh204 (Nat.le_refl _) (Nat.le_refl _) ?_
      refine c23 hR (Nat.le_refl _) (by omega) hV hC hB  ?_
      show j_W 19 d 0 0 0 0 35 [some (.ref 204), some (.ref 108), some (.int (nI k)), some (.int (nI n))] [] w1 ((j_u I 208 (24 + (n - 24)) (nI (if bL β (n - 24) = true then min 2001 (bu I (bO β (n - 24)) * cas β (n - 24)) else 0))), D, RR R) Q
      refine q_goto (tgt := 60) d19_35 rfl ?_
      refine q_iinc (L' := [some (.ref 204), some (.ref 108), some (.int (nI (k + 1))), some (.int (nI n))]) (v := (nI (k + 1))) d19_60 rfl (nI_inc _) rfl ?_
      refine q_goto (tgt := 7) d19_63 rfl ?_
      exact r_sub (L' := [some (.ref 204), some (.ref 108), some (.int (nI (k + 1))), none]) ⟨rfl, rfl, rfl, trivial⟩ (v4 h1fc h2fc)

theorem j_u_i {α : Type} (f : Nat → Nat → α) {o k o' i : Nat} (v : α) (h : i ≠ k) : j_u f o k v o' i = f o' i := by
  unfold j_u
  by_cases e : o' = o
  · rw [if_pos e, if_neg h, e]
  · rw [if_neg e]
theorem any0 {n : Nat} {s : Nat → Nat × Nat} {g : Nat → Bool} : (anyB n fun k => nmB 0 s k && g k) = false := by
  cases hb : anyB n _ with
  | false => rfl
  | true => obtain ⟨k', -, h9⟩ := anyB_iff.mp hb; cases h9
theorem anyF {n : Nat} : (anyB n fun _ => false) = false := by
  cases hb : anyB n _ with
  | false => rfl
  | true => obtain ⟨k', -, h9⟩ := anyB_iff.mp hb; cases h9
theorem NMc.cg {β : Bd} {J J' : Nat → Nat → Int32} {c : Nat} (h : NMc β J c) (h6 : J' 206 c = J 206 c) (h7 : J' 207 c = J 207 c) (h8 : J' 208 c = J 208 c) (h9 : J' 209 c = J 209 c)
    (hA : ∀ v, v < 24 → nmB (bZ β c) (bS β c) v = true → J' 206 v = J 206 v ∧ J' 207 v = J 207 v) (hB : ∀ t, t < 6 → 0 < tmB β c t → bL β t = true → J' 207 (bO β t) = J 207 (bO β t) ∧ J' 208 (24 + t) = J 208 (24 + t)) (hC : ∀ v, v < 24 → bt (J 206 c) v = true → J' 209 v = J 209 v) : NMc β J' c := by
  obtain ⟨e1, e2, e3, e4⟩ := h
  refine ⟨fun v hv => ?_, fun v hv => ?_, ?_, ?_⟩
  · rw [h6, e1 v hv]
    congr 1
    exact anyB_cg fun k hk => by
      cases hn : nmB (bZ β c) (bS β c) k with
      | false => rw [Bool.false_and, Bool.false_and]
      | true => rw [(hA k hk hn).1]
  · rw [h7, e2 v hv]
    congr 1
    · congr 1
      exact anyB_cg fun k hk => by
        cases hn : nmB (bZ β c) (bS β c) k with
        | false => rw [Bool.false_and, Bool.false_and]
        | true => rw [(hA k hk hn).2]
    · exact anyB_cg fun t ht => by
        by_cases h1 : 0 < tmB β c t
        · cases hl : bL β t with
          | false => rw [Bool.and_false, Bool.false_and, Bool.false_and]
          | true => rw [(hB t ht h1 hl).1]
        · rw [decide_eq_false h1, Bool.false_and, Bool.false_and, Bool.false_and]
  · rw [h9, e3]
    congr 1
    by_cases hz : bZ β c = 0
    · rw [if_pos hz, if_pos hz]
    · rw [if_neg hz, if_neg hz]
      congr 2
      exact sumN_cg fun t ht => by
        cases hl : bL β t with
        | false => rw [if_neg (by decide), if_neg (by decide)]
        | true =>
          by_cases h1 : 0 < tmB β c t
          · unfold bu; rw [(hB t ht h1 hl).2]
          · rw [show tmB β c t = 0 by omega, Nat.zero_mul, Nat.zero_mul]
  · rw [h8, e4, h6]
    congr 1
    by_cases hz : bZ β c = 0
    · rw [if_pos hz, if_pos hz]
    · rw [if_neg hz, if_neg hz]
      congr 1
      exact sumN_cg fun k hk => by
        cases hb : bt (J 206 c) k with
        | false => rw [if_neg (by decide), if_neg (by decide)]
        | true => unfold shr; rw [hC k hk hb]
theorem ed_tm {β : Bd} (hV : BV β) {c t : Nat} (hc : c < 24) (h : 0 < tmB β c t) : ed β c (24 + t) = true := by
  unfold ed
  rw [if_pos hc, tm_nm (fun k hk => ((hV.1 c hc).2.2.2.2.1 k hk).1), decide_eq_true h]
theorem ed_out {β : Bd} {t : Nat} (h : bL β t = true) : ed β (24 + t) (bO β t) = true := by
  unfold ed
  rw [if_neg (by omega), show 24 + t - 24 = t by omega, h, decide_eq_true rfl]; rfl
theorem ed_nm {β : Bd} {c v : Nat} (hc : c < 24) : ed β c v = nmB (bZ β c) (bS β c) v := by
  unfold ed; rw [if_pos hc]
def LI (β : Bd) (I0 : Nat → Nat → Int32) (o : Nat → Nat) (k : Nat) (J : Nat → Nat → Int32) : Prop :=
  Ord (ed β) o 30 J ∧ NB J ∧ (∀ o', (o' < 205 ∨ 211 ≤ o') → J o' = I0 o') ∧
  ∀ j, j < k → (o j < 24 → NMc β J (o j) ∧ ∀ v, v < 24 → bt (J 206 (o j)) v = true → ∃ i, i ≤ j ∧ o i = v) ∧ (24 ≤ o j → NMt β J (o j - 24))
theorem LI.step {β : Bd} {I0 J J' : Nat → Nat → Int32} {o : Nat → Nat} {k : Nat} (h : LI β I0 o k J) (hV : BV β) (hk : k < 30) (hB : NB J') (h5 : J' 205 = J 205) (hf : ∀ o', (o' < 205 ∨ 211 ≤ o') → J' o' = J o') (hi : ∀ o' i, i ≠ o k → J' o' i = J o' i)
    (hc : o k < 24 → NMc β J' (o k) ∧ ∀ v, v < 24 → bt (J' 206 (o k)) v = true → ∃ i, i ≤ k ∧ o i = v) (ht : 24 ≤ o k → NMt β J' (o k - 24)) : LI β I0 o (k + 1) J' := by
  obtain ⟨a1, a2, a3, a4⟩ := h
  refine ⟨⟨fun j hj => by rw [h5]; exact a1.1 j hj, a1.2.1, a1.2.2⟩, hB, fun o' ho => (hf o' ho).trans (a3 o' ho), fun j hj => ?_⟩
  rcases Nat.lt_or_ge j k with hjk | hjk
  · obtain ⟨b1, b2⟩ := a4 j hjk
    have hne : ∀ i, i ≤ j → o i ≠ o k := fun i hi e => by
      have := a1.2.2 i k (by omega) hk e
      omega
    have hoj := (a1.1 j (by omega)).2
    have tb : ∀ t, t < 6 → bL β t = true → (∃ i, i ≤ j ∧ o i = 24 + t) → bO β t ≠ o k := by
      intro t ht hl ⟨i, hi, e⟩
      obtain ⟨i', hi', e'⟩ := a1.2.1 i (by omega) (bO β t) (by have := (hV.2.1 t ht hl).1; omega) (by rw [e]; exact ed_out hl)
      rw [← e']; exact hne i' (by omega)
    refine ⟨fun hc => ?_, fun ht => ?_⟩
    · obtain ⟨c1, c2⟩ := b1 hc
      refine ⟨c1.cg (hi _ _ (hne j (Nat.le_refl _))) (hi _ _ (hne j (Nat.le_refl _))) (hi _ _ (hne j (Nat.le_refl _))) (hi _ _ (hne j (Nat.le_refl _))) (fun v hv hn => ?_) (fun t ht htm hl => ?_) (fun v hv hb => ?_), fun v hv hb => ?_⟩
      · obtain ⟨i, hi', e⟩ := a1.2.1 j (by omega) v (by omega) (by rw [ed_nm hc]; exact hn)
        have := hne i (by omega)
        rw [e] at this
        exact ⟨hi _ _ this, hi _ _ this⟩
      · obtain ⟨i, hi', e⟩ := a1.2.1 j (by omega) (24 + t) (by omega) (ed_tm hV hc htm)
        have := hne i (by omega)
        rw [e] at this
        exact ⟨hi _ _ (tb t ht hl ⟨i, by omega, e⟩), hi _ _ this⟩
      · obtain ⟨i, hi', e⟩ := c2 v hv hb
        have := hne i hi'
        rw [e] at this
        exact hi _ _ this
      · rw [hi _ _ (hne j (Nat.le_refl _))] at hb
        exact c2 v hv hb
    · have hm := b2 ht
      unfold NMt at hm ⊢
      have e : 24 + (o j - 24) = o j := by omega
      rw [e] at hm ⊢
      rw [hi _ _ (hne j (Nat.le_refl _)), hm]
      congr 1
      cases hl : bL β (o j - 24) with
      | false => rw [if_neg (by decide), if_neg (by decide)]
      | true =>
        unfold bu
        rw [hi 208 _ (tb (o j - 24) (by omega) hl ⟨j, Nat.le_refl _, by omega⟩)]
  · have : j = k := by omega
    subst this
    exact ⟨hc, ht⟩
section LL
variable {d : Nat} {I : Nat → Nat → Int32} {D : Nat → Nat → UInt64} {R : Nat → Nat → Option Nat} {Q : j_Po} {β : Bd}
theorem NB.put {J : Nat → Nat → Int32} (h : NB J) {J' : Nat → Nat → Int32} (h8 : ∀ v, v < 30 → J' 208 v = J 208 v ∨ ∃ n, n ≤ 2001 ∧ J' 208 v = nI n) (h9 : ∀ v, v < 24 → J' 209 v = J 209 v ∨ ∃ n, n ≤ 2001 ∧ J' 209 v = nI n) : NB J' := by
  refine ⟨fun v hv => ?_, fun v hv => ?_⟩
  · unfold bu
    rcases h8 v hv with h1 | ⟨n, hn, h1⟩
    · rw [h1]; exact h.1 v hv
    · exact nI_cl h1 hn
  · unfold shr
    rcases h9 v hv with h1 | ⟨n, hn, h1⟩
    · rw [h1]; exact h.2 v hv
    · exact nI_cl h1 hn
theorem l19h (hR : WFR R) (hd : 3 ≤ d) (hV : BV β) {I0 : Nat → Nat → Int32} (hC : CB β I0 D R) {o : Nat → Nat} (hq : ∀ J, LI β I0 o 30 J → Q none w1 (J, D, RR R)) :
    ∀ (n k : Nat) (J : Nat → Nat → Int32), n + k = 30 → LI β I0 o k J → j_W 19 d 0 0 0 0 7 [some (.ref 204), some (.ref 108), some (.int (nI k)), none] [] w1 (J, D, RR R) Q := by
  intro n
  induction n with
  | zero =>
    intro k J hk h
    have : k = 30 := by omega
    subst this
    have hC' : CB β J D R := hC.cg hR (fun o ho => h.2.2.1 o (by unfold CBP at ho; omega)) (fun _ _ => rfl)
    exact s19h (n := 0) hR hV hC' h.2.1 (by omega) (fun h => absurd h (by omega)) (by omega) hd (fun _ => hq J h) (fun h => absurd (by omega) h) (fun h => absurd (by omega) h) (fun h => absurd (by omega) h)
  | succ n ih =>
    intro k J hk h
    have hk30 : k < 30 := by omega
    have hC' : CB β J D R := hC.cg hR (fun o ho => h.2.2.1 o (by unfold CBP at ho; omega)) (fun _ _ => rfl)
    obtain ⟨o1, o2⟩ := h.1.1 k hk30
    refine s19h (n := o k) hR hV hC' h.2.1 (by omega) (fun _ => o1) o2 hd (fun h => absurd h (by omega)) (fun _ hc hz => ?_) (fun _ hc hz x y hx hy => ?_) (fun _ hc => ?_)
    · obtain ⟨z1, -⟩ := (hC'.1 (o k) hc).2.2.2.2
      have hz0 : bZ β (o k) = 0 := by
        rw [show I0 = I0 from rfl] at *
        rw [show J ((R 112 (o k)).getD 0) 1 = nI (bZ β (o k)) from z1] at hz
        rcases Nat.eq_zero_or_pos (bZ β (o k)) with h | h
        · exact h
        · exact absurd hz (nI_nle h (by have := (hV.1 (o k) hc).2.1; omega))
      refine ih (k + 1) _ (by omega) (h.step hV hk30 ?_ ?_ (fun o' ho => ?_) (fun o' i hi => ?_) (fun _ => ⟨⟨fun v hv => ?_, fun v hv => ?_, ?_, ?_⟩, fun v hv hb => ?_⟩) (fun h => absurd hc (by omega)))
      · refine h.2.1.put (fun v hv => ?_) (fun v hv => ?_)
        · by_cases e : v = o k
          · exact Or.inr ⟨0, by omega, by subst e; simp (disch := omega) only [j_u_o, j_u_same]; rfl⟩
          · exact Or.inl (by simp (disch := omega) only [j_u_o, j_u_k])
        · by_cases e : v = o k
          · exact Or.inr ⟨0, by omega, by subst e; simp (disch := omega) only [j_u_o, j_u_same]; rfl⟩
          · exact Or.inl (by simp (disch := omega) only [j_u_o, j_u_k])
      · funext i; simp (disch := omega) only [j_u_o]
      · funext i; simp (disch := omega) only [j_u_o]
      · rw [j_u_i _ _ hi, j_u_i _ _ hi, j_u_i _ _ hi, j_u_i _ _ hi]
      · simp (disch := omega) only [j_u_o, j_u_same]
        rw [bt_one (by omega) hv, hz0]
        simp only [any0, Bool.or_false]
      · simp (disch := omega) only [j_u_o, j_u_same]
        rw [bt_one (by omega) hv, hz0, decide_eq_true rfl, Bool.true_and]
        have ht0 : ∀ t, tmB β (o k) t = 0 := fun t => by unfold tmB; rw [hz0]; rfl
        simp only [any0, Bool.or_false, ht0, Nat.lt_irrefl, decide_false, Bool.false_and, anyF]
      · simp (disch := omega) only [j_u_same]
        rw [if_pos hz0]; rfl
      · simp (disch := omega) only [j_u_o, j_u_same]
        rw [if_pos hz0]; rfl
      · simp (disch := omega) only [j_u_o, j_u_same] at hb
        rw [bt_one (by omega) (by omega), decide_eq_true_eq] at hb
        exact ⟨k, Nat.le_refl _, hb.symm⟩
    · obtain ⟨z1, -⟩ := (hC'.1 (o k) hc).2.2.2.2
      have hz0 : ¬ bZ β (o k) = 0 := by
        rw [show J ((R 112 (o k)).getD 0) 1 = nI (bZ β (o k)) from z1] at hz
        intro e
        rw [e] at hz
        exact hz (by decide)
      have nmd : ∀ v, v < 24 → nmB (bZ β (o k)) (bS β (o k)) v = true → ∃ i, i < k ∧ o i = v ∧ v ≠ o k := fun v hv hn => by
        obtain ⟨i, hi, e⟩ := h.1.2.1 k hk30 v (by omega) (by rw [ed_nm hc]; exact hn)
        refine ⟨i, hi, e, fun e2 => ?_⟩
        have := h.1.2.2 i k (by omega) hk30 (e.trans e2)
        omega
      have tbd : ∀ t, t < 6 → 0 < tmB β (o k) t → bL β t = true → bO β t ≠ o k := fun t ht h1 hl e2 => by
        obtain ⟨i, hi, e⟩ := h.1.2.1 k hk30 (24 + t) (by omega) (ed_tm hV hc h1)
        obtain ⟨i', hi', e'⟩ := h.1.2.1 i (by omega) (bO β t) (by have := (hV.2.1 t ht hl).1; omega) (by rw [e]; exact ed_out hl)
        have := h.1.2.2 i' k (by omega) hk30 (e'.trans e2)
        omega
      refine ih (k + 1) _ (by omega) (h.step hV hk30 ?_ ?_ (fun o' ho => ?_) (fun o' i hi => ?_) (fun _ => ⟨⟨fun v hv => ?_, fun v hv => ?_, ?_, ?_⟩, fun v hv hb => ?_⟩) (fun h => absurd hc (by omega)))
      · refine h.2.1.put (fun v hv => ?_) (fun v hv => ?_)
        · by_cases e : v = o k
          · exact Or.inr ⟨_, Nat.min_le_left 2001 _, by subst e; rw [j_u_same]⟩
          · exact Or.inl (by simp (disch := omega) only [j_u_o, j_u_k])
        · by_cases e : v = o k
          · exact Or.inr ⟨_, Nat.min_le_left 2001 _, by subst e; rw [j_u_o _ _ _ (by decide), j_u_same]⟩
          · exact Or.inl (by simp (disch := omega) only [j_u_o, j_u_k])
      · funext i; simp (disch := omega) only [j_u_o]
      · funext i; simp (disch := omega) only [j_u_o]
      · rw [j_u_i _ _ hi, j_u_i _ _ hi, j_u_i _ _ hi, j_u_i _ _ hi]
      · rw [j_u_o _ _ _ (by decide), j_u_o _ _ _ (by decide), j_u_o _ _ _ (by decide), j_u_same, hx v hv]
        unfold xB
        congr 1
        refine anyB_cg fun k' hk' => ?_
        cases hn : nmB (bZ β (o k)) (bS β (o k)) k' with
        | false => rw [Bool.false_and, Bool.false_and]
        | true =>
          obtain ⟨-, -, -, hne⟩ := nmd k' hk' hn
          simp (disch := omega) only [j_u_o, j_u_k]
      · rw [j_u_o _ _ _ (by decide), j_u_o _ _ _ (by decide), j_u_same, hy v hv, decide_eq_false hz0, Bool.false_and, Bool.false_or]
        unfold yB zB
        congr 1
        · refine anyB_cg fun k' hk' => ?_
          cases hn : nmB (bZ β (o k)) (bS β (o k)) k' with
          | false => rw [Bool.false_and, Bool.false_and]
          | true =>
            obtain ⟨-, -, -, hne⟩ := nmd k' hk' hn
            simp (disch := omega) only [j_u_o, j_u_k]
        · refine anyB_cg fun t ht => ?_
          by_cases h1 : 0 < tmB β (o k) t
          · cases hl : bL β t with
            | false => rw [Bool.and_false, Bool.false_and, Bool.false_and]
            | true =>
              have := tbd t ht h1 hl
              simp (disch := omega) only [j_u_o, j_u_k]
          · rw [decide_eq_false h1, Bool.false_and, Bool.false_and, Bool.false_and]
      · rw [j_u_o _ _ _ (by decide), j_u_same, if_neg hz0]
        unfold sB
        congr 3
        refine sumN_cg fun t ht => ?_
        unfold bu
        rw [j_u_k _ _ (by omega), j_u_o _ _ _ (by decide), j_u_o _ _ _ (by decide), j_u_o _ _ _ (by decide)]
      · rw [j_u_same, if_neg hz0, j_u_o _ _ _ (by decide), j_u_o _ _ _ (by decide), j_u_o _ _ _ (by decide), j_u_same]
        congr 2
        refine sumN_cg fun k' hk' => ?_
        cases hb : bt x k' with
        | false => rw [if_neg (by decide), if_neg (by decide)]
        | true =>
          unfold shr
          by_cases e : k' = o k
          · subst e
            rw [if_pos rfl, j_u_o _ _ _ (by decide), j_u_same, nI_clamp (by omega), if_pos rfl, if_pos rfl]
          · rw [if_neg e]
            simp (disch := omega) only [j_u_o, j_u_k]
      · rw [j_u_o _ _ _ (by decide), j_u_o _ _ _ (by decide), j_u_o _ _ _ (by decide), j_u_same, hx v (by omega)] at hb
        unfold xB at hb
        rw [Bool.or_eq_true, decide_eq_true_eq] at hb
        rcases hb with hb | hb
        · exact ⟨k, Nat.le_refl _, hb.symm⟩
        · obtain ⟨k', hk', h9⟩ := anyB_iff.mp hb
          rw [Bool.and_eq_true] at h9
          obtain ⟨i, hi, e, -⟩ := nmd k' hk' h9.1
          obtain ⟨i', hi', e'⟩ := ((h.2.2.2 i hi).1 (by omega)).2 v hv (by rw [e]; exact h9.2)
          exact ⟨i', by omega, e'⟩
    · rw [show 24 + (o k - 24) = o k by omega]
      refine ih (k + 1) _ (by omega) (h.step hV hk30 ?_ ?_ (fun o' ho => ?_) (fun o' i hi => ?_) (fun h => absurd h hc) (fun _ => ?_))
      · refine h.2.1.put (fun v hv => ?_) (fun v hv => Or.inl ?_)
        · by_cases e : v = o k
          · subst e; exact Or.inr ⟨if bL β (o k - 24) = true then min 2001 (bu J (bO β (o k - 24)) * cas β (o k - 24)) else 0, by split <;> omega, by rw [j_u_same]⟩
          · exact Or.inl (by rw [j_u_k _ _ e])
        · rw [j_u_o _ _ _ (by decide)]
      · funext i; rw [j_u_o _ _ _ (by decide)]
      · funext i; rw [j_u_o _ _ _ (by omega)]
      · exact j_u_i _ _ hi
      · unfold NMt
        rw [show 24 + (o k - 24) = o k by omega, j_u_same]
        congr 1
        cases hl : bL β (o k - 24) with
        | false => rw [if_neg (by decide), if_neg (by decide)]
        | true =>
          unfold bu
          rw [j_u_k _ _ (by have := (hV.2.1 (o k - 24) (by omega) hl).1; omega)]
/-- the class's names are those of the board, in an order -/
def OrdB (β : Bd) (I : Nat → Nat → Int32) : Prop := ∃ o, Ord (ed β) o 30 I ∧ ∀ v, v < 30 → ∃ k, k < 30 ∧ o k = v
theorem c19 (hR : WFR R) (hd : 3 ≤ d) (hV : BV β) (hC : CB β I D R) (hB : NB I) (hq : ∀ J, (∀ o', (o' < 205 ∨ 211 ≤ o') → J o' = I o') → NM β J → OrdB β J → Q none w1 (J, D, RR R)) : j_Call d 19 [.ref 204, .ref 108] w1 (I, D, RR R) 0 0 Q := by
  refine s19e hR hV hC hB (hC.eds hV) hV.2.2 (fun u v hu h => ed_lt hV hu h) hd (fun J o j1 j2 j3 => ?_)
  · refine l19h hR hd hV hC (o := o) (fun K hK => hq K hK.2.2.1 ⟨fun c hc => ?_, fun t ht => ?_⟩ ⟨o, hK.1, j3⟩) 30 0 J rfl ⟨j2, ?_, fun o' ho => j1 o' (by omega), fun j hj => absurd hj (Nat.not_lt_zero j)⟩
    · obtain ⟨k, hk, e⟩ := j3 c (by omega)
      have := ((hK.2.2.2 k hk).1 (by omega)).1
      rw [e] at this; exact this
    · obtain ⟨k, hk, e⟩ := j3 (24 + t) (by omega)
      have := (hK.2.2.2 k hk).2 (by omega)
      rw [e, show 24 + t - 24 = t by omega] at this; exact this
    · unfold NB bu shr
      rw [j1 208 (by decide), j1 209 (by decide)]
      exact hB
end LL
