/-! image and back: the roads -/
def nfor (β : Bd) : Nat := cntP (fun c => !decide (bZ β c = 0)) 24
section NF
variable {d : Nat} {I : Nat → Nat → Int32} {D : Nat → Nat → UInt64} {R : Nat → Nat → Option Nat} {Q : j_Po} {β : Bd}
theorem c155f (hR : WFR R) (hd : 1 ≤ d) (hV : BV β) (hC : CB β I D R) (hq : Q (some (.int (nI (nfor β)))) w1 (I, D, RR R)) : j_Call d 155 [.ref 108] w1 (I, D, RR R) 0 0 Q := by
  refine c155 hR hd ?_
  have : cntP (fun k => !decide (I ((R 112 k).getD 0) 1 ≤ 0)) 24 = nfor β := cntP_cg fun c hc => by
    have hz := (hV.1 c hc).2.1
    rw [show I ((R 112 c).getD 0) 1 = nI (bZ β c) from (hC.1 c hc).2.2.2.2.1]
    congr 1
    rcases Nat.eq_zero_or_pos (bZ β c) with h | h
    · rw [h]; rfl
    · exact (decide_eq_false (nI_nle h (by omega))).trans (decide_eq_false (by omega)).symm
  rw [this]; exact hq
theorem c281f (hd : 1 ≤ d) (hV : BV β) (hZ : ∀ c, c < 24 → I 264 c = nI (bZ β c)) (hq : Q (some (.int (nI (nfor β)))) w1 (I, D, RR R)) : j_Call d 281 [.ref 260] w1 (I, D, RR R) 0 0 Q := by
  refine c281 hd ?_
  have : cntP (fun k => !decide (I 264 k = 0)) 24 = nfor β := cntP_cg fun c hc => by
    have hz := (hV.1 c hc).2.1
    rw [hZ c hc]
    congr 1
    rcases Nat.eq_zero_or_pos (bZ β c) with h | h
    · rw [h]; rfl
    · exact (decide_eq_false (nI_ne0 h (by omega))).trans (decide_eq_false (by omega)).symm
  rw [this]; exact hq
theorem c153i' (hR : WFR R) (hW : WFD R) (hd : 2 ≤ d) (hV : BV β) (hC : CB β I D R) (hq : ∀ J E, (∀ o, (o < 2 ∨ 96 < o) → J o = I o) → (∀ o, (o < 2 ∨ 96 < o) → E o = D o) → CK β J E → Q none w1 (J, E, RR R)) : j_Call d 153 [.ref 1, .ref 108] w1 (I, D, RR R) 0 0 Q := c153i hR hW hV hd hC hq
theorem c153k' (hR : WFR R) (hW : WFD R) (hd : 2 ≤ d) (hV : BV β) (hC : CK β I D) (hq : ∀ J E, (∀ o, ¬ CBP o → J o = I o) → (∀ o, ¬ CBP o → E o = D o) → CB β J E R → Q none w1 (J, E, RR R)) : j_Call d 153 [.ref 108, .ref 1] w1 (I, D, RR R) 0 0 Q := c153k hR hW hV hd hC hq
theorem MR.cg {p : Nat × Nat} {mk : Int32} {F F' : Nat → UInt64} (h : MR p mk F) (hF : ∀ j, j < 96 → F' j = F j) : MR p mk F' :=
  ⟨fun e => by obtain ⟨j, h1, h2, h3⟩ := h.1 e; exact ⟨j, h1, h2, by rw [hF j h1]; exact h3⟩, h.2⟩
end NF
set_option maxRecDepth 10000 in
set_option maxHeartbeats 4000000 in
theorem s152 {d : Nat} {I : Nat → Nat → Int32} {D : Nat → Nat → UInt64} {R : Nat → Nat → Option Nat} {Q : j_Po}  {β : Bd} (hR : WFR R) (hW : WFD R) (hd : 3 ≤ d)
    (v1 : BV β)
    (v2 : CB β I D R)
    (v3 : ∀ J1 : Nat → Nat → Int32, ∀ E2 : Nat → Nat → UInt64, (∀ o, (o < 2 ∨ 96 < o) → J1 o = I o) → (∀ o, (o < 2 ∨ 96 < o) → E2 o = D o) → (CK β J1 E2) → CB β (j_u J1 0 4 1) E2 R)
    (v4 : ∀ J1 : Nat → Nat → Int32, ∀ E2 : Nat → Nat → UInt64, (∀ o, (o < 2 ∨ 96 < o) → J1 o = I o) → (∀ o, (o < 2 ∨ 96 < o) → E2 o = D o) → (CK β J1 E2) → Q (some (.int (nI (nfor β)))) w1 ((j_u J1 0 4 1), E2, RR R)) : j_Call d 152 [.ref 0] w1 (I, D, RR R) 0 0 Q := by
  refine q_enter (L := [some (.ref 0)]) j_m152 (Nat.le_of_ble_eq_true rfl) rfl ?_
  refine q_aload_n d152_0 rfl ?_
  refine q_getR (x := 1) d152_1 (fs9_10 152 rfl) rfl (lt_w1 rfl) sh0 (rs0_3 R) (by decide) ?_
  refine q_aload_n d152_4 rfl ?_
  refine q_getR (x := 108) d152_5 (fs9_53 152 rfl) rfl (lt_w1 rfl) sh0 (rs0_1 R) (by decide) ?_
  refine q_invV (o := 1) (ci := 0) (av := [.ref 108]) (rest := []) (d' := 2) (mc' := 0) (ms' := 0) d152_8 (cv9_348 152 rfl) rfl (by decide) rfl rfl (by omega) (Nat.le_of_ble_eq_true rfl) (Nat.le_of_ble_eq_true rfl) (lt_w1 rfl) sh1 (Nat.le_refl _) (Nat.le_refl _) ?_
  refine c153i' (β := β) hR hW (Nat.le_refl _) v1 v2 (fun J1 E2 h3 h4 h5 => ?_)
  show j_W 152 d 0 0 0 0 11 [some (.ref 0)] [] w1 (J1, E2, RR R) Q
  refine q_aload_n d152_11 rfl ?_
  refine q_iconst (v := 1) (by decide) d152_12 ?_
  refine q_putZ d152_13 (fs9_350 152 rfl) (Or.inl rfl) rfl (Or.inr rfl) (lt_w1 rfl) sh0 ?_
  refine q_aload_n d152_16 rfl ?_
  refine q_getR (x := 108) d152_17 (fs9_53 152 rfl) rfl (lt_w1 rfl) sh0 (rs0_1 R) (by decide) ?_
  refine q_invV (o := 108) (ci := 0) (av := []) (rest := []) (d' := 1) (mc' := 0) (ms' := 0) d152_20 (cv9_353 152 rfl) rfl (by decide) rfl rfl (by omega) (Nat.le_of_ble_eq_true rfl) (Nat.le_of_ble_eq_true rfl) (lt_w1 rfl) sh108 (Nat.le_refl _) (Nat.le_refl _) ?_
  refine c155f (β := β) hR (Nat.le_refl _) v1 (v3 J1 E2 h3 h4 h5) ?_
  show j_W 152 d 0 0 0 0 23 [some (.ref 0)] [.int (nI (nfor β))] w1 ((j_u J1 0 4 1), E2, RR R) Q
  exact q_iret d152_23 rfl (Nat.le_refl _) (Nat.le_refl _) (v4 J1 E2 h3 h4 h5)

set_option maxRecDepth 10000 in
set_option maxHeartbeats 4000000 in
theorem s156 {d : Nat} {I : Nat → Nat → Int32} {D : Nat → Nat → UInt64} {R : Nat → Nat → Option Nat} {Q : j_Po}  {β : Bd} (hR : WFR R) (hW : WFD R) (hd : 4 ≤ d)
    (v1 : (¬ (I 0 4) = 0) → BV β)
    (v2 : (¬ (I 0 4) = 0) → CK β I D)
    (v3 : (¬ (I 0 4) = 0) → ∀ J2 : Nat → Nat → Int32, ∀ E3 : Nat → Nat → UInt64, (∀ o, ¬ CBP o → J2 o = I o) → (∀ o, ¬ CBP o → E3 o = D o) → (CB β J2 E3 R) → CB β J2 E3 R)
    (v4 : (¬ (I 0 4) = 0) → ∀ J2 : Nat → Nat → Int32, ∀ E3 : Nat → Nat → UInt64, (∀ o, ¬ CBP o → J2 o = I o) → (∀ o, ¬ CBP o → E3 o = D o) → (CB β J2 E3 R) → NB J2)
    (v5 : (¬ (I 0 4) = 0) → ∀ J2 : Nat → Nat → Int32, ∀ E3 : Nat → Nat → UInt64, (∀ o, ¬ CBP o → J2 o = I o) → (∀ o, ¬ CBP o → E3 o = D o) → (CB β J2 E3 R) → ∀ J7 : Nat → Nat → Int32, (∀ o', (o' < 205 ∨ 211 ≤ o') → J7 o' = J2 o') → (NM β J7) → (OrdB β J7) → CB β J7 E3 R)
    (v6 : (¬ (I 0 4) = 0) → ∀ J2 : Nat → Nat → Int32, ∀ E3 : Nat → Nat → UInt64, (∀ o, ¬ CBP o → J2 o = I o) → (∀ o, ¬ CBP o → E3 o = D o) → (CB β J2 E3 R) → ∀ J7 : Nat → Nat → Int32, (∀ o', (o' < 205 ∨ 211 ≤ o') → J7 o' = J2 o') → (NM β J7) → (OrdB β J7) → Q (some (.int (nI (nfor β)))) w1 (J7, E3, RR R))
    (v7 : ((I 0 4) = 0) → Q (some (.int (-3))) w1 (I, D, RR R)) : j_Call d 156 [.ref 0] w1 (I, D, RR R) 0 0 Q := by
  refine q_enter (L := [some (.ref 0)]) j_m156 (Nat.le_of_ble_eq_true rfl) rfl ?_
  refine q_aload_n d156_0 rfl ?_
  refine q_getI d156_1 (fs9_350 156 rfl) rfl (lt_w1 rfl) sh0 ?_
  refine q_if_ne (tgt := 10) d156_4 rfl (fun h1t => ?_) (fun h1f => ?_)
  ·
    refine q_aload_n d156_10 rfl ?_
    refine q_getR (x := 108) d156_11 (fs9_53 156 rfl) rfl (lt_w1 rfl) sh0 (rs0_1 R) (by decide) ?_
    refine q_aload_n d156_14 rfl ?_
    refine q_getR (x := 1) d156_15 (fs9_10 156 rfl) rfl (lt_w1 rfl) sh0 (rs0_3 R) (by decide) ?_
    refine q_invV (o := 108) (ci := 0) (av := [.ref 1]) (rest := []) (d' := 2) (mc' := 0) (ms' := 0) d156_18 (cv9_348 156 rfl) rfl (by decide) rfl rfl (by omega) (Nat.le_of_ble_eq_true rfl) (Nat.le_of_ble_eq_true rfl) (lt_w1 rfl) sh108 (Nat.le_refl _) (Nat.le_refl _) ?_
    refine c153k' (β := β) hR hW (Nat.le_refl _) (v1 h1t) (v2 h1t) (fun J2 E3 h4 h5 h6 => ?_)
    show j_W 156 d 0 0 0 0 21 [some (.ref 0)] [] w1 (J2, E3, RR R) Q
    refine q_aload_n d156_21 rfl ?_
    refine q_getR (x := 204) d156_22 (fs9_58 156 rfl) rfl (lt_w1 rfl) sh0 (rs0_2 R) (by decide) ?_
    refine q_aload_n d156_25 rfl ?_
    refine q_getR (x := 108) d156_26 (fs9_53 156 rfl) rfl (lt_w1 rfl) sh0 (rs0_1 R) (by decide) ?_
    refine q_invV (o := 204) (ci := 4) (av := [.ref 108]) (rest := []) (d' := 3) (mc' := 0) (ms' := 0) d156_29 (cv9_99 156 rfl) rfl (by decide) rfl rfl (by omega) (Nat.le_of_ble_eq_true rfl) (Nat.le_of_ble_eq_true rfl) (lt_w1 rfl) sh204 (Nat.le_refl _) (Nat.le_refl _) ?_
    refine c19 (β := β) hR (Nat.le_refl _) (v1 h1t) (v3 h1t J2 E3 h4 h5 h6) (v4 h1t J2 E3 h4 h5 h6) (fun J7 h8 h9 h10 => ?_)
    show j_W 156 d 0 0 0 0 32 [some (.ref 0)] [] w1 (J7, E3, RR R) Q
    refine q_aload_n d156_32 rfl ?_
    refine q_getR (x := 108) d156_33 (fs9_53 156 rfl) rfl (lt_w1 rfl) sh0 (rs0_1 R) (by decide) ?_
    refine q_invV (o := 108) (ci := 0) (av := []) (rest := []) (d' := 1) (mc' := 0) (ms' := 0) d156_36 (cv9_353 156 rfl) rfl (by decide) rfl rfl (by omega) (Nat.le_of_ble_eq_true rfl) (Nat.le_of_ble_eq_true rfl) (lt_w1 rfl) sh108 (Nat.le_refl _) (Nat.le_refl _) ?_
    refine c155f (β := β) hR (Nat.le_refl _) (v1 h1t) (v5 h1t J2 E3 h4 h5 h6 J7 h8 h9 h10) ?_
    show j_W 156 d 0 0 0 0 39 [some (.ref 0)] [.int (nI (nfor β))] w1 (J7, E3, RR R) Q
    exact q_iret d156_39 rfl (Nat.le_refl _) (Nat.le_refl _) (v6 h1t J2 E3 h4 h5 h6 J7 h8 h9 h10)
  ·
    refine q_bipush (v := (-3)) (by decide) d156_7 ?_
    exact q_iret d156_9 rfl (Nat.le_refl _) (Nat.le_refl _) (v7 h1f)

set_option maxRecDepth 10000 in
set_option maxHeartbeats 4000000 in
theorem s280e {d : Nat} {I : Nat → Nat → Int32} {D : Nat → Nat → UInt64} {R : Nat → Nat → Option Nat} {Q : j_Po}    (hd : 2 ≤ d)
    (v1 : ∀ q, q < 24 → (j_uo (j_uo I 431 (va_cpy (I 261) (I 431) 0 0 24)) 432 (va_cpy ((j_uo I 431 (va_cpy (I 261) (I 431) 0 0 24)) 264) ((j_uo I 431 (va_cpy (I 261) (I 431) 0 0 24)) 432) 0 0 24)) 262 (0 + q) = 0 ∨ (j_uo (j_uo I 431 (va_cpy (I 261) (I 431) 0 0 24)) 432 (va_cpy ((j_uo I 431 (va_cpy (I 261) (I 431) 0 0 24)) 264) ((j_uo I 431 (va_cpy (I 261) (I 431) 0 0 24)) 432) 0 0 24)) 262 (0 + q) = 1)
    (v2 : j_W 280 d 0 0 0 0 62 [some (.ref 260), some (.int 0)] [] w1 ((j_uo (j_uo (j_uo I 431 (va_cpy (I 261) (I 431) 0 0 24)) 432 (va_cpy ((j_uo I 431 (va_cpy (I 261) (I 431) 0 0 24)) 264) ((j_uo I 431 (va_cpy (I 261) (I 431) 0 0 24)) 432) 0 0 24)) 433 (va_cpy ((j_uo (j_uo I 431 (va_cpy (I 261) (I 431) 0 0 24)) 432 (va_cpy ((j_uo I 431 (va_cpy (I 261) (I 431) 0 0 24)) 264) ((j_uo I 431 (va_cpy (I 261) (I 431) 0 0 24)) 432) 0 0 24)) 262) ((j_uo (j_uo I 431 (va_cpy (I 261) (I 431) 0 0 24)) 432 (va_cpy ((j_uo I 431 (va_cpy (I 261) (I 431) 0 0 24)) 264) ((j_uo I 431 (va_cpy (I 261) (I 431) 0 0 24)) 432) 0 0 24)) 433) 0 0 24)), (j_uo D 435 (va_cpy (D 263) (D 435) 0 0 24)), RR R) Q) : j_Call d 280 [.ref 260] w1 (I, D, RR R) 0 0 Q := by
  refine q_enter (L := [some (.ref 260), none]) j_m280 (Nat.le_of_ble_eq_true rfl) rfl ?_
  refine q_aload_n d280_0 rfl ?_
  refine q_getR (x := 261) d280_1 (fs10_9 280 rfl) rfl (lt_w1 rfl) sh260 (rs260_0 R) (by decide) ?_
  refine q_iconst (v := 0) (by decide) d280_4 ?_
  refine q_aload_n d280_5 rfl ?_
  refine q_getR (x := 431) d280_6 (fs10_129 280 rfl) rfl (lt_w1 rfl) sh260 (rs260_58 R) (by decide) ?_
  refine q_iconst (v := 0) (by decide) d280_9 ?_
  refine q_bipush (v := 24) (by decide) d280_10 ?_
  refine r_copyI (a := 0) (b := 0) (m0 := 24) d280_12 (by exact j_i7 197 rfl) (lt_w1 rfl) sh261 (lt_w1 rfl) sh431 rfl rfl rfl (by omega) (by omega) (by omega) (Nat.le_of_ble_eq_true rfl) ?_
  refine q_aload_n d280_15 rfl ?_
  refine q_getR (x := 264) d280_16 (fs10_21 280 rfl) rfl (lt_w1 rfl) sh260 (rs260_3 R) (by decide) ?_
  refine q_iconst (v := 0) (by decide) d280_19 ?_
  refine q_aload_n d280_20 rfl ?_
  refine q_getR (x := 432) d280_21 (fs10_132 280 rfl) rfl (lt_w1 rfl) sh260 (rs260_59 R) (by decide) ?_
  refine q_iconst (v := 0) (by decide) d280_24 ?_
  refine q_bipush (v := 24) (by decide) d280_25 ?_
  refine r_copyI (a := 0) (b := 0) (m0 := 24) d280_27 (by exact j_i7 197 rfl) (lt_w1 rfl) sh264 (lt_w1 rfl) sh432 rfl rfl rfl (by omega) (by omega) (by omega) (Nat.le_of_ble_eq_true rfl) ?_
  refine q_aload_n d280_30 rfl ?_
  refine q_getR (x := 262) d280_31 (fs10_13 280 rfl) rfl (lt_w1 rfl) sh260 (rs260_1 R) (by decide) ?_
  refine q_iconst (v := 0) (by decide) d280_34 ?_
  refine q_aload_n d280_35 rfl ?_
  refine q_getR (x := 433) d280_36 (fs10_135 280 rfl) rfl (lt_w1 rfl) sh260 (rs260_60 R) (by decide) ?_
  refine q_iconst (v := 0) (by decide) d280_39 ?_
  refine q_bipush (v := 24) (by decide) d280_40 ?_
  refine r_copyZ (a := 0) (b := 0) (m0 := 24) d280_42 (by exact j_i7 197 rfl) (lt_w1 rfl) sh262 (lt_w1 rfl) sh433 rfl rfl rfl (by omega) (by omega) v1 (by omega) (Nat.le_of_ble_eq_true rfl) ?_
  refine q_aload_n d280_45 rfl ?_
  refine q_getR (x := 263) d280_46 (fs10_17 280 rfl) rfl (lt_w1 rfl) sh260 (rs260_2 R) (by decide) ?_
  refine q_iconst (v := 0) (by decide) d280_49 ?_
  refine q_aload_n d280_50 rfl ?_
  refine q_getR (x := 435) d280_51 (fs10_141 280 rfl) rfl (lt_w1 rfl) sh260 (rs260_62 R) (by decide) ?_
  refine q_iconst (v := 0) (by decide) d280_54 ?_
  refine q_bipush (v := 24) (by decide) d280_55 ?_
  refine r_copyD (a := 0) (b := 0) (m0 := 24) d280_57 (by exact j_i7 197 rfl) (lt_w1 rfl) sh263 (lt_w1 rfl) sh435 rfl rfl rfl (by omega) (by omega) (by omega) (Nat.le_of_ble_eq_true rfl) ?_
  refine q_iconst (v := 0) (by decide) d280_60 ?_
  refine q_istore_n (L' := [some (.ref 260), some (.int 0)]) d280_61 (Nat.le_of_ble_eq_true rfl) rfl ?_
  exact r_sub (L' := [some (.ref 260), some (.int 0)]) ⟨rfl, rfl, trivial⟩ v2

set_option maxRecDepth 10000 in
set_option maxHeartbeats 4000000 in
theorem s280l {d : Nat} {I : Nat → Nat → Int32} {D : Nat → Nat → UInt64} {R : Nat → Nat → Option Nat} {Q : j_Po} {k : Nat}  (hk : k ≤ 24) (hd : 2 ≤ d)
    (v1 : (24 ≤ k) → ∀ q, q < 6 → I 315 (0 + q) = 0 ∨ I 315 (0 + q) = 1)
    (v2 : (24 ≤ k) → j_W 280 d 0 0 0 0 189 [some (.ref 260), some (.int 0)] [] w1 ((j_uo (j_uo (j_uo (j_uo (j_uo I 434 (va_cpy (I 315) (I 434) 0 0 6)) 486 (va_cpy ((j_uo I 434 (va_cpy (I 315) (I 434) 0 0 6)) 316) ((j_uo I 434 (va_cpy (I 315) (I 434) 0 0 6)) 486) 0 0 6)) 487 (va_cpy ((j_uo (j_uo I 434 (va_cpy (I 315) (I 434) 0 0 6)) 486 (va_cpy ((j_uo I 434 (va_cpy (I 315) (I 434) 0 0 6)) 316) ((j_uo I 434 (va_cpy (I 315) (I 434) 0 0 6)) 486) 0 0 6)) 317) ((j_uo (j_uo I 434 (va_cpy (I 315) (I 434) 0 0 6)) 486 (va_cpy ((j_uo I 434 (va_cpy (I 315) (I 434) 0 0 6)) 316) ((j_uo I 434 (va_cpy (I 315) (I 434) 0 0 6)) 486) 0 0 6)) 487) 0 0 6)) 488 (va_cpy ((j_uo (j_uo (j_uo I 434 (va_cpy (I 315) (I 434) 0 0 6)) 486 (va_cpy ((j_uo I 434 (va_cpy (I 315) (I 434) 0 0 6)) 316) ((j_uo I 434 (va_cpy (I 315) (I 434) 0 0 6)) 486) 0 0 6)) 487 (va_cpy ((j_uo (j_uo I 434 (va_cpy (I 315) (I 434) 0 0 6)) 486 (va_cpy ((j_uo I 434 (va_cpy (I 315) (I 434) 0 0 6)) 316) ((j_uo I 434 (va_cpy (I 315) (I 434) 0 0 6)) 486) 0 0 6)) 317) ((j_uo (j_uo I 434 (va_cpy (I 315) (I 434) 0 0 6)) 486 (va_cpy ((j_uo I 434 (va_cpy (I 315) (I 434) 0 0 6)) 316) ((j_uo I 434 (va_cpy (I 315) (I 434) 0 0 6)) 486) 0 0 6)) 487) 0 0 6)) 318) ((j_uo (j_uo (j_uo I 434 (va_cpy (I 315) (I 434) 0 0 6)) 486 (va_cpy ((j_uo I 434 (va_cpy (I 315) (I 434) 0 0 6)) 316) ((j_uo I 434 (va_cpy (I 315) (I 434) 0 0 6)) 486) 0 0 6)) 487 (va_cpy ((j_uo (j_uo I 434 (va_cpy (I 315) (I 434) 0 0 6)) 486 (va_cpy ((j_uo I 434 (va_cpy (I 315) (I 434) 0 0 6)) 316) ((j_uo I 434 (va_cpy (I 315) (I 434) 0 0 6)) 486) 0 0 6)) 317) ((j_uo (j_uo I 434 (va_cpy (I 315) (I 434) 0 0 6)) 486 (va_cpy ((j_uo I 434 (va_cpy (I 315) (I 434) 0 0 6)) 316) ((j_uo I 434 (va_cpy (I 315) (I 434) 0 0 6)) 486) 0 0 6)) 487) 0 0 6)) 488) 0 0 6)) 489 (va_cpy ((j_uo (j_uo (j_uo (j_uo I 434 (va_cpy (I 315) (I 434) 0 0 6)) 486 (va_cpy ((j_uo I 434 (va_cpy (I 315) (I 434) 0 0 6)) 316) ((j_uo I 434 (va_cpy (I 315) (I 434) 0 0 6)) 486) 0 0 6)) 487 (va_cpy ((j_uo (j_uo I 434 (va_cpy (I 315) (I 434) 0 0 6)) 486 (va_cpy ((j_uo I 434 (va_cpy (I 315) (I 434) 0 0 6)) 316) ((j_uo I 434 (va_cpy (I 315) (I 434) 0 0 6)) 486) 0 0 6)) 317) ((j_uo (j_uo I 434 (va_cpy (I 315) (I 434) 0 0 6)) 486 (va_cpy ((j_uo I 434 (va_cpy (I 315) (I 434) 0 0 6)) 316) ((j_uo I 434 (va_cpy (I 315) (I 434) 0 0 6)) 486) 0 0 6)) 487) 0 0 6)) 488 (va_cpy ((j_uo (j_uo (j_uo I 434 (va_cpy (I 315) (I 434) 0 0 6)) 486 (va_cpy ((j_uo I 434 (va_cpy (I 315) (I 434) 0 0 6)) 316) ((j_uo I 434 (va_cpy (I 315) (I 434) 0 0 6)) 486) 0 0 6)) 487 (va_cpy ((j_uo (j_uo I 434 (va_cpy (I 315) (I 434) 0 0 6)) 486 (va_cpy ((j_uo I 434 (va_cpy (I 315) (I 434) 0 0 6)) 316) ((j_uo I 434 (va_cpy (I 315) (I 434) 0 0 6)) 486) 0 0 6)) 317) ((j_uo (j_uo I 434 (va_cpy (I 315) (I 434) 0 0 6)) 486 (va_cpy ((j_uo I 434 (va_cpy (I 315) (I 434) 0 0 6)) 316) ((j_uo I 434 (va_cpy (I 315) (I 434) 0 0 6)) 486) 0 0 6)) 487) 0 0 6)) 318) ((j_uo (j_uo (j_uo I 434 (va_cpy (I 315) (I 434) 0 0 6)) 486 (va_cpy ((j_uo I 434 (va_cpy (I 315) (I 434) 0 0 6)) 316) ((j_uo I 434 (va_cpy (I 315) (I 434) 0 0 6)) 486) 0 0 6)) 487 (va_cpy ((j_uo (j_uo I 434 (va_cpy (I 315) (I 434) 0 0 6)) 486 (va_cpy ((j_uo I 434 (va_cpy (I 315) (I 434) 0 0 6)) 316) ((j_uo I 434 (va_cpy (I 315) (I 434) 0 0 6)) 486) 0 0 6)) 317) ((j_uo (j_uo I 434 (va_cpy (I 315) (I 434) 0 0 6)) 486 (va_cpy ((j_uo I 434 (va_cpy (I 315) (I 434) 0 0 6)) 316) ((j_uo I 434 (va_cpy (I 315) (I 434) 0 0 6)) 486) 0 0 6)) 487) 0 0 6)) 488) 0 0 6)) 319) ((j_uo (j_uo (j_uo (j_uo I 434 (va_cpy (I 315) (I 434) 0 0 6)) 486 (va_cpy ((j_uo I 434 (va_cpy (I 315) (I 434) 0 0 6)) 316) ((j_uo I 434 (va_cpy (I 315) (I 434) 0 0 6)) 486) 0 0 6)) 487 (va_cpy ((j_uo (j_uo I 434 (va_cpy (I 315) (I 434) 0 0 6)) 486 (va_cpy ((j_uo I 434 (va_cpy (I 315) (I 434) 0 0 6)) 316) ((j_uo I 434 (va_cpy (I 315) (I 434) 0 0 6)) 486) 0 0 6)) 317) ((j_uo (j_uo I 434 (va_cpy (I 315) (I 434) 0 0 6)) 486 (va_cpy ((j_uo I 434 (va_cpy (I 315) (I 434) 0 0 6)) 316) ((j_uo I 434 (va_cpy (I 315) (I 434) 0 0 6)) 486) 0 0 6)) 487) 0 0 6)) 488 (va_cpy ((j_uo (j_uo (j_uo I 434 (va_cpy (I 315) (I 434) 0 0 6)) 486 (va_cpy ((j_uo I 434 (va_cpy (I 315) (I 434) 0 0 6)) 316) ((j_uo I 434 (va_cpy (I 315) (I 434) 0 0 6)) 486) 0 0 6)) 487 (va_cpy ((j_uo (j_uo I 434 (va_cpy (I 315) (I 434) 0 0 6)) 486 (va_cpy ((j_uo I 434 (va_cpy (I 315) (I 434) 0 0 6)) 316) ((j_uo I 434 (va_cpy (I 315) (I 434) 0 0 6)) 486) 0 0 6)) 317) ((j_uo (j_uo I 434 (va_cpy (I 315) (I 434) 0 0 6)) 486 (va_cpy ((j_uo I 434 (va_cpy (I 315) (I 434) 0 0 6)) 316) ((j_uo I 434 (va_cpy (I 315) (I 434) 0 0 6)) 486) 0 0 6)) 487) 0 0 6)) 318) ((j_uo (j_uo (j_uo I 434 (va_cpy (I 315) (I 434) 0 0 6)) 486 (va_cpy ((j_uo I 434 (va_cpy (I 315) (I 434) 0 0 6)) 316) ((j_uo I 434 (va_cpy (I 315) (I 434) 0 0 6)) 486) 0 0 6)) 487 (va_cpy ((j_uo (j_uo I 434 (va_cpy (I 315) (I 434) 0 0 6)) 486 (va_cpy ((j_uo I 434 (va_cpy (I 315) (I 434) 0 0 6)) 316) ((j_uo I 434 (va_cpy (I 315) (I 434) 0 0 6)) 486) 0 0 6)) 317) ((j_uo (j_uo I 434 (va_cpy (I 315) (I 434) 0 0 6)) 486 (va_cpy ((j_uo I 434 (va_cpy (I 315) (I 434) 0 0 6)) 316) ((j_uo I 434 (va_cpy (I 315) (I 434) 0 0 6)) 486) 0 0 6)) 487) 0 0 6)) 488) 0 0 6)) 489) 0 0 12)), D, RR R) Q)
    (v3 : (¬ 24 ≤ k) → j_W 280 d 0 0 0 0 62 [some (.ref 260), some (.int (nI (k + 1)))] [] w1 ((j_uo I (437 + k) (va_cpy (I (266 + k)) (I (437 + k)) 0 0 96)), (j_uo D (462 + k) (va_cpy (D (291 + k)) (D (462 + k)) 0 0 96)), RR R) Q) : j_W 280 d 0 0 0 0 62 [some (.ref 260), some (.int (nI k))] [] w1 (I, D, RR R) Q := by
  refine q_iload_n d280_62 rfl ?_
  refine q_bipush (v := 24) (by decide) d280_63 ?_
  refine q_icmp_ge (tgt := 112) d280_65 rfl (fun h1t => ?_) (fun h1f => ?_)
  ·
    have h1tc : 24 ≤ k := (nI_leI (by omega) (by omega)).mp h1t
    refine q_aload_n d280_112 rfl ?_
    refine q_getR (x := 315) d280_113 (fs10_34 280 rfl) rfl (lt_w1 rfl) sh260 (rs260_6 R) (by decide) ?_
    refine q_iconst (v := 0) (by decide) d280_116 ?_
    refine q_aload_n d280_117 rfl ?_
    refine q_getR (x := 434) d280_118 (fs10_138 280 rfl) rfl (lt_w1 rfl) sh260 (rs260_61 R) (by decide) ?_
    refine q_iconst (v := 0) (by decide) d280_121 ?_
    refine q_bipush (v := 6) (by decide) d280_122 ?_
    refine r_copyZ (a := 0) (b := 0) (m0 := 6) d280_124 (by exact j_i7 197 rfl) (lt_w1 rfl) sh315 (lt_w1 rfl) sh434 rfl rfl rfl (by omega) (by omega) (v1 h1tc) (by omega) (Nat.le_of_ble_eq_true rfl) ?_
    refine q_aload_n d280_127 rfl ?_
    refine q_getR (x := 316) d280_128 (fs10_37 280 rfl) rfl (lt_w1 rfl) sh260 (rs260_7 R) (by decide) ?_
    refine q_iconst (v := 0) (by decide) d280_131 ?_
    refine q_aload_n d280_132 rfl ?_
    refine q_getR (x := 486) d280_133 (fs10_150 280 rfl) rfl (lt_w1 rfl) sh260 (rs260_65 R) (by decide) ?_
    refine q_iconst (v := 0) (by decide) d280_136 ?_
    refine q_bipush (v := 6) (by decide) d280_137 ?_
    refine r_copyI (a := 0) (b := 0) (m0 := 6) d280_139 (by exact j_i7 197 rfl) (lt_w1 rfl) sh316 (lt_w1 rfl) sh486 rfl rfl rfl (by omega) (by omega) (by omega) (Nat.le_of_ble_eq_true rfl) ?_
    refine q_aload_n d280_142 rfl ?_
    refine q_getR (x := 317) d280_143 (fs10_40 280 rfl) rfl (lt_w1 rfl) sh260 (rs260_8 R) (by decide) ?_
    refine q_iconst (v := 0) (by decide) d280_146 ?_
    refine q_aload_n d280_147 rfl ?_
    refine q_getR (x := 487) d280_148 (fs10_153 280 rfl) rfl (lt_w1 rfl) sh260 (rs260_66 R) (by decide) ?_
    refine q_iconst (v := 0) (by decide) d280_151 ?_
    refine q_bipush (v := 6) (by decide) d280_152 ?_
    refine r_copyI (a := 0) (b := 0) (m0 := 6) d280_154 (by exact j_i7 197 rfl) (lt_w1 rfl) sh317 (lt_w1 rfl) sh487 rfl rfl rfl (by omega) (by omega) (by omega) (Nat.le_of_ble_eq_true rfl) ?_
    refine q_aload_n d280_157 rfl ?_
    refine q_getR (x := 318) d280_158 (fs10_43 280 rfl) rfl (lt_w1 rfl) sh260 (rs260_9 R) (by decide) ?_
    refine q_iconst (v := 0) (by decide) d280_161 ?_
    refine q_aload_n d280_162 rfl ?_
    refine q_getR (x := 488) d280_163 (fs10_156 280 rfl) rfl (lt_w1 rfl) sh260 (rs260_67 R) (by decide) ?_
    refine q_iconst (v := 0) (by decide) d280_166 ?_
    refine q_bipush (v := 6) (by decide) d280_167 ?_
    refine r_copyI (a := 0) (b := 0) (m0 := 6) d280_169 (by exact j_i7 197 rfl) (lt_w1 rfl) sh318 (lt_w1 rfl) sh488 rfl rfl rfl (by omega) (by omega) (by omega) (Nat.le_of_ble_eq_true rfl) ?_
    refine q_aload_n d280_172 rfl ?_
    refine q_getR (x := 319) d280_173 (fs10_46 280 rfl) rfl (lt_w1 rfl) sh260 (rs260_10 R) (by decide) ?_
    refine q_iconst (v := 0) (by decide) d280_176 ?_
    refine q_aload_n d280_177 rfl ?_
    refine q_getR (x := 489) d280_178 (fs10_159 280 rfl) rfl (lt_w1 rfl) sh260 (rs260_68 R) (by decide) ?_
    refine q_iconst (v := 0) (by decide) d280_181 ?_
    refine q_bipush (v := 12) (by decide) d280_182 ?_
    refine r_copyI (a := 0) (b := 0) (m0 := 12) d280_184 (by exact j_i7 197 rfl) (lt_w1 rfl) sh319 (lt_w1 rfl) sh489 rfl rfl rfl (by omega) (by omega) (by omega) (Nat.le_of_ble_eq_true rfl) ?_
    refine q_iconst (v := 0) (by decide) d280_187 ?_
    refine q_istore_n (L' := [some (.ref 260), some (.int 0)]) d280_188 (Nat.le_of_ble_eq_true rfl) rfl ?_
    exact r_sub (L' := [some (.ref 260), some (.int 0)]) ⟨rfl, rfl, trivial⟩ (v2 h1tc)
  ·
    have h1fc : ¬ 24 ≤ k := mt (nI_leI (by omega) (by omega)).mpr h1f
    refine q_aload_n d280_68 rfl ?_
    refine q_getR (x := 265) d280_69 (fs10_26 280 rfl) rfl (lt_w1 rfl) sh260 (rs260_4 R) (by decide) ?_
    refine q_iload_n d280_72 rfl ?_
    refine q_aaload (c := 4) (a := k) (x := (266 + k)) d280_73 (lt_w1 rfl) sh265 (by decide) rfl (by omega) (rm265 R (by omega)) (lt1000 (lm265 (by omega))) ?_
    refine q_iconst (v := 0) (by decide) d280_74 ?_
    refine q_aload_n d280_75 rfl ?_
    refine q_getR (x := 436) d280_76 (fs10_144 280 rfl) rfl (lt_w1 rfl) sh260 (rs260_63 R) (by decide) ?_
    refine q_iload_n d280_79 rfl ?_
    refine q_aaload (c := 4) (a := k) (x := (437 + k)) d280_80 (lt_w1 rfl) sh436 (by decide) rfl (by omega) (rm436 R (by omega)) (lt1000 (lm436 (by omega))) ?_
    refine q_iconst (v := 0) (by decide) d280_81 ?_
    refine q_bipush (v := 96) (by decide) d280_82 ?_
    refine r_copyI (a := 0) (b := 0) (m0 := 96) d280_84 (by exact j_i7 197 rfl) (lm265 (by omega)) (sm265 (by omega)) (lm436 (by omega)) (sm436 (by omega)) rfl rfl rfl (by omega) (by omega) (by omega) (Nat.le_of_ble_eq_true rfl) ?_
    refine q_aload_n d280_87 rfl ?_
    refine q_getR (x := 290) d280_88 (fs10_31 280 rfl) rfl (lt_w1 rfl) sh260 (rs260_5 R) (by decide) ?_
    refine q_iload_n d280_91 rfl ?_
    refine q_aaload (c := 3) (a := k) (x := (291 + k)) d280_92 (lt_w1 rfl) sh290 (by decide) rfl (by omega) (rm290 R (by omega)) (lt1000 (lm290 (by omega))) ?_
    refine q_iconst (v := 0) (by decide) d280_93 ?_
    refine q_aload_n d280_94 rfl ?_
    refine q_getR (x := 461) d280_95 (fs10_147 280 rfl) rfl (lt_w1 rfl) sh260 (rs260_64 R) (by decide) ?_
    refine q_iload_n d280_98 rfl ?_
    refine q_aaload (c := 3) (a := k) (x := (462 + k)) d280_99 (lt_w1 rfl) sh461 (by decide) rfl (by omega) (rm461 R (by omega)) (lt1000 (lm461 (by omega))) ?_
    refine q_iconst (v := 0) (by decide) d280_100 ?_
    refine q_bipush (v := 96) (by decide) d280_101 ?_
    refine r_copyD (a := 0) (b := 0) (m0 := 96) d280_103 (by exact j_i7 197 rfl) (lm290 (by omega)) (sm290 (by omega)) (lm461 (by omega)) (sm461 (by omega)) rfl rfl rfl (by omega) (by omega) (by omega) (Nat.le_of_ble_eq_true rfl) ?_
    refine q_iinc (L' := [some (.ref 260), some (.int (nI (k + 1)))]) (v := (nI (k + 1))) d280_106 rfl (nI_inc _) rfl ?_
    refine q_goto (tgt := 62) d280_109 rfl ?_
    exact r_sub (L' := [some (.ref 260), some (.int (nI (k + 1)))]) ⟨rfl, rfl, trivial⟩ (v3 h1fc)

set_option maxRecDepth 10000 in
set_option maxHeartbeats 4000000 in
theorem s280m {d : Nat} {I : Nat → Nat → Int32} {D : Nat → Nat → UInt64} {R : Nat → Nat → Option Nat} {Q : j_Po} {k : Nat} {β : Bd} (hk : k ≤ 12) (hd : 2 ≤ d)
    (v1 : (12 ≤ k) → BV β)
    (v2 : (12 ≤ k) → ∀ c, c < 24 → (j_u I 260 57 1) 264 c = nI (bZ β c))
    (v3 : (12 ≤ k) → Q (some (.int (nI (nfor β)))) w1 ((j_u I 260 57 1), D, RR R))
    (v4 : (¬ 12 ≤ k) → j_W 280 d 0 0 0 0 189 [some (.ref 260), some (.int (nI (k + 1)))] [] w1 (I, (j_uo D (491 + k) (va_cpy (D (321 + k)) (D (491 + k)) 0 0 8)), RR R) Q) : j_W 280 d 0 0 0 0 189 [some (.ref 260), some (.int (nI k))] [] w1 (I, D, RR R) Q := by
  refine q_iload_n d280_189 rfl ?_
  refine q_bipush (v := 12) (by decide) d280_190 ?_
  refine q_icmp_ge (tgt := 220) d280_192 rfl (fun h1t => ?_) (fun h1f => ?_)
  ·
    have h1tc : 12 ≤ k := (nI_leI (by omega) (by omega)).mp h1t
    refine q_aload_n d280_220 rfl ?_
    refine q_iconst (v := 1) (by decide) d280_221 ?_
    refine q_putZ d280_222 (fs10_563 280 rfl) (Or.inl rfl) rfl (Or.inr rfl) (lt_w1 rfl) sh260 ?_
    refine q_aload_n d280_225 rfl ?_
    refine q_invV (o := 260) (ci := 10) (av := []) (rest := []) (d' := 1) (mc' := 0) (ms' := 0) d280_226 (cv10_566 280 rfl) rfl (by decide) rfl rfl (by omega) (Nat.le_of_ble_eq_true rfl) (Nat.le_of_ble_eq_true rfl) (lt_w1 rfl) sh260 (Nat.le_refl _) (Nat.le_refl _) ?_
    refine c281f (β := β) (Nat.le_refl _) (v1 h1tc) (v2 h1tc) ?_
    show j_W 280 d 0 0 0 0 229 [some (.ref 260), some (.int (nI k))] [.int (nI (nfor β))] w1 ((j_u I 260 57 1), D, RR R) Q
    exact q_iret d280_229 rfl (Nat.le_refl _) (Nat.le_refl _) (v3 h1tc)
  ·
    have h1fc : ¬ 12 ≤ k := mt (nI_leI (by omega) (by omega)).mpr h1f
    refine q_aload_n d280_195 rfl ?_
    refine q_getR (x := 320) d280_196 (fs10_49 280 rfl) rfl (lt_w1 rfl) sh260 (rs260_11 R) (by decide) ?_
    refine q_iload_n d280_199 rfl ?_
    refine q_aaload (c := 3) (a := k) (x := (321 + k)) d280_200 (lt_w1 rfl) sh320 (by decide) rfl (by omega) (rm320 R (by omega)) (lt1000 (lm320 (by omega))) ?_
    refine q_iconst (v := 0) (by decide) d280_201 ?_
    refine q_aload_n d280_202 rfl ?_
    refine q_getR (x := 490) d280_203 (fs10_162 280 rfl) rfl (lt_w1 rfl) sh260 (rs260_69 R) (by decide) ?_
    refine q_iload_n d280_206 rfl ?_
    refine q_aaload (c := 3) (a := k) (x := (491 + k)) d280_207 (lt_w1 rfl) sh490 (by decide) rfl (by omega) (rm490 R (by omega)) (lt1000 (lm490 (by omega))) ?_
    refine q_iconst (v := 0) (by decide) d280_208 ?_
    refine q_bipush (v := 8) (by decide) d280_209 ?_
    refine r_copyD (a := 0) (b := 0) (m0 := 8) d280_211 (by exact j_i7 197 rfl) (lm320 (by omega)) (sm320 (by omega)) (lm490 (by omega)) (sm490 (by omega)) rfl rfl rfl (by omega) (by omega) (by omega) (Nat.le_of_ble_eq_true rfl) ?_
    refine q_iinc (L' := [some (.ref 260), some (.int (nI (k + 1)))]) (v := (nI (k + 1))) d280_214 rfl (nI_inc _) rfl ?_
    refine q_goto (tgt := 189) d280_217 rfl ?_
    exact r_sub (L' := [some (.ref 260), some (.int (nI (k + 1)))]) ⟨rfl, rfl, trivial⟩ (v4 h1fc)

set_option maxRecDepth 10000 in
set_option maxHeartbeats 4000000 in
theorem s282e {d : Nat} {I : Nat → Nat → Int32} {D : Nat → Nat → UInt64} {R : Nat → Nat → Option Nat} {Q : j_Po}    (hd : 2 ≤ d)
    (v1 : (¬ (I 260 57) = 0) → ∀ q, q < 24 → (j_uo (j_uo I 261 (va_cpy (I 431) (I 261) 0 0 24)) 264 (va_cpy ((j_uo I 261 (va_cpy (I 431) (I 261) 0 0 24)) 432) ((j_uo I 261 (va_cpy (I 431) (I 261) 0 0 24)) 264) 0 0 24)) 433 (0 + q) = 0 ∨ (j_uo (j_uo I 261 (va_cpy (I 431) (I 261) 0 0 24)) 264 (va_cpy ((j_uo I 261 (va_cpy (I 431) (I 261) 0 0 24)) 432) ((j_uo I 261 (va_cpy (I 431) (I 261) 0 0 24)) 264) 0 0 24)) 433 (0 + q) = 1)
    (v2 : (¬ (I 260 57) = 0) → j_W 282 d 0 0 0 0 72 [some (.ref 260), some (.int 0)] [] w1 ((j_uo (j_uo (j_uo I 261 (va_cpy (I 431) (I 261) 0 0 24)) 264 (va_cpy ((j_uo I 261 (va_cpy (I 431) (I 261) 0 0 24)) 432) ((j_uo I 261 (va_cpy (I 431) (I 261) 0 0 24)) 264) 0 0 24)) 262 (va_cpy ((j_uo (j_uo I 261 (va_cpy (I 431) (I 261) 0 0 24)) 264 (va_cpy ((j_uo I 261 (va_cpy (I 431) (I 261) 0 0 24)) 432) ((j_uo I 261 (va_cpy (I 431) (I 261) 0 0 24)) 264) 0 0 24)) 433) ((j_uo (j_uo I 261 (va_cpy (I 431) (I 261) 0 0 24)) 264 (va_cpy ((j_uo I 261 (va_cpy (I 431) (I 261) 0 0 24)) 432) ((j_uo I 261 (va_cpy (I 431) (I 261) 0 0 24)) 264) 0 0 24)) 262) 0 0 24)), (j_uo D 263 (va_cpy (D 435) (D 263) 0 0 24)), RR R) Q)
    (v3 : ((I 260 57) = 0) → Q (some (.int (-3))) w1 (I, D, RR R)) : j_Call d 282 [.ref 260] w1 (I, D, RR R) 0 0 Q := by
  refine q_enter (L := [some (.ref 260), none]) j_m282 (Nat.le_of_ble_eq_true rfl) rfl ?_
  refine q_aload_n d282_0 rfl ?_
  refine q_getI d282_1 (fs10_563 282 rfl) rfl (lt_w1 rfl) sh260 ?_
  refine q_if_ne (tgt := 10) d282_4 rfl (fun h1t => ?_) (fun h1f => ?_)
  ·
    refine q_aload_n d282_10 rfl ?_
    refine q_getR (x := 431) d282_11 (fs10_129 282 rfl) rfl (lt_w1 rfl) sh260 (rs260_58 R) (by decide) ?_
    refine q_iconst (v := 0) (by decide) d282_14 ?_
    refine q_aload_n d282_15 rfl ?_
    refine q_getR (x := 261) d282_16 (fs10_9 282 rfl) rfl (lt_w1 rfl) sh260 (rs260_0 R) (by decide) ?_
    refine q_iconst (v := 0) (by decide) d282_19 ?_
    refine q_bipush (v := 24) (by decide) d282_20 ?_
    refine r_copyI (a := 0) (b := 0) (m0 := 24) d282_22 (by exact j_i7 197 rfl) (lt_w1 rfl) sh431 (lt_w1 rfl) sh261 rfl rfl rfl (by omega) (by omega) (by omega) (Nat.le_of_ble_eq_true rfl) ?_
    refine q_aload_n d282_25 rfl ?_
    refine q_getR (x := 432) d282_26 (fs10_132 282 rfl) rfl (lt_w1 rfl) sh260 (rs260_59 R) (by decide) ?_
    refine q_iconst (v := 0) (by decide) d282_29 ?_
    refine q_aload_n d282_30 rfl ?_
    refine q_getR (x := 264) d282_31 (fs10_21 282 rfl) rfl (lt_w1 rfl) sh260 (rs260_3 R) (by decide) ?_
    refine q_iconst (v := 0) (by decide) d282_34 ?_
    refine q_bipush (v := 24) (by decide) d282_35 ?_
    refine r_copyI (a := 0) (b := 0) (m0 := 24) d282_37 (by exact j_i7 197 rfl) (lt_w1 rfl) sh432 (lt_w1 rfl) sh264 rfl rfl rfl (by omega) (by omega) (by omega) (Nat.le_of_ble_eq_true rfl) ?_
    refine q_aload_n d282_40 rfl ?_
    refine q_getR (x := 433) d282_41 (fs10_135 282 rfl) rfl (lt_w1 rfl) sh260 (rs260_60 R) (by decide) ?_
    refine q_iconst (v := 0) (by decide) d282_44 ?_
    refine q_aload_n d282_45 rfl ?_
    refine q_getR (x := 262) d282_46 (fs10_13 282 rfl) rfl (lt_w1 rfl) sh260 (rs260_1 R) (by decide) ?_
    refine q_iconst (v := 0) (by decide) d282_49 ?_
    refine q_bipush (v := 24) (by decide) d282_50 ?_
    refine r_copyZ (a := 0) (b := 0) (m0 := 24) d282_52 (by exact j_i7 197 rfl) (lt_w1 rfl) sh433 (lt_w1 rfl) sh262 rfl rfl rfl (by omega) (by omega) (v1 h1t) (by omega) (Nat.le_of_ble_eq_true rfl) ?_
    refine q_aload_n d282_55 rfl ?_
    refine q_getR (x := 435) d282_56 (fs10_141 282 rfl) rfl (lt_w1 rfl) sh260 (rs260_62 R) (by decide) ?_
    refine q_iconst (v := 0) (by decide) d282_59 ?_
    refine q_aload_n d282_60 rfl ?_
    refine q_getR (x := 263) d282_61 (fs10_17 282 rfl) rfl (lt_w1 rfl) sh260 (rs260_2 R) (by decide) ?_
    refine q_iconst (v := 0) (by decide) d282_64 ?_
    refine q_bipush (v := 24) (by decide) d282_65 ?_
    refine r_copyD (a := 0) (b := 0) (m0 := 24) d282_67 (by exact j_i7 197 rfl) (lt_w1 rfl) sh435 (lt_w1 rfl) sh263 rfl rfl rfl (by omega) (by omega) (by omega) (Nat.le_of_ble_eq_true rfl) ?_
    refine q_iconst (v := 0) (by decide) d282_70 ?_
    refine q_istore_n (L' := [some (.ref 260), some (.int 0)]) d282_71 (Nat.le_of_ble_eq_true rfl) rfl ?_
    exact r_sub (L' := [some (.ref 260), some (.int 0)]) ⟨rfl, rfl, trivial⟩ (v2 h1t)
  ·
    refine q_bipush (v := (-3)) (by decide) d282_7 ?_
    exact q_iret d282_9 rfl (Nat.le_refl _) (Nat.le_refl _) (v3 h1f)

set_option maxRecDepth 10000 in
set_option maxHeartbeats 4000000 in
theorem s282l {d : Nat} {I : Nat → Nat → Int32} {D : Nat → Nat → UInt64} {R : Nat → Nat → Option Nat} {Q : j_Po} {k : Nat} {β : Bd} (hk : k ≤ 24) (hd : 2 ≤ d)
    (v1 : (24 ≤ k) → ∀ q, q < 6 → I 434 (0 + q) = 0 ∨ I 434 (0 + q) = 1)
    (v2 : (24 ≤ k) → j_W 282 d 0 0 0 0 204 [some (.ref 260), some (.int 0)] [] w1 ((j_uo (j_uo (j_uo (j_uo (j_uo I 315 (va_cpy (I 434) (I 315) 0 0 6)) 316 (va_cpy ((j_uo I 315 (va_cpy (I 434) (I 315) 0 0 6)) 486) ((j_uo I 315 (va_cpy (I 434) (I 315) 0 0 6)) 316) 0 0 6)) 317 (va_cpy ((j_uo (j_uo I 315 (va_cpy (I 434) (I 315) 0 0 6)) 316 (va_cpy ((j_uo I 315 (va_cpy (I 434) (I 315) 0 0 6)) 486) ((j_uo I 315 (va_cpy (I 434) (I 315) 0 0 6)) 316) 0 0 6)) 487) ((j_uo (j_uo I 315 (va_cpy (I 434) (I 315) 0 0 6)) 316 (va_cpy ((j_uo I 315 (va_cpy (I 434) (I 315) 0 0 6)) 486) ((j_uo I 315 (va_cpy (I 434) (I 315) 0 0 6)) 316) 0 0 6)) 317) 0 0 6)) 318 (va_cpy ((j_uo (j_uo (j_uo I 315 (va_cpy (I 434) (I 315) 0 0 6)) 316 (va_cpy ((j_uo I 315 (va_cpy (I 434) (I 315) 0 0 6)) 486) ((j_uo I 315 (va_cpy (I 434) (I 315) 0 0 6)) 316) 0 0 6)) 317 (va_cpy ((j_uo (j_uo I 315 (va_cpy (I 434) (I 315) 0 0 6)) 316 (va_cpy ((j_uo I 315 (va_cpy (I 434) (I 315) 0 0 6)) 486) ((j_uo I 315 (va_cpy (I 434) (I 315) 0 0 6)) 316) 0 0 6)) 487) ((j_uo (j_uo I 315 (va_cpy (I 434) (I 315) 0 0 6)) 316 (va_cpy ((j_uo I 315 (va_cpy (I 434) (I 315) 0 0 6)) 486) ((j_uo I 315 (va_cpy (I 434) (I 315) 0 0 6)) 316) 0 0 6)) 317) 0 0 6)) 488) ((j_uo (j_uo (j_uo I 315 (va_cpy (I 434) (I 315) 0 0 6)) 316 (va_cpy ((j_uo I 315 (va_cpy (I 434) (I 315) 0 0 6)) 486) ((j_uo I 315 (va_cpy (I 434) (I 315) 0 0 6)) 316) 0 0 6)) 317 (va_cpy ((j_uo (j_uo I 315 (va_cpy (I 434) (I 315) 0 0 6)) 316 (va_cpy ((j_uo I 315 (va_cpy (I 434) (I 315) 0 0 6)) 486) ((j_uo I 315 (va_cpy (I 434) (I 315) 0 0 6)) 316) 0 0 6)) 487) ((j_uo (j_uo I 315 (va_cpy (I 434) (I 315) 0 0 6)) 316 (va_cpy ((j_uo I 315 (va_cpy (I 434) (I 315) 0 0 6)) 486) ((j_uo I 315 (va_cpy (I 434) (I 315) 0 0 6)) 316) 0 0 6)) 317) 0 0 6)) 318) 0 0 6)) 319 (va_cpy ((j_uo (j_uo (j_uo (j_uo I 315 (va_cpy (I 434) (I 315) 0 0 6)) 316 (va_cpy ((j_uo I 315 (va_cpy (I 434) (I 315) 0 0 6)) 486) ((j_uo I 315 (va_cpy (I 434) (I 315) 0 0 6)) 316) 0 0 6)) 317 (va_cpy ((j_uo (j_uo I 315 (va_cpy (I 434) (I 315) 0 0 6)) 316 (va_cpy ((j_uo I 315 (va_cpy (I 434) (I 315) 0 0 6)) 486) ((j_uo I 315 (va_cpy (I 434) (I 315) 0 0 6)) 316) 0 0 6)) 487) ((j_uo (j_uo I 315 (va_cpy (I 434) (I 315) 0 0 6)) 316 (va_cpy ((j_uo I 315 (va_cpy (I 434) (I 315) 0 0 6)) 486) ((j_uo I 315 (va_cpy (I 434) (I 315) 0 0 6)) 316) 0 0 6)) 317) 0 0 6)) 318 (va_cpy ((j_uo (j_uo (j_uo I 315 (va_cpy (I 434) (I 315) 0 0 6)) 316 (va_cpy ((j_uo I 315 (va_cpy (I 434) (I 315) 0 0 6)) 486) ((j_uo I 315 (va_cpy (I 434) (I 315) 0 0 6)) 316) 0 0 6)) 317 (va_cpy ((j_uo (j_uo I 315 (va_cpy (I 434) (I 315) 0 0 6)) 316 (va_cpy ((j_uo I 315 (va_cpy (I 434) (I 315) 0 0 6)) 486) ((j_uo I 315 (va_cpy (I 434) (I 315) 0 0 6)) 316) 0 0 6)) 487) ((j_uo (j_uo I 315 (va_cpy (I 434) (I 315) 0 0 6)) 316 (va_cpy ((j_uo I 315 (va_cpy (I 434) (I 315) 0 0 6)) 486) ((j_uo I 315 (va_cpy (I 434) (I 315) 0 0 6)) 316) 0 0 6)) 317) 0 0 6)) 488) ((j_uo (j_uo (j_uo I 315 (va_cpy (I 434) (I 315) 0 0 6)) 316 (va_cpy ((j_uo I 315 (va_cpy (I 434) (I 315) 0 0 6)) 486) ((j_uo I 315 (va_cpy (I 434) (I 315) 0 0 6)) 316) 0 0 6)) 317 (va_cpy ((j_uo (j_uo I 315 (va_cpy (I 434) (I 315) 0 0 6)) 316 (va_cpy ((j_uo I 315 (va_cpy (I 434) (I 315) 0 0 6)) 486) ((j_uo I 315 (va_cpy (I 434) (I 315) 0 0 6)) 316) 0 0 6)) 487) ((j_uo (j_uo I 315 (va_cpy (I 434) (I 315) 0 0 6)) 316 (va_cpy ((j_uo I 315 (va_cpy (I 434) (I 315) 0 0 6)) 486) ((j_uo I 315 (va_cpy (I 434) (I 315) 0 0 6)) 316) 0 0 6)) 317) 0 0 6)) 318) 0 0 6)) 489) ((j_uo (j_uo (j_uo (j_uo I 315 (va_cpy (I 434) (I 315) 0 0 6)) 316 (va_cpy ((j_uo I 315 (va_cpy (I 434) (I 315) 0 0 6)) 486) ((j_uo I 315 (va_cpy (I 434) (I 315) 0 0 6)) 316) 0 0 6)) 317 (va_cpy ((j_uo (j_uo I 315 (va_cpy (I 434) (I 315) 0 0 6)) 316 (va_cpy ((j_uo I 315 (va_cpy (I 434) (I 315) 0 0 6)) 486) ((j_uo I 315 (va_cpy (I 434) (I 315) 0 0 6)) 316) 0 0 6)) 487) ((j_uo (j_uo I 315 (va_cpy (I 434) (I 315) 0 0 6)) 316 (va_cpy ((j_uo I 315 (va_cpy (I 434) (I 315) 0 0 6)) 486) ((j_uo I 315 (va_cpy (I 434) (I 315) 0 0 6)) 316) 0 0 6)) 317) 0 0 6)) 318 (va_cpy ((j_uo (j_uo (j_uo I 315 (va_cpy (I 434) (I 315) 0 0 6)) 316 (va_cpy ((j_uo I 315 (va_cpy (I 434) (I 315) 0 0 6)) 486) ((j_uo I 315 (va_cpy (I 434) (I 315) 0 0 6)) 316) 0 0 6)) 317 (va_cpy ((j_uo (j_uo I 315 (va_cpy (I 434) (I 315) 0 0 6)) 316 (va_cpy ((j_uo I 315 (va_cpy (I 434) (I 315) 0 0 6)) 486) ((j_uo I 315 (va_cpy (I 434) (I 315) 0 0 6)) 316) 0 0 6)) 487) ((j_uo (j_uo I 315 (va_cpy (I 434) (I 315) 0 0 6)) 316 (va_cpy ((j_uo I 315 (va_cpy (I 434) (I 315) 0 0 6)) 486) ((j_uo I 315 (va_cpy (I 434) (I 315) 0 0 6)) 316) 0 0 6)) 317) 0 0 6)) 488) ((j_uo (j_uo (j_uo I 315 (va_cpy (I 434) (I 315) 0 0 6)) 316 (va_cpy ((j_uo I 315 (va_cpy (I 434) (I 315) 0 0 6)) 486) ((j_uo I 315 (va_cpy (I 434) (I 315) 0 0 6)) 316) 0 0 6)) 317 (va_cpy ((j_uo (j_uo I 315 (va_cpy (I 434) (I 315) 0 0 6)) 316 (va_cpy ((j_uo I 315 (va_cpy (I 434) (I 315) 0 0 6)) 486) ((j_uo I 315 (va_cpy (I 434) (I 315) 0 0 6)) 316) 0 0 6)) 487) ((j_uo (j_uo I 315 (va_cpy (I 434) (I 315) 0 0 6)) 316 (va_cpy ((j_uo I 315 (va_cpy (I 434) (I 315) 0 0 6)) 486) ((j_uo I 315 (va_cpy (I 434) (I 315) 0 0 6)) 316) 0 0 6)) 317) 0 0 6)) 318) 0 0 6)) 319) 0 0 12)), D, RR R) Q)
    (v3 : (¬ 24 ≤ k) → k < 24)
    (v4 : (¬ 24 ≤ k) → bZ β k ≤ 96)
    (v5 : (¬ 24 ≤ k) → (j_uo I (266 + k) (va_cpy (I (437 + k)) (I (266 + k)) 0 0 96)) 264 k = nI (bZ β k))
    (v6 : (¬ 24 ≤ k) → ∀ q, q < bZ β k → stV (bS β k q))
    (v7 : (¬ 24 ≤ k) → ∀ q, q < bZ β k → MR (bS β k q) ((j_uo I (266 + k) (va_cpy (I (437 + k)) (I (266 + k)) 0 0 96)) (266 + k) q) (D (462 + k)))
    (v8 : (¬ 24 ≤ k) → ∀ J2 : Nat → Nat → Int32, (TnI (j_uo I (266 + k) (va_cpy (I (437 + k)) (I (266 + k)) 0 0 96)) k (bS β k) (bZ β k) J2) → j_W 282 d 0 0 0 0 72 [some (.ref 260), some (.int (nI (k + 1)))] [] w1 (J2, (j_uo D (291 + k) (va_cpy (D (462 + k)) (D (291 + k)) 0 0 96)), RR R) Q) : j_W 282 d 0 0 0 0 72 [some (.ref 260), some (.int (nI k))] [] w1 (I, D, RR R) Q := by
  refine q_iload_n d282_72 rfl ?_
  refine q_bipush (v := 24) (by decide) d282_73 ?_
  refine q_icmp_ge (tgt := 127) d282_75 rfl (fun h1t => ?_) (fun h1f => ?_)
  ·
    have h1tc : 24 ≤ k := (nI_leI (by omega) (by omega)).mp h1t
    refine q_aload_n d282_127 rfl ?_
    refine q_getR (x := 434) d282_128 (fs10_138 282 rfl) rfl (lt_w1 rfl) sh260 (rs260_61 R) (by decide) ?_
    refine q_iconst (v := 0) (by decide) d282_131 ?_
    refine q_aload_n d282_132 rfl ?_
    refine q_getR (x := 315) d282_133 (fs10_34 282 rfl) rfl (lt_w1 rfl) sh260 (rs260_6 R) (by decide) ?_
    refine q_iconst (v := 0) (by decide) d282_136 ?_
    refine q_bipush (v := 6) (by decide) d282_137 ?_
    refine r_copyZ (a := 0) (b := 0) (m0 := 6) d282_139 (by exact j_i7 197 rfl) (lt_w1 rfl) sh434 (lt_w1 rfl) sh315 rfl rfl rfl (by omega) (by omega) (v1 h1tc) (by omega) (Nat.le_of_ble_eq_true rfl) ?_
    refine q_aload_n d282_142 rfl ?_
    refine q_getR (x := 486) d282_143 (fs10_150 282 rfl) rfl (lt_w1 rfl) sh260 (rs260_65 R) (by decide) ?_
    refine q_iconst (v := 0) (by decide) d282_146 ?_
    refine q_aload_n d282_147 rfl ?_
    refine q_getR (x := 316) d282_148 (fs10_37 282 rfl) rfl (lt_w1 rfl) sh260 (rs260_7 R) (by decide) ?_
    refine q_iconst (v := 0) (by decide) d282_151 ?_
    refine q_bipush (v := 6) (by decide) d282_152 ?_
    refine r_copyI (a := 0) (b := 0) (m0 := 6) d282_154 (by exact j_i7 197 rfl) (lt_w1 rfl) sh486 (lt_w1 rfl) sh316 rfl rfl rfl (by omega) (by omega) (by omega) (Nat.le_of_ble_eq_true rfl) ?_
    refine q_aload_n d282_157 rfl ?_
    refine q_getR (x := 487) d282_158 (fs10_153 282 rfl) rfl (lt_w1 rfl) sh260 (rs260_66 R) (by decide) ?_
    refine q_iconst (v := 0) (by decide) d282_161 ?_
    refine q_aload_n d282_162 rfl ?_
    refine q_getR (x := 317) d282_163 (fs10_40 282 rfl) rfl (lt_w1 rfl) sh260 (rs260_8 R) (by decide) ?_
    refine q_iconst (v := 0) (by decide) d282_166 ?_
    refine q_bipush (v := 6) (by decide) d282_167 ?_
    refine r_copyI (a := 0) (b := 0) (m0 := 6) d282_169 (by exact j_i7 197 rfl) (lt_w1 rfl) sh487 (lt_w1 rfl) sh317 rfl rfl rfl (by omega) (by omega) (by omega) (Nat.le_of_ble_eq_true rfl) ?_
    refine q_aload_n d282_172 rfl ?_
    refine q_getR (x := 488) d282_173 (fs10_156 282 rfl) rfl (lt_w1 rfl) sh260 (rs260_67 R) (by decide) ?_
    refine q_iconst (v := 0) (by decide) d282_176 ?_
    refine q_aload_n d282_177 rfl ?_
    refine q_getR (x := 318) d282_178 (fs10_43 282 rfl) rfl (lt_w1 rfl) sh260 (rs260_9 R) (by decide) ?_
    refine q_iconst (v := 0) (by decide) d282_181 ?_
    refine q_bipush (v := 6) (by decide) d282_182 ?_
    refine r_copyI (a := 0) (b := 0) (m0 := 6) d282_184 (by exact j_i7 197 rfl) (lt_w1 rfl) sh488 (lt_w1 rfl) sh318 rfl rfl rfl (by omega) (by omega) (by omega) (Nat.le_of_ble_eq_true rfl) ?_
    refine q_aload_n d282_187 rfl ?_
    refine q_getR (x := 489) d282_188 (fs10_159 282 rfl) rfl (lt_w1 rfl) sh260 (rs260_68 R) (by decide) ?_
    refine q_iconst (v := 0) (by decide) d282_191 ?_
    refine q_aload_n d282_192 rfl ?_
    refine q_getR (x := 319) d282_193 (fs10_46 282 rfl) rfl (lt_w1 rfl) sh260 (rs260_10 R) (by decide) ?_
    refine q_iconst (v := 0) (by decide) d282_196 ?_
    refine q_bipush (v := 12) (by decide) d282_197 ?_
    refine r_copyI (a := 0) (b := 0) (m0 := 12) d282_199 (by exact j_i7 197 rfl) (lt_w1 rfl) sh489 (lt_w1 rfl) sh319 rfl rfl rfl (by omega) (by omega) (by omega) (Nat.le_of_ble_eq_true rfl) ?_
    refine q_iconst (v := 0) (by decide) d282_202 ?_
    refine q_istore_n (L' := [some (.ref 260), some (.int 0)]) d282_203 (Nat.le_of_ble_eq_true rfl) rfl ?_
    exact r_sub (L' := [some (.ref 260), some (.int 0)]) ⟨rfl, rfl, trivial⟩ (v2 h1tc)
  ·
    have h1fc : ¬ 24 ≤ k := mt (nI_leI (by omega) (by omega)).mpr h1f
    refine q_aload_n d282_78 rfl ?_
    refine q_getR (x := 436) d282_79 (fs10_144 282 rfl) rfl (lt_w1 rfl) sh260 (rs260_63 R) (by decide) ?_
    refine q_iload_n d282_82 rfl ?_
    refine q_aaload (c := 4) (a := k) (x := (437 + k)) d282_83 (lt_w1 rfl) sh436 (by decide) rfl (by omega) (rm436 R (by omega)) (lt1000 (lm436 (by omega))) ?_
    refine q_iconst (v := 0) (by decide) d282_84 ?_
    refine q_aload_n d282_85 rfl ?_
    refine q_getR (x := 265) d282_86 (fs10_26 282 rfl) rfl (lt_w1 rfl) sh260 (rs260_4 R) (by decide) ?_
    refine q_iload_n d282_89 rfl ?_
    refine q_aaload (c := 4) (a := k) (x := (266 + k)) d282_90 (lt_w1 rfl) sh265 (by decide) rfl (by omega) (rm265 R (by omega)) (lt1000 (lm265 (by omega))) ?_
    refine q_iconst (v := 0) (by decide) d282_91 ?_
    refine q_bipush (v := 96) (by decide) d282_92 ?_
    refine r_copyI (a := 0) (b := 0) (m0 := 96) d282_94 (by exact j_i7 197 rfl) (lm436 (by omega)) (sm436 (by omega)) (lm265 (by omega)) (sm265 (by omega)) rfl rfl rfl (by omega) (by omega) (by omega) (Nat.le_of_ble_eq_true rfl) ?_
    refine q_aload_n d282_97 rfl ?_
    refine q_getR (x := 461) d282_98 (fs10_147 282 rfl) rfl (lt_w1 rfl) sh260 (rs260_64 R) (by decide) ?_
    refine q_iload_n d282_101 rfl ?_
    refine q_aaload (c := 3) (a := k) (x := (462 + k)) d282_102 (lt_w1 rfl) sh461 (by decide) rfl (by omega) (rm461 R (by omega)) (lt1000 (lm461 (by omega))) ?_
    refine q_iconst (v := 0) (by decide) d282_103 ?_
    refine q_aload_n d282_104 rfl ?_
    refine q_getR (x := 290) d282_105 (fs10_31 282 rfl) rfl (lt_w1 rfl) sh260 (rs260_5 R) (by decide) ?_
    refine q_iload_n d282_108 rfl ?_
    refine q_aaload (c := 3) (a := k) (x := (291 + k)) d282_109 (lt_w1 rfl) sh290 (by decide) rfl (by omega) (rm290 R (by omega)) (lt1000 (lm290 (by omega))) ?_
    refine q_iconst (v := 0) (by decide) d282_110 ?_
    refine q_bipush (v := 96) (by decide) d282_111 ?_
    refine r_copyD (a := 0) (b := 0) (m0 := 96) d282_113 (by exact j_i7 197 rfl) (lm461 (by omega)) (sm461 (by omega)) (lm290 (by omega)) (sm290 (by omega)) rfl rfl rfl (by omega) (by omega) (by omega) (Nat.le_of_ble_eq_true rfl) ?_
    refine q_aload_n d282_116 rfl ?_
    refine q_iload_n d282_117 rfl ?_
    refine q_invV (o := 260) (ci := 10) (av := [.int (nI k)]) (rest := []) (d' := 0) (mc' := 0) (ms' := 0) d282_118 (cv10_320 282 rfl) rfl (by decide) rfl rfl (by omega) (Nat.le_of_ble_eq_true rfl) (Nat.le_of_ble_eq_true rfl) (lt_w1 rfl) sh260 (Nat.le_refl _) (Nat.le_refl _) ?_
    refine c174 (s := bS β k) (z := bZ β k) (F := D (462 + k)) (v3 h1fc) (v4 h1fc) (v5 h1fc) (v6 h1fc) (v7 h1fc) (fun J2 h3 => ?_)
    show j_W 282 d 0 0 0 0 121 [some (.ref 260), some (.int (nI k))] [] w1 (J2, (j_uo D (291 + k) (va_cpy (D (462 + k)) (D (291 + k)) 0 0 96)), RR R) Q
    refine q_iinc (L' := [some (.ref 260), some (.int (nI (k + 1)))]) (v := (nI (k + 1))) d282_121 rfl (nI_inc _) rfl ?_
    refine q_goto (tgt := 72) d282_124 rfl ?_
    exact r_sub (L' := [some (.ref 260), some (.int (nI (k + 1)))]) ⟨rfl, rfl, trivial⟩ (v8 h1fc J2 h3)

set_option maxRecDepth 10000 in
set_option maxHeartbeats 4000000 in
theorem s282m {d : Nat} {I : Nat → Nat → Int32} {D : Nat → Nat → UInt64} {R : Nat → Nat → Option Nat} {Q : j_Po} {k : Nat} {β : Bd} (hk : k ≤ 12) (hd : 2 ≤ d)
    (v1 : (12 ≤ k) → BV β)
    (v2 : (12 ≤ k) → ∀ c, c < 24 → I 264 c = nI (bZ β c))
    (v3 : (12 ≤ k) → Q (some (.int (nI (nfor β)))) w1 (I, D, RR R))
    (v4 : (¬ 12 ≤ k) → j_W 282 d 0 0 0 0 204 [some (.ref 260), some (.int (nI (k + 1)))] [] w1 (I, (j_uo D (321 + k) (va_cpy (D (491 + k)) (D (321 + k)) 0 0 8)), RR R) Q) : j_W 282 d 0 0 0 0 204 [some (.ref 260), some (.int (nI k))] [] w1 (I, D, RR R) Q := by
  refine q_iload_n d282_204 rfl ?_
  refine q_bipush (v := 12) (by decide) d282_205 ?_
  refine q_icmp_ge (tgt := 235) d282_207 rfl (fun h1t => ?_) (fun h1f => ?_)
  ·
    have h1tc : 12 ≤ k := (nI_leI (by omega) (by omega)).mp h1t
    refine q_aload_n d282_235 rfl ?_
    refine q_invV (o := 260) (ci := 10) (av := []) (rest := []) (d' := 1) (mc' := 0) (ms' := 0) d282_236 (cv10_566 282 rfl) rfl (by decide) rfl rfl (by omega) (Nat.le_of_ble_eq_true rfl) (Nat.le_of_ble_eq_true rfl) (lt_w1 rfl) sh260 (Nat.le_refl _) (Nat.le_refl _) ?_
    refine c281f (β := β) (Nat.le_refl _) (v1 h1tc) (v2 h1tc) ?_
    show j_W 282 d 0 0 0 0 239 [some (.ref 260), some (.int (nI k))] [.int (nI (nfor β))] w1 (I, D, RR R) Q
    exact q_iret d282_239 rfl (Nat.le_refl _) (Nat.le_refl _) (v3 h1tc)
  ·
    have h1fc : ¬ 12 ≤ k := mt (nI_leI (by omega) (by omega)).mpr h1f
    refine q_aload_n d282_210 rfl ?_
    refine q_getR (x := 490) d282_211 (fs10_162 282 rfl) rfl (lt_w1 rfl) sh260 (rs260_69 R) (by decide) ?_
    refine q_iload_n d282_214 rfl ?_
    refine q_aaload (c := 3) (a := k) (x := (491 + k)) d282_215 (lt_w1 rfl) sh490 (by decide) rfl (by omega) (rm490 R (by omega)) (lt1000 (lm490 (by omega))) ?_
    refine q_iconst (v := 0) (by decide) d282_216 ?_
    refine q_aload_n d282_217 rfl ?_
    refine q_getR (x := 320) d282_218 (fs10_49 282 rfl) rfl (lt_w1 rfl) sh260 (rs260_11 R) (by decide) ?_
    refine q_iload_n d282_221 rfl ?_
    refine q_aaload (c := 3) (a := k) (x := (321 + k)) d282_222 (lt_w1 rfl) sh320 (by decide) rfl (by omega) (rm320 R (by omega)) (lt1000 (lm320 (by omega))) ?_
    refine q_iconst (v := 0) (by decide) d282_223 ?_
    refine q_bipush (v := 8) (by decide) d282_224 ?_
    refine r_copyD (a := 0) (b := 0) (m0 := 8) d282_226 (by exact j_i7 197 rfl) (lm490 (by omega)) (sm490 (by omega)) (lm320 (by omega)) (sm320 (by omega)) rfl rfl rfl (by omega) (by omega) (by omega) (Nat.le_of_ble_eq_true rfl) ?_
    refine q_iinc (L' := [some (.ref 260), some (.int (nI (k + 1)))]) (v := (nI (k + 1))) d282_229 rfl (nI_inc _) rfl ?_
    refine q_goto (tgt := 204) d282_232 rfl ?_
    exact r_sub (L' := [some (.ref 260), some (.int (nI (k + 1)))]) ⟨rfl, rfl, trivial⟩ (v4 h1fc)

