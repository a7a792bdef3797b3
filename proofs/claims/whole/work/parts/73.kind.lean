/-! kind -/
set_option maxRecDepth 10000 in
set_option maxHeartbeats 4000000 in
theorem s30nn {d : Nat} {I : Nat → Nat → Int32} {D : Nat → Nat → UInt64} {R : Nat → Nat → Option Nat} {Q : j_Po} {k : Nat} {j : Nat}  (hR : WFR R) (hk : k < 24) (hj : j < 6) (hd : 2 ≤ d)
    (v1 : Sm (D 110 k))
    (v2 : Q (some (.int (I 109 k))) w1 ((j_u I 109 k (nI j)), (j_u D 110 k (kp (nI j) (D 110 k))), RR R)) : j_Call d 30 [.ref 0, .int (nI k), .int (nI j)] w1 (I, D, RR R) 0 0 Q := by
  refine q_enter (L := [some (.ref 0), some (.int (nI k)), some (.int (nI j)), none]) j_m30 (Nat.le_of_ble_eq_true rfl) rfl ?_
  refine q_iload_n d30_0 rfl ?_
  refine q_invS (av := [.int (nI k)]) (rest := []) (d' := 0) (mc' := 0) (ms' := 0) d30_1 (cv9_60 30 rfl) rfl rfl (by omega) (Nat.le_of_ble_eq_true rfl) (Nat.le_of_ble_eq_true rfl) (Nat.le_refl _) (Nat.le_refl _) ?_
  refine r12t (by first | omega | decide)  ?_
  show j_W 30 d 0 0 0 0 4 [some (.ref 0), some (.int (nI k)), some (.int (nI j)), none] [.int 1] w1 (I, D, RR R) Q
  refine q_if_eq (tgt := 14) d30_4 rfl (fun h => absurd h (by decide)) (fun _ => ?_)
  refine q_iload_n d30_7 rfl ?_
  refine q_invS (av := [.int (nI j)]) (rest := []) (d' := 0) (mc' := 0) (ms' := 0) d30_8 (cv9_105 30 rfl) rfl rfl (by omega) (Nat.le_of_ble_eq_true rfl) (Nat.le_of_ble_eq_true rfl) (Nat.le_refl _) (Nat.le_refl _) ?_
  refine r31t (by first | omega | decide)  ?_
  show j_W 30 d 0 0 0 0 11 [some (.ref 0), some (.int (nI k)), some (.int (nI j)), none] [.int 1] w1 (I, D, RR R) Q
  refine q_if_ne (tgt := 17) d30_11 rfl (fun _ => ?_) (fun h => absurd h (by decide))
  refine q_aload_n d30_17 rfl ?_
  refine q_getR (x := 108) d30_18 (fs9_53 30 rfl) rfl (lt_w1 rfl) sh0 (rs0_1 R) (by decide) ?_
  refine q_getR (x := 109) d30_21 (fs9_76 30 rfl) rfl (lt_w1 rfl) sh108 (rs108_0 R) (by decide) ?_
  refine q_iload_n d30_24 rfl ?_
  refine q_iaload (a := k) d30_25 (lt_w1 rfl) sh109 rfl (by omega) ?_
  refine q_istore_n (L' := [some (.ref 0), some (.int (nI k)), some (.int (nI j)), some (.int (I 109 k))]) d30_26 (Nat.le_of_ble_eq_true rfl) rfl ?_
  refine q_aload_n d30_27 rfl ?_
  refine q_getR (x := 108) d30_28 (fs9_53 30 rfl) rfl (lt_w1 rfl) sh0 (rs0_1 R) (by decide) ?_
  refine q_getR (x := 109) d30_31 (fs9_76 30 rfl) rfl (lt_w1 rfl) sh108 (rs108_0 R) (by decide) ?_
  refine q_iload_n d30_34 rfl ?_
  refine q_iload_n d30_35 rfl ?_
  refine q_iastore (a := k) d30_36 (lt_w1 rfl) sh109 rfl (by omega) ?_
  refine q_aload_n d30_37 rfl ?_
  refine q_getR (x := 108) d30_38 (fs9_53 30 rfl) rfl (lt_w1 rfl) sh0 (rs0_1 R) (by decide) ?_
  refine q_getR (x := 110) d30_41 (fs9_72 30 rfl) rfl (lt_w1 rfl) sh108 (rs108_1 R) (by decide) ?_
  refine q_iload_n d30_44 rfl ?_
  refine q_iload_n d30_45 rfl ?_
  refine q_aload_n d30_46 rfl ?_
  refine q_getR (x := 108) d30_47 (fs9_53 30 rfl) rfl (lt_w1 rfl) sh0 (rs0_1 R) (by decide) ?_
  refine q_getR (x := 110) d30_50 (fs9_72 30 rfl) rfl (lt_w1 rfl) sh108 (rs108_1 R) (by decide) ?_
  refine q_iload_n d30_53 rfl ?_
  refine q_daload (a := k) d30_54 (lt_w1 rfl) sh110 rfl (by omega) ?_
  refine q_invS (av := [.int (nI j), .double (D 110 k)]) (rest := [.int (nI k), .ref 110]) (d' := 1) (mc' := 0) (ms' := 0) d30_55 (cv9_82 30 rfl) rfl rfl (by omega) (Nat.le_of_ble_eq_true rfl) (Nat.le_of_ble_eq_true rfl) (Nat.le_refl _) (Nat.le_refl _) ?_
  refine (fun a b => c15 a (Nat.le_refl _) b) v1 ?_
  show j_W 30 d 0 0 0 0 58 [some (.ref 0), some (.int (nI k)), some (.int (nI j)), some (.int (I 109 k))] [.double (kp (nI j) (D 110 k)), .int (nI k), .ref 110] w1 ((j_u I 109 k (nI j)), D, RR R) Q
  refine q_dastore (a := k) d30_58 (lt_w1 rfl) sh110 rfl (by omega) ?_
  refine q_iload_n d30_59 rfl ?_
  exact q_iret d30_60 rfl (Nat.le_refl _) (Nat.le_refl _) v2

def bkind (β : Bd) (k j : Nat) : Bd := (fu β.1 k j, fu β.2.1 k (kp (nI j) (β.2.1 k)), β.2.2)
theorem bkind_V {β : Bd} {k j : Nat} (h : BV β) (hj : j < 6) : BV (bkind β k j) := by
  refine ⟨fun c hc => ?_, h.2.1, h.2.2⟩
  obtain ⟨a1, a2, a3, a4, a5⟩ := h.1 c hc
  refine ⟨?_, a2, a3, fun hf => ?_, a5⟩
  · show fu β.1 k j c < 6
    by_cases e : c = k
    · subst e; rw [fu_s]; exact hj
    · rw [fu_n e]; exact a1
  · show okB (fu β.2.1 k (kp (nI j) (β.2.1 k)) c)
    by_cases e : c = k
    · subst e; rw [fu_s]; exact ⟨kp_sm (a4 hf).1.1, kp_mi (a4 hf).1.1 (a4 hf).2⟩
    · rw [fu_n e]; exact a4 hf
theorem kind_inv {β : Bd} {σ : j_I3} (hR : WFR σ.2.2) (hW : WFD σ.2.2) (hL : Live β σ) (hRe : Rest σ) {k j : Nat} (hk : k < 24) (hj : j < 6) {y : UInt64} (hy : Sm y) (hb : bZ β k = 0 → y = kp (nI j) (σ.2.1 263 k)) : Inv (j_u (j_u σ.1 109 k (nI j)) 261 k (nI j), j_u (j_u σ.2.1 110 k (kp (nI j) (σ.2.1 110 k))) 263 k y, σ.2.2) := by
  obtain ⟨a1, a2, a3, a4, a5, a6, a7⟩ := hL
  have hf : ∀ o, o ≠ 109 → o ≠ 261 → j_u (j_u σ.1 109 k (nI j)) 261 k (nI j) o = σ.1 o := fun o h1 h2 => by funext i; rw [j_u_o _ _ _ h2, j_u_o _ _ _ h1]
  have hg : ∀ o, o ≠ 110 → o ≠ 263 → j_u (j_u σ.2.1 110 k (kp (nI j) (σ.2.1 110 k))) 263 k y o = σ.2.1 o := fun o h1 h2 => by funext i; rw [j_u_o _ _ _ h2, j_u_o _ _ _ h1]
  have ho : otherC β (bkind β k j) k := ⟨rfl, fun c hc e => ⟨fu_n e, fu_n e, rfl, rfl, rfl⟩⟩
  obtain ⟨c1, c2, c3, c4, c5⟩ := a1.1 k hk
  obtain ⟨d1, d2, d3, d4, d5, d6⟩ := a2.1 k hk
  refine Inv.mk (β := bkind β k j) hR hW (a1.cell ho (fun i e => ?_) (fun i e => ?_) (fun i e => ?_) (fun c hc e => ?_) (fun t ht => ?_) ⟨?_, fun hb => ?_, ?_, ?_, ?_⟩) (a2.cell ho (fun i e => ?_) (fun i e => ?_) (fun i e => ?_) (fun i e => ?_) (fun c hc e => ?_) (fun o h1 h2 => ?_) (fun o h1 h2 => ?_) ⟨?_, ?_, fun hbf => ?_, ?_, ?_, ?_⟩) (a3.cg (fun o h1 h2 => hf o (by omega) (by omega))) (bkind_V a4 hj) (a5.cg (fun o h1 h2 => hf o (by omega) (by omega))) (a6.cg (hf 205 (by decide) (by decide))) (fun v hv => ?_) (hRe.cg' (fun o ho => hf o ?_ ?_) (fun o ho => hg o ?_ ?_) ?_ ?_ ?_ ?_)
  · rw [j_u_o _ _ _ (by decide), j_u_k _ _ e]
  · rw [hf 111 (by decide) (by decide)]
  · rw [j_u_o _ _ _ (by decide), j_u_k _ _ e]
  · have hb := (hR.1 c hc).2
    unfold isBF at hb
    exact ⟨rfl, hf _ (by omega) (by omega), hf _ (by omega) (by omega), hf _ (by omega) (by omega)⟩
  · have hb := (hR.2.1 t ht).2
    unfold isBG at hb
    exact ⟨rfl, hf _ (by omega) (by omega), hg _ (by omega) (by omega), hg _ (by omega) (by omega)⟩
  · rw [j_u_o _ _ _ (by decide), j_u_same]
    show nI j = nI (fu β.1 k j k)
    rw [fu_s]
  · rw [j_u_o _ _ _ (by decide), j_u_same]
    show kp (nI j) (σ.2.1 110 k) = fu β.2.1 k (kp (nI j) (β.2.1 k)) k
    rw [fu_s, c2 hb]
  · rw [j_u_o _ _ _ (by decide), j_u_same]; exact (kp_sm c3).1
  · rw [hf 111 (by decide) (by decide)]; exact c4
  · have hb := (hR.1 k hk).2
    unfold isBF at hb
    exact c5.cg (hf _ (by omega) (by omega)) (hf _ (by omega) (by omega)) (hf _ (by omega) (by omega))
  · rw [j_u_k _ _ e, j_u_o _ _ _ (by decide)]
  · rw [hf 262 (by decide) (by decide)]
  · rw [hf 264 (by decide) (by decide)]
  · rw [j_u_k _ _ e, j_u_o _ _ _ (by decide)]
  · exact ⟨hf _ (by omega) (by omega), hg _ (by omega) (by omega)⟩
  · exact hf o (by omega) (by omega)
  · exact hg o (by omega) (by omega)
  · rw [j_u_same]
    show nI j = nI (fu β.1 k j k)
    rw [fu_s]
  · rw [hf 262 (by decide) (by decide)]; exact d2
  · rw [j_u_same]
    show y = fu β.2.1 k (kp (nI j) (β.2.1 k)) k
    have hz : bZ β k = 0 := by
      rcases Nat.eq_zero_or_pos (bZ β k) with h | h
      · exact h
      · have h3 := (a4.1 k hk).2.2.1 h
        rw [show bF β k = true from hbf] at h3; cases h3
    rw [fu_s, hb hz, d3 hbf]
  · rw [j_u_same]; exact hy
  · rw [hf 264 (by decide) (by decide)]; exact d5
  · rw [hf (266 + k) (by omega) (by omega), hg (291 + k) (by omega) (by omega)]; exact d6
  · unfold bu; rw [hf 208 (by decide) (by decide)]; exact a7 v hv
  · unfold restP at ho; omega
  · unfold restP at ho; omega
  · unfold restP at ho; omega
  · unfold restP at ho; omega
  · rw [hf 97 (by decide) (by decide)]
  · rw [hf 260 (by decide) (by decide)]
  · rw [hf 260 (by decide) (by decide)]
  · rw [hf 0 (by decide) (by decide)]
theorem j_u_id {α : Type} (f : Nat → Nat → α) (o k : Nat) : j_u f o k (f o k) = f := by
  funext o' i
  unfold j_u
  by_cases e : o' = o
  · subst e
    by_cases e2 : i = k
    · subst e2; rw [if_pos rfl, if_pos rfl]
    · rw [if_pos rfl, if_neg e2]
  · rw [if_neg e]
theorem both_kind (a b : Int32) : BothI Inv 30 175 [.int a, .int b] := fun σ h => by
  have hT := h
  obtain ⟨⟨hR, hW⟩, ⟨β, hL⟩, hRe⟩ := h
  show j_Call lD 30 [.ref 0, .int a, .int b] w1 (σ.1, σ.2.1, RR σ.2.2) 0 0 (PEnd 175 [.int a, .int b] Inv)
  by_cases ha : ∃ k : Nat, k < 24 ∧ a = nI k
  case neg => exact s30 hR lD2 (fun k1 h2 h3 k2 h5 h6 => absurd ⟨k1, h2, h3⟩ ha) (fun k1 h2 h3 k2 h5 h6 => absurd ⟨k1, h2, h3⟩ ha) (fun k1 h2 h3 h4 => absurd ⟨k1, h2, h3⟩ ha) (fun h1 => pend_same hT (s175 lD2 (fun k1 g2 g3 g4 g5 => absurd ⟨k1, g2, g3⟩ ha) (fun k1 g2 g3 g4 g5 => absurd ⟨k1, g2, g3⟩ ha) (fun k1 g2 g3 g4 g5 => absurd ⟨k1, g2, g3⟩ ha) (fun k1 g2 g3 g4 => absurd ⟨k1, g2, g3⟩ ha) (fun g1 => ⟨rfl, rfl, rfl⟩)))
  obtain ⟨k, hk, rfl⟩ := ha
  by_cases hb : ∃ k : Nat, k < 6 ∧ b = nI k
  case neg =>
    have hb2 := mt i_kind.mp hb
    exact s30n hR hk lD2 (fun k1 h2 h3 => absurd ⟨k1, h2, h3⟩ hb) (fun k1 h2 h3 => absurd ⟨k1, h2, h3⟩ hb) (fun h1 => pend_same hT (s175n hk lD2 (fun g1 g2 => False.elim (by first | exact absurd g1 hb2 | exact absurd hb2 g1 | exact (Int32.not_lt.mpr g1) hb2 | exact (Int32.not_lt.mpr hb2) g1 | exact g1 (Int32.not_le.mp hb2) | exact hb2 (Int32.not_le.mp g1) | omega)) (fun g1 g2 => False.elim (by first | exact absurd g1 hb2 | exact absurd hb2 g1 | exact (Int32.not_lt.mpr g1) hb2 | exact (Int32.not_lt.mpr hb2) g1 | exact g1 (Int32.not_le.mp hb2) | exact hb2 (Int32.not_le.mp g1) | omega)) (fun g1 g2 => False.elim (by first | exact absurd g1 hb2 | exact absurd hb2 g1 | exact (Int32.not_lt.mpr g1) hb2 | exact (Int32.not_lt.mpr hb2) g1 | exact g1 (Int32.not_le.mp hb2) | exact hb2 (Int32.not_le.mp g1) | omega)) (fun g1 => ⟨rfl, rfl, rfl⟩)))
  have hbk := i_kind.mpr hb
  obtain ⟨j, hj, rfl⟩ := hb
  refine s30nn hR hk hj lD2 (((hL.1.1 k hk).2.2.1)) (?_)
  obtain ⟨z1, z2⟩ := hL.z hk
  have hk2 : (j_u σ.1 109 k (nI j)) 261 k = σ.1 109 k := by rw [j_u_o _ _ _ (by decide)]; exact (hL.kinds k hk).1.symm
  have e264 : (j_u (j_u σ.1 109 k (nI j)) 261 k (nI j)) 264 k = σ.1 264 k := by rw [j_u_o _ _ _ (by decide), j_u_o _ _ _ (by decide)]
  have hs := (hL.2.1.1 k hk).2.2.2.1
  by_cases hz : ((j_u (j_u σ.1 109 k (nI j)) 261 k (nI j)) 264 k) = 0
  · refine pend_to (I2 := j_u (j_u σ.1 109 k (nI j)) 261 k (nI j)) (D2 := j_u (j_u σ.2.1 110 k (kp (nI j) (σ.2.1 110 k))) 263 k (kp (nI j) (σ.2.1 263 k))) (R2 := σ.2.2) (kind_inv hR hW hL hRe hk hj (kp_sm hs).1 (fun _ => rfl)) (s175n hk lD2 (fun g1 g2 => False.elim (by first | exact absurd g2 hz | exact absurd hz g2 | exact (Int32.not_lt.mpr g2) hz | exact (Int32.not_lt.mpr hz) g2 | exact g2 (Int32.not_le.mp hz) | exact hz (Int32.not_le.mp g2) | omega)) (fun g1 g2 => (by rw [j_u_o _ _ _ (by decide)]; exact (hL.2.1.1 k hk).2.2.2.1)) (fun g1 g2 => ⟨by rw [hk2], rfl, by rw [show (j_u σ.2.1 110 k (kp (nI j) (σ.2.1 110 k))) 263 k = σ.2.1 263 k from by rw [j_u_o _ _ _ (by decide)]]⟩) (fun g1 => False.elim (by first | exact absurd g1 hbk | exact absurd hbk g1 | exact (Int32.not_lt.mpr g1) hbk | exact (Int32.not_lt.mpr hbk) g1 | exact g1 (Int32.not_le.mp hbk) | exact hbk (Int32.not_le.mp g1) | omega)))
  · have hz0 : ¬ bZ β k = 0 := fun e => hz (by rw [e264]; exact z2.mpr e)
    refine pend_to (I2 := j_u (j_u σ.1 109 k (nI j)) 261 k (nI j)) (D2 := j_u σ.2.1 110 k (kp (nI j) (σ.2.1 110 k))) (R2 := σ.2.2) ?_ (s175n hk lD2 (fun g1 g2 => ⟨by rw [hk2], rfl, rfl⟩) (fun g1 g2 => False.elim (by first | exact absurd g2 hz | exact absurd hz g2 | exact (Int32.not_lt.mpr g2) hz | exact (Int32.not_lt.mpr hz) g2 | exact g2 (Int32.not_le.mp hz) | exact hz (Int32.not_le.mp g2) | omega)) (fun g1 g2 => False.elim (by first | exact absurd g2 hz | exact absurd hz g2 | exact (Int32.not_lt.mpr g2) hz | exact (Int32.not_lt.mpr hz) g2 | exact g2 (Int32.not_le.mp hz) | exact hz (Int32.not_le.mp g2) | omega)) (fun g1 => False.elim (by first | exact absurd g1 hbk | exact absurd hbk g1 | exact (Int32.not_lt.mpr g1) hbk | exact (Int32.not_lt.mpr hbk) g1 | exact g1 (Int32.not_le.mp hbk) | exact hbk (Int32.not_le.mp g1) | omega)))
    have := kind_inv hR hW hL hRe hk hj hs (fun e => absurd e hz0)
    rw [show (σ.2.1 263 k) = (j_u σ.2.1 110 k (kp (nI j) (σ.2.1 110 k))) 263 k from by rw [j_u_o _ _ _ (by decide)], j_u_id] at this
    exact this
