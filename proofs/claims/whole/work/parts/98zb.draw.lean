/-! chance: a draw on both sides -/
section DR
variable {β : Bd} {I : Nat → Nat → Int32} {D : Nat → Nat → UInt64} {R : Nat → Nat → Option Nat} {Q : j_Po}
theorem c143 (hR : WFR R) (hV : BV β) (hC : CB β I D R) (hN : NM β I) (hO : OrdB β I) {d c : Nat} {s : Int32} {η : VEnv} {p : Nat → Bool} (hp : ∀ v, v < 24 → p v = bt (I 207 c) v) (hc : c < 24) (h7 : I 107 7 = 0) (hE : LE β I D 0 η) (hd : 40 ≤ d) (hq : ∀ J E, FRc I D J E → J 107 7 = 0 → LE β J E 0 (lot p β 24 0 s η) → LC J E 0 c (val β (lot p β 24 0 s (env β)) c) → Q (some (.int (nI (val β (lot p β 24 0 s (env β)) c).1))) w1 (J, E, RR R)) : j_Call d 143 [.ref 107, .int (nI c), .int s] w1 (I, D, RR R) 0 0 Q := by
  have hval : val β (lot p β 24 0 s η) c = val β (lot p β 24 0 s (env β)) c := val_nm hV hN hc (fun v hv hb => lot_eq (by rw [hp v hv]; exact hb) (Nat.zero_le _) (by omega))
  have loop : ∀ (m i : Nat) (k : Int32) (θ : VEnv) (J : Nat → Nat → Int32) (E : Nat → Nat → UInt64), m + i = 24 → FRc I D J E → J 107 7 = 0 → LE β J E 0 θ → lot p β m i k θ = lot p β 24 0 s η → j_W 143 d 0 0 0 0 5 [some (.ref 107), some (.int (nI c)), none, some (.int k), some (.int (nI i))] [] w1 (J, E, RR R) Q := by
    intro m
    induction m with
    | zero =>
      intro i k θ J E hi a1 a2 a3 a4
      have a4 : θ = lot p β 24 0 s η := a4
      have C := a1.cb hR hC
      have ex : ∀ {P : Prop}, ¬ 24 ≤ i → P := fun h => absurd (by omega) h
      refine u143h (η := θ) C hc (by omega) (by omega) (fun _ => ?_) (fun h => ex h) (fun h => ex h) (fun h => ex h) (fun h => ex h) (fun h => ex h) (fun h => ex h) (fun h => ex h)
      refine u143b (AP := fun J2 E2 => FRc J E J2 E2 ∧ LE β J2 E2 0 θ ∧ J2 107 7 = 0 ∧ LC J2 E2 0 c (val β θ c)) hc (fun Q2 hq2 => c36o (L := 0) (η := θ) hR hV C (a1.nm hN) (a1.or hO) hc (fun ρ _ => by have := cnt_6 ρ (ρ c); omega) (by omega) a2 a3 (fun J2 E2 b1 _ b3 b4 _ b6 => hq2 J2 E2 ⟨b1, b3, b4, b6⟩)) (by omega) (fun J2 E2 hB => ?_)
      obtain ⟨b1, b3, b4, b6⟩ := hB
      rw [a4] at b3 b6
      rw [hval] at b6
      refine u143c hc (by omega) ?_
      rw [show J2 221 c = nI (val β (lot p β 24 0 s (env β)) c).1 from b6.1]
      exact hq J2 E2 (a1.tr b1) b4 b3 b6
    | succ m ih =>
      intro i k θ J E hi a1 a2 a3 a4
      have C := a1.cb hR hC
      have e207 : J 207 = I 207 := a1.1 207 (by decide) (by decide) (by decide) (by decide)
      have hb : ∀ {P : Prop}, 24 ≤ i → P := fun h => absurd h (by omega)
      have bit : (¬ (J 207 c >>> (nI i &&& 31)) &&& 1 = 0) ↔ p i = true := by rw [e207, hn_t (by omega), hp i (by omega)]
      refine u143h (η := θ) C hc (by omega) (by omega) (fun h => hb h) (fun _ _ => fi_nn (drX_sm (drK k)).1) (fun _ _ => by omega) (fun _ _ => drX_sm (drK k)) (fun _ _ => Nat.le_refl _) (fun _ _ => a3) (fun _ h J2 E2 b1 b2 => ?_) (fun _ h => ?_)
      · refine ih (i + 1) (drK k) (fu θ i (0, kp (nI (bK β i)) (drX (drK k)))) J2 E2 (by omega) (a1.tr (FL.rc b1 (by decide))) (by rw [b1.1 107 (by decide)]; exact a2) b2 ?_
        unfold lot at a4
        rw [if_pos (bit.mp h)] at a4
        exact a4
      · refine ih (i + 1) k θ J E (by omega) a1 a2 a3 ?_
        unfold lot at a4
        rw [if_neg (fun q => h (bit.mpr q))] at a4
        exact a4
  exact u143e (by omega) (loop 24 0 s η I D rfl GF.refl h7 hE rfl)
/-- what a draw of the reference changes -/
def FRl (I : Nat → Nat → Int32) (D : Nat → Nat → UInt64) (J : Nat → Nat → Int32) (E : Nat → Nat → UInt64) : Prop := (∀ q, ¬ qI 0 q → q ≠ 430 → J q = I q) ∧ (∀ i, i ≠ 18 → i ≠ 26 → i ≠ 31 → i ≠ 32 → J 260 i = I 260 i) ∧ (∀ q, ¬ qD 0 q → q ≠ 429 → E q = D q)
def soV (v : Vl) (y : UInt64) : Int32 := if v.1 = 0 ∧ dge v.2 y = true then 1 else 0
theorem c273 (hV : BV β) (hB : RB β I D) {d c : Nat} {x s : Int32} {y : UInt64} {p : Nat → Bool} (hp : ∀ v, v < 24 → p v = bt x v) (hc : c < 24) (hd : 100 ≤ d) (hq : ∀ K F, FRl I D K F → Q (some (.int (soV (val β (lot p β 24 0 s (env β)) c) y))) w1 (K, F, RR R)) : j_Call d 273 [.ref 260, .int (nI c), .int x, .int s, .double y] w1 (I, D, RR R) 0 0 Q := by
  have hI0 := hB.inp
  have loop : ∀ (m i : Nat) (k : Int32) (θ : VEnv) (J : Nat → Nat → Int32) (E : Nat → Nat → UInt64), m + i = 24 → (∀ q, q ≠ 262 → q ≠ 430 → J q = I q) → (∀ q, q < 24 → J 430 q = I 262 q) → (∀ q, 24 ≤ q → J 262 q = I 262 q) → (∀ q, q ≠ 263 → q ≠ 429 → E q = D q) → (∀ q, q < 24 → E 429 q = D 263 q) → (∀ q, 24 ≤ q → E 263 q = D 263 q) → RIn β J E θ → lot p β m i k θ = lot p β 24 0 s (env β) → j_W 273 d 0 0 0 0 36 [some (.ref 260), some (.int (nI c)), some (.int x), none, some (.double y), none, some (.int k), some (.int (nI i)), none, none] [] w1 (J, E, RR R) Q := by
    intro m
    induction m with
    | zero =>
      intro i k θ J E hi a1 a2 a3 a4 a5 a6 a7 a8
      have a8 : θ = lot p β 24 0 s (env β) := a8
      have ex : ∀ {P : Prop}, ¬ 24 ≤ i → P := fun h => absurd (by omega) h
      have hS : RSt β J E := hB.st.cg (fun q q1 q2 q3 => a1 q q3 (by omega)) (fun q q1 q2 q3 => a4 q q3 (by omega))
      refine u273h (by omega) (by omega) (fun _ => ?_) (fun h => ex h) (fun h => ex h) (fun h => ex h)
      have fin : ∀ (b : Int32) (J1 : Nat → Nat → Int32) (E1 : Nat → Nat → UInt64), FRr J E J1 E1 → b = soV (val β θ c) y → (b = 0 ∨ b = 1) → j_W 273 d 0 0 0 0 136 [some (.ref 260), none, none, none, none, none, none, none, none, some (.int b)] [] w1 (J1, E1, RR R) Q := by
        intro b J1 E1 g1 gb gb2
        have e430 : J1 430 = J 430 := g1.1 430 (by unfold qI; omega)
        have e262 : J1 262 = J 262 := g1.1 262 (by unfold qI; omega)
        have e429 : E1 429 = E 429 := g1.2.2 429 (by unfold qD; omega)
        have e263 : E1 263 = E 263 := g1.2.2 263 (by unfold qD; omega)
        refine u273c (by omega) (fun q hq24 => ?_) ?_ gb2
        · rw [Nat.zero_add, e430, a2 q hq24]; exact (hI0 q hq24).1
        · rw [gb, a8]
          refine hq _ _ ⟨fun q q1 q2 => ?_, fun j j1 j2 j3 j4 => ?_, fun q q1 q2 => ?_⟩
          · by_cases e : q = 262
            · subst e
              rw [j_uo_same]
              funext j
              by_cases hj : j < 24
              · rw [va_cpy_in _ _ (by omega) (by omega), Nat.zero_add, Nat.sub_zero, e430]; exact a2 j hj
              · rw [va_cpy_out _ _ (by omega), e262]; exact a3 j (by omega)
            · rw [j_uo_ne _ _ e, g1.1 q q1, a1 q e q2]
          · rw [j_uo_ne _ _ (by decide), g1.2.1 j j1 j2 j3 j4, a1 260 (by decide) (by decide)]
          · by_cases e : q = 263
            · subst e
              rw [j_uo_same]
              funext j
              by_cases hj : j < 24
              · rw [va_cpy_in _ _ (by omega) (by omega), Nat.zero_add, Nat.sub_zero, e429]; exact a5 j hj
              · rw [va_cpy_out _ _ (by omega), e263]; exact a6 j (by omega)
            · rw [j_uo_ne _ _ e, g1.2.2 q q1, a4 q e q2]
      refine u273b (η := θ) hV hc (by omega) hS a7 hc (Nat.le_refl _) (fun _ _ _ _ => Nat.le_refl _) (fun J1 E1 g1 g2 h => fin 0 J1 E1 g1 ?_ (Or.inl rfl)) (fun J1 E1 g1 g2 h g => fin 0 J1 E1 g1 ?_ (Or.inl rfl)) (fun J1 E1 g1 g2 h g => fin 1 J1 E1 g1 ?_ (Or.inr rfl))
      · unfold soV; rw [if_neg (fun q => h (g2.z.mpr q.1))]
      · unfold soV; rw [if_neg (fun q => by rw [← (g2.2.2.1 q.1).1, g] at q; exact absurd q.2 (by simp))]
      · unfold soV; rw [if_pos ⟨g2.z.mp h, by rw [← (g2.2.2.1 (g2.z.mp h)).1]; exact g⟩]
    | succ m ih =>
      intro i k θ J E hi a1 a2 a3 a4 a5 a6 a7 a8
      have bit : (¬ (x >>> (nI i &&& 31)) &&& 1 = 0) ↔ p i = true := by rw [hn_t (by omega), hp i (by omega)]
      refine u273h (by omega) (by omega) (fun h => absurd h (by omega)) (fun _ _ => fi_nn (drX_sm (drK k)).1) (fun _ h => ?_) (fun _ h => ?_)
      · refine ih (i + 1) (drK k) (fu θ i (0, kp (nI (bK β i)) (drX (drK k)))) (j_u J 262 i 1) (j_u E 263 i (drX (drK k))) (by omega) (fun q q1 q2 => ?_) (fun q q1 => ?_) (fun q q1 => ?_) (fun q q1 q2 => ?_) (fun q q1 => ?_) (fun q q1 => ?_) (fun v hv => ?_) ?_
        · rw [← a1 q q1 q2]; funext j; rw [j_u_o _ _ _ q1]
        · rw [j_u_o _ _ _ (by decide)]; exact a2 q q1
        · rw [j_u_k _ _ (by omega)]; exact a3 q q1
        · rw [← a4 q q1 q2]; funext j; rw [j_u_o _ _ _ q1]
        · rw [j_u_o _ _ _ (by decide)]; exact a5 q q1
        · rw [j_u_k _ _ (by omega)]; exact a6 q q1
        · by_cases e : v = i
          · subst e
            rw [j_u_same, j_u_same, fu_s]
            exact ⟨Or.inr rfl, drX_sm _, fun _ => ⟨fun h => absurd h (by decide), fun _ => rfl⟩⟩
          · rw [j_u_k _ _ e, j_u_k _ _ e, fu_n e]; exact a7 v hv
        · unfold lot at a8
          rw [if_pos (bit.mp h)] at a8
          exact a8
      · refine ih (i + 1) k θ J E (by omega) a1 a2 a3 a4 a5 a6 a7 ?_
        unfold lot at a8
        rw [if_neg (fun q => (bit.mpr q) h)] at a8
        exact a8
  refine u273e (by omega) (fun q hq24 => by rw [Nat.zero_add]; exact (hI0 q hq24).1) (loop 24 0 s (env β) _ _ rfl (fun q q1 q2 => by rw [j_uo_ne _ _ q2]) (fun q q1 => ?_) (fun q q1 => ?_) (fun q q1 q2 => by rw [j_uo_ne _ _ q2]) (fun q q1 => ?_) (fun q q1 => ?_) (hI0.cg ?_ ?_) rfl)
  · rw [j_uo_same, va_cpy_in _ _ (by omega) (by omega), Nat.zero_add, Nat.sub_zero]
  · rw [j_uo_ne _ _ (by decide)]
  · rw [j_uo_same, va_cpy_in _ _ (by omega) (by omega), Nat.zero_add, Nat.sub_zero]
  · rw [j_uo_ne _ _ (by decide)]
  · rw [j_uo_ne _ _ (by decide)]
  · rw [j_uo_ne _ _ (by decide)]
end DR
theorem Inv.scr {σ : j_I3} (h : Inv σ) {K : Nat → Nat → Int32} {F : Nat → Nat → UInt64} (eI : ∀ q, liveP q ∨ restP q → K q = σ.1 q) (eD : ∀ q, liveP q ∨ restP q → F q = σ.2.1 q) (e97 : K 97 1 = σ.1 97 1) (e34 : K 260 34 = σ.1 260 34) (e57 : K 260 57 = σ.1 260 57) (e04 : K 0 4 = σ.1 0 4) : Inv (K, F, σ.2.2) := by
  obtain ⟨⟨hR, hW⟩, ⟨β, hL⟩, hRe⟩ := h
  exact ⟨⟨hR, hW⟩, ⟨β, hL.cg (σ' := (K, F, σ.2.2)) hR (fun o ho => eI o (Or.inl ho)) (fun o ho => eD o (Or.inl ho)) rfl rfl⟩, hRe.cg' (fun o ho => eI o (Or.inr ho)) (fun o ho => eD o (Or.inr ho)) e97 e34 e57 e04⟩
