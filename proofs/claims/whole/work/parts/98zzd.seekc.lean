/-! seek: the class -/
def FRk (I : Nat → Nat → Int32) (D : Nat → Nat → UInt64) (J : Nat → Nat → Int32) (E : Nat → Nat → UInt64) : Prop := (∀ q, q ≠ 106 → q ≠ 107 → q ≠ 229 → ¬ (221 ≤ q ∧ q ≤ 227) → ¬ (230 ≤ q ∧ q < 248) → J q = I q) ∧ (∀ q, q ≠ 106 → q ≠ 228 → ¬ (213 ≤ q ∧ q ≤ 219) → ¬ (230 ≤ q ∧ q < 248) → E q = D q)
def EKo (J : Nat → Nat → Int32) (E : Nat → Nat → UInt64) : Option (UInt64 × UInt64) → Prop
  | none => J 106 6 = 0
  | some p => J 106 6 = 1 ∧ E 106 7 = p.1 ∧ E 106 8 = p.2 ∧ skN p.1 ∧ skN p.2
def EK (J : Nat → Nat → Int32) (E : Nat → Nat → UInt64) (r : Nat × Option (UInt64 × UInt64)) : Prop := J 106 5 = nI r.1 ∧ EKo J E r.2
section KC
variable {β : Bd} {I J : Nat → Nat → Int32} {D E : Nat → Nat → UInt64} {R : Nat → Nat → Option Nat} {Q : j_Po} {i c d : Nat}
theorem FRk.refl : FRk I D I D := ⟨fun _ _ _ _ _ _ => rfl, fun _ _ _ _ _ => rfl⟩
theorem FRk.tr {J2 : Nat → Nat → Int32} {E2 : Nat → Nat → UInt64} (h : FRk I D J E) (g : FRk J E J2 E2) : FRk I D J2 E2 := ⟨fun q a1 a2 a3 a4 a5 => (g.1 q a1 a2 a3 a4 a5).trans (h.1 q a1 a2 a3 a4 a5), fun q a1 a2 a3 a4 => (g.2 q a1 a2 a3 a4).trans (h.2 q a1 a2 a3 a4)⟩
theorem FRk.ofc (h : FRc I D J E) : FRk I D J E := ⟨fun q _ a2 a3 a4 a5 => h.1 q a2 a3 (by omega) a5, fun q _ a2 a3 a4 => h.2.2.2.1 q a2 (by omega) a4⟩
theorem FRk.b (h1 : ∀ q, q ≠ 106 → J q = I q) (h2 : ∀ q, q ≠ 106 → E q = D q) : FRk I D J E := ⟨fun q a1 _ _ _ _ => h1 q a1, fun q a1 _ _ _ => h2 q a1⟩
theorem FRk.cb (h : FRk I D J E) (hR : WFR R) (hC : CB β I D R) : CB β J E R := hC.cg hR (fun o ho => h.1 o (by unfold CBP at ho; omega) (by unfold CBP at ho; omega) (by unfold CBP at ho; omega) (by unfold CBP at ho; omega) (by unfold CBP at ho; omega)) (fun o ho => h.2 o (by unfold CBP at ho; omega) (by unfold CBP at ho; omega) (by unfold CBP at ho; omega) (by unfold CBP at ho; omega))
theorem FRk.nm (h : FRk I D J E) (hN : NM β I) : NM β J := hN.cg (fun o h1 h2 => h.1 o (by omega) (by omega) (by omega) (by omega) (by omega))
theorem FRk.or (h : FRk I D J E) (hO : OrdB β I) : OrdB β J := hO.cg (h.1 205 (by omega) (by omega) (by omega) (by omega) (by omega))
theorem LE.b {η : VEnv} (h : LE β I D 0 η) (h1 : J 221 = I 221) (h2 : E 213 = D 213) : LE β J E 0 η := fun k hk hz => by
  have := h k hk hz
  unfold LC at this ⊢
  rw [h1, h2]; exact this
theorem kc106 (h : FRc I D J E) : J 106 = I 106 ∧ E 106 = D 106 := ⟨h.1 106 (by decide) (by decide) (by decide) (by decide), h.2.2.2.1 106 (by decide) (by decide) (by decide)⟩
theorem b106I {k : Nat} {v : Int32} : ∀ q, q ≠ 106 → j_u I 106 k v q = I q := fun q h => by funext j; rw [j_u_o _ _ _ h]
theorem b106D {k : Nat} {v : UInt64} : ∀ q, q ≠ 106 → j_u D 106 k v q = D q := fun q h => by funext j; rw [j_u_o _ _ _ h]
theorem b106E {k k2 : Nat} {v v2 : UInt64} : ∀ q, q ≠ 106 → j_u (j_u D 106 k v) 106 k2 v2 q = D q := fun q h => by funext j; rw [j_u_o _ _ _ h, j_u_o _ _ _ h]
theorem l132 (hR : WFR R) (hV : BV β) (hC : CB β I D R) (hN : NM β I) (hO : OrdB β I) (hi : i < 24) (hc : c < 24) (hd : 50 ≤ d) : ∀ (m k : Nat) (J : Nat → Nat → Int32) (E : Nat → Nat → UInt64) (b : Bool) (n : Nat) (a : Vl), m + k = 40 → FRk I D J E → J 107 7 = 0 → LE β J E 0 (fu (env β) i a) → J 106 5 = nI n → J 106 6 = 0 → skI (E 106 0) (E 106 1) (E 106 3) (E 106 4) (E 106 2) → (∀ J2 E2, FRk I D J2 E2 → EK J2 E2 (skF (fun x => val β (fu (env β) i (0, kp (nI (bK β i)) x)) c) (E 106 2) m (E 106 0) (E 106 1) (E 106 3) (E 106 4) b n) → Q none w1 (J2, E2, RR R)) → j_W 132 d 0 0 0 0 125 [some (.ref 0), some (.int (nI i)), some (.int (nI c)), some (.int (bi b)), some (.int (nI k)), none, none, none, none] [] w1 (J, E, RR R) Q := by
  intro m
  have fin : ∀ (J : Nat → Nat → Int32) (E : Nat → Nat → UInt64) (n : Nat), FRk I D J E → J 106 5 = nI n → skI (E 106 0) (E 106 1) (E 106 3) (E 106 4) (E 106 2) → (∀ J2 E2, FRk I D J2 E2 → EK J2 E2 (n, some (near (E 106 0) (E 106 1) (E 106 3) (E 106 4) (E 106 2))) → Q none w1 (J2, E2, RR R)) → j_W 132 d 0 0 0 0 241 [some (.ref 0), none, none, none, none, none, none, none, none] [] w1 (J, E, RR R) Q := by
    intro J E n hF h5 H hq
    obtain ⟨n1, n2⟩ := near_ok H
    refine u132l (by omega) H (hq _ _ (hF.tr (FRk.b b106I b106E)) ⟨?_, ?_, ?_, ?_, n1, n2⟩)
    · rw [j_u_k _ _ (by decide)]; exact h5
    · rw [j_u_same]
    · rw [j_u_k _ _ (by decide), j_u_same]
    · rw [j_u_same]
  induction m with
  | zero =>
    intro k J E b n a hk hF h7 hE h5 h6 H hq
    have : k = 40 := by omega
    subst this
    have ex : ∀ {P : Prop}, ¬ 40 ≤ 40 → P := fun h => absurd (Nat.le_refl _) h
    exact u132h (by omega) (by omega) (fun _ => fin J E n hF h5 H (fun J2 E2 g1 g2 => hq J2 E2 g1 g2)) (fun h => ex h) (fun h => ex h) (fun h => ex h)
  | succ m ih =>
    intro k J E b n a hk hF h7 hE h5 h6 H hq
    rw [skF] at hq
    refine u132h (by omega) (by omega) (fun h => absurd h (by omega)) (fun _ => H) (fun _ hin => ?_) (fun _ hin => ?_)
    · obtain ⟨⟨mN, mM⟩, mL, mH⟩ := H.mid hin.1 hin.2
      rw [if_pos hin] at hq
      refine u132i (n := n) h5 (by omega) ?_
      have f1 : FRk I D (j_u J 106 5 (nI (n + 1))) E := hF.tr (FRk.b b106I (fun _ _ => rfl))
      refine u132j (η := fu (env β) i a) hR hV (f1.cb hR hC) (f1.nm hN) (f1.or hO) hi hc (by omega) hi hc mN.1 (by rw [j_u_o _ _ _ (by decide)]; exact h7) (hE.b (b106I 221 (by decide)) rfl) (Nat.le_refl _) (fun J2 E2 g1 g2 g3 g4 hz => ?_) (fun J2 E2 g1 g2 g3 g4 hz => ?_)
      all_goals
        rw [fu_fu] at g3 g4
        obtain ⟨e1, e2⟩ := kc106 g1
        have f2 := f1.tr (FRk.ofc g1)
        have v200 : (val β (fu (env β) i (0, kp (nI (bK β i)) (mid (E 106 0) (E 106 1) (E 106 3) (E 106 4) (E 106 2) b))) c).1 < 200 := g4.2.2.2
        have z200 := nI_z v200
        have j5 : J2 106 5 = nI (n + 1) := by rw [e1, j_u_same]
        have j6 : J2 106 6 = 0 := by rw [e1, j_u_k _ _ (by decide)]; exact h6
        rw [fu_fu] at hz
      · have hz0 : (val β (fu (env β) i (0, kp (nI (bK β i)) (mid (E 106 0) (E 106 1) (E 106 3) (E 106 4) (E 106 2) b))) c).1 = 0 := z200.mp hz
        have ev : E2 213 c = (val β (fu (env β) i (0, kp (nI (bK β i)) (mid (E 106 0) (E 106 1) (E 106 3) (E 106 4) (E 106 2) b))) c).2 := g4.2.1 hz0
        have sv : Sm (val β (fu (env β) i (0, kp (nI (bK β i)) (mid (E 106 0) (E 106 1) (E 106 3) (E 106 4) (E 106 2) b))) c).2 := by rw [← ev]; exact g4.2.2.1
        have nv : (val β (fu (env β) i (0, kp (nI (bK β i)) (mid (E 106 0) (E 106 1) (E 106 3) (E 106 4) (E 106 2) b))) c).2 ≠ 0x8000000000000000 := val_ne hV hc (fun _ => fu_ne (fun _ => env_ne)) hz0
        rw [if_pos hz0] at hq
        have H2 : skI (E2 106 0) (E2 106 1) (E2 106 3) (E2 106 4) (E2 106 2) := by rw [e2]; exact H
        refine u132k hi hc (by omega) (fun _ => H2) (fun _ => mN.1) (fun hne hs => ?_) (fun hne hs => ?_) (fun he => ?_)
        · rw [ev, e2] at hne hs
          rw [if_neg (by rw [hne]; simp), if_pos hs] at hq
          rw [ev, e2]
          refine ih (k + 1) J2 _ _ (n + 1) _ (by omega) (f2.tr (FRk.b (fun _ _ => rfl) b106E)) g2 (g3.b rfl (b106E 213 (by decide))) j5 j6 ?_ ?_
          · rw [show (j_u (j_u E2 106 0 (mid (E 106 0) (E 106 1) (E 106 3) (E 106 4) (E 106 2) b)) 106 3 (val β (fu (env β) i (0, kp (nI (bK β i)) (mid (E 106 0) (E 106 1) (E 106 3) (E 106 4) (E 106 2) b))) c).2) 106 0 = (mid (E 106 0) (E 106 1) (E 106 3) (E 106 4) (E 106 2) b) from by rw [j_u_k _ _ (by decide), j_u_same], show (j_u (j_u E2 106 0 (mid (E 106 0) (E 106 1) (E 106 3) (E 106 4) (E 106 2) b)) 106 3 (val β (fu (env β) i (0, kp (nI (bK β i)) (mid (E 106 0) (E 106 1) (E 106 3) (E 106 4) (E 106 2) b))) c).2) 106 1 = E2 106 1 from by rw [j_u_k _ _ (by decide), j_u_k _ _ (by decide)], show (j_u (j_u E2 106 0 (mid (E 106 0) (E 106 1) (E 106 3) (E 106 4) (E 106 2) b)) 106 3 (val β (fu (env β) i (0, kp (nI (bK β i)) (mid (E 106 0) (E 106 1) (E 106 3) (E 106 4) (E 106 2) b))) c).2) 106 2 = E2 106 2 from by rw [j_u_k _ _ (by decide), j_u_k _ _ (by decide)], show (j_u (j_u E2 106 0 (mid (E 106 0) (E 106 1) (E 106 3) (E 106 4) (E 106 2) b)) 106 3 (val β (fu (env β) i (0, kp (nI (bK β i)) (mid (E 106 0) (E 106 1) (E 106 3) (E 106 4) (E 106 2) b))) c).2) 106 3 = (val β (fu (env β) i (0, kp (nI (bK β i)) (mid (E 106 0) (E 106 1) (E 106 3) (E 106 4) (E 106 2) b))) c).2 from by rw [j_u_same], show (j_u (j_u E2 106 0 (mid (E 106 0) (E 106 1) (E 106 3) (E 106 4) (E 106 2) b)) 106 3 (val β (fu (env β) i (0, kp (nI (bK β i)) (mid (E 106 0) (E 106 1) (E 106 3) (E 106 4) (E 106 2) b))) c).2) 106 4 = E2 106 4 from by rw [j_u_k _ _ (by decide), j_u_k _ _ (by decide)], e2]
            exact H.low ⟨mN, mM⟩ mH ⟨sv, nv⟩ hne hs
          · rw [show (j_u (j_u E2 106 0 (mid (E 106 0) (E 106 1) (E 106 3) (E 106 4) (E 106 2) b)) 106 3 (val β (fu (env β) i (0, kp (nI (bK β i)) (mid (E 106 0) (E 106 1) (E 106 3) (E 106 4) (E 106 2) b))) c).2) 106 0 = (mid (E 106 0) (E 106 1) (E 106 3) (E 106 4) (E 106 2) b) from by rw [j_u_k _ _ (by decide), j_u_same], show (j_u (j_u E2 106 0 (mid (E 106 0) (E 106 1) (E 106 3) (E 106 4) (E 106 2) b)) 106 3 (val β (fu (env β) i (0, kp (nI (bK β i)) (mid (E 106 0) (E 106 1) (E 106 3) (E 106 4) (E 106 2) b))) c).2) 106 1 = E2 106 1 from by rw [j_u_k _ _ (by decide), j_u_k _ _ (by decide)], show (j_u (j_u E2 106 0 (mid (E 106 0) (E 106 1) (E 106 3) (E 106 4) (E 106 2) b)) 106 3 (val β (fu (env β) i (0, kp (nI (bK β i)) (mid (E 106 0) (E 106 1) (E 106 3) (E 106 4) (E 106 2) b))) c).2) 106 2 = E2 106 2 from by rw [j_u_k _ _ (by decide), j_u_k _ _ (by decide)], show (j_u (j_u E2 106 0 (mid (E 106 0) (E 106 1) (E 106 3) (E 106 4) (E 106 2) b)) 106 3 (val β (fu (env β) i (0, kp (nI (bK β i)) (mid (E 106 0) (E 106 1) (E 106 3) (E 106 4) (E 106 2) b))) c).2) 106 3 = (val β (fu (env β) i (0, kp (nI (bK β i)) (mid (E 106 0) (E 106 1) (E 106 3) (E 106 4) (E 106 2) b))) c).2 from by rw [j_u_same], show (j_u (j_u E2 106 0 (mid (E 106 0) (E 106 1) (E 106 3) (E 106 4) (E 106 2) b)) 106 3 (val β (fu (env β) i (0, kp (nI (bK β i)) (mid (E 106 0) (E 106 1) (E 106 3) (E 106 4) (E 106 2) b))) c).2) 106 4 = E2 106 4 from by rw [j_u_k _ _ (by decide), j_u_k _ _ (by decide)], e2]; exact hq
        · rw [ev, e2] at hne hs
          rw [if_neg (by rw [hne]; simp), if_neg hs] at hq
          rw [ev, e2]
          refine ih (k + 1) J2 _ _ (n + 1) _ (by omega) (f2.tr (FRk.b (fun _ _ => rfl) b106E)) g2 (g3.b rfl (b106E 213 (by decide))) j5 j6 ?_ ?_
          · rw [show (j_u (j_u E2 106 1 (mid (E 106 0) (E 106 1) (E 106 3) (E 106 4) (E 106 2) b)) 106 4 (val β (fu (env β) i (0, kp (nI (bK β i)) (mid (E 106 0) (E 106 1) (E 106 3) (E 106 4) (E 106 2) b))) c).2) 106 0 = E2 106 0 from by rw [j_u_k _ _ (by decide), j_u_k _ _ (by decide)], show (j_u (j_u E2 106 1 (mid (E 106 0) (E 106 1) (E 106 3) (E 106 4) (E 106 2) b)) 106 4 (val β (fu (env β) i (0, kp (nI (bK β i)) (mid (E 106 0) (E 106 1) (E 106 3) (E 106 4) (E 106 2) b))) c).2) 106 1 = (mid (E 106 0) (E 106 1) (E 106 3) (E 106 4) (E 106 2) b) from by rw [j_u_k _ _ (by decide), j_u_same], show (j_u (j_u E2 106 1 (mid (E 106 0) (E 106 1) (E 106 3) (E 106 4) (E 106 2) b)) 106 4 (val β (fu (env β) i (0, kp (nI (bK β i)) (mid (E 106 0) (E 106 1) (E 106 3) (E 106 4) (E 106 2) b))) c).2) 106 2 = E2 106 2 from by rw [j_u_k _ _ (by decide), j_u_k _ _ (by decide)], show (j_u (j_u E2 106 1 (mid (E 106 0) (E 106 1) (E 106 3) (E 106 4) (E 106 2) b)) 106 4 (val β (fu (env β) i (0, kp (nI (bK β i)) (mid (E 106 0) (E 106 1) (E 106 3) (E 106 4) (E 106 2) b))) c).2) 106 3 = E2 106 3 from by rw [j_u_k _ _ (by decide), j_u_k _ _ (by decide)], show (j_u (j_u E2 106 1 (mid (E 106 0) (E 106 1) (E 106 3) (E 106 4) (E 106 2) b)) 106 4 (val β (fu (env β) i (0, kp (nI (bK β i)) (mid (E 106 0) (E 106 1) (E 106 3) (E 106 4) (E 106 2) b))) c).2) 106 4 = (val β (fu (env β) i (0, kp (nI (bK β i)) (mid (E 106 0) (E 106 1) (E 106 3) (E 106 4) (E 106 2) b))) c).2 from by rw [j_u_same], e2]
            exact H.high ⟨mN, mM⟩ mL ⟨sv, nv⟩ hne hs
          · rw [show (j_u (j_u E2 106 1 (mid (E 106 0) (E 106 1) (E 106 3) (E 106 4) (E 106 2) b)) 106 4 (val β (fu (env β) i (0, kp (nI (bK β i)) (mid (E 106 0) (E 106 1) (E 106 3) (E 106 4) (E 106 2) b))) c).2) 106 0 = E2 106 0 from by rw [j_u_k _ _ (by decide), j_u_k _ _ (by decide)], show (j_u (j_u E2 106 1 (mid (E 106 0) (E 106 1) (E 106 3) (E 106 4) (E 106 2) b)) 106 4 (val β (fu (env β) i (0, kp (nI (bK β i)) (mid (E 106 0) (E 106 1) (E 106 3) (E 106 4) (E 106 2) b))) c).2) 106 1 = (mid (E 106 0) (E 106 1) (E 106 3) (E 106 4) (E 106 2) b) from by rw [j_u_k _ _ (by decide), j_u_same], show (j_u (j_u E2 106 1 (mid (E 106 0) (E 106 1) (E 106 3) (E 106 4) (E 106 2) b)) 106 4 (val β (fu (env β) i (0, kp (nI (bK β i)) (mid (E 106 0) (E 106 1) (E 106 3) (E 106 4) (E 106 2) b))) c).2) 106 2 = E2 106 2 from by rw [j_u_k _ _ (by decide), j_u_k _ _ (by decide)], show (j_u (j_u E2 106 1 (mid (E 106 0) (E 106 1) (E 106 3) (E 106 4) (E 106 2) b)) 106 4 (val β (fu (env β) i (0, kp (nI (bK β i)) (mid (E 106 0) (E 106 1) (E 106 3) (E 106 4) (E 106 2) b))) c).2) 106 3 = E2 106 3 from by rw [j_u_k _ _ (by decide), j_u_k _ _ (by decide)], show (j_u (j_u E2 106 1 (mid (E 106 0) (E 106 1) (E 106 3) (E 106 4) (E 106 2) b)) 106 4 (val β (fu (env β) i (0, kp (nI (bK β i)) (mid (E 106 0) (E 106 1) (E 106 3) (E 106 4) (E 106 2) b))) c).2) 106 4 = (val β (fu (env β) i (0, kp (nI (bK β i)) (mid (E 106 0) (E 106 1) (E 106 3) (E 106 4) (E 106 2) b))) c).2 from by rw [j_u_same], e2]; exact hq
        · rw [ev, e2] at he
          rw [if_pos he] at hq
          rw [ev]
          refine hq _ _ (f2.tr (FRk.b b106I b106E)) ⟨?_, ?_, ?_, ?_, mN, ⟨sv, nv⟩⟩
          · rw [j_u_k _ _ (by decide)]; exact j5
          · rw [j_u_same]
          · rw [j_u_k _ _ (by decide), j_u_same]
          · rw [j_u_same]
      · have hz0 : ¬ (val β (fu (env β) i (0, kp (nI (bK β i)) (mid (E 106 0) (E 106 1) (E 106 3) (E 106 4) (E 106 2) b))) c).1 = 0 := fun q => hz (z200.mpr q)
        rw [if_neg hz0] at hq
        exact hq J2 E2 f2 ⟨j5, j6⟩
    · rw [if_neg hin] at hq
      exact fin J E n hF h5 H hq
theorem c132 (hR : WFR R) (hV : BV β) (hC : CB β I D R) (hN : NM β I) (hO : OrdB β I) (hi : i < 24) (hc : c < 24) (hd : 51 ≤ d) (h0 : skN (D 106 0) ∧ vm (D 106 0) ≤ 2 ^ 1094) (h1 : skN (D 106 1) ∧ vm (D 106 1) ≤ 2 ^ 1094) (h2 : skN (D 106 2)) (hlt : vz (D 106 0) < vz (D 106 1)) (h6 : I 106 6 = 0) (hq : ∀ J E, FRk I D J E → EK J E (skT (fun x => val β (fu (env β) i (0, kp (nI (bK β i)) x)) c) (D 106 0) (D 106 1) (D 106 2)) → Q none w1 (J, E, RR R)) : j_Call d 132 [.ref 0, .int (nI i), .int (nI c)] w1 (I, D, RR R) 0 0 Q := by
  unfold skT at hq
  refine u132a (AP := fun J E => FRc I D J E ∧ J 107 7 = 0 ∧ LE β J E 0 (env β)) (fun Q2 hq2 => c34o hC (by omega) (fun J E a1 a2 a3 => hq2 J E ⟨a1, a2, a3⟩)) (by omega) (fun J0 E0 hA => ?_)
  obtain ⟨a1, a2, a3⟩ := hA
  obtain ⟨ea1, ea2⟩ := kc106 a1
  refine u132b (by omega) ?_
  have f1 : FRk I D (j_u J0 106 5 1) E0 := (FRk.ofc a1).tr (FRk.b b106I (fun _ _ => rfl))
  refine u132c (η := env β) hR hV (f1.cb hR hC) (f1.nm hN) (f1.or hO) hi hc (by omega) hi hc (by rw [ea2]; exact h0.1.1) (by rw [j_u_o _ _ _ (by decide)]; exact a2) (a3.b (b106I 221 (by decide)) rfl) (Nat.le_refl _) (fun J1 E1 g1 g2 g3 g4 hz => ?_) (fun J1 E1 g1 g2 g3 g4 hz => ?_)
  all_goals
    rw [ea2] at g3 g4 hz
    obtain ⟨e1, e2⟩ := kc106 g1
    have e2 := e2.trans ea2
    have f2 := f1.tr (FRk.ofc g1)
    have z200 := nI_z g4.2.2.2
    have j5 : J1 106 5 = nI 1 := by rw [e1, j_u_same]; rfl
    have j6 : J1 106 6 = 0 := by rw [e1, j_u_k _ _ (by decide), ea1]; exact h6
  · have hz0 := z200.mp hz
    have ev := g4.2.1 hz0
    have ev : E1 213 c = ((fun x => val β (fu (env β) i (0, kp (nI (bK β i)) x)) c) (D 106 0)).2 := ev
    have sv : Sm ((fun x => val β (fu (env β) i (0, kp (nI (bK β i)) x)) c) (D 106 0)).2 := by rw [← ev]; exact g4.2.2.1
    have nv : ((fun x => val β (fu (env β) i (0, kp (nI (bK β i)) x)) c) (D 106 0)).2 ≠ 0x8000000000000000 := val_ne hV hc (fun _ => fu_ne (fun _ => env_ne)) hz0
    rw [if_pos (show ((fun x => val β (fu (env β) i (0, kp (nI (bK β i)) x)) c) (D 106 0)).1 = 0 from hz0)] at hq
    refine u132d hi hc (by omega) ?_
    rw [ev]
    have f3 : FRk I D (j_u J1 106 5 2) (j_u E1 106 3 ((fun x => val β (fu (env β) i (0, kp (nI (bK β i)) x)) c) (D 106 0)).2) := f2.tr (FRk.b b106I b106D)
    refine u132e (η := fu (env β) i (0, kp (nI (bK β i)) (D 106 0))) hR hV (f3.cb hR hC) (f3.nm hN) (f3.or hO) hi hc (by omega) hi hc (by rw [j_u_k _ _ (by decide), e2]; exact h1.1.1) (by rw [j_u_o _ _ _ (by decide)]; exact g2) (g3.b (b106I 221 (by decide)) (b106D 213 (by decide))) (Nat.le_refl _) (fun J2 E2 k1 k2 k3 k4 hz2 => ?_) (fun J2 E2 k1 k2 k3 k4 hz2 => ?_)
    all_goals
      rw [fu_fu, j_u_k _ _ (by decide), e2] at k3 k4 hz2
      obtain ⟨y1, y2⟩ := kc106 k1
      have f4 := f3.tr (FRk.ofc k1)
      have z201 := nI_z k4.2.2.2
      have i5 : J2 106 5 = nI 2 := by rw [y1, j_u_same]; rfl
      have i6 : J2 106 6 = 0 := by rw [y1, j_u_k _ _ (by decide)]; exact j6
    · have hz1 := z201.mp hz2
      have ew : E2 213 c = ((fun x => val β (fu (env β) i (0, kp (nI (bK β i)) x)) c) (D 106 1)).2 := k4.2.1 hz1
      have sw : Sm ((fun x => val β (fu (env β) i (0, kp (nI (bK β i)) x)) c) (D 106 1)).2 := by rw [← ew]; exact k4.2.2.1
      have nw : ((fun x => val β (fu (env β) i (0, kp (nI (bK β i)) x)) c) (D 106 1)).2 ≠ 0x8000000000000000 := val_ne hV hc (fun _ => fu_ne (fun _ => env_ne)) hz1
      rw [if_pos (show ((fun x => val β (fu (env β) i (0, kp (nI (bK β i)) x)) c) (D 106 1)).1 = 0 from hz1)] at hq
      refine u132f hi hc (by omega) ?_
      rw [ew]
      have q0 : (j_u E2 106 4 ((fun x => val β (fu (env β) i (0, kp (nI (bK β i)) x)) c) (D 106 1)).2) 106 0 = D 106 0 := by rw [j_u_k _ _ (by decide), y2, j_u_k _ _ (by decide), e2]
      have q1 : (j_u E2 106 4 ((fun x => val β (fu (env β) i (0, kp (nI (bK β i)) x)) c) (D 106 1)).2) 106 1 = D 106 1 := by rw [j_u_k _ _ (by decide), y2, j_u_k _ _ (by decide), e2]
      have q2 : (j_u E2 106 4 ((fun x => val β (fu (env β) i (0, kp (nI (bK β i)) x)) c) (D 106 1)).2) 106 2 = D 106 2 := by rw [j_u_k _ _ (by decide), y2, j_u_k _ _ (by decide), e2]
      have q3 : (j_u E2 106 4 ((fun x => val β (fu (env β) i (0, kp (nI (bK β i)) x)) c) (D 106 1)).2) 106 3 = ((fun x => val β (fu (env β) i (0, kp (nI (bK β i)) x)) c) (D 106 0)).2 := by rw [j_u_k _ _ (by decide), y2, j_u_same]
      have q4 : (j_u E2 106 4 ((fun x => val β (fu (env β) i (0, kp (nI (bK β i)) x)) c) (D 106 1)).2) 106 4 = ((fun x => val β (fu (env β) i (0, kp (nI (bK β i)) x)) c) (D 106 1)).2 := j_u_same _ _ _ _
      have f5 : FRk I D J2 (j_u E2 106 4 ((fun x => val β (fu (env β) i (0, kp (nI (bK β i)) x)) c) (D 106 1)).2) := f4.tr (FRk.b (fun _ _ => rfl) b106D)
      have LE5 : LE β J2 (j_u E2 106 4 ((fun x => val β (fu (env β) i (0, kp (nI (bK β i)) x)) c) (D 106 1)).2) 0 (fu (env β) i (0, kp (nI (bK β i)) (D 106 1))) := k3.b rfl (b106D 213 (by decide))
      generalize hG : j_u E2 106 4 ((fun x => val β (fu (env β) i (0, kp (nI (bK β i)) x)) c) (D 106 1)).2 = G at *
      generalize hfl : ((fun x => val β (fu (env β) i (0, kp (nI (bK β i)) x)) c) (D 106 0)).2 = fl at *
      generalize hfh : ((fun x => val β (fu (env β) i (0, kp (nI (bK β i)) x)) c) (D 106 1)).2 = fh at *
      have iL := dlt_iff sv.1 h2.1.1
      have iH := dlt_iff sw.1 h2.1.1
      have iL2 := dlt_iff h2.1.1 sv.1
      have iH2 := dlt_iff h2.1.1 sw.1
      have dL := deq_iff sv.1 h2.1.1
      have dH := deq_iff sw.1 h2.1.1
      have ff : ∀ {p q : UInt64}, dlt p q = false → ¬ dlt p q = true := fun h => by rw [h]; simp
      have fe : ∀ {p q : UInt64}, deq p q = false → ¬ deq p q = true := fun h => by rw [h]; simp
      have stop : deq fl (D 106 2) = false → deq fh (D 106 2) = false → dlt fl (D 106 2) = dlt fh (D 106 2) → Q none w1 (J2, G, RR R) := fun x1 x2 x3 => by
        rw [if_neg (fe x1), if_neg (fe x2), if_pos x3] at hq
        exact hq J2 G f5 ⟨i5, i6⟩
      have go : deq fl (D 106 2) = false → deq fh (D 106 2) = false → ¬ dlt fl (D 106 2) = dlt fh (D 106 2) → j_W 132 d 0 0 0 0 125 [some (.ref 0), some (.int (nI i)), some (.int (nI c)), some (.int 0), some (.int 0), none, none, none, none] [] w1 (J2, G, RR R) Q := fun x1 x2 x3 => by
        rw [if_neg (fe x1), if_neg (fe x2), if_neg x3] at hq
        refine l132 hR hV hC hN hO hi hc (by omega) 40 0 J2 G false 2 _ rfl f5 k2 LE5 i5 i6 ?_ ?_
        · rw [q0, q1, q2, q3, q4]
          refine ⟨h0, h1, ⟨sv, nv⟩, ⟨sw, nw⟩, h2, hlt, ?_⟩
          have n1 : vz fl ≠ vz (D 106 2) := fun g => by rw [dL.mpr g] at x1; cases x1
          have n2 : vz fh ≠ vz (D 106 2) := fun g => by rw [dH.mpr g] at x2; cases x2
          rcases Int.lt_or_gt_of_ne n1 with g | g
          · refine Or.inl ⟨g, ?_⟩
            have : ¬ vz fh < vz (D 106 2) := fun g2 => x3 (by rw [iL.mpr g, iH.mpr g2])
            omega
          · refine Or.inr ⟨?_, g⟩
            have t : dlt fl (D 106 2) = false := by
              cases g2 : dlt fl (D 106 2) with
              | false => rfl
              | true => have := iL.mp g2; omega
            cases g2 : dlt fh (D 106 2) with
            | true => exact iH.mp g2
            | false => exact absurd (by rw [t, g2]) x3
        · rw [q0, q1, q2, q3, q4]; exact hq
      refine u132g (by omega) (fun _ _ => Or.inl i6) (fun _ _ h => absurd i6 h) (fun x1 x2 _ y1 y2 => ?_) (fun x1 x2 _ y1 y2 y3 => ?_) (fun x1 x2 _ y1 y2 y3 => ?_) (fun x1 x2 _ y1 y2 => ?_) (fun x1 x2 _ y1 y2 y3 => ?_) (fun x1 x2 _ y1 y2 y3 y4 => ?_) (fun x1 x2 _ y1 y2 y3 y4 => ?_) (fun x1 x2 => ?_) (fun x1 => ?_)
      · rw [q2, q3] at x1 y1
        rw [q2, q4] at x2 y2
        exact stop x1 x2 (by rw [y1, y2])
      · rw [q2, q3] at x1 y1 y3
        rw [q2, q4] at x2 y2
        exact stop x1 x2 (by
          exfalso
          have n1 : vz fl ≠ vz (D 106 2) := fun g => by rw [dL.mpr g] at x1; cases x1
          have n3 := mt iL.mpr (ff y1)
          have n4 := mt iL2.mpr (ff y3)
          omega)
      · rw [q2, q3] at x1 y1
        rw [q2, q4] at x2 y2
        exact go x1 x2 (by rw [y1, y2]; simp)
      · rw [q2, q3] at x1 y1
        rw [q2, q4] at x2 y2
        refine go x1 x2 (fun g => ?_)
        rw [y1] at g
        have := iH.mp g.symm
        have := iH2.mp y2
        omega
      · rw [q2, q3] at x1 y1
        rw [q2, q4] at x2 y2 y3
        exact stop x1 x2 (by
          exfalso
          have n1 : vz fh ≠ vz (D 106 2) := fun g => by rw [dH.mpr g] at x2; cases x2
          have n3 := mt iH.mpr (ff y3)
          have n4 := mt iH2.mpr (ff y2)
          omega)
      · rw [q2, q3] at x1 y1
        rw [q2, q4] at x2 y3
        exact stop x1 x2 (by rw [y1, y3])
      · rw [q2, q3] at x1 y1 y4
        exfalso
        have := iL.mp y1
        have := iL2.mp y4
        omega
      · rw [q2, q3] at x1
        rw [q2, q4] at x2
        rw [if_neg (fe x1), if_pos x2] at hq
        refine hq _ _ (f5.tr (FRk.b b106I b106E)) ⟨?_, ?_, ?_, ?_, h1.1, ⟨sw, nw⟩⟩
        · rw [j_u_k _ _ (by decide)]; exact i5
        · rw [j_u_same]
        · rw [j_u_k _ _ (by decide), j_u_same, q1]
        · rw [j_u_same, q4]
      · rw [q2, q3] at x1
        rw [if_pos x1] at hq
        refine hq _ _ (f5.tr (FRk.b b106I b106E)) ⟨?_, ?_, ?_, ?_, h0.1, ⟨sv, nv⟩⟩
        · rw [j_u_k _ _ (by decide)]; exact i5
        · rw [j_u_same]
        · rw [j_u_k _ _ (by decide), j_u_same, q0]
        · rw [j_u_same, q3]
    · have hz1 : ¬ ((fun x => val β (fu (env β) i (0, kp (nI (bK β i)) x)) c) (D 106 1)).1 = 0 := fun q => hz2 (z201.mpr q)
      rw [if_neg hz1] at hq
      exact hq J2 E2 f4 ⟨i5, i6⟩
  · have hz0 : ¬ ((fun x => val β (fu (env β) i (0, kp (nI (bK β i)) x)) c) (D 106 0)).1 = 0 := fun q => hz (z200.mpr q)
    rw [if_neg hz0] at hq
    exact hq J1 E1 f2 ⟨j5, j6⟩
end KC
