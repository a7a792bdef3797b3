/-! the reference tells: a step, a cell -/
section RA
variable {β : Bd} {ρ : Nat → Nat} {R : Nat → Nat → Option Nat} {r : Nat} {I : Nat → Nat → Int32} {D : Nat → Nat → UInt64} {Q : j_Po}
theorem nI_div10 : ∀ f, f < 5 → ∀ t, t < 6 → (nI (300 + 10 * f + t) - 300) / 10 = nI f ∧ nI (300 + 10 * f + t) - nI (300 + 10 * f + t) / 10 * 10 = nI t := by decide +kernel
theorem SR.vq {e : Int32} {x : UInt64} {f c : Nat} {T : Tl} (h : SR e x f T) (hc : c < 24) : VQ e (if e = 0 then -1 else nI c) x (askV c f T) := by
  obtain ⟨h1, h2⟩ := h
  have h5 : askE f T < 5 := by unfold askE; split <;> (try split) <;> omega
  by_cases h0 : askE f T = 0
  · rw [h0] at h1
    subst h1
    obtain ⟨x1, x2⟩ := h2 h0
    rw [if_pos (by decide), show askV c f T = (0, askN f T) from if_pos h0, ← x1]
    exact VQ.k x2
  · rw [show askV c f T = (askE f T * 32 + c, FP.dconst0) from if_neg h0, h1]
    have : ¬ nI (askE f T) = 0 := fun q => h0 ((nI_z (by omega)).mp q)
    rw [if_neg this]
    exact VQ.w (by omega) (by omega) hc
theorem MR_w {p : Nat × Nat} {mk : Int32} {F : Nat → UInt64} (h : MR p mk F) (hs : stV p) : ∃ w, w < 400 ∧ mk = nI w ∧ ((p.1 = 0 ∧ 100 ≤ w ∧ w < 196 ∧ F (w - 100) = fig p.2) ∨ (p.1 = 1 ∧ w = p.2 ∧ w < 24) ∨ (2 ≤ p.1 ∧ p.1 ≤ 12 ∧ w = 198 + p.1) ∨ (13 ≤ p.1 ∧ w = 300 + 10 * (p.1 - 13) + p.2 ∧ p.2 < 6)) := by
  obtain ⟨h0, h1, h2, h3⟩ := h
  obtain ⟨s0, s1, s2, s3, s4⟩ := hs
  by_cases q0 : p.1 = 0
  · obtain ⟨j, j1, j2, j3⟩ := h0 q0
    exact ⟨100 + j, by omega, j2, Or.inl ⟨q0, by omega, by omega, by rw [show 100 + j - 100 = j by omega]; exact j3⟩⟩
  · by_cases q1 : p.1 = 1
    · have := s2 q1
      exact ⟨p.2, by omega, h1 q1, Or.inr (Or.inl ⟨q1, rfl, this⟩)⟩
    · by_cases q2 : p.1 ≤ 12
      · exact ⟨198 + p.1, by omega, h2 (by omega) q2, Or.inr (Or.inr (Or.inl ⟨by omega, q2, rfl⟩))⟩
      · have := s4 (by omega)
        exact ⟨300 + 10 * (p.1 - 13) + p.2, by omega, h3 (by omega), Or.inr (Or.inr (Or.inr ⟨by omega, rfl, this⟩))⟩
theorem c192 (hV : BV β) (hρ : Rk β ρ) (hT : TQ β ρ R r) (hU : SUQ β ρ R r) {d δ b c k h w : Nat} {s : Nat → Vl} {η : VEnv} (hc : c < 24) (hk : k < bZ β c) (hr : ρ c < r + 1) (hcnt : δ + cnt ρ (ρ c) ≤ 6) (hb : b + 40 * (ρ c + 1) ≤ 4800) (hh : h ≤ 36) (hd : 2 * ρ c + 3 ≤ d) (hp : pops (bS β c k).1 ≤ h) (hS : RSt β I D) (hI : RIn β I D η) (hM : QM β δ η I D) (h18 : I 260 18 = nI δ) (hs : SQ I D b h s) (hw : w < 400) (hm : ((bS β c k).1 = 0 ∧ 100 ≤ w ∧ w < 196 ∧ D (291 + c) (w - 100) = fig (bS β c k).2) ∨ ((bS β c k).1 = 1 ∧ w = (bS β c k).2 ∧ w < 24) ∨ (2 ≤ (bS β c k).1 ∧ (bS β c k).1 ≤ 12 ∧ w = 198 + (bS β c k).1) ∨ (13 ≤ (bS β c k).1 ∧ w = 300 + 10 * ((bS β c k).1 - 13) + (bS β c k).2 ∧ (bS β c k).2 < 6))
    (hq : ∀ I' D', FQT δ b I D I' D' → QM β δ η I' D' → SQ I' D' b (h + 1 - pops (bS β c k).1) (stp β (val β η) (fun t => tab β η t (cas β t)) c (bS β c k) h s) → Q none w1 (I', D', RR R)) : j_Call d 192 [.ref 260, .int (nI c), .int (nI w)] w1 (I, D, RR R) 0 0 Q := by
  obtain ⟨s0, s1, s2, s3, s4⟩ := ((hV.1 c hc).2.2.2.2.1 k hk).1
  refine u192d hw (Nat.zero_le _) (fun a1 a2 a3 a4 a5 => ?_) (fun a1 a2 a3 a4 a5 => ?_) (fun a1 a2 a3 a4 => ?_) (fun a1 a2 a3 => ?_) (fun a1 a2 => ?_) (fun a1 => ?_)
  · have ⟨q3, q11, ew⟩ : 3 ≤ (bS β c k).1 ∧ (bS β c k).1 ≤ 11 ∧ w = 198 + (bS β c k).1 := by omega
    have p2 : pops (bS β c k).1 = 2 := by unfold pops; rw [if_neg (by omega), if_neg (by omega), if_pos (by omega)]
    rw [p2] at hp hq
    refine u192_3 (by omega) (by omega) (by omega) hs (by omega) hp (by omega) (by omega) hc (by decide) (fun J E g1 g2 => hq J E g2.t (g2.mq (by omega) hM) ?_)
    rw [show h + 1 - 2 = h - 1 by omega]
    unfold stp
    rw [if_neg (by omega), if_neg (by omega), if_neg (by omega), if_neg (by omega), if_pos (by omega), show (bS β c k).1 = w - 198 by omega]
    exact g1
  · have q12 : (bS β c k).1 = 12 := by omega
    have p3 : pops (bS β c k).1 = 3 := by rw [q12]; rfl
    rw [p3] at hp hq
    refine u192_12 (by omega) hs (by omega) hp (fun J E g1 g2 => hq J E g2.t (g2.mq (by omega) hM) ?_)
    rw [show h + 1 - 3 = h - 2 by omega]
    unfold stp
    rw [if_neg (by omega), if_neg (by omega), if_neg (by omega), if_pos q12]
    exact g1
  · have q2 : (bS β c k).1 = 2 := by omega
    have p1 : pops (bS β c k).1 = 1 := by rw [q2]; rfl
    rw [p1] at hp hq
    have eh : b + h - 1 = b + (h - 1) := by omega
    refine u192_2 hs.1 (by omega) (by omega) (Nat.zero_le _) ?_
    rw [eh]
    have hF : FQ b I D I (j_u D 419 (b + (h - 1)) (FP.dneg (D 419 (b + (h - 1))))) := ⟨fun _ _ _ _ => rfl, fun _ _ => rfl, fun _ _ => ⟨rfl, rfl⟩, fun q a => by funext i; rw [j_u_o _ _ _ a], fun i a => by rw [j_u_k _ _ (by omega)]⟩
    refine hq _ _ hF.t (hF.mq (by omega) hM) ?_
    rw [show h + 1 - 1 = h by omega]
    unfold stp
    rw [if_neg (by omega), if_neg (by omega), if_pos q2]
    refine ⟨hs.1, fun i hi => ?_⟩
    by_cases e : i = h - 1
    · subst e
      rw [j_u_same, fu_s]
      obtain ⟨k1, k2, k3, k4, k5⟩ := hs.2 (h - 1) (by omega)
      exact ⟨k1, k2, fun h0 => ⟨by show FP.dneg _ = FP.dneg _; rw [(k3 h0).1], sm_neg (k3 h0).2⟩, k4, k5⟩
    · rw [j_u_k _ _ (by omega), fu_n e]; exact hs.2 i hi
  · have ⟨q13, ew, qt⟩ : 13 ≤ (bS β c k).1 ∧ w = 300 + 10 * ((bS β c k).1 - 13) + (bS β c k).2 ∧ (bS β c k).2 < 6 := by omega
    have p0 : pops (bS β c k).1 = 0 := by unfold pops; rw [if_neg (by omega), if_neg (by omega), if_neg (by omega), if_neg (by omega)]
    rw [p0] at hp hq
    have hrk := hρ.tab hV hc hk q13
    obtain ⟨n1, n2⟩ := nI_div10 ((bS β c k).1 - 13) (by omega) (bS β c k).2 qt
    rw [← ew] at n1 n2
    refine u192_t hw (Nat.zero_le _) ?_
    rw [n1, n2]
    obtain ⟨t0, t1⟩ := hS.2 _ qt
    have est : stp β (val β η) (fun t => tab β η t (cas β t)) c (bS β c k) h s = fu s h (if bL β (bS β c k).2 = true then askV c ((bS β c k).1 - 13) (tab β η (bS β c k).2 (cas β (bS β c k).2)) else (128 + c, FP.dconst0)) := by
      unfold stp
      rw [if_neg (by omega), if_neg (by omega), if_neg (by omega), if_neg (by omega), if_neg (by omega)]
    rw [est, Nat.sub_zero] at hq
    cases hl : bL β (bS β c k).2 with
    | false =>
      rw [hl] at t0
      rw [hl, if_neg (by simp)] at hq
      have t0 : I 315 (bS β c k).2 = 0 := t0
      refine u192_n qt t0 (by omega) (fun _ => hs) (fun _ => by omega) (fun _ => ?_) (fun _ J E g1 g2 => hq J E g2.t (g2.mq (by omega) hM) g1) (fun h => absurd t0 h)
      rw [if_neg (by decide)]
      exact VQ.w (e := 4) (by decide) (by decide) hc
    | true =>
      rw [hl] at t0
      rw [hl, if_pos rfl] at hq
      have t0 : I 315 (bS β c k).2 = 1 := t0
      have tn : ¬ I 315 (bS β c k).2 = 0 := by rw [t0]; decide
      have := cnt_lt qt hrk.2
      refine u192_s (AP := fun J E => FQT δ (b + h) I D J E ∧ J 260 26 = nI (b + h) ∧ QM β δ η J E ∧ J (396 + δ) (bS β c k).2 ≠ 0) qt tn (fun Q2 hq2 => hU (d - 1) δ (b + h) _ η I D Q2 qt hl (by omega) (by omega) (by omega) (by omega) hS hI hM h18 hs.1 (fun J E g1 g2 g3 g4 => hq2 J E ⟨g1, g2, g3, g4⟩)) (by omega) (fun h => absurd h tn) (fun _ J E hA => ?_)
      obtain ⟨g1, g2, g3, g4⟩ := hA
      have tJ : ¬ J 315 (bS β c k).2 = 0 := by rw [g1.1 315 (by unfold qI; omega)]; exact tn
      refine u192_u (l := δ) (by rw [g1.2.1 18 (by decide) (by decide) (by decide)]; exact h18) (by omega) qt (by omega) tJ (by omega) (fun h => absurd h tJ) (fun _ => g1.sq g2 hs) (fun _ => by omega) (fun _ => (g3.2 _ qt hl g4 _ (by omega)).vq hc) (fun _ J2 E2 h1 h2 => hq J2 E2 ((g1.mono (Nat.le_refl _) (by omega)).tr h2.t) (h2.mq (by omega) g3) h1)
  · have ⟨q0, w1', w2', ef⟩ : (bS β c k).1 = 0 ∧ 100 ≤ w ∧ w < 196 ∧ D (291 + c) (w - 100) = fig (bS β c k).2 := by
      rcases hm with h | h | h | h
      · exact h
      · omega
      · omega
      · omega
    have p0 : pops (bS β c k).1 = 0 := by rw [q0]; rfl
    rw [p0] at hp hq
    refine u192_0 (v := (0, fig (bS β c k).2)) hc w1' w2' (by omega) hs (by omega) (by rw [if_pos rfl, ef]; exact VQ.k (sm_fig _)) (fun J E g1 g2 => hq J E g2.t (g2.mq (by omega) hM) ?_)
    rw [Nat.sub_zero]
    unfold stp
    rw [if_pos q0]
    exact g1
  · have ⟨q1, ew, w24⟩ : (bS β c k).1 = 1 ∧ w = (bS β c k).2 ∧ w < 24 := by omega
    have p0 : pops (bS β c k).1 = 0 := by rw [q1]; rfl
    rw [p0] at hp hq
    have hrk := hρ.cell hV hc hk q1
    rw [← ew] at hrk
    have := cnt_le (ρ := ρ) (Nat.le_of_lt hrk.2)
    refine u192_1 (AP := fun J E => FQT δ (b + h) I D J E ∧ J 260 26 = nI (b + h) ∧ QM β δ η J E ∧ J (364 + δ) w ≠ 0) (fun Q2 hq2 => hT (d - 1) δ (b + h) w η I D Q2 w24 (by omega) (by omega) (by omega) (by omega) hS hI hM h18 hs.1 (fun J E g1 g2 g3 g4 => hq2 J E ⟨g1, g2, g3, g4⟩)) (by omega) (fun J E hA => ?_)
    obtain ⟨g1, g2, g3, g4⟩ := hA
    refine u192_1b (l := δ) (v := val β η w) (by rw [g1.2.1 18 (by decide) (by decide) (by decide)]; exact h18) (by omega) w24 (by omega) (g1.sq g2 hs) (by omega) (g3.1 w w24 g4).1.bl (fun J2 E2 h1 h2 => hq J2 E2 ((g1.mono (Nat.le_refl _) (by omega)).tr h2.t) (h2.mq (by omega) g3) ?_)
    rw [Nat.sub_zero]
    unfold stp
    rw [if_neg (by omega), if_pos q1, ← ew]
    exact h1
theorem QM.put {δ c : Nat} {η : VEnv} {e bl : Int32} {x : UInt64} (hδ : δ ≤ 6) (hM : QM β δ η I D) (hv : VQ e bl x (val β η c)) (hs : Sm x) : QM β δ η (j_u (j_u (j_u I (380 + δ) c e) (388 + δ) c bl) (364 + δ) c 1) (j_u D (372 + δ) c x) := by
  refine ⟨fun v hv2 h => ?_, fun t ht hl h => ?_⟩
  · by_cases e2 : v = c
    · subst e2
      refine ⟨hv.cg ?_ ?_ ?_, ?_⟩
      · rw [j_u_o _ _ _ (by omega), j_u_o _ _ _ (by omega), j_u_same]
      · rw [j_u_o _ _ _ (by omega), j_u_same]
      · rw [j_u_same]
      · rw [j_u_same]; exact hs
    · rw [j_u_k _ _ e2, j_u_o _ _ _ (by omega), j_u_o _ _ _ (by omega)] at h
      refine ⟨(hM.1 v hv2 h).1.cg ?_ ?_ ?_, ?_⟩
      · rw [j_u_o _ _ _ (by omega), j_u_o _ _ _ (by omega), j_u_k _ _ e2]
      · rw [j_u_o _ _ _ (by omega), j_u_k _ _ e2, j_u_o _ _ _ (by omega)]
      · rw [j_u_k _ _ e2]
      · rw [j_u_k _ _ e2]; exact (hM.1 v hv2 h).2
  · rw [j_u_o _ _ _ (by omega), j_u_o _ _ _ (by omega), j_u_o _ _ _ (by omega)] at h
    intro f hf
    rw [j_u_o _ _ _ (by omega), j_u_o _ _ _ (by omega), j_u_o _ _ _ (by omega), j_u_o _ _ _ (by omega)]
    exact hM.2 t ht hl h f hf
theorem fqt_put {δ b c : Nat} {e bl : Int32} {x : UInt64} (hδ : δ ≤ 6) : FQT δ b I D (j_u (j_u (j_u I (380 + δ) c e) (388 + δ) c bl) (364 + δ) c 1) (j_u D (372 + δ) c x) := by
  refine ⟨fun q a => ?_, fun i _ _ _ => ?_, fun i _ => ⟨?_, ?_⟩, fun q a => ?_, fun i _ => ?_, fun i _ => ?_⟩
  · funext i; rw [j_u_o _ _ _ (fun h => a (by unfold qI; omega)), j_u_o _ _ _ (fun h => a (by unfold qI; omega)), j_u_o _ _ _ (fun h => a (by unfold qI; omega))]
  · rw [j_u_o _ _ _ (by omega), j_u_o _ _ _ (by omega), j_u_o _ _ _ (by omega)]
  · rw [j_u_o _ _ _ (by omega), j_u_o _ _ _ (by omega), j_u_o _ _ _ (by omega)]
  · rw [j_u_o _ _ _ (by omega), j_u_o _ _ _ (by omega), j_u_o _ _ _ (by omega)]
  · funext i; rw [j_u_o _ _ _ (fun h => a (by unfold qD; omega))]
  · rw [j_u_o _ _ _ (by omega)]
  · rw [j_u_o _ _ _ (by omega)]
theorem tq_step (hV : BV β) (hρ : Rk β ρ) (hT : TQ β ρ R r) (hU : SUQ β ρ R r) : TQ β ρ R (r + 1) := by
  intro d δ b c η I D Q hc hr hcnt hb hd hS hI hM h18 h26 hq
  obtain ⟨a261, a264, aM⟩ := hS.1 c hc
  obtain ⟨i1, i2, i3⟩ := hI c hc
  have hz9 := (hV.1 c hc).2.1
  have hst := (hV.1 c hc).2.2.2.2
  have hval := val_eq hV η hc
  have ez : I 264 c = 0 ↔ bZ β c = 0 := by rw [a264]; exact nI_eq (b := 0) (by omega) (by decide)
  have fin : ∀ (I1 : Nat → Nat → Int32) (D1 : Nat → Nat → UInt64) (e bl : Int32) (x : UInt64), FQT δ b I D I1 D1 → I1 260 26 = nI b → QM β δ η I1 D1 → VQ e bl x (val β η c) → Sm x → Q none w1 (j_u (j_u (j_u I1 (380 + δ) c e) (388 + δ) c bl) (364 + δ) c 1, j_u D1 (372 + δ) c x, RR R) := fun I1 D1 e bl x h1 h2 h3 h4 h5 => hq _ _ (h1.tr (fqt_put (by omega))) (by rw [j_u_o _ _ _ (by omega), j_u_o _ _ _ (by omega), j_u_o _ _ _ (by omega)]; exact h2) (h3.put (by omega) h4 h5) (by rw [j_u_same]; decide)
  have put : ∀ (e bl : Int32) (x : UInt64), (I 262 c = 0 → e = 1 ∧ bl = nI c) → (¬ I 262 c = 0 → e = 0 ∧ bl = -1) → VQ e bl x (val β η c) → Sm x → j_W 191 d 0 0 0 0 62 [some (.ref 260), some (.int (nI c)), none] [] w1 (I, j_u D (372 + δ) c x, RR R) Q := by
    intro e bl x h1 h2 h3 hs
    refine u191b h18 (by omega) hc (by omega) (fun g => ?_) (fun g => ?_)
    · obtain ⟨rfl, rfl⟩ := h1 g
      refine u191g (l := δ) (by rw [j_u_o _ _ _ (by omega)]; exact h18) (by omega) hc (by omega) (fun _ => ?_) (fun g2 => absurd (by rw [j_u_o _ _ _ (by omega)]; exact g) g2)
      exact u191z (l := δ) (by rw [j_u_o _ _ _ (by omega), j_u_o _ _ _ (by omega)]; exact h18) (by omega) hc (by omega) (fin I D _ _ _ FQT.refl h26 hM h3 hs)
    · obtain ⟨rfl, rfl⟩ := h2 g
      refine u191g (l := δ) (by rw [j_u_o _ _ _ (by omega)]; exact h18) (by omega) hc (by omega) (fun g2 => absurd (by rw [j_u_o _ _ _ (by omega)] at g2; exact g2) g) (fun _ => ?_)
      exact u191z (l := δ) (by rw [j_u_o _ _ _ (by omega), j_u_o _ _ _ (by omega)]; exact h18) (by omega) hc (by omega) (fin I D _ _ _ FQT.refl h26 hM h3 hs)
  refine u191 h18 (by omega) hc (by omega) (fun _ hz => ?_) (fun _ hz g => ?_) (fun _ _ _ => i2) (fun _ _ _ => Nat.le_refl _) (fun _ hz g => ?_) (fun h => hq I D FQT.refl h26 hM h)
  · have z0 : bZ β c ≠ 0 := fun q => hz (ez.mpr q)
    rw [if_neg z0] at hval
    refine u191e (Nat.zero_le _) ?_
    have loop : ∀ (m k : Nat) (I1 : Nat → Nat → Int32) (D1 : Nat → Nat → UInt64), m + k = bZ β c → FQT δ b I D I1 D1 → QM β δ η I1 D1 → SQ I1 D1 b (hgt (bS β c) k) (runV β (val β η) (fun t => tab β η t (cas β t)) c (bS β c) k) → j_W 191 d 0 0 0 0 117 [some (.ref 260), some (.int (nI c)), some (.int (nI k))] [] w1 (I1, D1, RR R) Q := by
      intro m
      induction m with
      | zero =>
        intro k I1 D1 hk hG hM1 hS1
        have hkz : k = bZ β c := by omega
        subst hkz
        have h1 := hst.2 (by omega)
        rw [h1] at hS1
        have v0 := hS1.2 0 (by decide)
        rw [Nat.add_zero] at v0
        have e264 : I1 264 c = nI (bZ β c) := by rw [hG.1 264 (by unfold qI; omega)]; exact a264
        have e18 : I1 260 18 = nI δ := by rw [hG.2.1 18 (by decide) (by decide) (by decide)]; exact h18
        refine u191h hc e264 hz9 hz9 (Nat.zero_le _) (fun _ => ?_) (fun h => absurd (Nat.le_refl _) h)
        refine u191f hS1.1 (by omega) (by omega) (by omega) ?_
        rw [show b + 1 - 1 = b by omega]
        have e420 : ∀ q, q ≠ 260 → j_u I1 260 26 (nI b) q = I1 q := fun q a => by funext i; rw [j_u_o _ _ _ a]
        have f1 : FQT δ b I1 D1 (j_u I1 260 26 (nI b)) D1 := ⟨fun q a => e420 q (fun h => a (Or.inl h)), fun i a _ _ => by rw [j_u_k _ _ a], fun i _ => ⟨by rw [e420 420 (by decide)], by rw [e420 421 (by decide)]⟩, fun _ _ => rfl, fun _ _ => rfl, fun _ _ => rfl⟩
        have m1 : QM β δ η (j_u I1 260 26 (nI b)) D1 := hM1.cg (e420 _ (by omega)) (e420 _ (by omega)) (e420 _ (by omega)) (e420 _ (by omega)) (e420 _ (by omega)) rfl rfl
        have k18 : j_u I1 260 26 (nI b) 260 18 = nI δ := by rw [j_u_k _ _ (by decide)]; exact e18
        have k26 : j_u I1 260 26 (nI b) 260 26 = nI b := j_u_same _ _ _ _
        have k261 : j_u I1 260 26 (nI b) 261 c = nI (bK β c) := by rw [e420 261 (by decide), hG.1 261 (by unfold qI; omega)]; exact a261
        have v0' : VQ (j_u I1 260 26 (nI b) 420 b) (j_u I1 260 26 (nI b) 421 b) (D1 419 b) (runV β (val β η) (fun t => tab β η t (cas β t)) c (bS β c) (bZ β c) 0) := by rw [e420 420 (by decide), e420 421 (by decide)]; exact v0
        generalize hJ : j_u I1 260 26 (nI b) = J at *
        have tail : ∀ x : UInt64, VQ (J 420 b) (J 421 b) x (val β η c) → Sm x → j_W 191 d 0 0 0 0 201 [some (.ref 260), some (.int (nI c)), none] [] w1 (J, j_u D1 (372 + δ) c x, RR R) Q := by
          intro x hx hs
          refine u191j (l := δ) (p := b) k18 (by omega) hc k26 (by omega) (by omega) ?_
          refine u191k (l := δ) (p := b) (by rw [j_u_o _ _ _ (by omega)]; exact k18) (by omega) hc (by rw [j_u_o _ _ _ (by omega)]; exact k26) (by omega) (by omega) ?_
          rw [j_u_o (o' := 421) _ _ _ (by omega)]
          exact u191z (l := δ) (by rw [j_u_o _ _ _ (by omega), j_u_o _ _ _ (by omega)]; exact k18) (by omega) hc (by omega) (fin J D1 _ _ _ (hG.tr f1) k26 m1 hx hs)
        unfold finV at hval
        refine u191i (l := δ) (p := b) k18 (by omega) hc k26 (by omega) (by omega) (fun g => tail _ ?_ sm_0) (fun g => (v0'.2.2.1 (v0'.z.mp g)).2) (fun _ => Nat.le_refl _) (fun g => tail _ ?_ (kp_sm (v0'.2.2.1 (v0'.z.mp g)).2).1)
        · have n0 : ¬ (runV β (val β η) (fun t => tab β η t (cas β t)) c (bS β c) (bZ β c) 0).1 = 0 := fun q => g (v0'.z.mpr q)
          rw [if_neg n0] at hval
          rw [hval]
          exact ⟨v0'.1, v0'.2.1, fun q => absurd q n0, v0'.2.2.2.1, v0'.2.2.2.2⟩
        · have n0 := v0'.z.mp g
          rw [if_pos n0] at hval
          have e421 := v0'.2.1
          rw [if_pos n0] at e421
          obtain ⟨x1, x2⟩ := v0'.2.2.1 n0
          rw [hval, k261, g, e421, ← x1]
          exact VQ.k (kp_sm x2).1
      | succ m ih =>
        intro k I1 D1 hk hG hM1 hS1
        have hkz : k < bZ β c := by omega
        obtain ⟨sv, sp, sh⟩ := hst.1 k hkz
        have hS2 := hG.st hS
        obtain ⟨w, w1', w2', w3'⟩ := MR_w ((hS2.1 c hc).2.2 k hkz) sv
        have e264 : I1 264 c = nI (bZ β c) := by rw [hG.1 264 (by unfold qI; omega)]; exact a264
        have hbh : hgt (bS β c) k ≤ 36 := by
          by_cases q : k = 0
          · subst q; exact Nat.zero_le _
          · have := (hst.1 (k - 1) (by omega)).2.2
            rw [show k - 1 + 1 = k by omega] at this; exact this
        refine u191h hc e264 hz9 (by omega) (Nat.zero_le _) (fun h => absurd h (by omega)) (fun _ => ?_)
        refine u191c (w := w) (AP := fun J E => FQT δ b I1 D1 J E ∧ QM β δ η J E ∧ SQ J E b (hgt (bS β c) (k + 1)) (runV β (val β η) (fun t => tab β η t (cas β t)) c (bS β c) (k + 1))) hc (by omega) w2' (fun Q2 hq2 => c192 (η := η) (δ := δ) (k := k) hV hρ hT hU hc hkz (by omega) hcnt hb hbh (by omega) sp hS2 (hG.inp hI) hM1 (by rw [hG.2.1 18 (by decide) (by decide) (by decide)]; exact h18) hS1 w1' w3' (fun J E g1 g2 g3 => hq2 J E ⟨g1, g2, g3⟩)) (by omega) (fun J E hA => ?_)
        obtain ⟨g1, g2, g3⟩ := hA
        exact ih (k + 1) J E (by omega) (hG.tr g1) g2 g3
    exact loop (bZ β c) 0 I D rfl FQT.refl hM ⟨by rw [h26]; rfl, fun i hi => absurd hi (Nat.not_lt_zero i)⟩
  · have z0 := ez.mp hz
    rw [if_pos z0] at hval
    have e1 := (i3 z0).1 g
    refine put 1 (nI c) _ (fun _ => ⟨rfl, rfl⟩) (fun h => absurd g h) ?_ sm_0
    rw [hval]
    have : η c = (1 * 32 + c, (η c).2) := Prod.ext (by rw [e1]) rfl
    rw [this]
    exact VQ.w (e := 1) (by decide) (by decide) hc
  · have z0 := ez.mp hz
    rw [if_pos z0] at hval
    have e1 := (i3 z0).2 (i1.resolve_left g)
    refine put 0 (-1) _ (fun h => absurd h g) (fun _ => ⟨rfl, rfl⟩) ?_ (kp_sm i2).1
    rw [hval, e1, a261]
    exact VQ.k (kp_sm i2).1
end RA
