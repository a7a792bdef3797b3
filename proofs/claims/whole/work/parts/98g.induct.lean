/-! the class tells what val says -/
theorem bt_nI {n i : Nat} (hn : n < 2 ^ 31) (hi : i < 32) : bt (nI n) i = n.testBit i := by
  show (nI n).toBitVec.getLsbD i = _
  have : (nI n).toBitVec = BitVec.ofNat 32 n := rfl
  rw [this, BitVec.getLsbD_ofNat]
  simp [hi]
theorem enc_a {p : Nat × Nat} (h1 : p.1 ≤ 17) (h2 : p.2 < 16777216) : (enc p) >>> (24 &&& 31) = nI p.1 := by
  have hn : p.1 * 16777216 + p.2 < 2 ^ 31 := by omega
  refine b_ext (fun i hi => ?_)
  unfold enc
  rw [show (24 : Int32) = nI 24 from rfl, b_sshr 24 (by decide) _ hi, bt_nI (by omega) hi]
  have e : (p.1 * 16777216 + p.2) / 2 ^ 24 = p.1 := by omega
  by_cases h : 24 + i < 32
  · have e2 : (p.1 * 16777216 + p.2).testBit (24 + i) = ((p.1 * 16777216 + p.2) / 2 ^ 24).testBit i := by rw [Nat.testBit_div_two_pow, Nat.add_comm i 24]
    rw [if_pos h, bt_nI hn h, e2, e]
  · rw [if_neg h, bt_nI hn (by decide), Nat.testBit_lt_two_pow hn, Nat.testBit_lt_two_pow (Nat.lt_of_lt_of_le (show p.1 < 2 ^ 5 by omega) (Nat.pow_le_pow_right (by decide) (by omega)))]
theorem enc_w {p : Nat × Nat} (h1 : p.1 ≤ 17) (h2 : p.2 < 16777216) : (enc p) &&& 16777215 = nI p.2 := by
  have hn : p.1 * 16777216 + p.2 < 2 ^ 31 := by omega
  have hm : ∀ i, i < 32 → bt (16777215 : Int32) i = decide (i < 24) := by decide +kernel
  refine b_ext (fun i hi => ?_)
  unfold enc
  rw [b_and, bt_nI hn hi, bt_nI (by omega) hi, hm i hi]
  have e : (p.1 * 16777216 + p.2) % 2 ^ 24 = p.2 := by omega
  rw [← e, Nat.testBit_mod_two_pow, e, Bool.and_comm]
def cnt (ρ : Nat → Nat) (m : Nat) : Nat := (if ρ 24 < m then 1 else 0) + (if ρ 25 < m then 1 else 0) + (if ρ 26 < m then 1 else 0) + (if ρ 27 < m then 1 else 0) + (if ρ 28 < m then 1 else 0) + (if ρ 29 < m then 1 else 0)
theorem if_le {a b c : Nat} (h : b ≤ c) : (if a < b then 1 else 0) ≤ (if a < c then 1 else 0) := by
  by_cases h1 : a < b
  · rw [if_pos h1, if_pos (by omega)]; exact Nat.le_refl _
  · rw [if_neg h1]; exact Nat.zero_le _
theorem cnt_le {ρ : Nat → Nat} {a b : Nat} (h : a ≤ b) : cnt ρ a ≤ cnt ρ b := by
  have h0 := if_le (a := ρ 24) h
  have h1 := if_le (a := ρ 25) h
  have h2 := if_le (a := ρ 26) h
  have h3 := if_le (a := ρ 27) h
  have h4 := if_le (a := ρ 28) h
  have h5 := if_le (a := ρ 29) h
  unfold cnt; exact Nat.add_le_add (Nat.add_le_add (Nat.add_le_add (Nat.add_le_add (Nat.add_le_add h0 h1) h2) h3) h4) h5
theorem cnt_lt {ρ : Nat → Nat} {t m : Nat} (ht : t < 6) (h : ρ (24 + t) < m) : cnt ρ (ρ (24 + t)) + 1 ≤ cnt ρ m := by
  have hle : ρ (24 + t) ≤ m := by omega
  have h0 := if_le (a := ρ 24) hle
  have h1 := if_le (a := ρ 25) hle
  have h2 := if_le (a := ρ 26) hle
  have h3 := if_le (a := ρ 27) hle
  have h4 := if_le (a := ρ 28) hle
  have h5 := if_le (a := ρ 29) hle
  have e1 : (if ρ (24 + t) < ρ (24 + t) then 1 else 0) = 0 := if_neg (Nat.lt_irrefl _)
  have e2 : (if ρ (24 + t) < m then 1 else 0) = 1 := if_pos h
  unfold cnt
  have hc : t = 0 ∨ t = 1 ∨ t = 2 ∨ t = 3 ∨ t = 4 ∨ t = 5 := by omega
  rcases hc with rfl | rfl | rfl | rfl | rfl | rfl <;> (simp only [Nat.add_zero, Nat.reduceAdd] at *; rw [e1, e2]; omega)
/-- what telling above a level may change -/
def GF (L b : Nat) (U : Nat → Prop) (I : Nat → Nat → Int32) (D : Nat → Nat → UInt64) (I' : Nat → Nat → Int32) (D' : Nat → Nat → UInt64) : Prop :=
  (∀ q, q ≠ 107 → q ≠ 229 → ¬ (221 + L ≤ q ∧ q ≤ 227) → ¬ (230 ≤ q ∧ q < 248) → I' q = I q) ∧ (∀ i, i ≠ 7 → I' 107 i = I 107 i) ∧ (∀ i, i < b → I' 229 i = I 229 i) ∧
  (∀ q, q ≠ 228 → ¬ (213 + L ≤ q ∧ q ≤ 219) → ¬ (230 ≤ q ∧ q < 248) → D' q = D q) ∧ (∀ i, i < b → D' 228 i = D 228 i) ∧
  ∀ u, u < 6 → ¬ U u → I' (230 + 3 * u) = I (230 + 3 * u) ∧ I' (230 + 3 * u + 2) = I (230 + 3 * u + 2) ∧ D' (230 + 3 * u) = D (230 + 3 * u) ∧ D' (230 + 3 * u + 1) = D (230 + 3 * u + 1)
section GG
variable {L b : Nat} {U : Nat → Prop} {I I1 I2 : Nat → Nat → Int32} {D D1 D2 : Nat → Nat → UInt64} {β : Bd} {R : Nat → Nat → Option Nat}
theorem GF.refl : GF L b U I D I D := ⟨fun _ _ _ _ _ => rfl, fun _ _ => rfl, fun _ _ => rfl, fun _ _ _ _ => rfl, fun _ _ => rfl, fun _ _ _ => ⟨rfl, rfl, rfl, rfl⟩⟩
theorem GF.tr (h : GF L b U I D I1 D1) (h' : GF L b U I1 D1 I2 D2) : GF L b U I D I2 D2 := ⟨fun q a1 a2 a3 a4 => (h'.1 q a1 a2 a3 a4).trans (h.1 q a1 a2 a3 a4), fun i a => (h'.2.1 i a).trans (h.2.1 i a), fun i a => (h'.2.2.1 i a).trans (h.2.2.1 i a), fun q a1 a2 a3 => (h'.2.2.2.1 q a1 a2 a3).trans (h.2.2.2.1 q a1 a2 a3), fun i a => (h'.2.2.2.2.1 i a).trans (h.2.2.2.2.1 i a), fun u hu hn => by
  obtain ⟨x1, x2, x3, x4⟩ := h.2.2.2.2.2 u hu hn
  obtain ⟨y1, y2, y3, y4⟩ := h'.2.2.2.2.2 u hu hn
  exact ⟨y1.trans x1, y2.trans x2, y3.trans x3, y4.trans x4⟩⟩
theorem GF.mono {L' b' : Nat} {U' : Nat → Prop} (h : GF L' b' U' I D I1 D1) (hL : L ≤ L') (hb : b ≤ b') (hU : ∀ u, u < 6 → U' u → U u) : GF L b U I D I1 D1 := ⟨fun q a1 a2 a3 a4 => h.1 q a1 a2 (by omega) a4, h.2.1, fun i a => h.2.2.1 i (by omega), fun q a1 a2 a3 => h.2.2.2.1 q a1 (by omega) a3, fun i a => h.2.2.2.2.1 i (by omega), fun u hu hn => h.2.2.2.2.2 u hu (fun q => hn (hU u hu q))⟩
theorem FS.gf (h : FS b I D I1 D1) : GF L b U I D I1 D1 := ⟨fun q a1 a2 _ _ => h.1 q a1 a2, h.2.1, h.2.2.1, fun q a1 _ _ => h.2.2.2.1 q a1, h.2.2.2.2, fun u hu _ => ⟨h.1 _ (by omega) (by omega), h.1 _ (by omega) (by omega), h.2.2.2.1 _ (by omega), h.2.2.2.1 _ (by omega)⟩⟩
theorem FL.gf {l : Nat} (h : FL l I D I1 D1) (hl : L ≤ l) (h7 : l < 7) : GF L b U I D I1 D1 := ⟨fun q _ _ a _ => h.1 q (by omega), fun i _ => by rw [h.1 107 (by omega)], fun i _ => by rw [h.1 229 (by omega)], fun q _ a _ => h.2 q (by omega), fun i _ => by rw [h.2 228 (by omega)], fun u hu _ => ⟨h.1 _ (by omega), h.1 _ (by omega), h.2 _ (by omega), h.2 _ (by omega)⟩⟩
theorem FT.gf {t : Nat} (h : FT (230 + 3 * t) I D I1 D1) (ht : t < 6) (hU : U t) : GF L b U I D I1 D1 := ⟨fun q _ _ _ a => h.1 q (by omega) (by omega), fun i _ => by rw [h.1 107 (by omega) (by omega)], fun i _ => by rw [h.1 229 (by omega) (by omega)], fun q _ _ a => h.2 q (by omega) (by omega), fun i _ => by rw [h.2 228 (by omega) (by omega)], fun u hu hn => by
  have : u ≠ t := fun e => hn (e ▸ hU)
  exact ⟨h.1 _ (by omega) (by omega), h.1 _ (by omega) (by omega), h.2 _ (by omega) (by omega), h.2 _ (by omega) (by omega)⟩⟩
theorem GF.cb (h : GF L b U I D I1 D1) (hR : WFR R) (hC : CB β I D R) : CB β I1 D1 R := hC.cg hR (fun o ho => h.1 o (by unfold CBP at ho; omega) (by unfold CBP at ho; omega) (by unfold CBP at ho; omega) (by unfold CBP at ho; omega)) (fun o ho => h.2.2.2.1 o (by unfold CBP at ho; omega) (by unfold CBP at ho; omega) (by unfold CBP at ho; omega))
theorem GF.nm (h : GF L b U I D I1 D1) (hN : NM β I) : NM β I1 := hN.cg (fun o h1 h2 => h.1 o (by omega) (by omega) (by omega) (by omega))
theorem GF.or (h : GF L b U I D I1 D1) (hO : OrdB β I) : OrdB β I1 := hO.cg (h.1 205 (by omega) (by omega) (by omega) (by omega))
theorem GF.lc {l c : Nat} {v : Vl} (h : GF L b U I D I1 D1) (hl : l < L) (hL : L ≤ 7) (hv : LC I D l c v) : LC I1 D1 l c v := hv.cg (by rw [h.1 _ (by omega) (by omega) (by omega) (by omega)]) (by rw [h.2.2.2.1 _ (by omega) (by omega) (by omega)])
theorem GF.le {l : Nat} {η : VEnv} (h : GF L b U I D I1 D1) (hl : l < L) (hL : L ≤ 7) (hv : LE β I D l η) : LE β I1 D1 l η := fun c hc hz => h.lc hl hL (hv c hc hz)
end GG
/-- tellFormula tells what val says, for cells below a rank -/
def TF (β : Bd) (ρ : Nat → Nat) (R : Nat → Nat → Option Nat) (r : Nat) : Prop := ∀ (d L b c : Nat) (η : VEnv) (I : Nat → Nat → Int32) (D : Nat → Nat → UInt64) (Q : j_Po), c < 24 → bZ β c ≠ 0 → ρ c < r → L + cnt ρ (ρ c) ≤ 6 → b ≤ 36 * L → 4 * (7 - L) + 4 ≤ d → CB β I D R → NM β I → OrdB β I → I 107 7 = nI b → LE β I D L η → (∀ k, k < 24 → nmB (bZ β c) (bS β c) k = true → LC I D L k (val β η k)) →
  (∀ I' D', GF L b (fun u => ρ (24 + u) < ρ c) I D I' D' → (∀ i, i ≠ c → I' (221 + L) i = I (221 + L) i ∧ D' (213 + L) i = D (213 + L) i) → I' 107 7 = nI b → LC I' D' L c (val β η c) → Q none w1 (I', D', RR R)) → j_Call d 37 [.ref 107, .int (nI L), .int (nI c)] w1 (I, D, RR R) 0 0 Q
def csV (β : Bd) (η : VEnv) (t q : Nat) : Vl := val β (supV β η t (q / wd β t) (q % wd β t)) (bO β t)
/-- tellTable too -/
def TT (β : Bd) (ρ : Nat → Nat) (R : Nat → Nat → Option Nat) (r : Nat) : Prop := ∀ (d L b t : Nat) (η : VEnv) (I : Nat → Nat → Int32) (D : Nat → Nat → UInt64) (Q : j_Po), t < 6 → bL β t = true → ρ (24 + t) < r → L + 1 + cnt ρ (ρ (24 + t)) ≤ 6 → b ≤ 36 * (L + 1) → 4 * (7 - L) + 2 ≤ d → CB β I D R → NM β I → OrdB β I → I 107 7 = nI b → LE β I D L η →
  (∀ I' D', GF (L + 1) b (fun u => u = t ∨ ρ (24 + u) < ρ (24 + t)) I D I' D' → I' 107 7 = nI b → TLR I' D' (230 + 3 * t) (cas β t) (csV β η t) → (∀ q, q < cas β t → (csV β η t q).1 < 200 ∧ ((csV β η t q).1 = 0 → Sm (csV β η t q).2)) → Q none w1 (I', D', RR R)) → j_Call d 41 [.ref 107, .int (nI L), .int (nI t)] w1 (I, D, RR R) 0 0 Q
theorem cas_64 {β : Bd} (hV : BV β) {t : Nat} (ht : t < 6) (hl : bL β t = true) : cas β t ≤ 64 ∧ 1 ≤ wd β t ∧ wd β t ≤ 8 ∧ cas β t = bm β t * wd β t := by
  obtain ⟨w1, w2, w3, w4, w5, w6, w7, w8, w9, -⟩ := hV.2.1 t ht hl
  unfold cas wd
  by_cases h : b2 β t = none
  · rw [if_pos h]; omega
  · rw [if_neg h]
    have := w8 h
    exact ⟨Nat.le_trans (Nat.mul_le_mul w6 w9) (by decide), by omega, by omega, rfl⟩
section ST
variable {β : Bd} {ρ : Nat → Nat} {R : Nat → Nat → Option Nat} {r : Nat}
/-- what a step asks of a table -/
theorem c40 (hR : WFR R) (hV : BV β) (hT : TT β ρ R r) {d L b h c t f : Nat} {s : Nat → Vl} {η : VEnv} {I : Nat → Nat → Int32} {D : Nat → Nat → UInt64} {Q : j_Po} (hc : c < 24) (ht : t < 6) (hf : f < 5) (hr : bL β t = true → ρ (24 + t) < r ∧ L + 1 + cnt ρ (ρ (24 + t)) ≤ 6) (hL : L < 7) (hb : b + h ≤ 36 * (L + 1)) (hd : 4 * (7 - L) + 3 ≤ d) (hC : CB β I D R) (hN : NM β I) (hO : OrdB β I) (hE : LE β I D L η) (hS : SV I D b h s) (U : Nat → Prop) (hU : bL β t = true → U t ∧ ∀ u, ρ (24 + u) < ρ (24 + t) → U u)
    (hq : ∀ I' D', GF (L + 1) b U I D I' D' → SV I' D' b (h + 1) (fu s h (if bL β t = true then askV c f (tab β η t (cas β t)) else (128 + c, FP.dconst0))) → Q none w1 (I', D', RR R)) : j_Call d 40 [.ref 107, .int (nI L), .int (nI c), .int (nI t), .int (nI f)] w1 (I, D, RR R) 0 0 Q := by
  obtain ⟨g0, -⟩ := hC.2 t ht
  cases hl : bL β t with
  | false =>
    rw [hl] at g0
    rw [hl, if_neg (by simp)] at hq
    refine t40e hR hc ht hf (by omega) (fun h => absurd g0 h) (fun _ => t40n (b := b) (h := h) (s := s) hR hc ht hf (by omega) (by decide) hc hS (by omega) (VR.w sm_0 (by omega) (by omega)) (fun J E h1 h2 => hq J E h2.gf h1))
  | true =>
    rw [hl] at g0
    rw [hl, if_pos rfl] at hq
    obtain ⟨r1, r2⟩ := hr hl
    obtain ⟨u1, u2⟩ := hU hl
    obtain ⟨k64, -⟩ := cas_64 hV ht hl
    refine t40e hR hc ht hf (by omega) (fun _ => ?_) (fun h => absurd (g0.symm.trans h) (by decide))
    refine t40t (AP := fun J E => GF (L + 1) (b + h) (fun u => u = t ∨ ρ (24 + u) < ρ (24 + t)) I D J E ∧ J 107 7 = nI (b + h) ∧ TLR J E (230 + 3 * t) (cas β t) (csV β η t) ∧ (∀ q, q < cas β t → (csV β η t q).1 < 200 ∧ ((csV β η t q).1 = 0 → Sm (csV β η t q).2))) hR hc ht hf (fun Q2 hq2 => hT (d - 1) L (b + h) t η I D Q2 ht hl r1 r2 hb (by omega) hC hN hO hS.1 hE (fun J E a1 a2 a3 a4 => hq2 J E ⟨a1, a2, a3, a4⟩)) (by omega) (fun J E hA => ?_)
    obtain ⟨a1, a2, a3, a4⟩ := hA
    have hSJ : SV J E b h s := ⟨a2, fun i hi => by rw [a1.2.2.1 (b + i) (by omega), a1.2.2.2.2.1 (b + i) (by omega)]; exact hS.2 i hi⟩
    have hGF : GF (L + 1) b U I D J E := a1.mono (Nat.le_refl _) (by omega) (fun u _ hu => hu.elim (fun e => by rw [e]; exact u1) (fun e => u2 u e))
    have hs : ∀ k, k < cas β t → (csV β η t k).1 = 0 → Sm (csV β η t k).2 := fun k hk => (a4 k hk).2
    have hE5 : askE f (tal (csV β η t) (cas β t)) < 5 := by unfold askE; split <;> (try split) <;> omega
    refine t40x (n := cas β t) (v := csV β η t) hR hc ht hf (by omega) k64 hf hs a3 ?_
    have ez := nI_z (w := askE f (tal (csV β η t) (cas β t))) (by omega)
    refine t40y (b := b) (h := h) (s := s) hR hc ht hf hE5 (by omega) (fun h0 => ?_) (fun _ => by omega) (fun _ => hc) (fun _ => hSJ) (fun _ => by omega) (fun h0 => VR.w sm_0 (by omega) (fun q => h0 (ez.mpr (by omega)))) (fun h0 J2 E2 h1 h2 => ?_)
    · have h0' := ez.mp h0
      refine t40z (b := b) (h := h) (s := s) (n := cas β t) (v := csV β η t) hR hc ht hf (by omega) k64 hf hs a3 h0' (fun _ => hSJ) (fun _ => by omega) (fun hm => VR.k hm) (fun _ J2 E2 h1 h2 => hq J2 E2 (hGF.tr h2.gf) ?_)
      have e : askV c f (tab β η t (cas β t)) = (0, askN f (tal (csV β η t) (cas β t))) := if_pos h0'
      rw [e]; exact h1
    · refine hq J2 E2 (hGF.tr h2.gf) ?_
      have e : askV c f (tab β η t (cas β t)) = (askE f (tal (csV β η t) (cas β t)) * 32 + c, FP.dconst0) := if_neg (fun q => h0 (ez.mpr q))
      rw [e]; exact h1
theorem sm_divg {x y : UInt64} (hx : Sm x) (hy : Fi y) (hm : 2 ^ 1074 ≤ vm y) : Sm (FP.ddiv x y) := by
  obtain ⟨c, e, h1, h2, h3, -, -⟩ := fi_shape hx.1
  obtain ⟨c2, e2, g1, g2, g3, -, -⟩ := fi_shape hy
  have hc2 : 0 < c2 := by
    rcases Nat.eq_zero_or_pos c2 with h | h
    · rw [h, Nat.zero_mul] at g3
      rw [g3] at hm
      exact absurd hm (Nat.not_le_of_lt (Nat.two_pow_pos _))
    · exact h
  have hv : Jvm.FP.Core.val64 (FP.ddiv x y) = Jvm.FP.Core.roundRatio Jvm.FP.Core.b64 (vs x != vs y) c c2 (-1074 + e - (-1074 + e2)) := by
    rw [Jvm.FP.Core.val64_ddiv, h1, g1]
    simp only [Jvm.FP.Core.quotient]
    rw [if_neg (by omega)]
  have hle := Jvm.FP.Core.zmag_roundRatio_le (f := Jvm.FP.Core.b64) Jvm.FP.Core.good_b64 (s := vs x != vs y) (A := c) (B := c2) (e := -1074 + e - (-1074 + e2)) (e0 := -1074 - e2) (V := Jvm.FP.Core.val64 x) hc2 (Jvm.FP.Core.val64_fits x) (by rw [h1]; exact Jvm.FP.Core.Datum.noConfusion) (by rw [qmin64]; omega) (by omega) (by
    rw [qmin64, show ((-1074 : Int) - (-1074 - (e2 : Int))).toNat = e2 by omega]
    show c * 2 ^ ((-1074 + (e : Int) - (-1074 + (e2 : Int))) - (-1074 - (e2 : Int))).toNat ≤ vm x * 2 ^ e2 * c2
    rw [show ((-1074 + (e : Int) - (-1074 + (e2 : Int))) - (-1074 - (e2 : Int))).toNat = e + 1074 by omega, h3, Nat.pow_add, ← Nat.mul_assoc, Nat.mul_assoc (c * 2 ^ e) (2 ^ e2) c2, Nat.mul_comm (2 ^ e2) c2, ← g3]
    exact Nat.mul_le_mul_left _ hm)
  rw [← hv] at hle
  have hle2 : vm (FP.ddiv x y) ≤ 2 ^ 1115 := Nat.le_trans hle hx.2
  rcases Jvm.FP.Core.roundRatio_cases Jvm.FP.Core.b64 (vs x != vs y) c c2 (-1074 + e - (-1074 + e2)) with ⟨c', q', h⟩ | h
  · exact ⟨⟨_, _, _, hv.trans h⟩, hle2⟩
  · exfalso
    have hz : vm (FP.ddiv x y) = 2 ^ 2098 := by
      show Jvm.FP.Core.zmag _ _ = _
      rw [hv, h, ← top64]; rfl
    rw [hz] at hle2
    exact absurd hle2 (Nat.not_le_of_lt (Nat.pow_lt_pow_right (by decide) (by decide)))
theorem sm_fig (w : Nat) : Sm (fig w) := sm_divg (sm_i _) sm_1000.1 (by decide +kernel)
theorem tf_step (hR : WFR R) (hV : BV β) (hρ : Rk β ρ) (hT : TT β ρ R r) : TF β ρ R (r + 1) := by
  intro d L b c η I D Q hc hz hrc hcnt hb hd hC hN hO h7 hE hnm hq
  have hz9 := (hV.1 c hc).2.1
  have hst := (hV.1 c hc).2.2.2.2
  have hf := (hR.f c hc).2
  have hfb := isBF_rng (hR.1 c hc).2
  have hFR := (hC.1 c hc).2.2.2.2
  have hk109 := (hC.1 c hc).1
  refine t37e hR hc h7 (by omega) ?_
  have loop : ∀ (m k : Nat) (I1 : Nat → Nat → Int32) (D1 : Nat → Nat → UInt64), m + k = bZ β c → GF (L + 1) b (fun u => ρ (24 + u) < ρ c) I D I1 D1 → SV I1 D1 b (hgt (bS β c) k) (runV β (val β η) (fun t => tab β η t (cas β t)) c (bS β c) k) → j_W 37 d 0 0 0 0 19 [some (.ref 107), some (.int (nI L)), some (.int (nI c)), some (.ref (fo R c)), some (.int (nI b)), some (.int (nI k)), none, none] [] w1 (I1, D1, RR R) Q := by
    intro m
    induction m with
    | zero =>
      intro k I1 D1 hk hG hS
      have hkz : k = bZ β c := by omega
      subst hkz
      have h1 := hst.2 (by omega)
      rw [h1] at hS
      have v0 := hS.2 0 (by decide)
      rw [Nat.add_zero] at v0
      have hval := val_eq hV η hc
      rw [if_neg hz] at hval
      unfold finV at hval
      obtain ⟨a1, a2, a3, a4⟩ := v0
      have e1 : I1 (fo R c) 1 = nI (bZ β c) := by rw [hG.1 _ (by omega) (by omega) (by omega) (by omega)]; exact hFR.1
      have e229 : j_u (j_u I1 107 7 (nI b)) (221 + L) c (I1 229 b) 229 b = I1 229 b := by rw [j_u_o _ _ _ (by omega), j_u_o _ _ _ (by decide)]
      have e109 : j_u (j_u I1 107 7 (nI b)) (221 + L) c (I1 229 b) 109 c = nI (bK β c) := by rw [j_u_o _ _ _ (by omega), j_u_o _ _ _ (by decide), hG.1 109 (by omega) (by omega) (by omega) (by omega)]; exact hk109
      have fin : ∀ x : UInt64, VR (I1 229 b) x (val β η c) → Q none w1 (j_u (j_u I1 107 7 (nI b)) (221 + L) c (I1 229 b), j_u D1 (213 + L) c x, RR R) := by
        intro x hx
        have hG' : GF L b (fun u => ρ (24 + u) < ρ c) I D I1 D1 := hG.mono (by omega) (Nat.le_refl _) (fun _ _ h => h)
        refine hq _ _ (hG'.tr ⟨fun q q1 q2 q3 q4 => ?_, fun i q1 => ?_, fun i q1 => ?_, fun q q1 q2 q3 => ?_, fun i q1 => ?_, fun u hu _ => ⟨?_, ?_, ?_, ?_⟩⟩) (fun i hi => ⟨?_, ?_⟩) ?_ ?_
        · funext i; rw [j_u_o _ _ _ (by omega), j_u_o _ _ _ q1]
        · rw [j_u_o _ _ _ (by omega), j_u_k _ _ q1]
        · rw [j_u_o _ _ _ (by omega), j_u_o _ _ _ (by omega)]
        · funext i; rw [j_u_o _ _ _ (by omega)]
        · rw [j_u_o _ _ _ (by omega)]
        · funext i; rw [j_u_o _ _ _ (by omega), j_u_o _ _ _ (by omega)]
        · funext i; rw [j_u_o _ _ _ (by omega), j_u_o _ _ _ (by omega)]
        · funext i; rw [j_u_o _ _ _ (by omega)]
        · funext i; rw [j_u_o _ _ _ (by omega)]
        · rw [j_u_k _ _ hi, j_u_o _ _ _ (by omega), hG.1 (221 + L) (by omega) (by omega) (by omega) (by omega)]
        · rw [j_u_k _ _ hi, hG.2.2.2.1 (213 + L) (by omega) (by omega) (by omega)]
        · rw [j_u_o _ _ _ (by omega), j_u_same]
        · unfold LC; rw [j_u_same, j_u_same]; exact hx
      refine t37h hf hc (by omega) e1 hz9 hz9 (by omega) (by omega) (fun _ _ w0 => ?_) (fun _ _ _ => a3) (fun _ _ _ => by omega) (fun _ _ w0 => ?_) (fun _ h => absurd (by omega) h) (fun h => absurd (Nat.le_refl _) h)
      · rw [e229] at w0
        have n0 : ¬ (runV β (val β η) (fun t => tab β η t (cas β t)) c (bS β c) (bZ β c) 0).1 = 0 := fun q => w0 (a1.trans ((nI_z a4).mpr q))
        rw [if_neg n0] at hval
        refine fin _ ?_
        rw [hval]; exact ⟨a1, fun q => absurd q n0, sm_0, a4⟩
      · rw [e229] at w0
        have n0 : (runV β (val β η) (fun t => tab β η t (cas β t)) c (bS β c) (bZ β c) 0).1 = 0 := (nI_z a4).mp (a1.symm.trans w0)
        rw [if_pos n0] at hval
        rw [e109]
        refine fin _ ?_
        rw [hval, w0, a2 n0, ← a2 n0]; exact VR.k (kp_sm a3).1
    | succ m ih =>
      intro k I1 D1 hk hG hS
      have hkz : k < bZ β c := by omega
      obtain ⟨⟨s0, s1, s2, s3, s4⟩, sp, sh⟩ := hst.1 k hkz
      have e1 : I1 (fo R c) 1 = nI (bZ β c) := by rw [hG.1 _ (by omega) (by omega) (by omega) (by omega)]; exact hFR.1
      have hw24 : (bS β c k).2 < 16777216 := by
        by_cases q0 : (bS β c k).1 = 0
        · have := s1 q0; omega
        · by_cases q1 : (bS β c k).1 = 1
          · have := s2 q1; omega
          · by_cases q2 : (bS β c k).1 ≤ 12
            · have := s3 (by omega) q2; omega
            · have := s4 (by omega); omega
      have eenc : I1 (fo R c + 1) k = enc (bS β c k) := by rw [hG.1 _ (by omega) (by omega) (by omega) (by omega)]; exact hFR.2.1 k hkz
      have hh : hgt (bS β c) (k + 1) = hgt (bS β c) k + 1 - pops (bS β c k).1 := rfl
      have hrun : runV β (val β η) (fun t => tab β η t (cas β t)) c (bS β c) (k + 1) = stp β (val β η) (fun t => tab β η t (cas β t)) c (bS β c k) (hgt (bS β c) k) (runV β (val β η) (fun t => tab β η t (cas β t)) c (bS β c) k) := rfl
      have hbh : hgt (bS β c) k ≤ 36 := by
        by_cases q : k = 0
        · subst q; exact Nat.zero_le _
        · have := (hst.1 (k - 1) (by omega)).2.2
          rw [show k - 1 + 1 = k by omega] at this; exact this
      refine t37h hf hc (by omega) e1 hz9 (by omega) (by omega) (by omega) (fun h => absurd h (by omega)) (fun h => absurd h (by omega)) (fun h => absurd h (by omega)) (fun h => absurd h (by omega)) (fun h => absurd h (by omega)) (fun _ => ?_)
      rw [eenc, enc_a s0 hw24, enc_w s0 hw24]
      generalize hs : runV β (val β η) (fun t => tab β η t (cas β t)) c (bS β c) k = s at hS hrun
      generalize hgk : hgt (bS β c) k = h at hS hh hrun hbh sp
      have nxt : ∀ J E h' s', GF (L + 1) b (fun u => ρ (24 + u) < ρ c) I1 D1 J E → hgt (bS β c) (k + 1) = h' → runV β (val β η) (fun t => tab β η t (cas β t)) c (bS β c) (k + 1) = s' → SV J E b h' s' → j_W 37 d 0 0 0 0 19 [some (.ref 107), some (.int (nI L)), some (.int (nI c)), some (.ref (fo R c)), some (.int (nI b)), some (.int (nI (k + 1))), none, none] [] w1 (J, E, RR R) Q := fun J E h' s' g1 g2 g3 g4 => ih (k + 1) J E (by omega) (hG.tr g1) (by rw [g2, g3]; exact g4)
      refine t37d hf hc (by omega) s0 (by omega) (fun n0 n1 n13 n2 n12 => ?_) (fun n0 n1 n13 n2 n12 => ?_) (fun n0 n1 n13 n2 => ?_) (fun n0 n1 n13 => ?_) (fun n0 n1 => ?_) (fun n0 => ?_)
      · have q0 : (bS β c k).1 ≠ 0 := fun q => n0 (by rw [q]; rfl)
        have p2 : pops (bS β c k).1 = 2 := by unfold pops; rw [if_neg (by omega), if_neg n2, if_pos (by omega)]
        rw [p2] at sp hh
        refine t37_3 (b := b) (h := h) (s := s) hf hc (by omega) (by omega) (by omega) (by omega) (by omega) hS (by omega) (by omega) (by omega) (by omega) hc (by decide) (fun J E g1 g2 => nxt J E _ _ g2.gf (by rw [hh, show h + 1 - 2 = h - 1 by omega]) ?_ g1)
        rw [hrun]; unfold stp
        rw [if_neg q0, if_neg n1, if_neg n2, if_neg n12, if_pos (by omega)]
      · have p3 : pops (bS β c k).1 = 3 := by rw [n12]; rfl
        rw [p3] at sp hh
        refine t37_12 (b := b) (h := h) (s := s) hf hc (by omega) (by omega) (by omega) hS (by omega) (by omega) (fun J E g1 g2 => nxt J E _ _ g2.gf (by rw [hh, show h + 1 - 3 = h - 2 by omega]) ?_ g1)
        rw [hrun]; unfold stp
        rw [if_neg (by omega), if_neg n1, if_neg n2, if_pos n12]
      · have p1 : pops (bS β c k).1 = 1 := by rw [n2]; rfl
        rw [p1] at sp hh
        refine t37_2 (b := b) (h := h) (s := s) hf hc (by omega) (by omega) (by omega) hS (by omega) (by omega) (fun J E g1 g2 => nxt J E _ _ g2.gf (by rw [hh, show h + 1 - 1 = h by omega]) ?_ g1)
        rw [hrun]; unfold stp
        rw [if_neg (by omega), if_neg n1, if_pos n2]
      · have p0 : pops (bS β c k).1 = 0 := by unfold pops; rw [if_neg (by omega), if_neg (by omega), if_neg (by omega), if_neg (by omega)]
        rw [p0] at sp hh
        have hw := s4 (by omega)
        have hrk := hρ.tab hV hc hkz (by omega)
        refine t37_13 (h := 0) (AP := fun J E => GF (L + 1) b (fun u => ρ (24 + u) < ρ c) I1 D1 J E ∧ SV J E b (h + 1) (fu s h (if bL β (bS β c k).2 = true then askV c ((bS β c k).1 - 13) (tab β η (bS β c k).2 (cas β (bS β c k).2)) else (128 + c, FP.dconst0)))) hf hc (by omega) (by omega) (by omega) (by omega) hw (fun Q2 hq2 => c40 hR hV hT (η := η) hc hw (by omega) (fun hl => ⟨by omega, by have := cnt_lt hw hrk.2; omega⟩) (by omega) (by omega) (by omega) (hG.cb hR hC) (hG.nm hN) (hG.or hO) (hG.le (by omega) (by omega) hE) hS _ (fun _ => ⟨hrk.2, fun u hu => by show ρ (24 + u) < ρ c; omega⟩) (fun J E g1 g2 => hq2 J E ⟨g1, g2⟩)) (by omega) (fun J E g => nxt J E _ _ g.1 (by rw [hh, Nat.sub_zero]) ?_ g.2)
        rw [hrun]; unfold stp
        rw [if_neg (by omega), if_neg (by omega), if_neg (by omega), if_neg (by omega), if_neg (by omega)]
      · have p0 : pops (bS β c k).1 = 0 := by rw [n1]; rfl
        rw [p0] at sp hh
        have hw := s2 n1
        have hv := hG.lc (by omega) (by omega) (hnm _ hw (nmB_1 hkz n1 rfl))
        obtain ⟨v1, v2, v3, v4⟩ := hv
        refine t37_1 (b := b) (h := h) (s := s) (η := η) (β := β) hf hc (by omega) (by omega) hw v1 (by omega) hS (by omega) ⟨rfl, v2, v3, v4⟩ (fun J E g1 g2 => nxt J E _ _ g2.gf (by rw [hh, Nat.sub_zero]) ?_ g1)
        rw [hrun]; unfold stp
        rw [if_neg (by omega), if_pos n1]
      · have q0 : (bS β c k).1 = 0 := (nI_z (by omega)).mp n0
        have p0 : pops (bS β c k).1 = 0 := by rw [q0]; rfl
        rw [p0] at sp hh
        refine t37_0 (b := b) (h := h) (s := s) hf hc (by omega) (by omega) (by omega) (n64_fig _) hS (by omega) (VR.k (sm_fig _)) (fun J E g1 g2 => nxt J E _ _ g2.gf (by rw [hh, Nat.sub_zero]) ?_ g1)
        rw [hrun]; unfold stp
        rw [if_pos q0]
  exact loop (bZ β c) 0 I D rfl GF.refl ⟨by rw [h7]; rfl, fun i hi => absurd hi (Nat.not_lt_zero i)⟩
end ST
