/-! the reference tells: a table's sums; the induction -/
section RU
variable {β : Bd} {ρ : Nat → Nat} {R : Nat → Nat → Option Nat} {r : Nat} {I : Nat → Nat → Int32} {D : Nat → Nat → UInt64} {Q : j_Po}
theorem c194s {d t q i j k : Nat} {x : UInt64} {T : Tl} {v : Vl} (hx : vf_n64 x) (hxs : tF T = false → x = tSm T) (hn : tG T + tB T < 64) (hd : 1 ≤ d) (hv : VQ (I 260 31) (I 260 32) (D 260 30) v)
    (hq : ∀ x', vf_n64 x' → (tF (talS T k v) = false → x' = tSm (talS T k v)) → j_W 194 d 0 0 0 0 194 [some (.ref 260), some (.int (nI t)), some (.double x'), none, some (.int (bi (tF (talS T k v)))), some (.double (tL (talS T k v))), none, some (.double (tM (talS T k v))), none, some (.int (nI (tG (talS T k v)))), some (.int (nI (tB (talS T k v)))), some (.int (nI q)), some (.int (nI i)), some (.int (nI j))] [] w1 (I, D, RR R) Q) : j_W 194 d 0 0 0 0 93 [some (.ref 260), some (.int (nI t)), some (.double x), none, some (.int (bi (tF T))), some (.double (tL T)), none, some (.double (tM T)), none, some (.int (nI (tG T))), some (.int (nI (tB T))), some (.int (nI q)), some (.int (nI i)), some (.int (nI j))] [] w1 (I, D, RR R) Q := by
  have z := hv.z
  have main : v.1 = 0 → ∀ e : Bool, e = (tF T || farB (FP.dadd x (D 260 30))) → j_W 194 d 0 0 0 0 139 [some (.ref 260), some (.int (nI t)), some (.double (FP.dadd x (D 260 30))), none, some (.int (bi e)), some (.double (tL T)), none, some (.double (tM T)), none, some (.int (nI (tG T))), some (.int (nI (tB T))), some (.int (nI q)), some (.int (nI i)), some (.int (nI j))] [] w1 (I, D, RR R) Q := by
    intro v0 e he
    obtain ⟨xv, sv⟩ := hv.2.2.1 v0
    have hnn : vf_n64 (FP.dadd x (D 260 30)) := Jvm.Free.Fl.dadd_out hx (fi_lib.mpr sv.1)
    have eT : talS T k v = (tG T + 1, tB T, (if tF T = true then tSm T else FP.dadd (tSm T) v.2), (tF T || farB (if tF T = true then tSm T else FP.dadd (tSm T) v.2)), (if tG T = 0 ∨ dlt v.2 (tL T) = true then v.2 else tL T), (if tG T = 0 ∨ dgt v.2 (tM T) = true then v.2 else tM T), (if tG T = 0 ∨ dlt v.2 (tL T) = true then k else tl T), (if tG T = 0 ∨ dgt v.2 (tM T) = true then k else tm T)) := by unfold talS; rw [if_pos v0]
    have hF : tF (talS T k v) = e := by
      rw [eT, he]
      show (tF T || farB (if tF T = true then tSm T else FP.dadd (tSm T) v.2)) = _
      cases hf : tF T with
      | true => rfl
      | false => rw [if_neg (by simp), hxs hf, xv]
    have hS : tF (talS T k v) = false → FP.dadd x (D 260 30) = tSm (talS T k v) := by
      intro hf
      rw [hF, he, Bool.or_eq_false_iff] at hf
      rw [eT]
      show _ = (if tF T = true then tSm T else FP.dadd (tSm T) v.2)
      rw [hf.1, if_neg (by simp), hxs hf.1, xv]
    have h9 := hq _ hnn hS
    rw [hF] at h9
    have hG : tG (talS T k v) = tG T + 1 := by rw [eT]
    have hB : tB (talS T k v) = tB T := by rw [eT]
    have hL : tL (talS T k v) = if tG T = 0 ∨ dlt (D 260 30) (tL T) = true then D 260 30 else tL T := by rw [eT, xv]
    have hM : tM (talS T k v) = if tG T = 0 ∨ dgt (D 260 30) (tM T) = true then D 260 30 else tM T := by rw [eT, xv]
    rw [hG, hB, hL, hM] at h9
    have n0 : nI (tG T) = 0 ↔ tG T = 0 := nI_eq (b := 0) (by omega) (by decide)
    refine u194g (by omega) (Nat.zero_le _) (fun g => ?_) (fun g a b => ?_) (fun g a b => ?_) (fun g a b => ?_) (fun g a b => ?_)
    · rw [if_pos (Or.inl (n0.mp g)), if_pos (Or.inl (n0.mp g))] at h9; exact h9
    · rw [if_neg (fun h => h.elim (fun h => g (n0.mpr h)) (fun h => by rw [a] at h; cases h)), if_neg (fun h => h.elim (fun h => g (n0.mpr h)) (fun h => by rw [b] at h; cases h))] at h9; exact h9
    · rw [if_neg (fun h => h.elim (fun h => g (n0.mpr h)) (fun h => by rw [a] at h; cases h)), if_pos (Or.inr b)] at h9; exact h9
    · rw [if_pos (Or.inr a), if_neg (fun h => h.elim (fun h => g (n0.mpr h)) (fun h => by rw [b] at h; cases h))] at h9; exact h9
    · rw [if_pos (Or.inr a), if_pos (Or.inr b)] at h9; exact h9
  have o1 : ∀ e : Bool, (bi e ||| 1 : Int32) = bi true := by decide
  have o0 : ∀ e : Bool, (bi e ||| 0 : Int32) = bi e := by decide
  refine u194d (by omega) hd (fun g => Jvm.Free.Fl.dadd_out hx (fi_lib.mpr (hv.2.2.1 (z.mp g)).2.1)) (fun g a => ?_) (fun g a b => ?_) (fun g a b => ?_) (fun g => ?_)
  · rw [o1]; exact main (z.mp g) true (by rw [farB_1 a, Bool.or_true])
  · rw [o0]; exact main (z.mp g) (tF T) (by rw [farB_f a b, Bool.or_false])
  · rw [o1]; exact main (z.mp g) true (by rw [farB_2 a b, Bool.or_true])
  · have eT : talS T k v = (tG T, tB T + 1, tSm T, tF T, tL T, tM T, tl T, tm T) := by unfold talS; rw [if_neg (fun q => g (z.mpr q))]
    rw [eT] at hq
    exact hq x hx hxs
theorem i2d_nz {g : Nat} (hg : 1 ≤ g) (hg2 : g ≤ 64) : Jvm.Free.Fl.Nz64 (FP.i2d (nI g)) := by
  obtain ⟨i1, i2, i3⟩ := i2d_vm (nI g)
  refine nz_of i1 ?_
  rw [i3, nI_toInt (by omega), Int.natAbs_natCast]
  exact fun h => by
    have := Nat.mul_pos hg (Nat.two_pow_pos 1074)
    omega
theorem sr_all {T : Tl} {n : Nat} {x : UInt64} (hT : tlOK n T) (h64 : n ≤ 64) (hxs : tF T = false → x = tSm T) : SR (if tF T = true then 3 else 0) x 0 T ∧ SR (if tG T = 0 then 4 else if tF T = true then 3 else 0) (if tG T = 0 then FP.dconst0 else FP.ddiv x (FP.i2d (nI (tG T)))) 1 T ∧ SR (if tG T = 0 then 4 else 0) (tL T) 2 T ∧ SR (if tG T = 0 then 4 else 0) (tM T) 3 T ∧ SR 0 (FP.i2d (nI (tB T))) 4 T := by
  obtain ⟨q1, q2, q3, q4, -, -⟩ := hT
  refine ⟨?_, ?_, ?_, ?_, ?_⟩
  · have e : askE 0 T = if tF T = true then 3 else 0 := by
      unfold askE
      rw [if_neg (by omega)]
      by_cases h : tF T = true
      · rw [if_pos h, if_pos ⟨by decide, h⟩]
      · rw [if_neg h, if_neg (fun a => h a.2)]
    by_cases h : tF T = true
    · rw [if_pos h] at e ⊢
      exact ⟨by rw [e]; rfl, fun h => by rw [e] at h; cases h⟩
    · rw [if_neg h] at e ⊢
      have hf : tF T = false := by simpa using h
      exact ⟨by rw [e]; rfl, fun _ => ⟨by rw [hxs hf]; rfl, by rw [hxs hf]; exact q2 hf⟩⟩
  · by_cases g : tG T = 0
    · have e : askE 1 T = 4 := by unfold askE; rw [if_pos ⟨by decide, by decide, g⟩]
      rw [if_pos g, if_pos g]
      exact ⟨by rw [e]; rfl, fun h => by rw [e] at h; cases h⟩
    · have e : askE 1 T = if tF T = true then 3 else 0 := by
        unfold askE
        rw [if_neg (fun h => g h.2.2)]
        by_cases h : tF T = true
        · rw [if_pos h, if_pos ⟨by decide, h⟩]
        · rw [if_neg h, if_neg (fun a => h a.2)]
      rw [if_neg g, if_neg g]
      by_cases h : tF T = true
      · rw [if_pos h] at e ⊢
        exact ⟨by rw [e]; rfl, fun h => by rw [e] at h; cases h⟩
      · rw [if_neg h] at e ⊢
        have hf : tF T = false := by simpa using h
        refine ⟨by rw [e]; rfl, fun _ => ⟨?_, ?_⟩⟩
        · rw [hxs hf]; unfold askN; rw [if_neg (by decide), if_pos rfl, if_neg g]
        · rw [hxs hf]; exact sm_mean (q2 hf) (by omega) (by omega)
  · by_cases g : tG T = 0
    · have e : askE 2 T = 4 := by unfold askE; rw [if_pos ⟨by decide, by decide, g⟩]
      rw [if_pos g]
      exact ⟨by rw [e]; rfl, fun h => by rw [e] at h; cases h⟩
    · have e : askE 2 T = 0 := by unfold askE; rw [if_neg (fun h => g h.2.2), if_neg (fun h => absurd h.1 (by decide))]
      rw [if_neg g]
      exact ⟨by rw [e]; rfl, fun _ => ⟨rfl, q3⟩⟩
  · by_cases g : tG T = 0
    · have e : askE 3 T = 4 := by unfold askE; rw [if_pos ⟨by decide, by decide, g⟩]
      rw [if_pos g]
      exact ⟨by rw [e]; rfl, fun h => by rw [e] at h; cases h⟩
    · have e : askE 3 T = 0 := by unfold askE; rw [if_neg (fun h => g h.2.2), if_neg (fun h => absurd h.1 (by decide))]
      rw [if_neg g]
      exact ⟨by rw [e]; rfl, fun _ => ⟨rfl, q4⟩⟩
  · have e : askE 4 T = 0 := by unfold askE; rw [if_neg (fun h => absurd h.2.1 (by decide)), if_neg (fun h => absurd h.1 (by decide))]
    exact ⟨by rw [e]; rfl, fun _ => ⟨rfl, sm_i _⟩⟩
abbrev j5 {α : Type} (f : Nat → Nat → α) (o k : Nat) (a b c d e : α) : Nat → Nat → α := j_u (j_u (j_u (j_u (j_u f o k a) o (k + 1) b) o (k + 2) c) o (k + 3) d) o (k + 4) e
theorem j5_o {α : Type} {f : Nat → Nat → α} {o k q : Nat} {a b c d e : α} (h : q ≠ o) : j5 f o k a b c d e q = f q := by
  funext i; show j_u (j_u (j_u (j_u (j_u f o k a) o (k + 1) b) o (k + 2) c) o (k + 3) d) o (k + 4) e q i = _
  rw [j_u_o _ _ _ h, j_u_o _ _ _ h, j_u_o _ _ _ h, j_u_o _ _ _ h, j_u_o _ _ _ h]
theorem j5_k {α : Type} {f : Nat → Nat → α} {o k i : Nat} {a b c d e : α} (h : i < k ∨ k + 5 ≤ i) : j5 f o k a b c d e o i = f o i := by
  show j_u (j_u (j_u (j_u (j_u f o k a) o (k + 1) b) o (k + 2) c) o (k + 3) d) o (k + 4) e o i = _
  rw [j_u_k _ _ (by omega), j_u_k _ _ (by omega), j_u_k _ _ (by omega), j_u_k _ _ (by omega), j_u_k _ _ (by omega)]
theorem j5_0 {α : Type} {f : Nat → Nat → α} {o k : Nat} {a b c d e : α} : j5 f o k a b c d e o k = a ∧ j5 f o k a b c d e o (k + 1) = b ∧ j5 f o k a b c d e o (k + 2) = c ∧ j5 f o k a b c d e o (k + 3) = d ∧ j5 f o k a b c d e o (k + 4) = e := by
  refine ⟨?_, ?_, ?_, ?_, ?_⟩
  · show j_u (j_u (j_u (j_u (j_u f o k a) o (k + 1) b) o (k + 2) c) o (k + 3) d) o (k + 4) e o k = _
    rw [j_u_k _ _ (by omega), j_u_k _ _ (by omega), j_u_k _ _ (by omega), j_u_k _ _ (by omega), j_u_same]
  · show j_u (j_u (j_u (j_u (j_u f o k a) o (k + 1) b) o (k + 2) c) o (k + 3) d) o (k + 4) e o (k + 1) = _
    rw [j_u_k _ _ (by omega), j_u_k _ _ (by omega), j_u_k _ _ (by omega), j_u_same]
  · show j_u (j_u (j_u (j_u (j_u f o k a) o (k + 1) b) o (k + 2) c) o (k + 3) d) o (k + 4) e o (k + 2) = _
    rw [j_u_k _ _ (by omega), j_u_k _ _ (by omega), j_u_same]
  · show j_u (j_u (j_u (j_u (j_u f o k a) o (k + 1) b) o (k + 2) c) o (k + 3) d) o (k + 4) e o (k + 3) = _
    rw [j_u_k _ _ (by omega), j_u_same]
  · show j_u (j_u (j_u (j_u (j_u f o k a) o (k + 1) b) o (k + 2) c) o (k + 3) d) o (k + 4) e o (k + 4) = _
    rw [j_u_same]
theorem QM.sum {δ t : Nat} {η : VEnv} {e0 e1 e2 e3 e4 : Int32} {x0 x1 x2 x3 x4 : UInt64} (hδ : δ ≤ 6) (hM : QM β δ η I D) (h0 : SR e0 x0 0 (tab β η t (cas β t))) (h1 : SR e1 x1 1 (tab β η t (cas β t))) (h2 : SR e2 x2 2 (tab β η t (cas β t))) (h3 : SR e3 x3 3 (tab β η t (cas β t))) (h4 : SR e4 x4 4 (tab β η t (cas β t))) : QM β δ η (j_u (j5 I (412 + δ) (5 * t) e0 e1 e2 e3 e4) (396 + δ) t 1) (j5 D (404 + δ) (5 * t) x0 x1 x2 x3 x4) := by
  refine ⟨fun c hc h => ?_, fun u hu hl h f hf => ?_⟩
  · rw [j_u_o _ _ _ (by omega), j5_o (by omega)] at h
    rw [j_u_o _ _ _ (by omega), j_u_o _ _ _ (by omega), j5_o (q := 380 + δ) (by omega), j5_o (q := 388 + δ) (by omega), j5_o (q := 372 + δ) (by omega)]
    exact hM.1 c hc h
  · rw [j_u_o (o' := 412 + δ) _ _ _ (by omega)]
    by_cases e : u = t
    · subst e
      obtain ⟨a0, a1, a2, a3, a4⟩ := j5_0 (f := I) (o := 412 + δ) (k := 5 * u) (a := e0) (b := e1) (c := e2) (d := e3) (e := e4)
      obtain ⟨b0, b1, b2, b3, b4⟩ := j5_0 (f := D) (o := 404 + δ) (k := 5 * u) (a := x0) (b := x1) (c := x2) (d := x3) (e := x4)
      have : f = 0 ∨ f = 1 ∨ f = 2 ∨ f = 3 ∨ f = 4 := by omega
      rcases this with rfl | rfl | rfl | rfl | rfl
      · rw [Nat.add_zero, a0, b0]; exact h0
      · rw [a1, b1]; exact h1
      · rw [a2, b2]; exact h2
      · rw [a3, b3]; exact h3
      · rw [a4, b4]; exact h4
    · rw [j_u_k _ _ e, j5_o (by omega)] at h
      rw [j5_k (by omega), j5_k (by omega)]
      exact hM.2 u hu hl h f hf
theorem suq_step (hV : BV β) (hρ : Rk β ρ) (hT : TQ β ρ R r) : SUQ β ρ R (r + 1) := by
  intro d δ b t η I D Q ht hl hr hcnt hb hd hS hI hM h18 h26 hq
  obtain ⟨k64, kw, k8, kc⟩ := cas_64 hV ht hl
  obtain ⟨wo1, w2, w3, w4, w5, w6, w7, w8, w9, w10, w11⟩ := hV.2.1 t ht hl
  have hout := (hρ.out hV ht hl).2
  obtain ⟨s1, s2, s3, s4, s5, -, -⟩ := (hS.2 t ht).2 hl
  have hcl := cnt_le (ρ := ρ) (Nat.le_of_lt hout)
  -- the end
  have fin : ∀ (I1 : Nat → Nat → Int32) (D1 : Nat → Nat → UInt64) (x : UInt64), FQT (δ + 1) b I D I1 D1 → I1 260 26 = nI b → vf_n64 x → (tF (tal (csV β η t) (cas β t)) = false → x = tSm (tal (csV β η t) (cas β t))) → (∀ k, k < cas β t → (csV β η t k).1 = 0 → Sm (csV β η t k).2) → j_W 194 d 0 0 0 0 206 [some (.ref 260), some (.int (nI t)), some (.double x), none, some (.int (bi (tF (tal (csV β η t) (cas β t))))), some (.double (tL (tal (csV β η t) (cas β t)))), none, some (.double (tM (tal (csV β η t) (cas β t)))), none, some (.int (nI (tG (tal (csV β η t) (cas β t))))), some (.int (nI (tB (tal (csV β η t) (cas β t))))), some (.int (nI (wd β t))), none, none] [] w1 (I1, D1, RR R) Q := by
    intro I1 D1 x hG h26' hx hxs hsm
    have hok := tal_ok (v := csV β η t) (n := cas β t) hsm
    obtain ⟨r0, r1, r2, r3, r4⟩ := sr_all hok k64 hxs
    have e18 : I1 260 18 = nI δ := by rw [hG.2.1 18 (by decide) (by decide) (by decide)]; exact h18
    have hM1 : QM β δ η I1 D1 := hG.mq (by omega) (by omega) hM
    have hG1 : FQT δ b I D I1 D1 := hG.mono (by omega) (Nat.le_refl _)
    obtain ⟨q1, -, -, -, -, -⟩ := hok
    have n0 : nI (tG (tal (csV β η t) (cas β t))) = 0 ↔ tG (tal (csV β η t) (cas β t)) = 0 := nI_eq (b := 0) (by omega) (by decide)
    have hdiv : ¬ nI (tG (tal (csV β η t) (cas β t))) = 0 → vf_n64 (FP.ddiv x (FP.i2d (nI (tG (tal (csV β η t) (cas β t)))))) := fun g => Jvm.Free.Fl.ddiv_out hx (Jvm.Free.Fl.i2d_fin _) (i2d_nz (Nat.pos_of_ne_zero (fun h => g (n0.mpr h))) (by omega))
    have put : ∀ (e0 e1 e2 e3 : Int32) (x1 : UInt64), SR e0 x 0 (tal (csV β η t) (cas β t)) → SR e1 x1 1 (tal (csV β η t) (cas β t)) → SR e2 (tL (tal (csV β η t) (cas β t))) 2 (tal (csV β η t) (cas β t)) → SR e3 (tM (tal (csV β η t) (cas β t))) 3 (tal (csV β η t) (cas β t)) → j_W 194 d 0 0 0 0 376 [some (.ref 260), some (.int (nI t)), none, none, none, none, none, none, none, none, none, none, none, none] [] w1 (j5 I1 (412 + δ) (5 * t) e0 e1 e2 e3 0, j5 D1 (404 + δ) (5 * t) x x1 (tL (tal (csV β η t) (cas β t))) (tM (tal (csV β η t) (cas β t))) (FP.i2d (nI (tB (tal (csV β η t) (cas β t))))), RR R) Q := by
      intro e0 e1 e2 e3 x1 h0 h1 h2 h3
      refine u194z (l := δ) (by rw [j5_o (by omega)]; exact e18) (by omega) ht (by omega) (hq _ _ (hG1.tr ⟨fun q a => ?_, fun i _ _ _ => ?_, fun i _ => ⟨?_, ?_⟩, fun q a => ?_, fun i _ => ?_, fun i _ => ?_⟩) ?_ (hM1.sum (by omega) h0 h1 h2 h3 r4) (by rw [j_u_same]; decide))
      · funext i; rw [j_u_o _ _ _ (fun h => a (by unfold qI; omega)), j5_o (fun h => a (by unfold qI; omega))]
      · rw [j_u_o _ _ _ (by omega), j5_o (by omega)]
      · rw [j_u_o _ _ _ (by omega), j5_o (by omega)]
      · rw [j_u_o _ _ _ (by omega), j5_o (by omega)]
      · rw [j5_o (fun h => a (by unfold qD; omega))]
      · rw [j5_o (by omega)]
      · rw [j5_o (by omega)]
      · rw [j_u_o _ _ _ (by omega), j5_o (by omega)]; exact h26'
    refine u194y (l := δ) e18 (by omega) ht (by omega) (by omega) (by omega) (fun _ g => hdiv g) (fun hf g _ => ?_) (fun hf g hf2 => by rw [hf] at hf2; cases hf2) (fun hf g => ?_) (fun _ g => hdiv g) (fun hf g hf2 => by rw [hf] at hf2; cases hf2) (fun hf g _ => ?_) (fun hf g => ?_)
    · rw [if_neg (by rw [hf]; simp)] at r0
      rw [if_neg (fun h => g (n0.mpr h)), if_neg (by rw [hf]; simp), if_neg (fun h => g (n0.mpr h))] at r1
      rw [if_neg (fun h => g (n0.mpr h))] at r2 r3
      exact put _ _ _ _ _ r0 r1 r2 r3
    · rw [if_neg (by rw [hf]; simp)] at r0
      rw [if_pos (n0.mp g), if_pos (n0.mp g)] at r1
      rw [if_pos (n0.mp g)] at r2 r3
      exact put _ _ _ _ _ r0 r1 r2 r3
    · rw [if_pos hf] at r0
      rw [if_neg (fun h => g (n0.mpr h)), if_pos hf, if_neg (fun h => g (n0.mpr h))] at r1
      rw [if_neg (fun h => g (n0.mpr h))] at r2 r3
      exact put _ _ _ _ _ r0 r1 r2 r3
    · rw [if_pos hf] at r0
      rw [if_pos (n0.mp g), if_pos (n0.mp g)] at r1
      rw [if_pos (n0.mp g)] at r2 r3
      exact put _ _ _ _ _ r0 r1 r2 r3
  have inner : ∀ (i : Nat), i < bm β t → (∀ (I1 : Nat → Nat → Int32) (D1 : Nat → Nat → UInt64) (x : UInt64), FQT (δ + 1) b I D I1 D1 → I1 260 26 = nI b → vf_n64 x → (tF (tal (csV β η t) ((i + 1) * wd β t)) = false → x = tSm (tal (csV β η t) ((i + 1) * wd β t))) → (∀ k, k < (i + 1) * wd β t → (csV β η t k).1 = 0 → Sm (csV β η t k).2) → j_W 194 d 0 0 0 0 61 [some (.ref 260), some (.int (nI t)), some (.double x), none, some (.int (bi (tF (tal (csV β η t) ((i + 1) * wd β t))))), some (.double (tL (tal (csV β η t) ((i + 1) * wd β t)))), none, some (.double (tM (tal (csV β η t) ((i + 1) * wd β t)))), none, some (.int (nI (tG (tal (csV β η t) ((i + 1) * wd β t))))), some (.int (nI (tB (tal (csV β η t) ((i + 1) * wd β t))))), some (.int (nI (wd β t))), some (.int (nI (i + 1))), none] [] w1 (I1, D1, RR R) Q) →
      ∀ (m j : Nat) (I1 : Nat → Nat → Int32) (D1 : Nat → Nat → UInt64) (x : UInt64), m + j = wd β t → FQT (δ + 1) b I D I1 D1 → I1 260 26 = nI b → vf_n64 x → (tF (tal (csV β η t) (i * wd β t + j)) = false → x = tSm (tal (csV β η t) (i * wd β t + j))) → (∀ k, k < i * wd β t + j → (csV β η t k).1 = 0 → Sm (csV β η t k).2) → j_W 194 d 0 0 0 0 77 [some (.ref 260), some (.int (nI t)), some (.double x), none, some (.int (bi (tF (tal (csV β η t) (i * wd β t + j))))), some (.double (tL (tal (csV β η t) (i * wd β t + j)))), none, some (.double (tM (tal (csV β η t) (i * wd β t + j)))), none, some (.int (nI (tG (tal (csV β η t) (i * wd β t + j))))), some (.int (nI (tB (tal (csV β η t) (i * wd β t + j))))), some (.int (nI (wd β t))), some (.int (nI i)), some (.int (nI j))] [] w1 (I1, D1, RR R) Q := by
    intro i hi hend m
    have hle : (i + 1) * wd β t ≤ bm β t * wd β t := Nat.mul_le_mul_right _ hi
    have hsucc : (i + 1) * wd β t = i * wd β t + wd β t := Nat.succ_mul _ _
    induction m with
    | zero =>
      intro j I1 D1 x hj hG h26' hx hxs hsm
      have hjw : j = wd β t := by omega
      subst hjw
      refine u194i (by omega) (by omega) (Nat.zero_le _) (fun _ => ?_) (fun h => absurd (Nat.le_refl _) h)
      refine u194k (by omega) (Nat.zero_le _) ?_
      rw [← hsucc] at hxs hsm ⊢
      exact hend I1 D1 x hG h26' hx hxs hsm
    | succ m ih =>
      intro j I1 D1 x hj hG h26' hx hxs hsm
      have hok := (tal_ok (v := csV β η t) (n := i * wd β t + j) hsm).1
      have ecs : csV β η t (i * wd β t + j) = val β (supV β η t i j) (bO β t) := by
        unfold csV
        rw [show (i * wd β t + j) / wd β t = i by rw [Nat.mul_comm, Nat.mul_add_div (by omega), Nat.div_eq_of_lt (by omega), Nat.add_zero], show (i * wd β t + j) % wd β t = j by rw [Nat.mul_comm, Nat.mul_add_mod, Nat.mod_eq_of_lt (by omega)]]
      refine u194i (by omega) (by omega) (Nat.zero_le _) (fun h => absurd h (by omega)) (fun _ => ?_)
      refine u194c (AP := fun J E => FQT (δ + 1) b I1 D1 J E ∧ J 260 26 = nI b ∧ VQ (J 260 31) (J 260 32) (E 260 30) (csV β η t (i * wd β t + j))) (fun Q2 hq2 => c195 (η := η) (δ := δ) (b := b) hV hT ht hl (by omega) (by omega) (by omega) (by omega) hi (by omega) (hG.st hS) (hG.inp hI) (by rw [hG.2.1 18 (by decide) (by decide) (by decide)]; exact h18) h26' (fun J E g1 g2 g3 => hq2 J E ⟨g1, g2, by rw [ecs]; exact g3⟩)) (by omega) (fun J E hA => ?_)
      obtain ⟨g1, g2, g3⟩ := hA
      refine c194s (k := i * wd β t + j) hx hxs (by omega) (by omega) g3 (fun x' hx' hxs' => ?_)
      refine u194j (by omega) (Nat.zero_le _) ?_
      exact ih (j + 1) J E x' (by omega) (hG.tr g1) g2 hx' hxs' (fun k hk h0 => by
        by_cases e : k = i * wd β t + j
        · rw [e] at h0 ⊢
          obtain ⟨x1, x2⟩ := g3.2.2.1 h0
          rw [← x1]; exact x2
        · exact hsm k (by omega) h0)
  have outer : ∀ (m i : Nat) (I1 : Nat → Nat → Int32) (D1 : Nat → Nat → UInt64) (x : UInt64), m + i = bm β t → FQT (δ + 1) b I D I1 D1 → I1 260 26 = nI b → vf_n64 x → (tF (tal (csV β η t) (i * wd β t)) = false → x = tSm (tal (csV β η t) (i * wd β t))) → (∀ k, k < i * wd β t → (csV β η t k).1 = 0 → Sm (csV β η t k).2) → j_W 194 d 0 0 0 0 61 [some (.ref 260), some (.int (nI t)), some (.double x), none, some (.int (bi (tF (tal (csV β η t) (i * wd β t))))), some (.double (tL (tal (csV β η t) (i * wd β t)))), none, some (.double (tM (tal (csV β η t) (i * wd β t)))), none, some (.int (nI (tG (tal (csV β η t) (i * wd β t))))), some (.int (nI (tB (tal (csV β η t) (i * wd β t))))), some (.int (nI (wd β t))), some (.int (nI i)), none] [] w1 (I1, D1, RR R) Q := by
    intro m
    induction m with
    | zero =>
      intro i I1 D1 x hi hG h26' hx hxs hsm
      have him : i = bm β t := by omega
      subst him
      have e319 : I1 319 (2 * t) = nI (bm β t) := by rw [hG.1 319 (by unfold qI; omega)]; exact s4
      rw [← kc] at hxs hsm ⊢
      exact u194h ht e319 w6 w6 (Nat.zero_le _) (fun _ => fin I1 D1 x hG h26' hx hxs hsm) (fun h => absurd (Nat.le_refl _) h)
    | succ m ih =>
      intro i I1 D1 x hi hG h26' hx hxs hsm
      have e319 : I1 319 (2 * t) = nI (bm β t) := by rw [hG.1 319 (by unfold qI; omega)]; exact s4
      refine u194h ht e319 (by omega) w6 (Nat.zero_le _) (fun h => absurd h (by omega)) (fun _ => ?_)
      exact inner i (by omega) (fun I2 D2 x2 a1 a2 a3 a4 a5 => ih (i + 1) I2 D2 x2 (by omega) a1 a2 a3 a4 a5) (wd β t) 0 I1 D1 x rfl hG h26' hx hxs hsm
  have start : j_W 194 d 0 0 0 0 61 [some (.ref 260), some (.int (nI t)), some (.double FP.dconst0), none, some (.int (bi (tF (tal (csV β η t) (0))))), some (.double (tL (tal (csV β η t) (0)))), none, some (.double (tM (tal (csV β η t) (0)))), none, some (.int (nI (tG (tal (csV β η t) (0))))), some (.int (nI (tB (tal (csV β η t) (0))))), some (.int (nI (wd β t))), some (.int (nI 0)), none] [] w1 (I, D, RR R) Q := by
    have := outer (bm β t) 0 I D FP.dconst0 rfl FQT.refl h26 (by unfold vf_n64; decide) (fun _ => by rw [Nat.zero_mul]; rfl) (fun k hk => absurd hk (by rw [Nat.zero_mul]; exact Nat.not_lt_zero k))
    rw [Nat.zero_mul] at this
    exact this
  refine u194e h18 (by omega) ht (Nat.zero_le _) (fun _ => ?_) (fun h => hq I D FQT.refl h26 hM h)
  refine u194f ht (Nat.zero_le _) (fun h => ?_) (fun h => ?_)
  · cases hb2 : b2 β t with
    | none => rw [hb2] at s3; exact absurd s3 h
    | some o =>
      have : wd β t = bn β t := by unfold wd; rw [hb2, if_neg (fun h => by cases h)]
      rw [s5, ← this]; exact start
  · cases hb2 : b2 β t with
    | none =>
      have : wd β t = 1 := by unfold wd; rw [hb2, if_pos rfl]
      rw [this] at start; exact start
    | some o =>
      rw [hb2] at s3
      exact absurd (s3.symm.trans h) (nI_ne_m1 (by have := (w4 o hb2).1; omega))
theorem tq_all (hV : BV β) (hρ : Rk β ρ) : ∀ r, TQ β ρ R r ∧ SUQ β ρ R r
  | 0 => ⟨fun _ _ _ _ _ _ _ _ _ h => absurd h (Nat.not_lt_zero _), fun _ _ _ _ _ _ _ _ _ _ h => absurd h (Nat.not_lt_zero _)⟩
  | r + 1 => by
    obtain ⟨h1, h2⟩ := tq_all hV hρ r
    exact ⟨tq_step hV hρ h1 h2, suq_step hV hρ h1⟩
end RU
