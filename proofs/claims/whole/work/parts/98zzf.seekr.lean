/-! seek: the reference -/
def RKo (E : Nat → Nat → UInt64) : Option (UInt64 × UInt64) → Prop
  | none => True
  | some p => E 260 53 = p.1 ∧ E 260 54 = p.2 ∧ skN p.1 ∧ skN p.2
section KR
variable {β : Bd} {I J : Nat → Nat → Int32} {D E : Nat → Nat → UInt64} {R : Nat → Nat → Option Nat} {Q : j_Po} {i c d : Nat}
theorem FRm.d2 {x y : UInt64} : FRm J E J (j_u (j_u E 260 53 x) 260 54 y) := ⟨fun _ _ => rfl, fun _ _ _ _ _ _ _ => rfl, fun q a => by funext k; rw [j_u_o _ _ _ (fun e => a (Or.inl e)), j_u_o _ _ _ (fun e => a (Or.inl e))]⟩
theorem rk_put {x y : UInt64} (h1 : skN x) (h2 : skN y) : RKo (j_u (j_u E 260 53 x) 260 54 y) (some (x, y)) := ⟨by rw [j_u_k _ _ (by decide), j_u_same], by rw [j_u_same], h1, h2⟩
theorem l267 {w : UInt64} (hV : BV β) (hS : RSt β I D) (hI : RIn β I D (env β)) (hi : i < 24) (hc : c < 24) (hd : 110 ≤ d) : ∀ (m k : Nat) (J : Nat → Nat → Int32) (E : Nat → Nat → UInt64) (l h fl fh : UInt64) (b : Bool) (n : Nat), m + k = 40 → FRm I D J E → J 260 51 = nI n → J 260 52 = 0 → skI l h fl fh w → (∀ J2 E2, FRm I D J2 E2 → J2 260 51 = nI (skF (fun x => val β (fu (env β) i (0, kp (nI (bK β i)) x)) c) w m l h fl fh b n).1 → RKo E2 (skF (fun x => val β (fu (env β) i (0, kp (nI (bK β i)) x)) c) w m l h fl fh b n).2 → Q (some (.int (bi (skF (fun x => val β (fu (env β) i (0, kp (nI (bK β i)) x)) c) w m l h fl fh b n).2.isSome))) w1 (J2, E2, RR R)) → j_W 267 d 0 0 0 0 121 [some (.ref 260), some (.int (nI i)), some (.int (nI c)), none, none, none, none, some (.double w), none, some (.double l), none, some (.double h), none, some (.double fl), none, some (.double fh), none, some (.int (bi b)), some (.int (nI k)), none, none, none, none, none, none] [] w1 (J, E, RR R) Q := by
  intro m
  have fin : ∀ (J : Nat → Nat → Int32) (E : Nat → Nat → UInt64) (l h fl fh : UInt64) (n : Nat), FRm I D J E → J 260 51 = nI n → skI l h fl fh w → (∀ J2 E2, FRm I D J2 E2 → J2 260 51 = nI n → RKo E2 (some (near l h fl fh w)) → Q (some (.int (bi true))) w1 (J2, E2, RR R)) → j_W 267 d 0 0 0 0 322 [some (.ref 260), none, none, none, none, none, none, some (.double w), none, some (.double l), none, some (.double h), none, some (.double fl), none, some (.double fh), none, none, none, none, none, none, none, none, none] [] w1 (J, E, RR R) Q := by
    intro J E l h fl fh n hF h51 H hq
    obtain ⟨n1, n2⟩ := near_ok H
    obtain ⟨-, -, ⟨c1, c2⟩, ⟨d1, d2⟩, ⟨e1, e2⟩, -, -⟩ := H
    have fL := dsub_fi c1 e1
    have fH := dsub_fi d1 e1
    refine u267k (by omega) (fi_nn fL) (fi_nn fL) (fi_nn fH) (fi_nn fH) (fun hle => ?_) (fun hle => ?_)
    · have e : near l h fl fh w = (h, fh) := by
        unfold near; rw [if_neg (show ¬ dle (absV fl w) (absV fh w) = true from fun q => by
          have hle : dle (absV fl w) (absV fh w) = false := hle
          rw [hle] at q; cases q)]
      rw [e] at hq n1 n2
      exact hq J _ (hF.tr FRm.d2) h51 (rk_put n1 n2)
    · have e : near l h fl fh w = (l, fl) := by
        unfold near; rw [if_pos (show dle (absV fl w) (absV fh w) = true from hle)]
      rw [e] at hq n1 n2
      exact hq J _ (hF.tr FRm.d2) h51 (rk_put n1 n2)
  induction m with
  | zero =>
    intro k J E l h fl fh b n hk hF h51 h52 H hq
    have : k = 40 := by omega
    subst this
    have ex : ∀ {P : Prop}, ¬ 40 ≤ 40 → P := fun h => absurd (Nat.le_refl _) h
    exact u267h (by omega) (by omega) (fun _ => fin J E l h fl fh n hF h51 H (fun J2 E2 g1 g2 g3 => hq J2 E2 g1 g2 g3)) (fun h => ex h) (fun h => ex h) (fun h => ex h) (fun h => ex h) (fun h => ex h) (fun h => ex h) (fun h => ex h) (fun h => ex h) (fun h => ex h) (fun h => ex h) (fun h => ex h) (fun h => ex h) (fun h => ex h) (fun h => ex h) (fun h => ex h) (fun h => ex h) (fun h => ex h) (fun h => ex h) (fun h => ex h) (fun h => ex h)
  | succ m ih =>
    intro k J E l h fl fh b n hk hF h51 h52 H hq
    rw [skF] at hq
    obtain ⟨g1, g2, g3⟩ := H.wide
    obtain ⟨r1, r2⟩ := H.rise
    obtain ⟨k1, k2, k3, k4⟩ := H.cut
    have stop : ¬ (dgt (mid l h fl fh w b) l = true ∧ dlt (mid l h fl fh w b) h = true) → j_W 267 d 0 0 0 0 322 [some (.ref 260), none, none, none, none, none, none, some (.double w), none, some (.double l), none, some (.double h), none, some (.double fl), none, some (.double fh), none, none, none, none, none, none, none, none, none] [] w1 (J, E, RR R) Q := fun hin => by
      rw [if_neg hin] at hq
      exact fin J E l h fl fh n hF h51 H (fun J2 E2 g1 g2 g3 => hq J2 E2 g1 g2 g3)
    have into : ∀ y, y = (mid l h fl fh w b) → dgt y l = true → dlt y h = true → j_W 267 d 0 0 0 0 209 [some (.ref 260), some (.int (nI i)), some (.int (nI c)), none, none, none, none, some (.double w), none, some (.double l), none, some (.double h), none, some (.double fl), none, some (.double fh), none, none, some (.int (nI k)), some (.double (FP.dsub h l)), none, some (.double y), none, none, none] [] w1 (J, E, RR R) Q := by
      intro y hy h1 h2
      subst hy
      obtain ⟨⟨mN, mM⟩, mL, mH⟩ := H.mid h1 h2
      rw [if_pos ⟨h1, h2⟩] at hq
      refine u267i (n := n) hV (by omega) (hF.st hS) (hF.inp hI) hi hc mN.1 h51 h52 (fun J2 E2 f1 j51 j52 ev sv => ?_)
      have f2 := hF.tr f1
      by_cases hz0 : (val β (fu (env β) i (0, kp (nI (bK β i)) (mid l h fl fh w b))) c).1 = 0
      · rw [if_pos hz0] at j52
        have ev := ev hz0
        rw [ev] at sv ⊢
        have nv : (val β (fu (env β) i (0, kp (nI (bK β i)) (mid l h fl fh w b))) c).2 ≠ 0x8000000000000000 := val_ne hV hc (fun _ => fu_ne (fun _ => env_ne)) hz0
        rw [if_pos hz0] at hq
        have a1 := H.1.1.1
        have b1 := H.2.1.1.1
        have v1 : vf_n64 (FP.dsub h (mid l h fl fh w b)) := fi_nn (dsub_fi b1 mN.1)
        have v2 : vf_n64 (FP.dsub (mid l h fl fh w b) l) := fi_nn (dsub_fi mN.1 a1)
        have lo : deq (val β (fu (env β) i (0, kp (nI (bK β i)) (mid l h fl fh w b))) c).2 w = false → dlt (val β (fu (env β) i (0, kp (nI (bK β i)) (mid l h fl fh w b))) c).2 w = dlt fl w → ∀ bb, dle (FP.dsub h (mid l h fl fh w b)) (FP.ddiv (FP.dsub h l) 4611686018427387904) = bb → j_W 267 d 0 0 0 0 121 [some (.ref 260), some (.int (nI i)), some (.int (nI c)), none, none, none, none, some (.double w), none, some (.double (mid l h fl fh w b)), none, some (.double h), none, some (.double ((val β (fu (env β) i (0, kp (nI (bK β i)) (mid l h fl fh w b))) c).2)), none, some (.double fh), none, some (.int (bi bb)), some (.int (nI (k + 1))), none, none, none, none, none, none] [] w1 (J2, E2, RR R) Q := fun hne hs bb hbb => by
          rw [if_neg (by rw [hne]; simp), if_pos hs, hbb] at hq
          exact ih (k + 1) J2 E2 _ _ _ _ bb (n + 1) (by omega) f2 j51 j52 (H.low ⟨mN, mM⟩ mH ⟨sv, nv⟩ hne hs) hq
        have hi' : deq (val β (fu (env β) i (0, kp (nI (bK β i)) (mid l h fl fh w b))) c).2 w = false → ¬ dlt (val β (fu (env β) i (0, kp (nI (bK β i)) (mid l h fl fh w b))) c).2 w = dlt fl w → ∀ bb, dle (FP.dsub (mid l h fl fh w b) l) (FP.ddiv (FP.dsub h l) 4611686018427387904) = bb → j_W 267 d 0 0 0 0 121 [some (.ref 260), some (.int (nI i)), some (.int (nI c)), none, none, none, none, some (.double w), none, some (.double l), none, some (.double (mid l h fl fh w b)), none, some (.double fl), none, some (.double ((val β (fu (env β) i (0, kp (nI (bK β i)) (mid l h fl fh w b))) c).2)), none, some (.int (bi bb)), some (.int (nI (k + 1))), none, none, none, none, none, none] [] w1 (J2, E2, RR R) Q := fun hne hs bb hbb => by
          rw [if_neg (by rw [hne]; simp), if_neg hs, hbb] at hq
          exact ih (k + 1) J2 E2 _ _ _ _ bb (n + 1) (by omega) f2 j51 j52 (H.high ⟨mN, mM⟩ mL ⟨sv, nv⟩ hne hs) hq
        refine u267j (by omega) (fun _ _ _ _ => v1) (fun _ _ _ _ => g2) (fun _ x1 x2 x3 x4 => lo x1 (by rw [x2, x3]) false x4) (fun _ x1 x2 x3 x4 => lo x1 (by rw [x2, x3]) true x4) (fun _ _ _ _ => v2) (fun _ _ _ _ => g2) (fun _ x1 x2 x3 x4 => hi' x1 (by rw [x2, x3]; simp) false x4) (fun _ x1 x2 x3 x4 => hi' x1 (by rw [x2, x3]; simp) true x4) (fun _ _ _ _ => v2) (fun _ _ _ _ => g2) (fun _ x1 x2 x3 x4 => hi' x1 (by rw [x2, x3]; simp) false x4) (fun _ x1 x2 x3 x4 => hi' x1 (by rw [x2, x3]; simp) true x4) (fun _ _ _ _ => v1) (fun _ _ _ _ => g2) (fun _ x1 x2 x3 x4 => lo x1 (by rw [x2, x3]) false x4) (fun _ x1 x2 x3 x4 => lo x1 (by rw [x2, x3]) true x4) (fun _ x1 => ?_) (fun h => absurd j52 h)
        rw [if_pos x1] at hq
        exact hq J2 _ (f2.tr FRm.d2) j51 (rk_put mN ⟨sv, nv⟩)
      · rw [if_neg hz0] at j52 hq
        have n52 : ¬ J2 260 52 = 0 := by rw [j52]; decide
        have ex : ∀ {P : Prop}, J2 260 52 = 0 → P := fun h => absurd h n52
        exact u267j (by omega) (fun h => ex h) (fun h => ex h) (fun h => ex h) (fun h => ex h) (fun h => ex h) (fun h => ex h) (fun h => ex h) (fun h => ex h) (fun h => ex h) (fun h => ex h) (fun h => ex h) (fun h => ex h) (fun h => ex h) (fun h => ex h) (fun h => ex h) (fun h => ex h) (fun h => ex h) (fun _ => hq J2 E2 f2 j51 trivial)
    have ff : ∀ {a : Bool}, a = false → ¬ a = true := fun h => by rw [h]; simp
    have mf : b = false → (mid l h fl fh w b) = (FP.dadd l (FP.ddiv (FP.dsub h l) 4611686018427387904)) := fun hb => by unfold mid; rw [if_neg (ff hb)]
    have mc : b = true → dgt (FP.dadd l (FP.ddiv (FP.dmul (FP.dsub w fl) (FP.dsub h l)) (FP.dsub fh fl))) l = true → dlt (FP.dadd l (FP.ddiv (FP.dmul (FP.dsub w fl) (FP.dsub h l)) (FP.dsub fh fl))) h = true → (mid l h fl fh w b) = (FP.dadd l (FP.ddiv (FP.dmul (FP.dsub w fl) (FP.dsub h l)) (FP.dsub fh fl))) := fun hb q1 q2 => by unfold mid; rw [if_pos hb, if_pos ⟨q1, q2⟩]
    have mn : b = true → ¬ (dgt (FP.dadd l (FP.ddiv (FP.dmul (FP.dsub w fl) (FP.dsub h l)) (FP.dsub fh fl))) l = true ∧ dlt (FP.dadd l (FP.ddiv (FP.dmul (FP.dsub w fl) (FP.dsub h l)) (FP.dsub fh fl))) h = true) → (mid l h fl fh w b) = (FP.dadd l (FP.ddiv (FP.dsub h l) 4611686018427387904)) := fun hb q => by unfold mid; rw [if_pos hb, if_neg q]
    refine u267h (by omega) (by omega) (fun h => absurd h (by omega)) (fun _ => fi_nn g1) (fun _ => g2) (fun _ => g3) (fun _ hb x1 => stop ?_) (fun _ hb x1 x2 => into _ (mf hb).symm x1 x2) (fun _ hb x1 x2 => stop ?_) (fun _ _ => k1) (fun _ _ => k2) (fun _ _ => fi_nn r1) (fun _ _ => k3) (fun _ _ => k4) (fun _ hb y1 x1 => stop ?_) (fun _ hb y1 x1 x2 => into _ (mn hb (fun q => ff y1 q.1)).symm x1 x2) (fun _ hb y1 x1 x2 => stop ?_) (fun _ hb y1 y2 x1 => stop ?_) (fun _ hb y1 y2 x1 x2 => into _ (mn hb (fun q => ff y2 q.2)).symm x1 x2) (fun _ hb y1 y2 x1 x2 => stop ?_) (fun _ hb y1 y2 x1 => absurd y1 (ff x1)) (fun _ hb y1 y2 x1 x2 => into _ (mc hb y1 y2).symm x1 x2) (fun _ hb y1 y2 x1 x2 => absurd y2 (ff x2))
    · rw [mf hb]; exact fun q => ff x1 q.1
    · rw [mf hb]; exact fun q => ff x2 q.2
    · rw [mn hb (fun q => ff y1 q.1)]; exact fun q => ff x1 q.1
    · rw [mn hb (fun q => ff y1 q.1)]; exact fun q => ff x2 q.2
    · rw [mn hb (fun q => ff y2 q.2)]; exact fun q => ff x1 q.1
    · rw [mn hb (fun q => ff y2 q.2)]; exact fun q => ff x2 q.2
theorem c267 {l h w : UInt64} (hV : BV β) (hS : RSt β I D) (hI : RIn β I D (env β)) (hi : i < 24) (hc : c < 24) (hd : 111 ≤ d) (h51 : I 260 51 = 0) (h52 : I 260 52 = 0) (h0 : skN l ∧ vm l ≤ 2 ^ 1094) (h1 : skN h ∧ vm h ≤ 2 ^ 1094) (h2 : skN w) (hlt : vz l < vz h) (hq : ∀ J2 E2, FRm I D J2 E2 → J2 260 51 = nI (skT (fun x => val β (fu (env β) i (0, kp (nI (bK β i)) x)) c) l h w).1 → RKo E2 (skT (fun x => val β (fu (env β) i (0, kp (nI (bK β i)) x)) c) l h w).2 → Q (some (.int (bi (skT (fun x => val β (fu (env β) i (0, kp (nI (bK β i)) x)) c) l h w).2.isSome))) w1 (J2, E2, RR R)) : j_Call d 267 [.ref 260, .int (nI i), .int (nI c), .double l, .double h, .double w] w1 (I, D, RR R) 0 0 Q := by
  unfold skT at hq
  refine u267a (n := 0) hV (by omega) hS hI hi hc h0.1.1 h51 h52 (fun J1 E1 f1 j51 j52 ev sv => ?_)
  by_cases hz0 : ((fun x => val β (fu (env β) i (0, kp (nI (bK β i)) x)) c) l).1 = 0
  case neg =>
    have hz0' : ¬ (val β (fu (env β) i (0, kp (nI (bK β i)) l)) c).1 = 0 := hz0
    rw [if_neg hz0'] at j52
    rw [if_neg hz0] at hq
    have n52 : ¬ J1 260 52 = 0 := by rw [j52]; decide
    have ex : ∀ {P : Prop}, J1 260 52 = 0 → P := fun h => absurd h n52
    exact u267b (n := 0) hV (by omega) (fun h => ex h) (fun h => ex h) (fun h => ex h) (fun h => ex h) (fun h => ex h) (fun h => ex h) (fun h => ex h) (fun h => ex h) (fun _ => hq J1 E1 f1 j51 trivial)
  have hz0' : (val β (fu (env β) i (0, kp (nI (bK β i)) l)) c).1 = 0 := hz0
  rw [if_pos hz0'] at j52
  rw [if_pos hz0] at hq
  have ev := ev hz0'
  rw [ev] at sv ⊢
  have nv : (val β (fu (env β) i (0, kp (nI (bK β i)) l)) c).2 ≠ 0x8000000000000000 := val_ne hV hc (fun _ => fu_ne (fun _ => env_ne)) hz0'
  refine u267b (n := 1) hV (by omega) (fun _ => f1.st hS) (fun _ => f1.inp hI) (fun _ => hi) (fun _ => hc) (fun _ => h1.1.1) (fun _ => j51) (fun _ => j52) (fun _ J2 E2 f2 i51 i52 ew sw => ?_) (fun h => absurd j52 h)
  have ft := f1.tr f2
  by_cases hz1 : ((fun x => val β (fu (env β) i (0, kp (nI (bK β i)) x)) c) h).1 = 0
  case neg =>
    have hz1' : ¬ (val β (fu (env β) i (0, kp (nI (bK β i)) h)) c).1 = 0 := hz1
    rw [if_neg hz1'] at i52
    rw [if_neg hz1] at hq
    have n52 : ¬ J2 260 52 = 0 := by rw [i52]; decide
    have ex : ∀ {P : Prop}, J2 260 52 = 0 → P := fun h => absurd h n52
    exact u267c (by omega) (fun h => ex h) (fun h => ex h) (fun h => ex h) (fun h => ex h) (fun h => ex h) (fun h => ex h) (fun h => ex h) (fun h => ex h) (fun _ => hq J2 E2 ft i51 trivial)
  have hz1' : (val β (fu (env β) i (0, kp (nI (bK β i)) h)) c).1 = 0 := hz1
  rw [if_pos hz1'] at i52
  rw [if_pos hz1] at hq
  have ew := ew hz1'
  rw [ew] at sw ⊢
  have nw : (val β (fu (env β) i (0, kp (nI (bK β i)) h)) c).2 ≠ 0x8000000000000000 := val_ne hV hc (fun _ => fu_ne (fun _ => env_ne)) hz1'
  have hfl : ((fun x => val β (fu (env β) i (0, kp (nI (bK β i)) x)) c) l).2 = (val β (fu (env β) i (0, kp (nI (bK β i)) l)) c).2 := rfl
  have hfh : ((fun x => val β (fu (env β) i (0, kp (nI (bK β i)) x)) c) h).2 = (val β (fu (env β) i (0, kp (nI (bK β i)) h)) c).2 := rfl
  rw [hfl, hfh] at hq
  generalize (val β (fu (env β) i (0, kp (nI (bK β i)) l)) c).2 = fl at *
  generalize (val β (fu (env β) i (0, kp (nI (bK β i)) h)) c).2 = fh at *
  have iL := dlt_iff sv.1 h2.1.1
  have iH := dlt_iff sw.1 h2.1.1
  have dL := deq_iff sv.1 h2.1.1
  have dH := deq_iff sw.1 h2.1.1
  have fe : ∀ {a : Bool}, a = false → ¬ a = true := fun h => by rw [h]; simp
  have stop : deq fl w = false → deq fh w = false → dlt fl w = dlt fh w → Q (some (.int 0)) w1 (J2, E2, RR R) := fun x1 x2 x3 => by
    rw [if_neg (fe x1), if_neg (fe x2), if_pos x3] at hq
    exact hq J2 E2 ft i51 trivial
  have go : deq fl w = false → deq fh w = false → ¬ dlt fl w = dlt fh w → j_W 267 d 0 0 0 0 121 [some (.ref 260), some (.int (nI i)), some (.int (nI c)), none, none, none, none, some (.double w), none, some (.double l), none, some (.double h), none, some (.double fl), none, some (.double fh), none, some (.int 0), some (.int 0), none, none, none, none, none, none] [] w1 (J2, E2, RR R) Q := fun x1 x2 x3 => by
    rw [if_neg (fe x1), if_neg (fe x2), if_neg x3] at hq
    refine l267 hV hS hI hi hc (by omega) 40 0 J2 E2 l h fl fh false 2 rfl ft i51 i52 ⟨h0, h1, ⟨sv, nv⟩, ⟨sw, nw⟩, h2, hlt, ?_⟩ hq
    have n1 : vz fl ≠ vz w := fun g => by rw [dL.mpr g] at x1; cases x1
    have n2 : vz fh ≠ vz w := fun g => by rw [dH.mpr g] at x2; cases x2
    rcases Int.lt_or_gt_of_ne n1 with g | g
    · refine Or.inl ⟨g, ?_⟩
      have : ¬ vz fh < vz w := fun g2 => x3 (by rw [iL.mpr g, iH.mpr g2])
      omega
    · refine Or.inr ⟨?_, g⟩
      have t : dlt fl w = false := by
        cases g2 : dlt fl w with
        | false => rfl
        | true => have := iL.mp g2; omega
      cases g2 : dlt fh w with
      | true => exact iH.mp g2
      | false => exact absurd (by rw [t, g2]) x3
  have endL : deq fl w = true → Q (some (.int 1)) w1 (J2, (j_u (j_u E2 260 53 l) 260 54 w), RR R) := fun x1 => by
    rw [if_pos x1] at hq
    have e : fl = w := feq sv.1 h2.1.1 nv h2.2 (dL.mp x1)
    rw [e] at hq
    exact hq J2 _ (ft.tr FRm.d2) i51 (rk_put h0.1 h2)
  have endH : deq fl w = false → deq fh w = true → Q (some (.int 1)) w1 (J2, (j_u (j_u E2 260 53 h) 260 54 w), RR R) := fun x1 x2 => by
    rw [if_neg (fe x1), if_pos x2] at hq
    have e : fh = w := feq sw.1 h2.1.1 nw h2.2 (dH.mp x2)
    rw [e] at hq
    exact hq J2 _ (ft.tr FRm.d2) i51 (rk_put h1.1 h2)
  exact u267c (by omega) (fun _ x1 x2 => absurd x1 (fe x2)) (fun _ x1 _ => endL x1) (fun _ x1 x2 y1 y2 => stop x1 x2 (by rw [y1, y2])) (fun _ x1 x2 y1 y2 => go x1 x2 (by rw [y1, y2]; simp)) (fun _ x1 x2 y1 y2 => go x1 x2 (by rw [y1, y2]; simp)) (fun _ x1 x2 y1 y2 => stop x1 x2 (by rw [y1, y2])) (fun _ x1 x2 _ => endH x1 x2) (fun _ x1 _ x2 => absurd x2 (fe x1)) (fun h => absurd i52 h)
end KR
