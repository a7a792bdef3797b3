/-! how often it is told at least -/
def FLe (I J : Nat → Nat → Int32) : Prop := ∀ o, o ≠ 359 → o ≠ 360 → o ≠ 427 → o ≠ 428 → J o = I o
def MLe (Lv : Nat → Int32) (I : Nat → Nat → Int32) : Prop := ∀ t, t < 6 → ¬ I 427 t = 0 → I 428 t = Lv t
def LeC (β : Bd) (Lv : Nat → Int32) (ρ : Nat → Nat) (r : Nat) : Prop := ∀ {d : Nat} {I : Nat → Nat → Int32} {D : Nat → Nat → UInt64} {R : Nat → Nat → Option Nat} {Q : j_Po} (t : Nat), t < 6 → bL β t = true → ρ (24 + t) < r → ρ (24 + t) + 60 ≤ d → MLe Lv I → RSt β I D → RBN β I → (∀ J, FLe I J → MLe Lv J → RBN β J → Q (some (.int (Lv t))) w1 (J, D, RR R)) → j_Call d 264 [.ref 260, .int (nI t)] w1 (I, D, RR R) 0 0 Q
def leT (β : Bd) (L : Nat → Int32) (c : Nat) : Nat → Int32
  | 0 => 1
  | u + 1 => if bL β u = true then leT β L c u + nI (tmB β c u) * L u else leT β L c u
def leB (p q : Bool) (a b n : Int32) : Int32 := if q = true then (if p = true then n * a else n) * b else (if p = true then n * a else n)
def rd2 (β : Bd) (rd : Nat → Int32) (t c : Nat) : Bool := match b2 β t with | none => false | some o => bt (rd c) o
def leM (β : Bd) (rd L : Nat → Int32) (t c : Nat) : Int32 := leB (bt (rd c) (b1 β t)) (rd2 β rd t c) (nI (u1V β t)) (nI (u2V β t)) (leT β L c 6)
def leS (β : Bd) (X : Nat → Nat → Bool) (rd L : Nat → Int32) (t : Nat) : Nat → Int32
  | 0 => 0
  | c + 1 => if X (bO β t) c = true ∧ bZ β c ≠ 0 then leS β X rd L t c + leM β rd L t c else leS β X rd L t c
def LeE (β : Bd) (X : Nat → Nat → Bool) (rd L : Nat → Int32) : Prop := ∀ t, t < 6 → bL β t = true → L t = leS β X rd L t 24
section LP
variable {β : Bd} {X : Nat → Nat → Bool} {rd L L' : Nat → Int32}
theorem leT_0 (x : Int32) : nI 0 * x = 0 := by
  show (0 : Int32) * x = 0
  exact Int32.zero_mul
theorem leT_cg {c : Nat} : ∀ {m : Nat}, (∀ u, u < m → bL β u = true → 0 < tmB β c u → L u = L' u) → leT β L c m = leT β L' c m
  | 0, _ => rfl
  | m + 1, h => by
    unfold leT
    rw [leT_cg (m := m) (fun u hu => h u (by omega))]
    by_cases hl : bL β m = true
    · rw [if_pos hl, if_pos hl]
      rcases Nat.eq_zero_or_pos (tmB β c m) with h0 | h0
      · rw [h0, leT_0, leT_0]
      · rw [h m (by omega) hl h0]
    · rw [if_neg hl, if_neg hl]
theorem leS_cg {t : Nat} : ∀ {m : Nat}, (∀ c u, c < m → X (bO β t) c = true → u < 6 → bL β u = true → 0 < tmB β c u → L u = L' u) → leS β X rd L t m = leS β X rd L' t m
  | 0, _ => rfl
  | m + 1, h => by
    unfold leS
    rw [leS_cg (m := m) (fun c u hc => h c u (by omega))]
    by_cases hx : X (bO β t) m = true ∧ bZ β m ≠ 0
    · rw [if_pos hx, if_pos hx]
      unfold leM
      rw [leT_cg (fun u hu => h m u (by omega) hx.1 hu)]
    · rw [if_neg hx, if_neg hx]
theorem le_rk {ρ : Nat → Nat} (hV : BV β) (hX : RcE β X) (hρ : Rk β ρ) {t c u : Nat} (ht : t < 6) (hl : bL β t = true) (hc : c < 24) (hx : X (bO β t) c = true) (hu : u < 6) (h0 : 0 < tmB β c u) : ρ (24 + u) < ρ (24 + t) := by
  obtain ⟨o1, o2⟩ := hρ.out hV ht hl
  have h1 := hX.rank hρ.2 o1 hc hx
  have h2 := hρ.2 c (24 + u) (by omega) (by omega) (ed_tm hV hc h0)
  omega
def leF (β : Bd) (X : Nat → Nat → Bool) (rd : Nat → Int32) : Nat → Nat → Int32
  | 0, _ => 0
  | r + 1, t => leS β X rd (leF β X rd r) t 24
theorem leF_st {ρ : Nat → Nat} (hV : BV β) (hX : RcE β X) (hρ : Rk β ρ) : ∀ (r r' t : Nat), t < 6 → bL β t = true → ρ (24 + t) < r → ρ (24 + t) < r' → leF β X rd r t = leF β X rd r' t
  | 0, _, _, _, _, h, _ => absurd h (Nat.not_lt_zero _)
  | _ + 1, 0, _, _, _, _, h => absurd h (Nat.not_lt_zero _)
  | r + 1, r' + 1, t, ht, hl, h, h' => by
    unfold leF
    exact leS_cg (fun c u hc hx hu hlu h0 => by
      have := le_rk hV hX hρ ht hl hc hx hu h0
      exact leF_st hV hX hρ r r' u hu hlu (by omega) (by omega))
theorem LeE.ex (hV : BV β) (hX : RcE β X) (rd : Nat → Int32) : ∃ L, LeE β X rd L := by
  obtain ⟨ρ, hρ⟩ := Rk.ex hV
  refine ⟨leF β X rd 30, fun t ht hl => ?_⟩
  have h := hρ.1 (24 + t) (by omega)
  rw [leF_st hV hX hρ 30 31 t ht hl h (by omega)]; rfl
end LP
set_option maxRecDepth 10000 in
set_option maxHeartbeats 4000000 in
theorem u126e {d : Nat} {I : Nat → Nat → Int32} {D : Nat → Nat → UInt64} {R : Nat → Nat → Option Nat} {Q : j_Po} {t : Nat} {β : Bd} (hR : WFR R) (hV : BV β) (ht : t < 6) (hd : 10 ≤ d)
    (v1 : CB β I D R)
    (v2 : t < 6)
    (v3 : bL β t = true)
    (v4 : j_W 126 d 0 0 0 0 27 [some (.ref 204), some (.ref 108), some (.int (nI t)), some (.ref ((R 113 t).getD 0)), some (.int (nI (u1V β t))), some (.int (nI (u2V β t))), some (.int 0), some (.int 0), none, none] [] w1 (I, D, RR R) Q) : j_Call d 126 [.ref 204, .ref 108, .int (nI t)] w1 (I, D, RR R) 0 0 Q := by
  refine q_enter (L := [some (.ref 204), some (.ref 108), some (.int (nI t)), none, none, none, none, none, none, none]) j_m126 (Nat.le_of_ble_eq_true rfl) rfl ?_
  refine q_aload_n d126_0 rfl ?_
  refine q_getR (x := 113) d126_1 (fs4_42 126 rfl) rfl (lt_w1 rfl) sh108 (rs108_4 R) (by decide) ?_
  refine q_iload_n d126_4 rfl ?_
  have g2 := hR.g t (by omega)
  refine q_aaload (c := 7) (a := t) (x := ((R 113 t).getD 0)) d126_5 (lt_w1 rfl) sh113 (by decide) rfl (by omega) ((RR_d rfl).trans g2.1) (lt1000 (isG_lt g2.2)) ?_
  refine q_astore_n (L' := [some (.ref 204), some (.ref 108), some (.int (nI t)), some (.ref ((R 113 t).getD 0)), none, none, none, none, none, none]) d126_6 (Nat.le_of_ble_eq_true rfl) (Nat.ne_of_lt (Nat.lt_trans (lt1000 (isG_lt g2.2)) (by decide))) rfl ?_
  refine q_aload_n d126_7 rfl ?_
  refine q_iload_n d126_8 rfl ?_
  refine q_invV (o := 108) (ci := 0) (av := [.int (nI t)]) (rest := []) (d' := 5) (mc' := 0) (ms' := 0) d126_9 (cv4_101 126 rfl) rfl (by decide) rfl rfl (by omega) (Nat.le_of_ble_eq_true rfl) (Nat.le_of_ble_eq_true rfl) (lt_w1 rfl) sh108 (Nat.le_refl _) (Nat.le_refl _) ?_
  refine c127a (β := β) (Nat.le_refl 5) hR hV v1 v2 v3 ?_
  show j_W 126 d 0 0 0 0 12 [some (.ref 204), some (.ref 108), some (.int (nI t)), some (.ref ((R 113 t).getD 0)), none, none, none, none, none, none] [.int (nI (u1V β t))] w1 (I, D, RR R) Q
  refine q_istore (L' := [some (.ref 204), some (.ref 108), some (.int (nI t)), some (.ref ((R 113 t).getD 0)), some (.int (nI (u1V β t))), none, none, none, none, none]) d126_12 (Nat.le_of_ble_eq_true rfl) rfl ?_
  refine q_aload_n d126_14 rfl ?_
  refine q_iload_n d126_15 rfl ?_
  refine q_invV (o := 108) (ci := 0) (av := [.int (nI t)]) (rest := []) (d' := 5) (mc' := 0) (ms' := 0) d126_16 (cv4_105 126 rfl) rfl (by decide) rfl rfl (by omega) (Nat.le_of_ble_eq_true rfl) (Nat.le_of_ble_eq_true rfl) (lt_w1 rfl) sh108 (Nat.le_refl _) (Nat.le_refl _) ?_
  refine c127b (β := β) (Nat.le_refl 5) hR hV v1 v2 v3 ?_
  show j_W 126 d 0 0 0 0 19 [some (.ref 204), some (.ref 108), some (.int (nI t)), some (.ref ((R 113 t).getD 0)), some (.int (nI (u1V β t))), none, none, none, none, none] [.int (nI (u2V β t))] w1 (I, D, RR R) Q
  refine q_istore (L' := [some (.ref 204), some (.ref 108), some (.int (nI t)), some (.ref ((R 113 t).getD 0)), some (.int (nI (u1V β t))), some (.int (nI (u2V β t))), none, none, none, none]) d126_19 (Nat.le_of_ble_eq_true rfl) rfl ?_
  refine q_iconst (v := 0) (by decide) d126_21 ?_
  refine q_istore (L' := [some (.ref 204), some (.ref 108), some (.int (nI t)), some (.ref ((R 113 t).getD 0)), some (.int (nI (u1V β t))), some (.int (nI (u2V β t))), some (.int 0), none, none, none]) d126_22 (Nat.le_of_ble_eq_true rfl) rfl ?_
  refine q_iconst (v := 0) (by decide) d126_24 ?_
  refine q_istore (L' := [some (.ref 204), some (.ref 108), some (.int (nI t)), some (.ref ((R 113 t).getD 0)), some (.int (nI (u1V β t))), some (.int (nI (u2V β t))), some (.int 0), some (.int 0), none, none]) d126_25 (Nat.le_of_ble_eq_true rfl) rfl ?_
  exact r_sub (L' := [some (.ref 204), some (.ref 108), some (.int (nI t)), some (.ref ((R 113 t).getD 0)), some (.int (nI (u1V β t))), some (.int (nI (u2V β t))), some (.int 0), some (.int 0), none, none]) ⟨rfl, rfl, rfl, rfl, rfl, rfl, rfl, rfl, trivial⟩ v4

set_option maxRecDepth 10000 in
set_option maxHeartbeats 4000000 in
theorem u126h {d : Nat} {I : Nat → Nat → Int32} {D : Nat → Nat → UInt64} {R : Nat → Nat → Option Nat} {Q : j_Po} {t : Nat} {a : Nat} {b : Nat} {s : Int32} {k : Nat} {o : Nat} (hR : WFR R) (hg : isG (go R t)) (ht : t < 6) (hk : k ≤ 24) (h1 : I (go R t) 1 = nI o) (ho : o < 24) (hd : 3 ≤ d)
    (v1 : (24 ≤ k) → Q none w1 ((j_u I 210 t s), D, RR R))
    (v2 : (¬ 24 ≤ k) → ((¬ ((I 206 o) >>> ((nI k) &&& 31)) &&& 1 = 0)) → ((I ((R 112 k).getD 0) 1) ≤ 0) → j_W 126 d 0 0 0 0 27 [some (.ref 204), some (.ref 108), some (.int (nI t)), some (.ref (go R t)), some (.int (nI a)), some (.int (nI b)), some (.int s), some (.int (nI (k + 1))), none, none] [] w1 (I, D, RR R) Q)
    (v3 : (¬ 24 ≤ k) → ((¬ ((I 206 o) >>> ((nI k) &&& 31)) &&& 1 = 0)) → (¬ (I ((R 112 k).getD 0) 1) ≤ 0) → j_W 126 d 0 0 0 0 69 [some (.ref 204), some (.ref 108), some (.int (nI t)), some (.ref (go R t)), some (.int (nI a)), some (.int (nI b)), some (.int s), some (.int (nI k)), some (.int 1), some (.int 0)] [] w1 (I, D, RR R) Q)
    (v4 : (¬ 24 ≤ k) → (¬ ((¬ ((I 206 o) >>> ((nI k) &&& 31)) &&& 1 = 0))) → j_W 126 d 0 0 0 0 27 [some (.ref 204), some (.ref 108), some (.int (nI t)), some (.ref (go R t)), some (.int (nI a)), some (.int (nI b)), some (.int s), some (.int (nI (k + 1))), none, none] [] w1 (I, D, RR R) Q) : j_W 126 d 0 0 0 0 27 [some (.ref 204), some (.ref 108), some (.int (nI t)), some (.ref (go R t)), some (.int (nI a)), some (.int (nI b)), some (.int s), some (.int (nI k)), none, none] [] w1 (I, D, RR R) Q := by
  refine q_iload d126_27 rfl ?_
  refine q_bipush (v := 24) (by decide) d126_29 ?_
  refine q_icmp_ge (tgt := 190) d126_31 rfl (fun h1t => ?_) (fun h1f => ?_)
  ·
    have h1tc : 24 ≤ k := (nI_leI (by omega) (by omega)).mp h1t
    refine q_aload_n d126_190 rfl ?_
    refine q_getR (x := 210) d126_191 (fs4_27 126 rfl) rfl (lt_w1 rfl) sh204 (rs204_5 R) (by decide) ?_
    refine q_iload_n d126_194 rfl ?_
    refine q_iload d126_195 rfl ?_
    refine q_iastore (a := t) d126_197 (lt_w1 rfl) sh210 rfl (by omega) ?_
    exact q_ret d126_198 rfl (Nat.le_refl _) (Nat.le_refl _) (v1 h1tc)
  ·
    have h1fc : ¬ 24 ≤ k := mt (nI_leI (by omega) (by omega)).mpr h1f
    refine q_aload_n d126_34 rfl ?_
    refine q_getR (x := 206) d126_35 (fs4_15 126 rfl) rfl (lt_w1 rfl) sh204 (rs204_1 R) (by decide) ?_
    refine q_aload_n d126_38 rfl ?_
    refine q_getI d126_39 (fs4_52 126 rfl) rfl (isG_lt hg) (isG_sh hg) ?_
    refine r_int (y := (nI o)) (show I (go R t) 1 = (nI o) from h1) ?_
    refine q_iaload (a := o) d126_42 (lt_w1 rfl) sh206 rfl (by omega) ?_
    refine q_iload d126_43 rfl ?_
    refine q_invSN (av := [.int (I 206 o), .int (nI k)]) (rest := []) (d' := 0) (mc' := 0) (ms' := 0) d126_45 (nv4_55 126 rfl) rfl rfl (by omega) (Nat.le_of_ble_eq_true rfl) (Nat.le_of_ble_eq_true rfl) (Nat.le_refl _) (Nat.le_refl _) ?_
    refine p21  (fun h2 => ?_) (fun h2 => ?_)
    ·
      show j_W 126 d 0 0 0 0 48 [some (.ref 204), some (.ref 108), some (.int (nI t)), some (.ref (go R t)), some (.int (nI a)), some (.int (nI b)), some (.int s), some (.int (nI k)), none, none] [.int 1] w1 (I, D, RR R) Q
      refine q_if_eq (tgt := 184) d126_48 rfl (fun h => absurd h (by decide)) (fun _ => ?_)
      refine q_aload_n d126_51 rfl ?_
      refine q_iload d126_52 rfl ?_
      refine q_invV (o := 108) (ci := 0) (av := [.int (nI k)]) (rest := []) (d' := 0) (mc' := 0) (ms' := 0) d126_54 (cv4_71 126 rfl) rfl (by decide) rfl rfl (by omega) (Nat.le_of_ble_eq_true rfl) (Nat.le_of_ble_eq_true rfl) (lt_w1 rfl) sh108 (Nat.le_refl _) (Nat.le_refl _) ?_
      refine u14 (k := k) hR (by first | omega | decide) (Nat.le_refl _) (fun c3 => ?_) (fun c4 => ?_)
      ·
        show j_W 126 d 0 0 0 0 57 [some (.ref 204), some (.ref 108), some (.int (nI t)), some (.ref (go R t)), some (.int (nI a)), some (.int (nI b)), some (.int s), some (.int (nI k)), none, none] [.int 0] w1 (I, D, RR R) Q
        refine q_if_ne (tgt := 63) d126_57 rfl (fun h => absurd h (by decide)) (fun _ => ?_)
        refine q_goto (tgt := 184) d126_60 rfl ?_
        refine q_iinc (L' := [some (.ref 204), some (.ref 108), some (.int (nI t)), some (.ref (go R t)), some (.int (nI a)), some (.int (nI b)), some (.int s), some (.int (nI (k + 1))), none, none]) (v := (nI (k + 1))) d126_184 rfl (nI_inc _) rfl ?_
        refine q_goto (tgt := 27) d126_187 rfl ?_
        exact r_sub (L' := [some (.ref 204), some (.ref 108), some (.int (nI t)), some (.ref (go R t)), some (.int (nI a)), some (.int (nI b)), some (.int s), some (.int (nI (k + 1))), none, none]) ⟨rfl, rfl, rfl, rfl, rfl, rfl, rfl, rfl, trivial⟩ (v2 h1fc h2 c3)
      ·
        show j_W 126 d 0 0 0 0 57 [some (.ref 204), some (.ref 108), some (.int (nI t)), some (.ref (go R t)), some (.int (nI a)), some (.int (nI b)), some (.int s), some (.int (nI k)), none, none] [.int 1] w1 (I, D, RR R) Q
        refine q_if_ne (tgt := 63) d126_57 rfl (fun _ => ?_) (fun h => absurd h (by decide))
        refine q_iconst (v := 1) (by decide) d126_63 ?_
        refine q_istore (L' := [some (.ref 204), some (.ref 108), some (.int (nI t)), some (.ref (go R t)), some (.int (nI a)), some (.int (nI b)), some (.int s), some (.int (nI k)), some (.int 1), none]) d126_64 (Nat.le_of_ble_eq_true rfl) rfl ?_
        refine q_iconst (v := 0) (by decide) d126_66 ?_
        refine q_istore (L' := [some (.ref 204), some (.ref 108), some (.int (nI t)), some (.ref (go R t)), some (.int (nI a)), some (.int (nI b)), some (.int s), some (.int (nI k)), some (.int 1), some (.int 0)]) d126_67 (Nat.le_of_ble_eq_true rfl) rfl ?_
        exact r_sub (L' := [some (.ref 204), some (.ref 108), some (.int (nI t)), some (.ref (go R t)), some (.int (nI a)), some (.int (nI b)), some (.int s), some (.int (nI k)), some (.int 1), some (.int 0)]) ⟨rfl, rfl, rfl, rfl, rfl, rfl, rfl, rfl, rfl, rfl, trivial⟩ (v3 h1fc h2 c4)
    ·
      show j_W 126 d 0 0 0 0 48 [some (.ref 204), some (.ref 108), some (.int (nI t)), some (.ref (go R t)), some (.int (nI a)), some (.int (nI b)), some (.int s), some (.int (nI k)), none, none] [.int 0] w1 (I, D, RR R) Q
      refine q_if_eq (tgt := 184) d126_48 rfl (fun _ => ?_) (fun h => absurd h (by decide))
      refine q_iinc (L' := [some (.ref 204), some (.ref 108), some (.int (nI t)), some (.ref (go R t)), some (.int (nI a)), some (.int (nI b)), some (.int s), some (.int (nI (k + 1))), none, none]) (v := (nI (k + 1))) d126_184 rfl (nI_inc _) rfl ?_
      refine q_goto (tgt := 27) d126_187 rfl ?_
      exact r_sub (L' := [some (.ref 204), some (.ref 108), some (.int (nI t)), some (.ref (go R t)), some (.int (nI a)), some (.int (nI b)), some (.int s), some (.int (nI (k + 1))), none, none]) ⟨rfl, rfl, rfl, rfl, rfl, rfl, rfl, rfl, trivial⟩ (v4 h1fc h2)

set_option maxRecDepth 10000 in
set_option maxHeartbeats 4000000 in
theorem u126i {d : Nat} {I : Nat → Nat → Int32} {D : Nat → Nat → UInt64} {R : Nat → Nat → Option Nat} {Q : j_Po} {t : Nat} {a : Nat} {b : Nat} {s : Int32} {k : Nat} {n : Int32} {u : Nat}  (hR : WFR R) (hk : k < 24) (hu : u ≤ 6) (hd : 3 ≤ d)
    (v1 : (6 ≤ u) → j_W 126 d 0 0 0 0 121 [some (.ref 204), some (.ref 108), some (.int (nI t)), some (.ref (go R t)), some (.int (nI a)), some (.int (nI b)), some (.int s), some (.int (nI k)), some (.int n), none] [] w1 (I, D, RR R) Q)
    (v2 : (¬ 6 ≤ u) → ((I ((R 113 u).getD 0) 0) = 0) → j_W 126 d 0 0 0 0 69 [some (.ref 204), some (.ref 108), some (.int (nI t)), some (.ref (go R t)), some (.int (nI a)), some (.int (nI b)), some (.int s), some (.int (nI k)), some (.int n), some (.int (nI (u + 1)))] [] w1 (I, D, RR R) Q)
    (v3 : (¬ 6 ≤ u) → (¬ (I ((R 113 u).getD 0) 0) = 0) → j_W 126 d 0 0 0 0 69 [some (.ref 204), some (.ref 108), some (.int (nI t)), some (.ref (go R t)), some (.int (nI a)), some (.int (nI b)), some (.int s), some (.int (nI k)), some (.int (n + ((I (((R 112 k).getD 0) + 2) u) * (I 210 u)))), some (.int (nI (u + 1)))] [] w1 (I, D, RR R) Q) : j_W 126 d 0 0 0 0 69 [some (.ref 204), some (.ref 108), some (.int (nI t)), some (.ref (go R t)), some (.int (nI a)), some (.int (nI b)), some (.int s), some (.int (nI k)), some (.int n), some (.int (nI u))] [] w1 (I, D, RR R) Q := by
  refine q_iload d126_69 rfl ?_
  refine q_bipush (v := 6) (by decide) d126_71 ?_
  refine q_icmp_ge (tgt := 121) d126_73 rfl (fun h1t => ?_) (fun h1f => ?_)
  ·
    have h1tc : 6 ≤ u := (nI_leI (by omega) (by omega)).mp h1t
    exact r_sub (L' := [some (.ref 204), some (.ref 108), some (.int (nI t)), some (.ref (go R t)), some (.int (nI a)), some (.int (nI b)), some (.int s), some (.int (nI k)), some (.int n), none]) ⟨rfl, rfl, rfl, rfl, rfl, rfl, rfl, rfl, rfl, trivial⟩ (v1 h1tc)
  ·
    have h1fc : ¬ 6 ≤ u := mt (nI_leI (by omega) (by omega)).mpr h1f
    refine q_aload_n d126_76 rfl ?_
    refine q_getR (x := 113) d126_77 (fs4_42 126 rfl) rfl (lt_w1 rfl) sh108 (rs108_4 R) (by decide) ?_
    refine q_iload d126_80 rfl ?_
    have g3 := hR.g u (by omega)
    refine q_aaload (c := 7) (a := u) (x := ((R 113 u).getD 0)) d126_82 (lt_w1 rfl) sh113 (by decide) rfl (by omega) ((RR_d rfl).trans g3.1) (lt1000 (isG_lt g3.2)) ?_
    refine q_getI d126_83 (fs4_46 126 rfl) rfl (isG_lt g3.2) (isG_sh g3.2) ?_
    refine q_if_eq (tgt := 115) d126_86 rfl (fun h4t => ?_) (fun h4f => ?_)
    ·
      refine q_iinc (L' := [some (.ref 204), some (.ref 108), some (.int (nI t)), some (.ref (go R t)), some (.int (nI a)), some (.int (nI b)), some (.int s), some (.int (nI k)), some (.int n), some (.int (nI (u + 1)))]) (v := (nI (u + 1))) d126_115 rfl (nI_inc _) rfl ?_
      refine q_goto (tgt := 69) d126_118 rfl ?_
      exact r_sub (L' := [some (.ref 204), some (.ref 108), some (.int (nI t)), some (.ref (go R t)), some (.int (nI a)), some (.int (nI b)), some (.int s), some (.int (nI k)), some (.int n), some (.int (nI (u + 1)))]) ⟨rfl, rfl, rfl, rfl, rfl, rfl, rfl, rfl, rfl, rfl, trivial⟩ (v2 h1fc h4t)
    ·
      refine q_iload d126_89 rfl ?_
      refine q_aload_n d126_91 rfl ?_
      refine q_getR (x := 112) d126_92 (fs4_30 126 rfl) rfl (lt_w1 rfl) sh108 (rs108_3 R) (by decide) ?_
      refine q_iload d126_95 rfl ?_
      have g6 := hR.f k (by omega)
      refine q_aaload (c := 6) (a := k) (x := ((R 112 k).getD 0)) d126_97 (lt_w1 rfl) sh112 (by decide) rfl (by omega) ((RR_d rfl).trans g6.1) (lt1000 (isF_lt g6.2)) ?_
      refine q_getR (x := (((R 112 k).getD 0) + 2)) d126_98 (fs4_82 126 rfl) rfl (isF_lt g6.2) (isF_sh g6.2) (isF_r2 R g6.2) (lt1000 (isF_lt2 g6.2)) ?_
      refine q_iload d126_101 rfl ?_
      refine q_iaload (a := u) d126_103 (isF_lt2 g6.2) (isF_sh2 g6.2) rfl (by omega) ?_
      refine q_aload_n d126_104 rfl ?_
      refine q_getR (x := 210) d126_105 (fs4_27 126 rfl) rfl (lt_w1 rfl) sh204 (rs204_5 R) (by decide) ?_
      refine q_iload d126_108 rfl ?_
      refine q_iaload (a := u) d126_110 (lt_w1 rfl) sh210 rfl (by omega) ?_
      refine q_imul d126_111 ?_
      refine q_iadd d126_112 ?_
      refine q_istore (L' := [some (.ref 204), some (.ref 108), some (.int (nI t)), some (.ref (go R t)), some (.int (nI a)), some (.int (nI b)), some (.int s), some (.int (nI k)), some (.int (n + ((I (((R 112 k).getD 0) + 2) u) * (I 210 u)))), some (.int (nI u))]) d126_113 (Nat.le_of_ble_eq_true rfl) rfl ?_
      refine q_iinc (L' := [some (.ref 204), some (.ref 108), some (.int (nI t)), some (.ref (go R t)), some (.int (nI a)), some (.int (nI b)), some (.int s), some (.int (nI k)), some (.int (n + ((I (((R 112 k).getD 0) + 2) u) * (I 210 u)))), some (.int (nI (u + 1)))]) (v := (nI (u + 1))) d126_115 rfl (nI_inc _) rfl ?_
      refine q_goto (tgt := 69) d126_118 rfl ?_
      exact r_sub (L' := [some (.ref 204), some (.ref 108), some (.int (nI t)), some (.ref (go R t)), some (.int (nI a)), some (.int (nI b)), some (.int s), some (.int (nI k)), some (.int (n + ((I (((R 112 k).getD 0) + 2) u) * (I 210 u)))), some (.int (nI (u + 1)))]) ⟨rfl, rfl, rfl, rfl, rfl, rfl, rfl, rfl, rfl, rfl, trivial⟩ (v3 h1fc h4f)

set_option maxRecDepth 10000 in
set_option maxHeartbeats 4000000 in
theorem u126j {d : Nat} {I : Nat → Nat → Int32} {D : Nat → Nat → UInt64} {R : Nat → Nat → Option Nat} {Q : j_Po} {t : Nat} {a : Nat} {b : Nat} {s : Int32} {k : Nat} {n : Int32} {p : Nat} (hR : WFR R) (hg : isG (go R t)) (hk : k < 24) (h2 : I (go R t) 2 = nI p) (hp : p < 24) (hd : 3 ≤ d)
    (v1 : ((¬ ((I 207 k) >>> ((nI p) &&& 31)) &&& 1 = 0)) → ((I (go R t) 3) = (-1)) → j_W 126 d 0 0 0 0 27 [some (.ref 204), some (.ref 108), some (.int (nI t)), some (.ref (go R t)), some (.int (nI a)), some (.int (nI b)), some (.int (s + (n * (nI a)))), some (.int (nI (k + 1))), none, none] [] w1 (I, D, RR R) Q)
    (v2 : ((¬ ((I 207 k) >>> ((nI p) &&& 31)) &&& 1 = 0)) → (¬ (I (go R t) 3) = (-1)) → ((¬ ((I 207 k) >>> ((I (go R t) 3) &&& 31)) &&& 1 = 0)) → j_W 126 d 0 0 0 0 27 [some (.ref 204), some (.ref 108), some (.int (nI t)), some (.ref (go R t)), some (.int (nI a)), some (.int (nI b)), some (.int (s + ((n * (nI a)) * (nI b)))), some (.int (nI (k + 1))), none, none] [] w1 (I, D, RR R) Q)
    (v3 : ((¬ ((I 207 k) >>> ((nI p) &&& 31)) &&& 1 = 0)) → (¬ (I (go R t) 3) = (-1)) → (¬ ((¬ ((I 207 k) >>> ((I (go R t) 3) &&& 31)) &&& 1 = 0))) → j_W 126 d 0 0 0 0 27 [some (.ref 204), some (.ref 108), some (.int (nI t)), some (.ref (go R t)), some (.int (nI a)), some (.int (nI b)), some (.int (s + (n * (nI a)))), some (.int (nI (k + 1))), none, none] [] w1 (I, D, RR R) Q)
    (v4 : (¬ ((¬ ((I 207 k) >>> ((nI p) &&& 31)) &&& 1 = 0))) → ((I (go R t) 3) = (-1)) → j_W 126 d 0 0 0 0 27 [some (.ref 204), some (.ref 108), some (.int (nI t)), some (.ref (go R t)), some (.int (nI a)), some (.int (nI b)), some (.int (s + n)), some (.int (nI (k + 1))), none, none] [] w1 (I, D, RR R) Q)
    (v5 : (¬ ((¬ ((I 207 k) >>> ((nI p) &&& 31)) &&& 1 = 0))) → (¬ (I (go R t) 3) = (-1)) → ((¬ ((I 207 k) >>> ((I (go R t) 3) &&& 31)) &&& 1 = 0)) → j_W 126 d 0 0 0 0 27 [some (.ref 204), some (.ref 108), some (.int (nI t)), some (.ref (go R t)), some (.int (nI a)), some (.int (nI b)), some (.int (s + (n * (nI b)))), some (.int (nI (k + 1))), none, none] [] w1 (I, D, RR R) Q)
    (v6 : (¬ ((¬ ((I 207 k) >>> ((nI p) &&& 31)) &&& 1 = 0))) → (¬ (I (go R t) 3) = (-1)) → (¬ ((¬ ((I 207 k) >>> ((I (go R t) 3) &&& 31)) &&& 1 = 0))) → j_W 126 d 0 0 0 0 27 [some (.ref 204), some (.ref 108), some (.int (nI t)), some (.ref (go R t)), some (.int (nI a)), some (.int (nI b)), some (.int (s + n)), some (.int (nI (k + 1))), none, none] [] w1 (I, D, RR R) Q) : j_W 126 d 0 0 0 0 121 [some (.ref 204), some (.ref 108), some (.int (nI t)), some (.ref (go R t)), some (.int (nI a)), some (.int (nI b)), some (.int s), some (.int (nI k)), some (.int n), none] [] w1 (I, D, RR R) Q := by
  refine q_aload_n d126_121 rfl ?_
  refine q_getR (x := 207) d126_122 (fs4_18 126 rfl) rfl (lt_w1 rfl) sh204 (rs204_2 R) (by decide) ?_
  refine q_iload d126_125 rfl ?_
  refine q_iaload (a := k) d126_127 (lt_w1 rfl) sh207 rfl (by omega) ?_
  refine q_aload_n d126_128 rfl ?_
  refine q_getI d126_129 (fs4_108 126 rfl) rfl (isG_lt hg) (isG_sh hg) ?_
  refine r_int (y := (nI p)) (show I (go R t) 2 = (nI p) from h2) ?_
  refine q_invSN (av := [.int (I 207 k), .int (nI p)]) (rest := []) (d' := 0) (mc' := 0) (ms' := 0) d126_132 (nv4_55 126 rfl) rfl rfl (by omega) (Nat.le_of_ble_eq_true rfl) (Nat.le_of_ble_eq_true rfl) (Nat.le_refl _) (Nat.le_refl _) ?_
  refine p21  (fun h1 => ?_) (fun h1 => ?_)
  ·
    show j_W 126 d 0 0 0 0 135 [some (.ref 204), some (.ref 108), some (.int (nI t)), some (.ref (go R t)), some (.int (nI a)), some (.int (nI b)), some (.int s), some (.int (nI k)), some (.int n), none] [.int 1] w1 (I, D, RR R) Q
    refine q_if_eq (tgt := 145) d126_135 rfl (fun h => absurd h (by decide)) (fun _ => ?_)
    refine q_iload d126_138 rfl ?_
    refine q_iload d126_140 rfl ?_
    refine q_imul d126_142 ?_
    refine q_istore (L' := [some (.ref 204), some (.ref 108), some (.int (nI t)), some (.ref (go R t)), some (.int (nI a)), some (.int (nI b)), some (.int s), some (.int (nI k)), some (.int (n * (nI a))), none]) d126_143 (Nat.le_of_ble_eq_true rfl) rfl ?_
    refine q_aload_n d126_145 rfl ?_
    refine q_getI d126_146 (fs4_111 126 rfl) rfl (isG_lt hg) (isG_sh hg) ?_
    refine q_iconst (v := (-1)) (by decide) d126_149 ?_
    refine q_icmp_eq (tgt := 177) d126_150 rfl (fun h2t => ?_) (fun h2f => ?_)
    ·
      refine q_iload d126_177 rfl ?_
      refine q_iload d126_179 rfl ?_
      refine q_iadd d126_181 ?_
      refine q_istore (L' := [some (.ref 204), some (.ref 108), some (.int (nI t)), some (.ref (go R t)), some (.int (nI a)), some (.int (nI b)), some (.int (s + (n * (nI a)))), some (.int (nI k)), some (.int (n * (nI a))), none]) d126_182 (Nat.le_of_ble_eq_true rfl) rfl ?_
      refine q_iinc (L' := [some (.ref 204), some (.ref 108), some (.int (nI t)), some (.ref (go R t)), some (.int (nI a)), some (.int (nI b)), some (.int (s + (n * (nI a)))), some (.int (nI (k + 1))), some (.int (n * (nI a))), none]) (v := (nI (k + 1))) d126_184 rfl (nI_inc _) rfl ?_
      refine q_goto (tgt := 27) d126_187 rfl ?_
      exact r_sub (L' := [some (.ref 204), some (.ref 108), some (.int (nI t)), some (.ref (go R t)), some (.int (nI a)), some (.int (nI b)), some (.int (s + (n * (nI a)))), some (.int (nI (k + 1))), none, none]) ⟨rfl, rfl, rfl, rfl, rfl, rfl, rfl, rfl, trivial⟩ (v1 h1 h2t)
    ·
      refine q_aload_n d126_153 rfl ?_
      refine q_getR (x := 207) d126_154 (fs4_18 126 rfl) rfl (lt_w1 rfl) sh204 (rs204_2 R) (by decide) ?_
      refine q_iload d126_157 rfl ?_
      refine q_iaload (a := k) d126_159 (lt_w1 rfl) sh207 rfl (by omega) ?_
      refine q_aload_n d126_160 rfl ?_
      refine q_getI d126_161 (fs4_111 126 rfl) rfl (isG_lt hg) (isG_sh hg) ?_
      refine q_invSN (av := [.int (I 207 k), .int (I (go R t) 3)]) (rest := []) (d' := 0) (mc' := 0) (ms' := 0) d126_164 (nv4_55 126 rfl) rfl rfl (by omega) (Nat.le_of_ble_eq_true rfl) (Nat.le_of_ble_eq_true rfl) (Nat.le_refl _) (Nat.le_refl _) ?_
      refine p21  (fun h3 => ?_) (fun h3 => ?_)
      ·
        show j_W 126 d 0 0 0 0 167 [some (.ref 204), some (.ref 108), some (.int (nI t)), some (.ref (go R t)), some (.int (nI a)), some (.int (nI b)), some (.int s), some (.int (nI k)), some (.int (n * (nI a))), none] [.int 1] w1 (I, D, RR R) Q
        refine q_if_eq (tgt := 177) d126_167 rfl (fun h => absurd h (by decide)) (fun _ => ?_)
        refine q_iload d126_170 rfl ?_
        refine q_iload d126_172 rfl ?_
        refine q_imul d126_174 ?_
        refine q_istore (L' := [some (.ref 204), some (.ref 108), some (.int (nI t)), some (.ref (go R t)), some (.int (nI a)), some (.int (nI b)), some (.int s), some (.int (nI k)), some (.int ((n * (nI a)) * (nI b))), none]) d126_175 (Nat.le_of_ble_eq_true rfl) rfl ?_
        refine q_iload d126_177 rfl ?_
        refine q_iload d126_179 rfl ?_
        refine q_iadd d126_181 ?_
        refine q_istore (L' := [some (.ref 204), some (.ref 108), some (.int (nI t)), some (.ref (go R t)), some (.int (nI a)), some (.int (nI b)), some (.int (s + ((n * (nI a)) * (nI b)))), some (.int (nI k)), some (.int ((n * (nI a)) * (nI b))), none]) d126_182 (Nat.le_of_ble_eq_true rfl) rfl ?_
        refine q_iinc (L' := [some (.ref 204), some (.ref 108), some (.int (nI t)), some (.ref (go R t)), some (.int (nI a)), some (.int (nI b)), some (.int (s + ((n * (nI a)) * (nI b)))), some (.int (nI (k + 1))), some (.int ((n * (nI a)) * (nI b))), none]) (v := (nI (k + 1))) d126_184 rfl (nI_inc _) rfl ?_
        refine q_goto (tgt := 27) d126_187 rfl ?_
        exact r_sub (L' := [some (.ref 204), some (.ref 108), some (.int (nI t)), some (.ref (go R t)), some (.int (nI a)), some (.int (nI b)), some (.int (s + ((n * (nI a)) * (nI b)))), some (.int (nI (k + 1))), none, none]) ⟨rfl, rfl, rfl, rfl, rfl, rfl, rfl, rfl, trivial⟩ (v2 h1 h2f h3)
      ·
        show j_W 126 d 0 0 0 0 167 [some (.ref 204), some (.ref 108), some (.int (nI t)), some (.ref (go R t)), some (.int (nI a)), some (.int (nI b)), some (.int s), some (.int (nI k)), some (.int (n * (nI a))), none] [.int 0] w1 (I, D, RR R) Q
        refine q_if_eq (tgt := 177) d126_167 rfl (fun _ => ?_) (fun h => absurd h (by decide))
        refine q_iload d126_177 rfl ?_
        refine q_iload d126_179 rfl ?_
        refine q_iadd d126_181 ?_
        refine q_istore (L' := [some (.ref 204), some (.ref 108), some (.int (nI t)), some (.ref (go R t)), some (.int (nI a)), some (.int (nI b)), some (.int (s + (n * (nI a)))), some (.int (nI k)), some (.int (n * (nI a))), none]) d126_182 (Nat.le_of_ble_eq_true rfl) rfl ?_
        refine q_iinc (L' := [some (.ref 204), some (.ref 108), some (.int (nI t)), some (.ref (go R t)), some (.int (nI a)), some (.int (nI b)), some (.int (s + (n * (nI a)))), some (.int (nI (k + 1))), some (.int (n * (nI a))), none]) (v := (nI (k + 1))) d126_184 rfl (nI_inc _) rfl ?_
        refine q_goto (tgt := 27) d126_187 rfl ?_
        exact r_sub (L' := [some (.ref 204), some (.ref 108), some (.int (nI t)), some (.ref (go R t)), some (.int (nI a)), some (.int (nI b)), some (.int (s + (n * (nI a)))), some (.int (nI (k + 1))), none, none]) ⟨rfl, rfl, rfl, rfl, rfl, rfl, rfl, rfl, trivial⟩ (v3 h1 h2f h3)
  ·
    show j_W 126 d 0 0 0 0 135 [some (.ref 204), some (.ref 108), some (.int (nI t)), some (.ref (go R t)), some (.int (nI a)), some (.int (nI b)), some (.int s), some (.int (nI k)), some (.int n), none] [.int 0] w1 (I, D, RR R) Q
    refine q_if_eq (tgt := 145) d126_135 rfl (fun _ => ?_) (fun h => absurd h (by decide))
    refine q_aload_n d126_145 rfl ?_
    refine q_getI d126_146 (fs4_111 126 rfl) rfl (isG_lt hg) (isG_sh hg) ?_
    refine q_iconst (v := (-1)) (by decide) d126_149 ?_
    refine q_icmp_eq (tgt := 177) d126_150 rfl (fun h4t => ?_) (fun h4f => ?_)
    ·
      refine q_iload d126_177 rfl ?_
      refine q_iload d126_179 rfl ?_
      refine q_iadd d126_181 ?_
      refine q_istore (L' := [some (.ref 204), some (.ref 108), some (.int (nI t)), some (.ref (go R t)), some (.int (nI a)), some (.int (nI b)), some (.int (s + n)), some (.int (nI k)), some (.int n), none]) d126_182 (Nat.le_of_ble_eq_true rfl) rfl ?_
      refine q_iinc (L' := [some (.ref 204), some (.ref 108), some (.int (nI t)), some (.ref (go R t)), some (.int (nI a)), some (.int (nI b)), some (.int (s + n)), some (.int (nI (k + 1))), some (.int n), none]) (v := (nI (k + 1))) d126_184 rfl (nI_inc _) rfl ?_
      refine q_goto (tgt := 27) d126_187 rfl ?_
      exact r_sub (L' := [some (.ref 204), some (.ref 108), some (.int (nI t)), some (.ref (go R t)), some (.int (nI a)), some (.int (nI b)), some (.int (s + n)), some (.int (nI (k + 1))), none, none]) ⟨rfl, rfl, rfl, rfl, rfl, rfl, rfl, rfl, trivial⟩ (v4 h1 h4t)
    ·
      refine q_aload_n d126_153 rfl ?_
      refine q_getR (x := 207) d126_154 (fs4_18 126 rfl) rfl (lt_w1 rfl) sh204 (rs204_2 R) (by decide) ?_
      refine q_iload d126_157 rfl ?_
      refine q_iaload (a := k) d126_159 (lt_w1 rfl) sh207 rfl (by omega) ?_
      refine q_aload_n d126_160 rfl ?_
      refine q_getI d126_161 (fs4_111 126 rfl) rfl (isG_lt hg) (isG_sh hg) ?_
      refine q_invSN (av := [.int (I 207 k), .int (I (go R t) 3)]) (rest := []) (d' := 0) (mc' := 0) (ms' := 0) d126_164 (nv4_55 126 rfl) rfl rfl (by omega) (Nat.le_of_ble_eq_true rfl) (Nat.le_of_ble_eq_true rfl) (Nat.le_refl _) (Nat.le_refl _) ?_
      refine p21  (fun h5 => ?_) (fun h5 => ?_)
      ·
        show j_W 126 d 0 0 0 0 167 [some (.ref 204), some (.ref 108), some (.int (nI t)), some (.ref (go R t)), some (.int (nI a)), some (.int (nI b)), some (.int s), some (.int (nI k)), some (.int n), none] [.int 1] w1 (I, D, RR R) Q
        refine q_if_eq (tgt := 177) d126_167 rfl (fun h => absurd h (by decide)) (fun _ => ?_)
        refine q_iload d126_170 rfl ?_
        refine q_iload d126_172 rfl ?_
        refine q_imul d126_174 ?_
        refine q_istore (L' := [some (.ref 204), some (.ref 108), some (.int (nI t)), some (.ref (go R t)), some (.int (nI a)), some (.int (nI b)), some (.int s), some (.int (nI k)), some (.int (n * (nI b))), none]) d126_175 (Nat.le_of_ble_eq_true rfl) rfl ?_
        refine q_iload d126_177 rfl ?_
        refine q_iload d126_179 rfl ?_
        refine q_iadd d126_181 ?_
        refine q_istore (L' := [some (.ref 204), some (.ref 108), some (.int (nI t)), some (.ref (go R t)), some (.int (nI a)), some (.int (nI b)), some (.int (s + (n * (nI b)))), some (.int (nI k)), some (.int (n * (nI b))), none]) d126_182 (Nat.le_of_ble_eq_true rfl) rfl ?_
        refine q_iinc (L' := [some (.ref 204), some (.ref 108), some (.int (nI t)), some (.ref (go R t)), some (.int (nI a)), some (.int (nI b)), some (.int (s + (n * (nI b)))), some (.int (nI (k + 1))), some (.int (n * (nI b))), none]) (v := (nI (k + 1))) d126_184 rfl (nI_inc _) rfl ?_
        refine q_goto (tgt := 27) d126_187 rfl ?_
        exact r_sub (L' := [some (.ref 204), some (.ref 108), some (.int (nI t)), some (.ref (go R t)), some (.int (nI a)), some (.int (nI b)), some (.int (s + (n * (nI b)))), some (.int (nI (k + 1))), none, none]) ⟨rfl, rfl, rfl, rfl, rfl, rfl, rfl, rfl, trivial⟩ (v5 h1 h4f h5)
      ·
        show j_W 126 d 0 0 0 0 167 [some (.ref 204), some (.ref 108), some (.int (nI t)), some (.ref (go R t)), some (.int (nI a)), some (.int (nI b)), some (.int s), some (.int (nI k)), some (.int n), none] [.int 0] w1 (I, D, RR R) Q
        refine q_if_eq (tgt := 177) d126_167 rfl (fun _ => ?_) (fun h => absurd h (by decide))
        refine q_iload d126_177 rfl ?_
        refine q_iload d126_179 rfl ?_
        refine q_iadd d126_181 ?_
        refine q_istore (L' := [some (.ref 204), some (.ref 108), some (.int (nI t)), some (.ref (go R t)), some (.int (nI a)), some (.int (nI b)), some (.int (s + n)), some (.int (nI k)), some (.int n), none]) d126_182 (Nat.le_of_ble_eq_true rfl) rfl ?_
        refine q_iinc (L' := [some (.ref 204), some (.ref 108), some (.int (nI t)), some (.ref (go R t)), some (.int (nI a)), some (.int (nI b)), some (.int (s + n)), some (.int (nI (k + 1))), some (.int n), none]) (v := (nI (k + 1))) d126_184 rfl (nI_inc _) rfl ?_
        refine q_goto (tgt := 27) d126_187 rfl ?_
        exact r_sub (L' := [some (.ref 204), some (.ref 108), some (.int (nI t)), some (.ref (go R t)), some (.int (nI a)), some (.int (nI b)), some (.int (s + n)), some (.int (nI (k + 1))), none, none]) ⟨rfl, rfl, rfl, rfl, rfl, rfl, rfl, rfl, trivial⟩ (v6 h1 h4f h5)

set_option maxRecDepth 10000 in
set_option maxHeartbeats 4000000 in
theorem u125e {d : Nat} {I : Nat → Nat → Int32} {D : Nat → Nat → UInt64} {R : Nat → Nat → Option Nat} {Q : j_Po} {t : Nat}   (hd : 2 ≤ d)
    (v1 : j_W 125 d 0 0 0 0 2 [some (.ref 204), some (.ref 108), some (.int (nI t)), some (.int 0), none] [] w1 (I, D, RR R) Q) : j_Call d 125 [.ref 204, .ref 108, .int (nI t)] w1 (I, D, RR R) 0 0 Q := by
  refine q_enter (L := [some (.ref 204), some (.ref 108), some (.int (nI t)), none, none]) j_m125 (Nat.le_of_ble_eq_true rfl) rfl ?_
  refine q_iconst (v := 0) (by decide) d125_0 ?_
  refine q_istore_n (L' := [some (.ref 204), some (.ref 108), some (.int (nI t)), some (.int 0), none]) d125_1 (Nat.le_of_ble_eq_true rfl) rfl ?_
  exact r_sub (L' := [some (.ref 204), some (.ref 108), some (.int (nI t)), some (.int 0), none]) ⟨rfl, rfl, rfl, rfl, trivial⟩ v1

set_option maxRecDepth 10000 in
set_option maxHeartbeats 4000000 in
theorem u264e {d : Nat} {I : Nat → Nat → Int32} {D : Nat → Nat → UInt64} {R : Nat → Nat → Option Nat} {Q : j_Po} {t : Nat} {β : Bd} {X : Nat → Nat → Bool} (ht : t < 6) (h316 : I 316 t = nI (bO β t)) (hd : 60 ≤ d)
    (v1 : ((I 427 t) = 0) → 1 ≤ 1)
    (v2 : ((I 427 t) = 0) → RBN β I)
    (v3 : ((I 427 t) = 0) → RcE β X)
    (v4 : ((I 427 t) = 0) → acyc β)
    (v5 : ((I 427 t) = 0) → bO β t < 24)
    (v6 : ((I 427 t) = 0) → ∀ x2 : Int32, (∀ v, v < 32 → bt x2 v = X (bO β t) v) → j_W 264 d 0 0 0 0 32 [some (.ref 260), some (.int (nI t)), some (.int 0), some (.int x2), some (.int 0), none, none] [] w1 (I, D, RR R) Q)
    (v7 : (¬ (I 427 t) = 0) → Q (some (.int (I 428 t))) w1 (I, D, RR R)) : j_Call d 264 [.ref 260, .int (nI t)] w1 (I, D, RR R) 0 0 Q := by
  refine q_enter (L := [some (.ref 260), some (.int (nI t)), none, none, none, none, none]) j_m264 (Nat.le_of_ble_eq_true rfl) rfl ?_
  refine q_aload_n d264_0 rfl ?_
  refine q_getR (x := 427) d264_1 (fs10_117 264 rfl) rfl (lt_w1 rfl) sh260 (rs260_49 R) (by decide) ?_
  refine q_iload_n d264_4 rfl ?_
  refine q_zaload (a := t) d264_5 (lt_w1 rfl) sh427 rfl (by omega) ?_
  refine q_if_eq (tgt := 16) d264_6 rfl (fun h1t => ?_) (fun h1f => ?_)
  ·
    refine q_iconst (v := 0) (by decide) d264_16 ?_
    refine q_istore_n (L' := [some (.ref 260), some (.int (nI t)), some (.int 0), none, none, none, none]) d264_17 (Nat.le_of_ble_eq_true rfl) rfl ?_
    refine q_aload_n d264_18 rfl ?_
    refine q_aload_n d264_19 rfl ?_
    refine q_getR (x := 316) d264_20 (fs10_37 264 rfl) rfl (lt_w1 rfl) sh260 (rs260_7 R) (by decide) ?_
    refine q_iload_n d264_23 rfl ?_
    refine q_iaload (a := t) d264_24 (lt_w1 rfl) sh316 rfl (by omega) ?_
    refine r_int (y := nI (bO β t)) h316 ?_
    refine q_invV (o := 260) (ci := 10) (av := [.int (nI (bO β t))]) (rest := []) (d' := 1) (mc' := 0) (ms' := 0) d264_25 (cv10_214 264 rfl) rfl (by decide) rfl rfl (by omega) (Nat.le_of_ble_eq_true rfl) (Nat.le_of_ble_eq_true rfl) (lt_w1 rfl) sh260 (Nat.le_refl _) (Nat.le_refl _) ?_
    refine c182 (β := β) (X := X) (v1 h1t) (v2 h1t) (v3 h1t) (v4 h1t) (v5 h1t) (fun x2 h3 => ?_)
    show j_W 264 d 0 0 0 0 28 [some (.ref 260), some (.int (nI t)), some (.int 0), none, none, none, none] [.int x2] w1 (I, D, RR R) Q
    refine q_istore_n (L' := [some (.ref 260), some (.int (nI t)), some (.int 0), some (.int x2), none, none, none]) d264_28 (Nat.le_of_ble_eq_true rfl) rfl ?_
    refine q_iconst (v := 0) (by decide) d264_29 ?_
    refine q_istore (L' := [some (.ref 260), some (.int (nI t)), some (.int 0), some (.int x2), some (.int 0), none, none]) d264_30 (Nat.le_of_ble_eq_true rfl) rfl ?_
    exact r_sub (L' := [some (.ref 260), some (.int (nI t)), some (.int 0), some (.int x2), some (.int 0), none, none]) ⟨rfl, rfl, rfl, rfl, rfl, trivial⟩ (v6 h1t x2 h3)
  ·
    refine q_aload_n d264_9 rfl ?_
    refine q_getR (x := 428) d264_10 (fs10_120 264 rfl) rfl (lt_w1 rfl) sh260 (rs260_50 R) (by decide) ?_
    refine q_iload_n d264_13 rfl ?_
    refine q_iaload (a := t) d264_14 (lt_w1 rfl) sh428 rfl (by omega) ?_
    exact q_iret d264_15 rfl (Nat.le_refl _) (Nat.le_refl _) (v7 h1f)

set_option maxRecDepth 10000 in
set_option maxHeartbeats 4000000 in
theorem u264h {d : Nat} {I : Nat → Nat → Int32} {D : Nat → Nat → UInt64} {R : Nat → Nat → Option Nat} {Q : j_Po} {t : Nat} {s : Int32} {y : Int32} {k : Nat}  (ht : t < 6) (hk : k ≤ 24) (hd : 60 ≤ d)
    (v1 : (24 ≤ k) → Q (some (.int s)) w1 ((j_u (j_u I 427 t 1) 428 t s), D, RR R))
    (v2 : (¬ 24 ≤ k) → (((y >>> ((nI k) &&& 31)) &&& 1) = 0) → j_W 264 d 0 0 0 0 32 [some (.ref 260), some (.int (nI t)), some (.int s), some (.int y), some (.int (nI (k + 1))), none, none] [] w1 (I, D, RR R) Q)
    (v3 : (¬ 24 ≤ k) → (¬ ((y >>> ((nI k) &&& 31)) &&& 1) = 0) → (¬ (I 264 k) = 0) → j_W 264 d 0 0 0 0 66 [some (.ref 260), some (.int (nI t)), some (.int s), some (.int y), some (.int (nI k)), some (.int 1), some (.int 0)] [] w1 (I, D, RR R) Q)
    (v4 : (¬ 24 ≤ k) → (¬ ((y >>> ((nI k) &&& 31)) &&& 1) = 0) → ((I 264 k) = 0) → j_W 264 d 0 0 0 0 32 [some (.ref 260), some (.int (nI t)), some (.int s), some (.int y), some (.int (nI (k + 1))), none, none] [] w1 (I, D, RR R) Q) : j_W 264 d 0 0 0 0 32 [some (.ref 260), some (.int (nI t)), some (.int s), some (.int y), some (.int (nI k)), none, none] [] w1 (I, D, RR R) Q := by
  refine q_iload d264_32 rfl ?_
  refine q_bipush (v := 24) (by decide) d264_34 ?_
  refine q_icmp_ge (tgt := 201) d264_36 rfl (fun h1t => ?_) (fun h1f => ?_)
  ·
    have h1tc : 24 ≤ k := (nI_leI (by omega) (by omega)).mp h1t
    refine q_aload_n d264_201 rfl ?_
    refine q_getR (x := 427) d264_202 (fs10_117 264 rfl) rfl (lt_w1 rfl) sh260 (rs260_49 R) (by decide) ?_
    refine q_iload_n d264_205 rfl ?_
    refine q_iconst (v := 1) (by decide) d264_206 ?_
    refine q_zastore (a := t) d264_207 (Or.inr rfl) (lt_w1 rfl) sh427 rfl (by omega) ?_
    refine q_aload_n d264_208 rfl ?_
    refine q_getR (x := 428) d264_209 (fs10_120 264 rfl) rfl (lt_w1 rfl) sh260 (rs260_50 R) (by decide) ?_
    refine q_iload_n d264_212 rfl ?_
    refine q_iload_n d264_213 rfl ?_
    refine q_iastore (a := t) d264_214 (lt_w1 rfl) sh428 rfl (by omega) ?_
    refine q_iload_n d264_215 rfl ?_
    exact q_iret d264_216 rfl (Nat.le_refl _) (Nat.le_refl _) (v1 h1tc)
  ·
    have h1fc : ¬ 24 ≤ k := mt (nI_leI (by omega) (by omega)).mpr h1f
    refine q_iload_n d264_39 rfl ?_
    refine q_iload d264_40 rfl ?_
    refine q_ishr d264_42 ?_
    refine q_iconst (v := 1) (by decide) d264_43 ?_
    refine q_iand d264_44 ?_
    refine q_if_eq (tgt := 195) d264_45 rfl (fun h2t => ?_) (fun h2f => ?_)
    ·
      refine q_iinc (L' := [some (.ref 260), some (.int (nI t)), some (.int s), some (.int y), some (.int (nI (k + 1))), none, none]) (v := (nI (k + 1))) d264_195 rfl (nI_inc _) rfl ?_
      refine q_goto (tgt := 32) d264_198 rfl ?_
      exact r_sub (L' := [some (.ref 260), some (.int (nI t)), some (.int s), some (.int y), some (.int (nI (k + 1))), none, none]) ⟨rfl, rfl, rfl, rfl, rfl, trivial⟩ (v2 h1fc h2t)
    ·
      refine q_aload_n d264_48 rfl ?_
      refine q_iload d264_49 rfl ?_
      refine q_invV (o := 260) (ci := 10) (av := [.int (nI k)]) (rest := []) (d' := 0) (mc' := 0) (ms' := 0) d264_51 (cv10_204 264 rfl) rfl (by decide) rfl rfl (by omega) (Nat.le_of_ble_eq_true rfl) (Nat.le_of_ble_eq_true rfl) (lt_w1 rfl) sh260 (Nat.le_refl _) (Nat.le_refl _) ?_
      refine s170 (k := k) (by first | omega | decide) (Nat.le_refl _) (fun c3 => ?_) (fun c4 => ?_)
      ·
        show j_W 264 d 0 0 0 0 54 [some (.ref 260), some (.int (nI t)), some (.int s), some (.int y), some (.int (nI k)), none, none] [.int 0] w1 (I, D, RR R) Q
        refine q_if_eq (tgt := 60) d264_54 rfl (fun _ => ?_) (fun h => absurd h (by decide))
        refine q_iconst (v := 1) (by decide) d264_60 ?_
        refine q_istore (L' := [some (.ref 260), some (.int (nI t)), some (.int s), some (.int y), some (.int (nI k)), some (.int 1), none]) d264_61 (Nat.le_of_ble_eq_true rfl) rfl ?_
        refine q_iconst (v := 0) (by decide) d264_63 ?_
        refine q_istore (L' := [some (.ref 260), some (.int (nI t)), some (.int s), some (.int y), some (.int (nI k)), some (.int 1), some (.int 0)]) d264_64 (Nat.le_of_ble_eq_true rfl) rfl ?_
        exact r_sub (L' := [some (.ref 260), some (.int (nI t)), some (.int s), some (.int y), some (.int (nI k)), some (.int 1), some (.int 0)]) ⟨rfl, rfl, rfl, rfl, rfl, rfl, rfl, trivial⟩ (v3 h1fc h2f c3)
      ·
        show j_W 264 d 0 0 0 0 54 [some (.ref 260), some (.int (nI t)), some (.int s), some (.int y), some (.int (nI k)), none, none] [.int 1] w1 (I, D, RR R) Q
        refine q_if_eq (tgt := 60) d264_54 rfl (fun h => absurd h (by decide)) (fun _ => ?_)
        refine q_goto (tgt := 195) d264_57 rfl ?_
        refine q_iinc (L' := [some (.ref 260), some (.int (nI t)), some (.int s), some (.int y), some (.int (nI (k + 1))), none, none]) (v := (nI (k + 1))) d264_195 rfl (nI_inc _) rfl ?_
        refine q_goto (tgt := 32) d264_198 rfl ?_
        exact r_sub (L' := [some (.ref 260), some (.int (nI t)), some (.int s), some (.int y), some (.int (nI (k + 1))), none, none]) ⟨rfl, rfl, rfl, rfl, rfl, trivial⟩ (v4 h1fc h2f c4)

set_option maxRecDepth 10000 in
set_option maxHeartbeats 4000000 in
theorem u264i {d : Nat} {I : Nat → Nat → Int32} {D : Nat → Nat → UInt64} {R : Nat → Nat → Option Nat} {Q : j_Po} {t : Nat} {s : Int32} {y : Int32} {k : Nat} {n : Int32} {u : Nat} {β : Bd} {Lv : Nat → Int32} {ρ : Nat → Nat} (ht : t < 6) (hk : k < 24) (hu : u ≤ 6) (hrec : LeC β Lv ρ (ρ (24 + t))) (hd : 60 ≤ d)
    (v1 : (6 ≤ u) → j_W 264 d 0 0 0 0 120 [some (.ref 260), some (.int (nI t)), some (.int s), some (.int y), some (.int (nI k)), some (.int n), none] [] w1 (I, D, RR R) Q)
    (v2 : (¬ 6 ≤ u) → ((I 315 u) = 0) → j_W 264 d 0 0 0 0 66 [some (.ref 260), some (.int (nI t)), some (.int s), some (.int y), some (.int (nI k)), some (.int n), some (.int (nI (u + 1)))] [] w1 (I, D, RR R) Q)
    (v3 : (¬ 6 ≤ u) → (¬ (I 315 u) = 0) → ((I (335 + k) u) ≤ 0) → j_W 264 d 0 0 0 0 66 [some (.ref 260), some (.int (nI t)), some (.int s), some (.int y), some (.int (nI k)), some (.int n), some (.int (nI (u + 1)))] [] w1 (I, D, RR R) Q)
    (v4 : (¬ 6 ≤ u) → (¬ (I 315 u) = 0) → (¬ (I (335 + k) u) ≤ 0) → bL β u = true)
    (v5 : (¬ 6 ≤ u) → (¬ (I 315 u) = 0) → (¬ (I (335 + k) u) ≤ 0) → ρ (24 + u) < ρ (24 + t))
    (v6 : (¬ 6 ≤ u) → (¬ (I 315 u) = 0) → (¬ (I (335 + k) u) ≤ 0) → ρ (24 + u) + 60 ≤ d - 1)
    (v7 : (¬ 6 ≤ u) → (¬ (I 315 u) = 0) → (¬ (I (335 + k) u) ≤ 0) → MLe Lv I)
    (v8 : (¬ 6 ≤ u) → (¬ (I 315 u) = 0) → (¬ (I (335 + k) u) ≤ 0) → RSt β I D)
    (v9 : (¬ 6 ≤ u) → (¬ (I 315 u) = 0) → (¬ (I (335 + k) u) ≤ 0) → RBN β I)
    (v10 : (¬ 6 ≤ u) → (¬ (I 315 u) = 0) → (¬ (I (335 + k) u) ≤ 0) → ∀ J4 : Nat → Nat → Int32, (FLe I J4) → (MLe Lv J4) → (RBN β J4) → j_W 264 d 0 0 0 0 66 [some (.ref 260), some (.int (nI t)), some (.int s), some (.int y), some (.int (nI k)), some (.int (n + ((I (335 + k) u) * (Lv u)))), some (.int (nI (u + 1)))] [] w1 (J4, D, RR R) Q) : j_W 264 d 0 0 0 0 66 [some (.ref 260), some (.int (nI t)), some (.int s), some (.int y), some (.int (nI k)), some (.int n), some (.int (nI u))] [] w1 (I, D, RR R) Q := by
  refine q_iload d264_66 rfl ?_
  refine q_bipush (v := 6) (by decide) d264_68 ?_
  refine q_icmp_ge (tgt := 120) d264_70 rfl (fun h1t => ?_) (fun h1f => ?_)
  ·
    have h1tc : 6 ≤ u := (nI_leI (by omega) (by omega)).mp h1t
    exact r_sub (L' := [some (.ref 260), some (.int (nI t)), some (.int s), some (.int y), some (.int (nI k)), some (.int n), none]) ⟨rfl, rfl, rfl, rfl, rfl, rfl, trivial⟩ (v1 h1tc)
  ·
    have h1fc : ¬ 6 ≤ u := mt (nI_leI (by omega) (by omega)).mpr h1f
    refine q_aload_n d264_73 rfl ?_
    refine q_getR (x := 315) d264_74 (fs10_34 264 rfl) rfl (lt_w1 rfl) sh260 (rs260_6 R) (by decide) ?_
    refine q_iload d264_77 rfl ?_
    refine q_zaload (a := u) d264_79 (lt_w1 rfl) sh315 rfl (by omega) ?_
    refine q_if_eq (tgt := 114) d264_80 rfl (fun h2t => ?_) (fun h2f => ?_)
    ·
      refine q_iinc (L' := [some (.ref 260), some (.int (nI t)), some (.int s), some (.int y), some (.int (nI k)), some (.int n), some (.int (nI (u + 1)))]) (v := (nI (u + 1))) d264_114 rfl (nI_inc _) rfl ?_
      refine q_goto (tgt := 66) d264_117 rfl ?_
      exact r_sub (L' := [some (.ref 260), some (.int (nI t)), some (.int s), some (.int y), some (.int (nI k)), some (.int n), some (.int (nI (u + 1)))]) ⟨rfl, rfl, rfl, rfl, rfl, rfl, rfl, trivial⟩ (v2 h1fc h2t)
    ·
      refine q_aload_n d264_83 rfl ?_
      refine q_iload d264_84 rfl ?_
      refine q_iload d264_86 rfl ?_
      refine q_invV (o := 260) (ci := 10) (av := [.int (nI k), .int (nI u)]) (rest := []) (d' := 0) (mc' := 0) (ms' := 0) d264_88 (cv10_200 264 rfl) rfl (by decide) rfl rfl (by omega) (Nat.le_of_ble_eq_true rfl) (Nat.le_of_ble_eq_true rfl) (lt_w1 rfl) sh260 (Nat.le_refl _) (Nat.le_refl _) ?_
      refine s180 (k := k) (t := u) (by first | omega | decide) (by first | omega | decide) (Nat.le_refl _) ?_
      show j_W 264 d 0 0 0 0 91 [some (.ref 260), some (.int (nI t)), some (.int s), some (.int y), some (.int (nI k)), some (.int n), some (.int (nI u))] [.int (I (335 + k) u)] w1 (I, D, RR R) Q
      refine q_if_le (tgt := 114) d264_91 rfl (fun h3t => ?_) (fun h3f => ?_)
      ·
        refine q_iinc (L' := [some (.ref 260), some (.int (nI t)), some (.int s), some (.int y), some (.int (nI k)), some (.int n), some (.int (nI (u + 1)))]) (v := (nI (u + 1))) d264_114 rfl (nI_inc _) rfl ?_
        refine q_goto (tgt := 66) d264_117 rfl ?_
        exact r_sub (L' := [some (.ref 260), some (.int (nI t)), some (.int s), some (.int y), some (.int (nI k)), some (.int n), some (.int (nI (u + 1)))]) ⟨rfl, rfl, rfl, rfl, rfl, rfl, rfl, trivial⟩ (v3 h1fc h2f h3t)
      ·
        refine q_iload d264_94 rfl ?_
        refine q_aload_n d264_96 rfl ?_
        refine q_iload d264_97 rfl ?_
        refine q_iload d264_99 rfl ?_
        refine q_invV (o := 260) (ci := 10) (av := [.int (nI k), .int (nI u)]) (rest := [.int n]) (d' := 0) (mc' := 0) (ms' := 0) d264_101 (cv10_200 264 rfl) rfl (by decide) rfl rfl (by omega) (Nat.le_of_ble_eq_true rfl) (Nat.le_of_ble_eq_true rfl) (lt_w1 rfl) sh260 (Nat.le_refl _) (Nat.le_refl _) ?_
        refine s180 (k := k) (t := u) (by first | omega | decide) (by first | omega | decide) (Nat.le_refl _) ?_
        show j_W 264 d 0 0 0 0 104 [some (.ref 260), some (.int (nI t)), some (.int s), some (.int y), some (.int (nI k)), some (.int n), some (.int (nI u))] [.int (I (335 + k) u), .int n] w1 (I, D, RR R) Q
        refine q_aload_n d264_104 rfl ?_
        refine q_iload d264_105 rfl ?_
        refine q_invV (o := 260) (ci := 10) (av := [.int (nI u)]) (rest := [.int (I (335 + k) u), .int n]) (d' := (d - 1)) (mc' := 0) (ms' := 0) d264_107 (cv10_498 264 rfl) rfl (by decide) rfl rfl (by omega) (Nat.le_of_ble_eq_true rfl) (Nat.le_of_ble_eq_true rfl) (lt_w1 rfl) sh260 (Nat.le_refl _) (Nat.le_refl _) ?_
        refine hrec u (by omega) (v4 h1fc h2f h3f) (v5 h1fc h2f h3f) (v6 h1fc h2f h3f) (v7 h1fc h2f h3f) (v8 h1fc h2f h3f) (v9 h1fc h2f h3f) (fun J4 j5 j6 j7 => ?_)
        show j_W 264 d 0 0 0 0 110 [some (.ref 260), some (.int (nI t)), some (.int s), some (.int y), some (.int (nI k)), some (.int n), some (.int (nI u))] [.int (Lv u), .int (I (335 + k) u), .int n] w1 (J4, D, RR R) Q
        refine q_imul d264_110 ?_
        refine q_iadd d264_111 ?_
        refine q_istore (L' := [some (.ref 260), some (.int (nI t)), some (.int s), some (.int y), some (.int (nI k)), some (.int (n + ((I (335 + k) u) * (Lv u)))), some (.int (nI u))]) d264_112 (Nat.le_of_ble_eq_true rfl) rfl ?_
        refine q_iinc (L' := [some (.ref 260), some (.int (nI t)), some (.int s), some (.int y), some (.int (nI k)), some (.int (n + ((I (335 + k) u) * (Lv u)))), some (.int (nI (u + 1)))]) (v := (nI (u + 1))) d264_114 rfl (nI_inc _) rfl ?_
        refine q_goto (tgt := 66) d264_117 rfl ?_
        exact r_sub (L' := [some (.ref 260), some (.int (nI t)), some (.int s), some (.int y), some (.int (nI k)), some (.int (n + ((I (335 + k) u) * (Lv u)))), some (.int (nI (u + 1)))]) ⟨rfl, rfl, rfl, rfl, rfl, rfl, rfl, trivial⟩ (v10 h1fc h2f h3f J4 j5 j6 j7)

set_option maxRecDepth 10000 in
set_option maxHeartbeats 4000000 in
theorem u264j {d : Nat} {I : Nat → Nat → Int32} {D : Nat → Nat → UInt64} {R : Nat → Nat → Option Nat} {Q : j_Po} {t : Nat} {s : Int32} {y : Int32} {k : Nat} {n : Int32} {β : Bd} {rd : Nat → Int32} (hV : BV β) (hk : k < 24) (hd : 60 ≤ d)
    (v1 : RdE β rd)
    (v2 : k < 24)
    (v3 : 40 ≤ 40)
    (v4 : RBN β I)
    (v5 : ∀ J1 : Nat → Nat → Int32, (∀ o, o ≠ 359 → o ≠ 360 → J1 o = I o) → (RBN β J1) → j_W 264 d 0 0 0 0 128 [some (.ref 260), some (.int (nI t)), some (.int s), some (.int y), some (.int (nI k)), some (.int n), some (.int (rd k))] [] w1 (J1, D, RR R) Q) : j_W 264 d 0 0 0 0 120 [some (.ref 260), some (.int (nI t)), some (.int s), some (.int y), some (.int (nI k)), some (.int n), none] [] w1 (I, D, RR R) Q := by
  refine q_aload_n d264_120 rfl ?_
  refine q_iload d264_121 rfl ?_
  refine q_invV (o := 260) (ci := 10) (av := [.int (nI k)]) (rest := []) (d' := 40) (mc' := 0) (ms' := 0) d264_123 (cv10_323 264 rfl) rfl (by decide) rfl rfl (by omega) (Nat.le_of_ble_eq_true rfl) (Nat.le_of_ble_eq_true rfl) (lt_w1 rfl) sh260 (Nat.le_refl _) (Nat.le_refl _) ?_
  refine c177 (rd := rd) hV v1 v2 v3 v4 (fun J1 h2 h3 => ?_)
  show j_W 264 d 0 0 0 0 126 [some (.ref 260), some (.int (nI t)), some (.int s), some (.int y), some (.int (nI k)), some (.int n), none] [.int (rd k)] w1 (J1, D, RR R) Q
  refine q_istore (L' := [some (.ref 260), some (.int (nI t)), some (.int s), some (.int y), some (.int (nI k)), some (.int n), some (.int (rd k))]) d264_126 (Nat.le_of_ble_eq_true rfl) rfl ?_
  exact r_sub (L' := [some (.ref 260), some (.int (nI t)), some (.int s), some (.int y), some (.int (nI k)), some (.int n), some (.int (rd k))]) ⟨rfl, rfl, rfl, rfl, rfl, rfl, rfl, trivial⟩ (v5 J1 h2 h3)

set_option maxRecDepth 10000 in
set_option maxHeartbeats 4000000 in
theorem u264k {d : Nat} {I : Nat → Nat → Int32} {D : Nat → Nat → UInt64} {R : Nat → Nat → Option Nat} {Q : j_Po} {t : Nat} {s : Int32} {y : Int32} {k : Nat} {n : Int32} {z : Int32} {β : Bd} {p : Nat} (hV : BV β) (ht : t < 6) (hk : k < 24) (h317 : I 317 t = nI p) (hd : 60 ≤ d)
    (v1 : (¬ ((z >>> ((nI p) &&& 31)) &&& 1) = 1) → ((I 318 t) = (-1)) → j_W 264 d 0 0 0 0 32 [some (.ref 260), some (.int (nI t)), some (.int (s + n)), some (.int y), some (.int (nI (k + 1))), none, none] [] w1 (I, D, RR R) Q)
    (v2 : (¬ ((z >>> ((nI p) &&& 31)) &&& 1) = 1) → (¬ (I 318 t) = (-1)) → (¬ ((z >>> ((I 318 t) &&& 31)) &&& 1) = 1) → j_W 264 d 0 0 0 0 32 [some (.ref 260), some (.int (nI t)), some (.int (s + n)), some (.int y), some (.int (nI (k + 1))), none, none] [] w1 (I, D, RR R) Q)
    (v3 : (¬ ((z >>> ((nI p) &&& 31)) &&& 1) = 1) → (¬ (I 318 t) = (-1)) → (((z >>> ((I 318 t) &&& 31)) &&& 1) = 1) → RSt β I D)
    (v4 : (¬ ((z >>> ((nI p) &&& 31)) &&& 1) = 1) → (¬ (I 318 t) = (-1)) → (((z >>> ((I 318 t) &&& 31)) &&& 1) = 1) → t < 6)
    (v5 : (¬ ((z >>> ((nI p) &&& 31)) &&& 1) = 1) → (¬ (I 318 t) = (-1)) → (((z >>> ((I 318 t) &&& 31)) &&& 1) = 1) → bL β t = true)
    (v6 : (¬ ((z >>> ((nI p) &&& 31)) &&& 1) = 1) → (¬ (I 318 t) = (-1)) → (((z >>> ((I 318 t) &&& 31)) &&& 1) = 1) → j_W 264 d 0 0 0 0 32 [some (.ref 260), some (.int (nI t)), some (.int (s + (n * (nI (u2V β t))))), some (.int y), some (.int (nI (k + 1))), none, none] [] w1 (I, D, RR R) Q)
    (v7 : (((z >>> ((nI p) &&& 31)) &&& 1) = 1) → RSt β I D)
    (v8 : (((z >>> ((nI p) &&& 31)) &&& 1) = 1) → t < 6)
    (v9 : (((z >>> ((nI p) &&& 31)) &&& 1) = 1) → bL β t = true)
    (v10 : (((z >>> ((nI p) &&& 31)) &&& 1) = 1) → ((I 318 t) = (-1)) → j_W 264 d 0 0 0 0 32 [some (.ref 260), some (.int (nI t)), some (.int (s + (n * (nI (u1V β t))))), some (.int y), some (.int (nI (k + 1))), none, none] [] w1 (I, D, RR R) Q)
    (v11 : (((z >>> ((nI p) &&& 31)) &&& 1) = 1) → (¬ (I 318 t) = (-1)) → (¬ ((z >>> ((I 318 t) &&& 31)) &&& 1) = 1) → j_W 264 d 0 0 0 0 32 [some (.ref 260), some (.int (nI t)), some (.int (s + (n * (nI (u1V β t))))), some (.int y), some (.int (nI (k + 1))), none, none] [] w1 (I, D, RR R) Q)
    (v12 : (((z >>> ((nI p) &&& 31)) &&& 1) = 1) → (¬ (I 318 t) = (-1)) → (((z >>> ((I 318 t) &&& 31)) &&& 1) = 1) → j_W 264 d 0 0 0 0 32 [some (.ref 260), some (.int (nI t)), some (.int (s + ((n * (nI (u1V β t))) * (nI (u2V β t))))), some (.int y), some (.int (nI (k + 1))), none, none] [] w1 (I, D, RR R) Q) : j_W 264 d 0 0 0 0 128 [some (.ref 260), some (.int (nI t)), some (.int s), some (.int y), some (.int (nI k)), some (.int n), some (.int z)] [] w1 (I, D, RR R) Q := by
  refine q_iload d264_128 rfl ?_
  refine q_aload_n d264_130 rfl ?_
  refine q_getR (x := 317) d264_131 (fs10_40 264 rfl) rfl (lt_w1 rfl) sh260 (rs260_8 R) (by decide) ?_
  refine q_iload_n d264_134 rfl ?_
  refine q_iaload (a := t) d264_135 (lt_w1 rfl) sh317 rfl (by omega) ?_
  refine r_int (y := nI p) h317 ?_
  refine q_ishr d264_136 ?_
  refine q_iconst (v := 1) (by decide) d264_137 ?_
  refine q_iand d264_138 ?_
  refine q_iconst (v := 1) (by decide) d264_139 ?_
  refine q_icmp_ne (tgt := 154) d264_140 rfl (fun h1t => ?_) (fun h1f => ?_)
  ·
    refine q_aload_n d264_154 rfl ?_
    refine q_getR (x := 318) d264_155 (fs10_43 264 rfl) rfl (lt_w1 rfl) sh260 (rs260_9 R) (by decide) ?_
    refine q_iload_n d264_158 rfl ?_
    refine q_iaload (a := t) d264_159 (lt_w1 rfl) sh318 rfl (by omega) ?_
    refine q_iconst (v := (-1)) (by decide) d264_160 ?_
    refine q_icmp_eq (tgt := 190) d264_161 rfl (fun h2t => ?_) (fun h2f => ?_)
    ·
      refine q_iload_n d264_190 rfl ?_
      refine q_iload d264_191 rfl ?_
      refine q_iadd d264_193 ?_
      refine q_istore_n (L' := [some (.ref 260), some (.int (nI t)), some (.int (s + n)), some (.int y), some (.int (nI k)), some (.int n), some (.int z)]) d264_194 (Nat.le_of_ble_eq_true rfl) rfl ?_
      refine q_iinc (L' := [some (.ref 260), some (.int (nI t)), some (.int (s + n)), some (.int y), some (.int (nI (k + 1))), some (.int n), some (.int z)]) (v := (nI (k + 1))) d264_195 rfl (nI_inc _) rfl ?_
      refine q_goto (tgt := 32) d264_198 rfl ?_
      exact r_sub (L' := [some (.ref 260), some (.int (nI t)), some (.int (s + n)), some (.int y), some (.int (nI (k + 1))), none, none]) ⟨rfl, rfl, rfl, rfl, rfl, trivial⟩ (v1 h1t h2t)
    ·
      refine q_iload d264_164 rfl ?_
      refine q_aload_n d264_166 rfl ?_
      refine q_getR (x := 318) d264_167 (fs10_43 264 rfl) rfl (lt_w1 rfl) sh260 (rs260_9 R) (by decide) ?_
      refine q_iload_n d264_170 rfl ?_
      refine q_iaload (a := t) d264_171 (lt_w1 rfl) sh318 rfl (by omega) ?_
      refine q_ishr d264_172 ?_
      refine q_iconst (v := 1) (by decide) d264_173 ?_
      refine q_iand d264_174 ?_
      refine q_iconst (v := 1) (by decide) d264_175 ?_
      refine q_icmp_ne (tgt := 190) d264_176 rfl (fun h3t => ?_) (fun h3f => ?_)
      ·
        refine q_iload_n d264_190 rfl ?_
        refine q_iload d264_191 rfl ?_
        refine q_iadd d264_193 ?_
        refine q_istore_n (L' := [some (.ref 260), some (.int (nI t)), some (.int (s + n)), some (.int y), some (.int (nI k)), some (.int n), some (.int z)]) d264_194 (Nat.le_of_ble_eq_true rfl) rfl ?_
        refine q_iinc (L' := [some (.ref 260), some (.int (nI t)), some (.int (s + n)), some (.int y), some (.int (nI (k + 1))), some (.int n), some (.int z)]) (v := (nI (k + 1))) d264_195 rfl (nI_inc _) rfl ?_
        refine q_goto (tgt := 32) d264_198 rfl ?_
        exact r_sub (L' := [some (.ref 260), some (.int (nI t)), some (.int (s + n)), some (.int y), some (.int (nI (k + 1))), none, none]) ⟨rfl, rfl, rfl, rfl, rfl, trivial⟩ (v2 h1t h2f h3t)
      ·
        refine q_iload d264_179 rfl ?_
        refine q_aload_n d264_181 rfl ?_
        refine q_iload_n d264_182 rfl ?_
        refine q_iconst (v := 1) (by decide) d264_183 ?_
        refine q_invV (o := 260) (ci := 10) (av := [.int (nI t), .int 1]) (rest := [.int n]) (d' := 5) (mc' := 0) (ms' := 0) d264_184 (cv10_501 264 rfl) rfl (by decide) rfl rfl (by omega) (Nat.le_of_ble_eq_true rfl) (Nat.le_of_ble_eq_true rfl) (lt_w1 rfl) sh260 (Nat.le_refl _) (Nat.le_refl _) ?_
        refine c263_1 (β := β) (Nat.le_refl 5) hV (v3 h1t h2f h3f) (v4 h1t h2f h3f) (v5 h1t h2f h3f) ?_
        show j_W 264 d 0 0 0 0 187 [some (.ref 260), some (.int (nI t)), some (.int s), some (.int y), some (.int (nI k)), some (.int n), some (.int z)] [.int (nI (u2V β t)), .int n] w1 (I, D, RR R) Q
        refine q_imul d264_187 ?_
        refine q_istore (L' := [some (.ref 260), some (.int (nI t)), some (.int s), some (.int y), some (.int (nI k)), some (.int (n * (nI (u2V β t)))), some (.int z)]) d264_188 (Nat.le_of_ble_eq_true rfl) rfl ?_
        refine q_iload_n d264_190 rfl ?_
        refine q_iload d264_191 rfl ?_
        refine q_iadd d264_193 ?_
        refine q_istore_n (L' := [some (.ref 260), some (.int (nI t)), some (.int (s + (n * (nI (u2V β t))))), some (.int y), some (.int (nI k)), some (.int (n * (nI (u2V β t)))), some (.int z)]) d264_194 (Nat.le_of_ble_eq_true rfl) rfl ?_
        refine q_iinc (L' := [some (.ref 260), some (.int (nI t)), some (.int (s + (n * (nI (u2V β t))))), some (.int y), some (.int (nI (k + 1))), some (.int (n * (nI (u2V β t)))), some (.int z)]) (v := (nI (k + 1))) d264_195 rfl (nI_inc _) rfl ?_
        refine q_goto (tgt := 32) d264_198 rfl ?_
        exact r_sub (L' := [some (.ref 260), some (.int (nI t)), some (.int (s + (n * (nI (u2V β t))))), some (.int y), some (.int (nI (k + 1))), none, none]) ⟨rfl, rfl, rfl, rfl, rfl, trivial⟩ (v6 h1t h2f h3f)
  ·
    refine q_iload d264_143 rfl ?_
    refine q_aload_n d264_145 rfl ?_
    refine q_iload_n d264_146 rfl ?_
    refine q_iconst (v := 0) (by decide) d264_147 ?_
    refine q_invV (o := 260) (ci := 10) (av := [.int (nI t), .int 0]) (rest := [.int n]) (d' := 5) (mc' := 0) (ms' := 0) d264_148 (cv10_501 264 rfl) rfl (by decide) rfl rfl (by omega) (Nat.le_of_ble_eq_true rfl) (Nat.le_of_ble_eq_true rfl) (lt_w1 rfl) sh260 (Nat.le_refl _) (Nat.le_refl _) ?_
    refine c263_0 (β := β) (Nat.le_refl 5) hV (v7 h1f) (v8 h1f) (v9 h1f) ?_
    show j_W 264 d 0 0 0 0 151 [some (.ref 260), some (.int (nI t)), some (.int s), some (.int y), some (.int (nI k)), some (.int n), some (.int z)] [.int (nI (u1V β t)), .int n] w1 (I, D, RR R) Q
    refine q_imul d264_151 ?_
    refine q_istore (L' := [some (.ref 260), some (.int (nI t)), some (.int s), some (.int y), some (.int (nI k)), some (.int (n * (nI (u1V β t)))), some (.int z)]) d264_152 (Nat.le_of_ble_eq_true rfl) rfl ?_
    refine q_aload_n d264_154 rfl ?_
    refine q_getR (x := 318) d264_155 (fs10_43 264 rfl) rfl (lt_w1 rfl) sh260 (rs260_9 R) (by decide) ?_
    refine q_iload_n d264_158 rfl ?_
    refine q_iaload (a := t) d264_159 (lt_w1 rfl) sh318 rfl (by omega) ?_
    refine q_iconst (v := (-1)) (by decide) d264_160 ?_
    refine q_icmp_eq (tgt := 190) d264_161 rfl (fun h4t => ?_) (fun h4f => ?_)
    ·
      refine q_iload_n d264_190 rfl ?_
      refine q_iload d264_191 rfl ?_
      refine q_iadd d264_193 ?_
      refine q_istore_n (L' := [some (.ref 260), some (.int (nI t)), some (.int (s + (n * (nI (u1V β t))))), some (.int y), some (.int (nI k)), some (.int (n * (nI (u1V β t)))), some (.int z)]) d264_194 (Nat.le_of_ble_eq_true rfl) rfl ?_
      refine q_iinc (L' := [some (.ref 260), some (.int (nI t)), some (.int (s + (n * (nI (u1V β t))))), some (.int y), some (.int (nI (k + 1))), some (.int (n * (nI (u1V β t)))), some (.int z)]) (v := (nI (k + 1))) d264_195 rfl (nI_inc _) rfl ?_
      refine q_goto (tgt := 32) d264_198 rfl ?_
      exact r_sub (L' := [some (.ref 260), some (.int (nI t)), some (.int (s + (n * (nI (u1V β t))))), some (.int y), some (.int (nI (k + 1))), none, none]) ⟨rfl, rfl, rfl, rfl, rfl, trivial⟩ (v10 h1f h4t)
    ·
      refine q_iload d264_164 rfl ?_
      refine q_aload_n d264_166 rfl ?_
      refine q_getR (x := 318) d264_167 (fs10_43 264 rfl) rfl (lt_w1 rfl) sh260 (rs260_9 R) (by decide) ?_
      refine q_iload_n d264_170 rfl ?_
      refine q_iaload (a := t) d264_171 (lt_w1 rfl) sh318 rfl (by omega) ?_
      refine q_ishr d264_172 ?_
      refine q_iconst (v := 1) (by decide) d264_173 ?_
      refine q_iand d264_174 ?_
      refine q_iconst (v := 1) (by decide) d264_175 ?_
      refine q_icmp_ne (tgt := 190) d264_176 rfl (fun h5t => ?_) (fun h5f => ?_)
      ·
        refine q_iload_n d264_190 rfl ?_
        refine q_iload d264_191 rfl ?_
        refine q_iadd d264_193 ?_
        refine q_istore_n (L' := [some (.ref 260), some (.int (nI t)), some (.int (s + (n * (nI (u1V β t))))), some (.int y), some (.int (nI k)), some (.int (n * (nI (u1V β t)))), some (.int z)]) d264_194 (Nat.le_of_ble_eq_true rfl) rfl ?_
        refine q_iinc (L' := [some (.ref 260), some (.int (nI t)), some (.int (s + (n * (nI (u1V β t))))), some (.int y), some (.int (nI (k + 1))), some (.int (n * (nI (u1V β t)))), some (.int z)]) (v := (nI (k + 1))) d264_195 rfl (nI_inc _) rfl ?_
        refine q_goto (tgt := 32) d264_198 rfl ?_
        exact r_sub (L' := [some (.ref 260), some (.int (nI t)), some (.int (s + (n * (nI (u1V β t))))), some (.int y), some (.int (nI (k + 1))), none, none]) ⟨rfl, rfl, rfl, rfl, rfl, trivial⟩ (v11 h1f h4f h5t)
      ·
        refine q_iload d264_179 rfl ?_
        refine q_aload_n d264_181 rfl ?_
        refine q_iload_n d264_182 rfl ?_
        refine q_iconst (v := 1) (by decide) d264_183 ?_
        refine q_invV (o := 260) (ci := 10) (av := [.int (nI t), .int 1]) (rest := [.int (n * (nI (u1V β t)))]) (d' := 5) (mc' := 0) (ms' := 0) d264_184 (cv10_501 264 rfl) rfl (by decide) rfl rfl (by omega) (Nat.le_of_ble_eq_true rfl) (Nat.le_of_ble_eq_true rfl) (lt_w1 rfl) sh260 (Nat.le_refl _) (Nat.le_refl _) ?_
        refine c263_1 (β := β) (Nat.le_refl 5) hV (v7 h1f) (v8 h1f) (v9 h1f) ?_
        show j_W 264 d 0 0 0 0 187 [some (.ref 260), some (.int (nI t)), some (.int s), some (.int y), some (.int (nI k)), some (.int (n * (nI (u1V β t)))), some (.int z)] [.int (nI (u2V β t)), .int (n * (nI (u1V β t)))] w1 (I, D, RR R) Q
        refine q_imul d264_187 ?_
        refine q_istore (L' := [some (.ref 260), some (.int (nI t)), some (.int s), some (.int y), some (.int (nI k)), some (.int ((n * (nI (u1V β t))) * (nI (u2V β t)))), some (.int z)]) d264_188 (Nat.le_of_ble_eq_true rfl) rfl ?_
        refine q_iload_n d264_190 rfl ?_
        refine q_iload d264_191 rfl ?_
        refine q_iadd d264_193 ?_
        refine q_istore_n (L' := [some (.ref 260), some (.int (nI t)), some (.int (s + ((n * (nI (u1V β t))) * (nI (u2V β t))))), some (.int y), some (.int (nI k)), some (.int ((n * (nI (u1V β t))) * (nI (u2V β t)))), some (.int z)]) d264_194 (Nat.le_of_ble_eq_true rfl) rfl ?_
        refine q_iinc (L' := [some (.ref 260), some (.int (nI t)), some (.int (s + ((n * (nI (u1V β t))) * (nI (u2V β t))))), some (.int y), some (.int (nI (k + 1))), some (.int ((n * (nI (u1V β t))) * (nI (u2V β t)))), some (.int z)]) (v := (nI (k + 1))) d264_195 rfl (nI_inc _) rfl ?_
        refine q_goto (tgt := 32) d264_198 rfl ?_
        exact r_sub (L' := [some (.ref 260), some (.int (nI t)), some (.int (s + ((n * (nI (u1V β t))) * (nI (u2V β t))))), some (.int y), some (.int (nI (k + 1))), none, none]) ⟨rfl, rfl, rfl, rfl, rfl, trivial⟩ (v12 h1f h4f h5f)

