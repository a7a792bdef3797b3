/-! the class reads terms and sums -/
/-- a token as it should be -/
def tkK (t : Nat × Nat) : Prop := okT t ∧ t.1 < 300
theorem Lx.K {T : Nat → Nat} {n p b e : Nat} {tk : Nat × Nat} (hT : ∀ k, k < n → T k < 256) (h : Lx T n p b e tk) : tkK tk := by
  refine ⟨h.T hT, ?_⟩
  rcases h.2 with ⟨-, -, h⟩ | ⟨-, -, -, h⟩ | ⟨-, -, c, -, h⟩ | ⟨hb, -, -, -, h⟩
  · rw [h]; show 256 < 300; omega
  · rcases h with ⟨-, -, h⟩ | ⟨-, -, h⟩ | ⟨-, q, -, -, h⟩ | ⟨-, -, h⟩
    · rw [h]; show 259 < 300; omega
    · rw [h]; show 262 < 300; omega
    · rw [h]; unfold wtok; (repeat' split) <;> first | decide | (show 261 < 300; omega)
    · rw [h]; show 262 < 300; omega
  · rcases h with ⟨-, -, ⟨-, h⟩ | ⟨-, h⟩⟩ | ⟨-, -, ⟨-, h⟩ | ⟨-, h⟩⟩
    · rw [h]; show 262 < 300; omega
    · rw [h]; show 257 < 300; omega
    · rw [h]; show 262 < 300; omega
    · rw [h]; show 258 < 300; omega
  · rcases h with ⟨-, h⟩ | ⟨-, h⟩
    · rw [h]; have := hT b hb; show T b < 300; omega
    · rw [h]; show 262 < 300; omega
def tkP : PRel := fun _ _ _ _ s o => tkK (ptk s) → match o with
  | .inl _ => True
  | .inr s' => tkK (ptk s')
theorem PP.k {T : Nat → Nat} {n : Nat} (hT : ∀ k, k < n → T k < 256) {m dep k i : Nat} {s s' : PSt} (h : PP T n m dep k i s (.inr s')) (hs : tkK (ptk s)) : tkK (ptk s') := by
  have nx : ∀ {s s' : PSt}, nxP T n s s' → tkK (ptk s') := fun h => h.1.K hT
  refine h tkP ⟨⟨fun dep s s' h1 h2 _ => nx h2, fun dep s s' h1 h2 _ => nx h2, fun dep s s1 o h1 h2 h3 h => by have := h3 (nx h2); cases o <;> exact this, fun dep s s1 s2 h1 h2 h3 h4 h5 _ => nx h5, fun _ _ _ _ _ _ _ => trivial, fun _ _ _ _ _ => trivial, fun dep s s1 o h1 h2 h3 h4 h => by have := h4 (nx h3); cases o <;> exact this, fun dep s o h1 h2 => h2, fun _ _ _ _ _ _ _ _ _ _ => trivial⟩, ?_, ?_, ?_⟩ hs
  · exact ⟨fun dep s f h _ => trivial, fun dep s s1 o h1 h2 h => h2 (h1 h), fun dep s h hs => hs, fun dep s s1 f h1 h2 h3 _ => trivial, fun dep s s1 s2 o h1 h2 h3 h4 _ => h4 (h3 (nx h2))⟩
  · exact ⟨fun dep s f h _ => trivial, fun dep s s1 o h1 h2 h => h2 (h1 h), fun dep s h hs => hs, fun dep s s1 f h1 h2 h3 _ => trivial, fun dep s s1 s2 o h1 h2 h3 h4 _ => h4 (h3 (nx h2))⟩
  · exact ⟨fun dep s f h _ => trivial, fun dep s s1 h1 _ => h1, fun dep s s1 s2 o h1 h2 h3 h4 h => by have := h4 (nx h3); cases o <;> exact this, fun _ _ _ _ _ => trivial, fun dep k s o h1 h2 h3 => h3, fun dep k s s' h _ => nx h, fun _ _ _ _ _ _ _ _ _ _ => trivial, fun _ _ _ _ _ _ _ _ _ _ _ => trivial, fun dep k i s s1 s2 o h1 h2 h3 h4 h5 h => h5 (h3 (nx h2))⟩
theorem nI_ne_m1 {f : Nat} (h : f < 97) : ¬ (nI f) = (-1) := by
  have : ∀ f, f < 97 → ¬ (nI f) = (-1) := by decide +kernel
  exact this f h
/-- what a part of the class's reader does: it ends in an outcome of the grammar -/
def CR (T : Nat → Nat) (n : Nat) (R : Nat → Nat → Option Nat) (D : Nat → Nat → UInt64) (I0 : Nat → Nat → Int32) (i mode dd dep k : Nat) (av : List Value) : Prop := ∀ (d : Nat) (I : Nat → Nat → Int32) (s : PSt) (Q : j_Po), dd ≤ d → okP n s → pz s ≤ pb s → tkK (ptk s) → RC T n (fm R) I0 I s → (∀ J o, PP T n mode dep k 0 s o → RCo T n (fm R) I0 J o → Q none w1 (J, D, RR R)) → j_Call d i av w1 (I, D, RR R) 0 0 Q
set_option maxRecDepth 10000 in
set_option maxHeartbeats 4000000 in
theorem sByT {d : Nat} {I : Nat → Nat → Int32} {D : Nat → Nat → UInt64} {R : Nat → Nat → Option Nat} {Q : j_Po}  {t : Nat} (h5 : I 97 5 = nI t) (ht : t < 300) (hd : 0 ≤ d)
    (v1 : (t = 42) → Q (some (.int 1)) w1 (I, D, RR R))
    (v2 : (¬ t = 42) → (t = 47) → Q (some (.int 1)) w1 (I, D, RR R))
    (v3 : (¬ t = 42) → (¬ t = 47) → (¬ t = 37) → Q (some (.int 0)) w1 (I, D, RR R))
    (v4 : (¬ t = 42) → (¬ t = 47) → (t = 37) → Q (some (.int 1)) w1 (I, D, RR R)) : j_Call d 98 [.ref 97] w1 (I, D, RR R) 0 0 Q := by
  refine q_enter (L := [some (.ref 97)]) j_m98 (Nat.le_of_ble_eq_true rfl) rfl ?_
  refine q_aload_n d98_0 rfl ?_
  refine q_getI d98_1 (fs5_42 98 rfl) rfl (lt_w1 rfl) sh97 ?_
  refine r_int (y := (nI t)) (show I 97 5 = (nI t) from h5) ?_
  refine q_bipush (v := 42) (by decide) d98_4 ?_
  refine q_icmp_eq (tgt := 27) d98_6 rfl (fun h1t => ?_) (fun h1f => ?_)
  ·
    have h1tc : t = 42 := (nI_eqN (by omega) (by omega)).mp h1t
    refine q_iconst (v := 1) (by decide) d98_27 ?_
    refine q_goto (tgt := 32) d98_28 rfl ?_
    exact q_zret d98_32 rfl (Or.inr rfl) (Nat.le_refl _) (Nat.le_refl _) (v1 h1tc)
  ·
    have h1fc : ¬ t = 42 := mt (nI_eqN (by omega) (by omega)).mpr h1f
    refine q_aload_n d98_9 rfl ?_
    refine q_getI d98_10 (fs5_42 98 rfl) rfl (lt_w1 rfl) sh97 ?_
    refine r_int (y := (nI t)) (show I 97 5 = (nI t) from h5) ?_
    refine q_bipush (v := 47) (by decide) d98_13 ?_
    refine q_icmp_eq (tgt := 27) d98_15 rfl (fun h2t => ?_) (fun h2f => ?_)
    ·
      have h2tc : t = 47 := (nI_eqN (by omega) (by omega)).mp h2t
      refine q_iconst (v := 1) (by decide) d98_27 ?_
      refine q_goto (tgt := 32) d98_28 rfl ?_
      exact q_zret d98_32 rfl (Or.inr rfl) (Nat.le_refl _) (Nat.le_refl _) (v2 h1fc h2tc)
    ·
      have h2fc : ¬ t = 47 := mt (nI_eqN (by omega) (by omega)).mpr h2f
      refine q_aload_n d98_18 rfl ?_
      refine q_getI d98_19 (fs5_42 98 rfl) rfl (lt_w1 rfl) sh97 ?_
      refine r_int (y := (nI t)) (show I 97 5 = (nI t) from h5) ?_
      refine q_bipush (v := 37) (by decide) d98_22 ?_
      refine q_icmp_ne (tgt := 31) d98_24 rfl (fun h3t => ?_) (fun h3f => ?_)
      ·
        have h3tc : ¬ t = 37 := mt (nI_eqN (by omega) (by omega)).mpr h3t
        refine q_iconst (v := 0) (by decide) d98_31 ?_
        exact q_zret d98_32 rfl (Or.inl rfl) (Nat.le_refl _) (Nat.le_refl _) (v3 h1fc h2fc h3tc)
      ·
        have h3fc : t = 37 := (nI_eqN (by omega) (by omega)).mp h3f
        refine q_iconst (v := 1) (by decide) d98_27 ?_
        refine q_goto (tgt := 32) d98_28 rfl ?_
        exact q_zret d98_32 rfl (Or.inr rfl) (Nat.le_refl _) (Nat.le_refl _) (v4 h1fc h2fc h3fc)

theorem c98 {d t : Nat} {I : Nat → Nat → Int32} {D : Nat → Nat → UInt64} {R : Nat → Nat → Option Nat} {Q : j_Po} (ht : t < 300) (h5 : I 97 5 = nI t) (h1 : isT t → Q (some (.int 1)) w1 (I, D, RR R)) (h0 : ¬ isT t → Q (some (.int 0)) w1 (I, D, RR R)) : j_Call d 98 [.ref 97] w1 (I, D, RR R) 0 0 Q :=
  sByT h5 ht (Nat.zero_le _) (fun h => h1 (Or.inl h)) (fun _ h => h1 (Or.inr (Or.inl h))) (fun a b c => h0 (fun h => by unfold isT at h; omega)) (fun _ _ h => h1 (Or.inr (Or.inr h)))
set_option maxRecDepth 10000 in
set_option maxHeartbeats 4000000 in
theorem s88a {d : Nat} {I : Nat → Nat → Int32} {D : Nat → Nat → UInt64} {R : Nat → Nat → Option Nat} {Q : j_Po} {p : Nat} {T : Nat → Nat} {n : Nat} {I0 : Nat → Nat → Int32} {s : PSt} (hR : WFR R) (hC : CR T n R D I0 89 0 (8 + 6 * (4 - p)) p 0 [.ref 97, .int (nI p)]) (hd : (9 + 6 * (4 - p)) ≤ d)
    (v1 : okP n s)
    (v2 : pz s ≤ pb s)
    (v3 : tkK (ptk s))
    (v4 : RC T n (fm R) I0 I s)
    (v5 : ∀ J1 : Nat → Nat → Int32, ∀ o2 : POut, (PP T n 0 p 0 0 s o2) → (RCo T n (fm R) I0 J1 o2) → j_W 88 d 0 0 0 0 5 [some (.ref 97), some (.int (nI p)), none, none] [] w1 (J1, D, RR R) Q) : j_Call d 88 [.ref 97, .int (nI p)] w1 (I, D, RR R) 0 0 Q := by
  refine q_enter (L := [some (.ref 97), some (.int (nI p)), none, none]) j_m88 (Nat.le_of_ble_eq_true rfl) rfl ?_
  refine q_aload_n d88_0 rfl ?_
  refine q_iload_n d88_1 rfl ?_
  refine q_invV (o := 97) (ci := 5) (av := [.int (nI p)]) (rest := []) (d' := (8 + 6 * (4 - p))) (mc' := 0) (ms' := 0) d88_2 (cv5_61 88 rfl) rfl (by decide) rfl rfl (by omega) (Nat.le_of_ble_eq_true rfl) (Nat.le_of_ble_eq_true rfl) (lt_w1 rfl) sh97 (Nat.le_refl _) (Nat.le_refl _) ?_
  refine hC _ _ s _ (Nat.le_refl _) v1 v2 v3 v4 (fun J1 o2 h3 h4 => ?_)
  show j_W 88 d 0 0 0 0 5 [some (.ref 97), some (.int (nI p)), none, none] [] w1 (J1, D, RR R) Q
  exact r_sub (L' := [some (.ref 97), some (.int (nI p)), none, none]) ⟨rfl, rfl, trivial⟩ (v5 J1 o2 h3 h4)

set_option maxRecDepth 10000 in
set_option maxHeartbeats 4000000 in
theorem s88b {d : Nat} {I : Nat → Nat → Int32} {D : Nat → Nat → UInt64} {R : Nat → Nat → Option Nat} {Q : j_Po} {p : Nat} (hR : WFR R) (hd : (9 + 6 * (4 - p)) ≤ d)
    (v1 : j_W 88 d 0 0 0 0 7 [some (.ref 97), some (.int (nI p)), some (.int 0), none] [] w1 (I, D, RR R) Q) : j_W 88 d 0 0 0 0 5 [some (.ref 97), some (.int (nI p)), none, none] [] w1 (I, D, RR R) Q := by
  refine q_iconst (v := 0) (by decide) d88_5 ?_
  refine q_istore_n (L' := [some (.ref 97), some (.int (nI p)), some (.int 0), none]) d88_6 (Nat.le_of_ble_eq_true rfl) rfl ?_
  exact r_sub (L' := [some (.ref 97), some (.int (nI p)), some (.int 0), none]) ⟨rfl, rfl, rfl, trivial⟩ v1

set_option maxRecDepth 10000 in
set_option maxHeartbeats 4000000 in
theorem s88f {d : Nat} {I : Nat → Nat → Int32} {D : Nat → Nat → UInt64} {R : Nat → Nat → Option Nat} {Q : j_Po} {p : Nat} {j : Nat} {f : Nat} (hR : WFR R) (hF : I 97 7 = nI f) (hf : f < 97) (hj9 : j < 200) (hd : (9 + 6 * (4 - p)) ≤ d)
    (v1 : (96 ≤ j) → Q none w1 (I, D, RR R))
    (v2 : (¬ 96 ≤ j) → (¬ (nI f) = (-1)) → Q none w1 (I, D, RR R))
    (v3 : (¬ 96 ≤ j) → ((nI f) = (-1)) → j_W 88 d 0 0 0 0 21 [some (.ref 97), some (.int (nI p)), some (.int (nI j)), none] [] w1 (I, D, RR R) Q) : j_W 88 d 0 0 0 0 7 [some (.ref 97), some (.int (nI p)), some (.int (nI j)), none] [] w1 (I, D, RR R) Q := by
  refine q_iload_n d88_7 rfl ?_
  refine q_bipush (v := 96) (by decide) d88_8 ?_
  refine q_icmp_ge (tgt := 82) d88_10 rfl (fun h1t => ?_) (fun h1f => ?_)
  ·
    have h1tc : 96 ≤ j := (nI_leI (by omega) (by omega)).mp h1t
    exact q_ret d88_82 rfl (Nat.le_refl _) (Nat.le_refl _) (v1 h1tc)
  ·
    have h1fc : ¬ 96 ≤ j := mt (nI_leI (by omega) (by omega)).mpr h1f
    refine q_aload_n d88_13 rfl ?_
    refine q_getI d88_14 (fs5_29 88 rfl) rfl (lt_w1 rfl) sh97 ?_
    refine r_int (y := (nI f)) (show I 97 7 = (nI f) from hF) ?_
    refine q_iconst (v := (-1)) (by decide) d88_17 ?_
    refine q_icmp_ne (tgt := 82) d88_18 rfl (fun h2t => ?_) (fun h2f => ?_)
    ·
      exact q_ret d88_82 rfl (Nat.le_refl _) (Nat.le_refl _) (v2 h1fc h2t)
    ·
      exact r_sub (L' := [some (.ref 97), some (.int (nI p)), some (.int (nI j)), none]) ⟨rfl, rfl, rfl, trivial⟩ (v3 h1fc h2f)

set_option maxRecDepth 10000 in
set_option maxHeartbeats 4000000 in
theorem s88g {d : Nat} {I : Nat → Nat → Int32} {D : Nat → Nat → UInt64} {R : Nat → Nat → Option Nat} {Q : j_Po} {p : Nat} {j : Nat} {t : Nat} (hR : WFR R) (h7 : I 97 7 = -1) (h5 : I 97 5 = nI t) (ht : t < 300) (hj9 : j < 200) (hd : (9 + 6 * (4 - p)) ≤ d)
    (v1 : (96 ≤ j) → Q none w1 (I, D, RR R))
    (v2 : (¬ 96 ≤ j) → (¬ (I 97 7) = (-1)) → Q none w1 (I, D, RR R))
    (v3 : (¬ 96 ≤ j) → ((I 97 7) = (-1)) → I 97 5 = nI t)
    (v4 : (¬ 96 ≤ j) → ((I 97 7) = (-1)) → (isT t) → (¬ t = 42) → (¬ t = 47) → j_W 88 d 0 0 0 0 58 [some (.ref 97), some (.int (nI p)), some (.int (nI j)), some (.int 7)] [] w1 (I, D, RR R) Q)
    (v5 : (¬ 96 ≤ j) → ((I 97 7) = (-1)) → (isT t) → (¬ t = 42) → (t = 47) → j_W 88 d 0 0 0 0 58 [some (.ref 97), some (.int (nI p)), some (.int (nI j)), some (.int 6)] [] w1 (I, D, RR R) Q)
    (v6 : (¬ 96 ≤ j) → ((I 97 7) = (-1)) → (isT t) → (t = 42) → j_W 88 d 0 0 0 0 58 [some (.ref 97), some (.int (nI p)), some (.int (nI j)), some (.int 5)] [] w1 (I, D, RR R) Q)
    (v7 : (¬ 96 ≤ j) → ((I 97 7) = (-1)) → (¬ isT t) → Q none w1 (I, D, RR R)) : j_W 88 d 0 0 0 0 7 [some (.ref 97), some (.int (nI p)), some (.int (nI j)), none] [] w1 (I, D, RR R) Q := by
  refine q_iload_n d88_7 rfl ?_
  refine q_bipush (v := 96) (by decide) d88_8 ?_
  refine q_icmp_ge (tgt := 82) d88_10 rfl (fun h1t => ?_) (fun h1f => ?_)
  ·
    have h1tc : 96 ≤ j := (nI_leI (by omega) (by omega)).mp h1t
    exact q_ret d88_82 rfl (Nat.le_refl _) (Nat.le_refl _) (v1 h1tc)
  ·
    have h1fc : ¬ 96 ≤ j := mt (nI_leI (by omega) (by omega)).mpr h1f
    refine q_aload_n d88_13 rfl ?_
    refine q_getI d88_14 (fs5_29 88 rfl) rfl (lt_w1 rfl) sh97 ?_
    refine q_iconst (v := (-1)) (by decide) d88_17 ?_
    refine q_icmp_ne (tgt := 82) d88_18 rfl (fun h2t => ?_) (fun h2f => ?_)
    ·
      exact q_ret d88_82 rfl (Nat.le_refl _) (Nat.le_refl _) (v2 h1fc h2t)
    ·
      refine q_aload_n d88_21 rfl ?_
      refine q_invV (o := 97) (ci := 5) (av := []) (rest := []) (d' := 0) (mc' := 0) (ms' := 0) d88_22 (cv5_64 88 rfl) rfl (by decide) rfl rfl (by omega) (Nat.le_of_ble_eq_true rfl) (Nat.le_of_ble_eq_true rfl) (lt_w1 rfl) sh97 (Nat.le_refl _) (Nat.le_refl _) ?_
      refine c98 (t := t) ht (v3 h1fc h2f) (fun h3 => ?_) (fun h3 => ?_)
      ·
        show j_W 88 d 0 0 0 0 25 [some (.ref 97), some (.int (nI p)), some (.int (nI j)), none] [.int 1] w1 (I, D, RR R) Q
        refine q_if_eq (tgt := 82) d88_25 rfl (fun h => absurd h (by decide)) (fun _ => ?_)
        refine q_aload_n d88_28 rfl ?_
        refine q_getI d88_29 (fs5_42 88 rfl) rfl (lt_w1 rfl) sh97 ?_
        refine r_int (y := (nI t)) (show I 97 5 = (nI t) from h5) ?_
        refine q_bipush (v := 42) (by decide) d88_32 ?_
        refine q_icmp_ne (tgt := 41) d88_34 rfl (fun h4t => ?_) (fun h4f => ?_)
        ·
          have h4tc : ¬ t = 42 := mt (nI_eqN (by omega) (by omega)).mpr h4t
          refine q_aload_n d88_41 rfl ?_
          refine q_getI d88_42 (fs5_42 88 rfl) rfl (lt_w1 rfl) sh97 ?_
          refine r_int (y := (nI t)) (show I 97 5 = (nI t) from h5) ?_
          refine q_bipush (v := 47) (by decide) d88_45 ?_
          refine q_icmp_ne (tgt := 55) d88_47 rfl (fun h5t => ?_) (fun h5f => ?_)
          ·
            have h5tc : ¬ t = 47 := mt (nI_eqN (by omega) (by omega)).mpr h5t
            refine q_bipush (v := 7) (by decide) d88_55 ?_
            refine q_istore_n (L' := [some (.ref 97), some (.int (nI p)), some (.int (nI j)), some (.int 7)]) d88_57 (Nat.le_of_ble_eq_true rfl) rfl ?_
            exact r_sub (L' := [some (.ref 97), some (.int (nI p)), some (.int (nI j)), some (.int 7)]) ⟨rfl, rfl, rfl, rfl, trivial⟩ (v4 h1fc h2f h3 h4tc h5tc)
          ·
            have h5fc : t = 47 := (nI_eqN (by omega) (by omega)).mp h5f
            refine q_bipush (v := 6) (by decide) d88_50 ?_
            refine q_goto (tgt := 57) d88_52 rfl ?_
            refine q_istore_n (L' := [some (.ref 97), some (.int (nI p)), some (.int (nI j)), some (.int 6)]) d88_57 (Nat.le_of_ble_eq_true rfl) rfl ?_
            exact r_sub (L' := [some (.ref 97), some (.int (nI p)), some (.int (nI j)), some (.int 6)]) ⟨rfl, rfl, rfl, rfl, trivial⟩ (v5 h1fc h2f h3 h4tc h5fc)
        ·
          have h4fc : t = 42 := (nI_eqN (by omega) (by omega)).mp h4f
          refine q_iconst (v := 5) (by decide) d88_37 ?_
          refine q_goto (tgt := 57) d88_38 rfl ?_
          refine q_istore_n (L' := [some (.ref 97), some (.int (nI p)), some (.int (nI j)), some (.int 5)]) d88_57 (Nat.le_of_ble_eq_true rfl) rfl ?_
          exact r_sub (L' := [some (.ref 97), some (.int (nI p)), some (.int (nI j)), some (.int 5)]) ⟨rfl, rfl, rfl, rfl, trivial⟩ (v6 h1fc h2f h3 h4fc)
      ·
        show j_W 88 d 0 0 0 0 25 [some (.ref 97), some (.int (nI p)), some (.int (nI j)), none] [.int 0] w1 (I, D, RR R) Q
        refine q_if_eq (tgt := 82) d88_25 rfl (fun _ => ?_) (fun h => absurd h (by decide))
        exact q_ret d88_82 rfl (Nat.le_refl _) (Nat.le_refl _) (v7 h1fc h2f h3)

set_option maxRecDepth 10000 in
set_option maxHeartbeats 4000000 in
theorem s88h {d : Nat} {I : Nat → Nat → Int32} {D : Nat → Nat → UInt64} {R : Nat → Nat → Option Nat} {Q : j_Po} {p : Nat} {j : Nat} {T : Nat → Nat} {n : Nat} {I0 : Nat → Nat → Int32} {s : PSt} {a : Nat} (hR : WFR R) (hC : CR T n R D I0 89 0 (8 + 6 * (4 - p)) p 0 [.ref 97, .int (nI p)]) (hd : (9 + 6 * (4 - p)) ≤ d)
    (v1 : okP n s)
    (v2 : RC T n (fm R) I0 I s)
    (v3 : 6 ≤ 6)
    (v4 : ∀ J1 : Nat → Nat → Int32, ∀ t2 : PSt, (nxP T n s t2) → (okP n t2) → (pe s ≤ pb t2) → (RC T n (fm R) I0 J1 t2) → okP n t2)
    (v5 : ∀ J1 : Nat → Nat → Int32, ∀ t2 : PSt, (nxP T n s t2) → (okP n t2) → (pe s ≤ pb t2) → (RC T n (fm R) I0 J1 t2) → pz t2 ≤ pb t2)
    (v6 : ∀ J1 : Nat → Nat → Int32, ∀ t2 : PSt, (nxP T n s t2) → (okP n t2) → (pe s ≤ pb t2) → (RC T n (fm R) I0 J1 t2) → tkK (ptk t2))
    (v7 : ∀ J1 : Nat → Nat → Int32, ∀ t2 : PSt, (nxP T n s t2) → (okP n t2) → (pe s ≤ pb t2) → (RC T n (fm R) I0 J1 t2) → RC T n (fm R) I0 J1 t2)
    (v8 : ∀ J1 : Nat → Nat → Int32, ∀ t2 : PSt, (nxP T n s t2) → (okP n t2) → (pe s ≤ pb t2) → (RC T n (fm R) I0 J1 t2) → ∀ J7 : Nat → Nat → Int32, ∀ o8 : POut, (PP T n 0 p 0 0 t2 o8) → (RCo T n (fm R) I0 J7 o8) → j_W 88 d 0 0 0 0 67 [some (.ref 97), some (.int (nI p)), some (.int (nI j)), some (.int (nI a))] [] w1 (J7, D, RR R) Q) : j_W 88 d 0 0 0 0 58 [some (.ref 97), some (.int (nI p)), some (.int (nI j)), some (.int (nI a))] [] w1 (I, D, RR R) Q := by
  refine q_aload_n d88_58 rfl ?_
  refine q_invV (o := 97) (ci := 5) (av := []) (rest := []) (d' := 6) (mc' := 0) (ms' := 0) d88_59 (cv5_35 88 rfl) rfl (by decide) rfl rfl (by omega) (Nat.le_of_ble_eq_true rfl) (Nat.le_of_ble_eq_true rfl) (lt_w1 rfl) sh97 (Nat.le_refl _) (Nat.le_refl _) ?_
  refine rc_look (T := T) (n := n) (o := fm R) (I0 := I0) (s := s) hR.2.2.1.2 v1 v2 v3 (fun J1 t2 h3 h4 h5 h6 => ?_)
  show j_W 88 d 0 0 0 0 62 [some (.ref 97), some (.int (nI p)), some (.int (nI j)), some (.int (nI a))] [] w1 (J1, D, RR R) Q
  refine q_aload_n d88_62 rfl ?_
  refine q_iload_n d88_63 rfl ?_
  refine q_invV (o := 97) (ci := 5) (av := [.int (nI p)]) (rest := []) (d' := (8 + 6 * (4 - p))) (mc' := 0) (ms' := 0) d88_64 (cv5_61 88 rfl) rfl (by decide) rfl rfl (by omega) (Nat.le_of_ble_eq_true rfl) (Nat.le_of_ble_eq_true rfl) (lt_w1 rfl) sh97 (Nat.le_refl _) (Nat.le_refl _) ?_
  refine hC _ _ t2 _ (Nat.le_refl _) (v4 J1 t2 h3 h4 h5 h6) (v5 J1 t2 h3 h4 h5 h6) (v6 J1 t2 h3 h4 h5 h6) (v7 J1 t2 h3 h4 h5 h6) (fun J7 o8 h9 h10 => ?_)
  show j_W 88 d 0 0 0 0 67 [some (.ref 97), some (.int (nI p)), some (.int (nI j)), some (.int (nI a))] [] w1 (J7, D, RR R) Q
  exact r_sub (L' := [some (.ref 97), some (.int (nI p)), some (.int (nI j)), some (.int (nI a))]) ⟨rfl, rfl, rfl, rfl, trivial⟩ (v8 J1 t2 h3 h4 h5 h6 J7 o8 h9 h10)

set_option maxRecDepth 10000 in
set_option maxHeartbeats 4000000 in
theorem s88x {d : Nat} {I : Nat → Nat → Int32} {D : Nat → Nat → UInt64} {R : Nat → Nat → Option Nat} {Q : j_Po} {p : Nat} {j : Nat} {T : Nat → Nat} {n : Nat} {I0 : Nat → Nat → Int32} {s : PSt} {a : Nat} (hR : WFR R) (hd : (9 + 6 * (4 - p)) ≤ d)
    (v1 : pz s < 96)
    (v2 : RC T n (fm R) I0 I s)
    (v3 : a ≠ 1)
    (v4 : a < 13)
    (v5 : 0 < 16777216)
    (v6 : ∀ J3 : Nat → Nat → Int32, (RC T n (fm R) I0 J3 (addP s a 0)) → j_W 88 d 0 0 0 0 7 [some (.ref 97), some (.int (nI p)), some (.int (nI (j + 1))), none] [] w1 (J3, D, RR R) Q) : j_W 88 d 0 0 0 0 67 [some (.ref 97), some (.int (nI p)), some (.int (nI j)), some (.int (nI a))] [] w1 (I, D, RR R) Q := by
  refine q_aload_n d88_67 rfl ?_
  have g2 := hR.m
  refine q_getR (x := ((R 97 2).getD 0)) d88_68 (fs5_18 88 rfl) rfl (lt_w1 rfl) sh97 ((RR_d rfl).trans g2.1) (lt1000 (isF_lt g2.2)) ?_
  refine q_iload_n d88_71 rfl ?_
  refine q_iconst (v := 0) (by decide) d88_72 ?_
  refine q_invV (o := ((R 97 2).getD 0)) (ci := 2) (av := [.int (nI a), .int 0]) (rest := []) (d' := 0) (mc' := 0) (ms' := 0) d88_73 (cv5_54 88 rfl) rfl (by decide) rfl rfl (by omega) (Nat.le_of_ble_eq_true rfl) (Nat.le_of_ble_eq_true rfl) (isF_lt g2.2) (isF_sh g2.2) (Nat.le_refl _) (Nat.le_refl _) ?_
  refine rc_add (a := a) (w := 0) (T := T) (n := n) (o := fm R) (I0 := I0) (s := s) hR.2.2.1.2 v1 v2 v3 v4 v5 (fun J3 h4 => ?_)
  show j_W 88 d 0 0 0 0 76 [some (.ref 97), some (.int (nI p)), some (.int (nI j)), some (.int (nI a))] [] w1 (J3, D, RR R) Q
  refine q_iinc (L' := [some (.ref 97), some (.int (nI p)), some (.int (nI (j + 1))), some (.int (nI a))]) (v := (nI (j + 1))) d88_76 rfl (nI_inc _) rfl ?_
  refine q_goto (tgt := 7) d88_79 rfl ?_
  exact r_sub (L' := [some (.ref 97), some (.int (nI p)), some (.int (nI (j + 1))), none]) ⟨rfl, rfl, rfl, trivial⟩ (v6 J3 h4)

set_option maxRecDepth 10000 in
set_option maxHeartbeats 4000000 in
theorem s88y {d : Nat} {I : Nat → Nat → Int32} {D : Nat → Nat → UInt64} {R : Nat → Nat → Option Nat} {Q : j_Po} {p : Nat} {j : Nat} {T : Nat → Nat} {n : Nat} {I0 : Nat → Nat → Int32} {f a : Nat} (hR : WFR R) (hd : (9 + 6 * (4 - p)) ≤ d)
    (v1 : RCf T n (fm R) I0 I f)
    (v2 : ∀ J3 : Nat → Nat → Int32, (RCf T n (fm R) I0 J3 f) → j_W 88 d 0 0 0 0 7 [some (.ref 97), some (.int (nI p)), some (.int (nI (j + 1))), none] [] w1 (J3, D, RR R) Q) : j_W 88 d 0 0 0 0 67 [some (.ref 97), some (.int (nI p)), some (.int (nI j)), some (.int (nI a))] [] w1 (I, D, RR R) Q := by
  refine q_aload_n d88_67 rfl ?_
  have g2 := hR.m
  refine q_getR (x := ((R 97 2).getD 0)) d88_68 (fs5_18 88 rfl) rfl (lt_w1 rfl) sh97 ((RR_d rfl).trans g2.1) (lt1000 (isF_lt g2.2)) ?_
  refine q_iload_n d88_71 rfl ?_
  refine q_iconst (v := 0) (by decide) d88_72 ?_
  refine q_invV (o := ((R 97 2).getD 0)) (ci := 2) (av := [.int (nI a), .int 0]) (rest := []) (d' := 0) (mc' := 0) (ms' := 0) d88_73 (cv5_54 88 rfl) rfl (by decide) rfl rfl (by omega) (Nat.le_of_ble_eq_true rfl) (Nat.le_of_ble_eq_true rfl) (isF_lt g2.2) (isF_sh g2.2) (Nat.le_refl _) (Nat.le_refl _) ?_
  refine rc_addj (T := T) (n := n) (o := fm R) (I0 := I0) (f := f) hR.2.2.1.2 v1 (fun J3 h4 => ?_)
  show j_W 88 d 0 0 0 0 76 [some (.ref 97), some (.int (nI p)), some (.int (nI j)), some (.int (nI a))] [] w1 (J3, D, RR R) Q
  refine q_iinc (L' := [some (.ref 97), some (.int (nI p)), some (.int (nI (j + 1))), some (.int (nI a))]) (v := (nI (j + 1))) d88_76 rfl (nI_inc _) rfl ?_
  refine q_goto (tgt := 7) d88_79 rfl ?_
  exact r_sub (L' := [some (.ref 97), some (.int (nI p)), some (.int (nI (j + 1))), none]) ⟨rfl, rfl, rfl, trivial⟩ (v2 J3 h4)

set_option maxRecDepth 10000 in
set_option maxHeartbeats 4000000 in
theorem s87a {d : Nat} {I : Nat → Nat → Int32} {D : Nat → Nat → UInt64} {R : Nat → Nat → Option Nat} {Q : j_Po} {p : Nat} {T : Nat → Nat} {n : Nat} {I0 : Nat → Nat → Int32} {s : PSt} (hR : WFR R) (hC : CR T n R D I0 88 1 (9 + 6 * (4 - p)) p 0 [.ref 97, .int (nI p)]) (hd : (10 + 6 * (4 - p)) ≤ d)
    (v1 : okP n s)
    (v2 : pz s ≤ pb s)
    (v3 : tkK (ptk s))
    (v4 : RC T n (fm R) I0 I s)
    (v5 : ∀ J1 : Nat → Nat → Int32, ∀ o2 : POut, (PP T n 1 p 0 0 s o2) → (RCo T n (fm R) I0 J1 o2) → j_W 87 d 0 0 0 0 5 [some (.ref 97), some (.int (nI p)), none, none] [] w1 (J1, D, RR R) Q) : j_Call d 87 [.ref 97, .int (nI p)] w1 (I, D, RR R) 0 0 Q := by
  refine q_enter (L := [some (.ref 97), some (.int (nI p)), none, none]) j_m87 (Nat.le_of_ble_eq_true rfl) rfl ?_
  refine q_aload_n d87_0 rfl ?_
  refine q_iload_n d87_1 rfl ?_
  refine q_invV (o := 97) (ci := 5) (av := [.int (nI p)]) (rest := []) (d' := (9 + 6 * (4 - p))) (mc' := 0) (ms' := 0) d87_2 (cv5_58 87 rfl) rfl (by decide) rfl rfl (by omega) (Nat.le_of_ble_eq_true rfl) (Nat.le_of_ble_eq_true rfl) (lt_w1 rfl) sh97 (Nat.le_refl _) (Nat.le_refl _) ?_
  refine hC _ _ s _ (Nat.le_refl _) v1 v2 v3 v4 (fun J1 o2 h3 h4 => ?_)
  show j_W 87 d 0 0 0 0 5 [some (.ref 97), some (.int (nI p)), none, none] [] w1 (J1, D, RR R) Q
  exact r_sub (L' := [some (.ref 97), some (.int (nI p)), none, none]) ⟨rfl, rfl, trivial⟩ (v5 J1 o2 h3 h4)

set_option maxRecDepth 10000 in
set_option maxHeartbeats 4000000 in
theorem s87b {d : Nat} {I : Nat → Nat → Int32} {D : Nat → Nat → UInt64} {R : Nat → Nat → Option Nat} {Q : j_Po} {p : Nat} (hR : WFR R) (hd : (10 + 6 * (4 - p)) ≤ d)
    (v1 : j_W 87 d 0 0 0 0 7 [some (.ref 97), some (.int (nI p)), some (.int 0), none] [] w1 (I, D, RR R) Q) : j_W 87 d 0 0 0 0 5 [some (.ref 97), some (.int (nI p)), none, none] [] w1 (I, D, RR R) Q := by
  refine q_iconst (v := 0) (by decide) d87_5 ?_
  refine q_istore_n (L' := [some (.ref 97), some (.int (nI p)), some (.int 0), none]) d87_6 (Nat.le_of_ble_eq_true rfl) rfl ?_
  exact r_sub (L' := [some (.ref 97), some (.int (nI p)), some (.int 0), none]) ⟨rfl, rfl, rfl, trivial⟩ v1

set_option maxRecDepth 10000 in
set_option maxHeartbeats 4000000 in
theorem s87f {d : Nat} {I : Nat → Nat → Int32} {D : Nat → Nat → UInt64} {R : Nat → Nat → Option Nat} {Q : j_Po} {p : Nat} {j : Nat} {f : Nat} (hR : WFR R) (hF : I 97 7 = nI f) (hf : f < 97) (hj9 : j < 200) (hd : (10 + 6 * (4 - p)) ≤ d)
    (v1 : (96 ≤ j) → Q none w1 (I, D, RR R))
    (v2 : (¬ 96 ≤ j) → (¬ (nI f) = (-1)) → Q none w1 (I, D, RR R))
    (v3 : (¬ 96 ≤ j) → ((nI f) = (-1)) → j_W 87 d 0 0 0 0 21 [some (.ref 97), some (.int (nI p)), some (.int (nI j)), none] [] w1 (I, D, RR R) Q) : j_W 87 d 0 0 0 0 7 [some (.ref 97), some (.int (nI p)), some (.int (nI j)), none] [] w1 (I, D, RR R) Q := by
  refine q_iload_n d87_7 rfl ?_
  refine q_bipush (v := 96) (by decide) d87_8 ?_
  refine q_icmp_ge (tgt := 78) d87_10 rfl (fun h1t => ?_) (fun h1f => ?_)
  ·
    have h1tc : 96 ≤ j := (nI_leI (by omega) (by omega)).mp h1t
    exact q_ret d87_78 rfl (Nat.le_refl _) (Nat.le_refl _) (v1 h1tc)
  ·
    have h1fc : ¬ 96 ≤ j := mt (nI_leI (by omega) (by omega)).mpr h1f
    refine q_aload_n d87_13 rfl ?_
    refine q_getI d87_14 (fs5_29 87 rfl) rfl (lt_w1 rfl) sh97 ?_
    refine r_int (y := (nI f)) (show I 97 7 = (nI f) from hF) ?_
    refine q_iconst (v := (-1)) (by decide) d87_17 ?_
    refine q_icmp_ne (tgt := 78) d87_18 rfl (fun h2t => ?_) (fun h2f => ?_)
    ·
      exact q_ret d87_78 rfl (Nat.le_refl _) (Nat.le_refl _) (v2 h1fc h2t)
    ·
      exact r_sub (L' := [some (.ref 97), some (.int (nI p)), some (.int (nI j)), none]) ⟨rfl, rfl, rfl, trivial⟩ (v3 h1fc h2f)

set_option maxRecDepth 10000 in
set_option maxHeartbeats 4000000 in
theorem s87g {d : Nat} {I : Nat → Nat → Int32} {D : Nat → Nat → UInt64} {R : Nat → Nat → Option Nat} {Q : j_Po} {p : Nat} {j : Nat} {t : Nat} (hR : WFR R) (h7 : I 97 7 = -1) (h5 : I 97 5 = nI t) (ht : t < 300) (hj9 : j < 200) (hd : (10 + 6 * (4 - p)) ≤ d)
    (v1 : (96 ≤ j) → Q none w1 (I, D, RR R))
    (v2 : (¬ 96 ≤ j) → (¬ (I 97 7) = (-1)) → Q none w1 (I, D, RR R))
    (v3 : (¬ 96 ≤ j) → ((I 97 7) = (-1)) → (t = 43) → j_W 87 d 0 0 0 0 54 [some (.ref 97), some (.int (nI p)), some (.int (nI j)), some (.int 3)] [] w1 (I, D, RR R) Q)
    (v4 : (¬ 96 ≤ j) → ((I 97 7) = (-1)) → (¬ t = 43) → (¬ t = 45) → Q none w1 (I, D, RR R))
    (v5 : (¬ 96 ≤ j) → ((I 97 7) = (-1)) → (¬ t = 43) → (t = 45) → j_W 87 d 0 0 0 0 54 [some (.ref 97), some (.int (nI p)), some (.int (nI j)), some (.int 4)] [] w1 (I, D, RR R) Q) : j_W 87 d 0 0 0 0 7 [some (.ref 97), some (.int (nI p)), some (.int (nI j)), none] [] w1 (I, D, RR R) Q := by
  refine q_iload_n d87_7 rfl ?_
  refine q_bipush (v := 96) (by decide) d87_8 ?_
  refine q_icmp_ge (tgt := 78) d87_10 rfl (fun h1t => ?_) (fun h1f => ?_)
  ·
    have h1tc : 96 ≤ j := (nI_leI (by omega) (by omega)).mp h1t
    exact q_ret d87_78 rfl (Nat.le_refl _) (Nat.le_refl _) (v1 h1tc)
  ·
    have h1fc : ¬ 96 ≤ j := mt (nI_leI (by omega) (by omega)).mpr h1f
    refine q_aload_n d87_13 rfl ?_
    refine q_getI d87_14 (fs5_29 87 rfl) rfl (lt_w1 rfl) sh97 ?_
    refine q_iconst (v := (-1)) (by decide) d87_17 ?_
    refine q_icmp_ne (tgt := 78) d87_18 rfl (fun h2t => ?_) (fun h2f => ?_)
    ·
      exact q_ret d87_78 rfl (Nat.le_refl _) (Nat.le_refl _) (v2 h1fc h2t)
    ·
      refine q_aload_n d87_21 rfl ?_
      refine q_getI d87_22 (fs5_42 87 rfl) rfl (lt_w1 rfl) sh97 ?_
      refine r_int (y := (nI t)) (show I 97 5 = (nI t) from h5) ?_
      refine q_bipush (v := 43) (by decide) d87_25 ?_
      refine q_icmp_eq (tgt := 39) d87_27 rfl (fun h3t => ?_) (fun h3f => ?_)
      ·
        have h3tc : t = 43 := (nI_eqN (by omega) (by omega)).mp h3t
        refine q_aload_n d87_39 rfl ?_
        refine q_getI d87_40 (fs5_42 87 rfl) rfl (lt_w1 rfl) sh97 ?_
        refine r_int (y := (nI t)) (show I 97 5 = (nI t) from h5) ?_
        refine q_bipush (v := 43) (by decide) d87_43 ?_
        refine q_icmp_ne (tgt := 52) d87_45 rfl (fun h4t => ?_) (fun h4f => ?_)
        ·
          have h4tc : ¬ t = 43 := mt (nI_eqN (by omega) (by omega)).mpr h4t
          exact False.elim (by first | exact absurd h4tc h3tc | exact absurd h3tc h4tc | exact (Int32.not_lt.mpr h4tc) h3tc | exact (Int32.not_lt.mpr h3tc) h4tc | exact h4tc (Int32.not_le.mp h3tc) | exact h3tc (Int32.not_le.mp h4tc) | omega)
        ·
          have h4fc : t = 43 := (nI_eqN (by omega) (by omega)).mp h4f
          refine q_iconst (v := 3) (by decide) d87_48 ?_
          refine q_goto (tgt := 53) d87_49 rfl ?_
          refine q_istore_n (L' := [some (.ref 97), some (.int (nI p)), some (.int (nI j)), some (.int 3)]) d87_53 (Nat.le_of_ble_eq_true rfl) rfl ?_
          exact r_sub (L' := [some (.ref 97), some (.int (nI p)), some (.int (nI j)), some (.int 3)]) ⟨rfl, rfl, rfl, rfl, trivial⟩ (v3 h1fc h2f h3tc)
      ·
        have h3fc : ¬ t = 43 := mt (nI_eqN (by omega) (by omega)).mpr h3f
        refine q_aload_n d87_30 rfl ?_
        refine q_getI d87_31 (fs5_42 87 rfl) rfl (lt_w1 rfl) sh97 ?_
        refine r_int (y := (nI t)) (show I 97 5 = (nI t) from h5) ?_
        refine q_bipush (v := 45) (by decide) d87_34 ?_
        refine q_icmp_ne (tgt := 78) d87_36 rfl (fun h5t => ?_) (fun h5f => ?_)
        ·
          have h5tc : ¬ t = 45 := mt (nI_eqN (by omega) (by omega)).mpr h5t
          exact q_ret d87_78 rfl (Nat.le_refl _) (Nat.le_refl _) (v4 h1fc h2f h3fc h5tc)
        ·
          have h5fc : t = 45 := (nI_eqN (by omega) (by omega)).mp h5f
          refine q_aload_n d87_39 rfl ?_
          refine q_getI d87_40 (fs5_42 87 rfl) rfl (lt_w1 rfl) sh97 ?_
          refine r_int (y := (nI t)) (show I 97 5 = (nI t) from h5) ?_
          refine q_bipush (v := 43) (by decide) d87_43 ?_
          refine q_icmp_ne (tgt := 52) d87_45 rfl (fun h6t => ?_) (fun h6f => ?_)
          ·
            have h6tc : ¬ t = 43 := mt (nI_eqN (by omega) (by omega)).mpr h6t
            refine q_iconst (v := 4) (by decide) d87_52 ?_
            refine q_istore_n (L' := [some (.ref 97), some (.int (nI p)), some (.int (nI j)), some (.int 4)]) d87_53 (Nat.le_of_ble_eq_true rfl) rfl ?_
            exact r_sub (L' := [some (.ref 97), some (.int (nI p)), some (.int (nI j)), some (.int 4)]) ⟨rfl, rfl, rfl, rfl, trivial⟩ (v5 h1fc h2f h3fc h5fc)
          ·
            have h6fc : t = 43 := (nI_eqN (by omega) (by omega)).mp h6f
            exact False.elim (by first | exact absurd h6fc h3fc | exact absurd h3fc h6fc | exact (Int32.not_lt.mpr h6fc) h3fc | exact (Int32.not_lt.mpr h3fc) h6fc | exact h6fc (Int32.not_le.mp h3fc) | exact h3fc (Int32.not_le.mp h6fc) | omega)

set_option maxRecDepth 10000 in
set_option maxHeartbeats 4000000 in
theorem s87h {d : Nat} {I : Nat → Nat → Int32} {D : Nat → Nat → UInt64} {R : Nat → Nat → Option Nat} {Q : j_Po} {p : Nat} {j : Nat} {T : Nat → Nat} {n : Nat} {I0 : Nat → Nat → Int32} {s : PSt} {a : Nat} (hR : WFR R) (hC : CR T n R D I0 88 1 (9 + 6 * (4 - p)) p 0 [.ref 97, .int (nI p)]) (hd : (10 + 6 * (4 - p)) ≤ d)
    (v1 : okP n s)
    (v2 : RC T n (fm R) I0 I s)
    (v3 : 6 ≤ 6)
    (v4 : ∀ J1 : Nat → Nat → Int32, ∀ t2 : PSt, (nxP T n s t2) → (okP n t2) → (pe s ≤ pb t2) → (RC T n (fm R) I0 J1 t2) → okP n t2)
    (v5 : ∀ J1 : Nat → Nat → Int32, ∀ t2 : PSt, (nxP T n s t2) → (okP n t2) → (pe s ≤ pb t2) → (RC T n (fm R) I0 J1 t2) → pz t2 ≤ pb t2)
    (v6 : ∀ J1 : Nat → Nat → Int32, ∀ t2 : PSt, (nxP T n s t2) → (okP n t2) → (pe s ≤ pb t2) → (RC T n (fm R) I0 J1 t2) → tkK (ptk t2))
    (v7 : ∀ J1 : Nat → Nat → Int32, ∀ t2 : PSt, (nxP T n s t2) → (okP n t2) → (pe s ≤ pb t2) → (RC T n (fm R) I0 J1 t2) → RC T n (fm R) I0 J1 t2)
    (v8 : ∀ J1 : Nat → Nat → Int32, ∀ t2 : PSt, (nxP T n s t2) → (okP n t2) → (pe s ≤ pb t2) → (RC T n (fm R) I0 J1 t2) → ∀ J7 : Nat → Nat → Int32, ∀ o8 : POut, (PP T n 1 p 0 0 t2 o8) → (RCo T n (fm R) I0 J7 o8) → j_W 87 d 0 0 0 0 63 [some (.ref 97), some (.int (nI p)), some (.int (nI j)), some (.int (nI a))] [] w1 (J7, D, RR R) Q) : j_W 87 d 0 0 0 0 54 [some (.ref 97), some (.int (nI p)), some (.int (nI j)), some (.int (nI a))] [] w1 (I, D, RR R) Q := by
  refine q_aload_n d87_54 rfl ?_
  refine q_invV (o := 97) (ci := 5) (av := []) (rest := []) (d' := 6) (mc' := 0) (ms' := 0) d87_55 (cv5_35 87 rfl) rfl (by decide) rfl rfl (by omega) (Nat.le_of_ble_eq_true rfl) (Nat.le_of_ble_eq_true rfl) (lt_w1 rfl) sh97 (Nat.le_refl _) (Nat.le_refl _) ?_
  refine rc_look (T := T) (n := n) (o := fm R) (I0 := I0) (s := s) hR.2.2.1.2 v1 v2 v3 (fun J1 t2 h3 h4 h5 h6 => ?_)
  show j_W 87 d 0 0 0 0 58 [some (.ref 97), some (.int (nI p)), some (.int (nI j)), some (.int (nI a))] [] w1 (J1, D, RR R) Q
  refine q_aload_n d87_58 rfl ?_
  refine q_iload_n d87_59 rfl ?_
  refine q_invV (o := 97) (ci := 5) (av := [.int (nI p)]) (rest := []) (d' := (9 + 6 * (4 - p))) (mc' := 0) (ms' := 0) d87_60 (cv5_58 87 rfl) rfl (by decide) rfl rfl (by omega) (Nat.le_of_ble_eq_true rfl) (Nat.le_of_ble_eq_true rfl) (lt_w1 rfl) sh97 (Nat.le_refl _) (Nat.le_refl _) ?_
  refine hC _ _ t2 _ (Nat.le_refl _) (v4 J1 t2 h3 h4 h5 h6) (v5 J1 t2 h3 h4 h5 h6) (v6 J1 t2 h3 h4 h5 h6) (v7 J1 t2 h3 h4 h5 h6) (fun J7 o8 h9 h10 => ?_)
  show j_W 87 d 0 0 0 0 63 [some (.ref 97), some (.int (nI p)), some (.int (nI j)), some (.int (nI a))] [] w1 (J7, D, RR R) Q
  exact r_sub (L' := [some (.ref 97), some (.int (nI p)), some (.int (nI j)), some (.int (nI a))]) ⟨rfl, rfl, rfl, rfl, trivial⟩ (v8 J1 t2 h3 h4 h5 h6 J7 o8 h9 h10)

set_option maxRecDepth 10000 in
set_option maxHeartbeats 4000000 in
theorem s87x {d : Nat} {I : Nat → Nat → Int32} {D : Nat → Nat → UInt64} {R : Nat → Nat → Option Nat} {Q : j_Po} {p : Nat} {j : Nat} {T : Nat → Nat} {n : Nat} {I0 : Nat → Nat → Int32} {s : PSt} {a : Nat} (hR : WFR R) (hd : (10 + 6 * (4 - p)) ≤ d)
    (v1 : pz s < 96)
    (v2 : RC T n (fm R) I0 I s)
    (v3 : a ≠ 1)
    (v4 : a < 13)
    (v5 : 0 < 16777216)
    (v6 : ∀ J3 : Nat → Nat → Int32, (RC T n (fm R) I0 J3 (addP s a 0)) → j_W 87 d 0 0 0 0 7 [some (.ref 97), some (.int (nI p)), some (.int (nI (j + 1))), none] [] w1 (J3, D, RR R) Q) : j_W 87 d 0 0 0 0 63 [some (.ref 97), some (.int (nI p)), some (.int (nI j)), some (.int (nI a))] [] w1 (I, D, RR R) Q := by
  refine q_aload_n d87_63 rfl ?_
  have g2 := hR.m
  refine q_getR (x := ((R 97 2).getD 0)) d87_64 (fs5_18 87 rfl) rfl (lt_w1 rfl) sh97 ((RR_d rfl).trans g2.1) (lt1000 (isF_lt g2.2)) ?_
  refine q_iload_n d87_67 rfl ?_
  refine q_iconst (v := 0) (by decide) d87_68 ?_
  refine q_invV (o := ((R 97 2).getD 0)) (ci := 2) (av := [.int (nI a), .int 0]) (rest := []) (d' := 0) (mc' := 0) (ms' := 0) d87_69 (cv5_54 87 rfl) rfl (by decide) rfl rfl (by omega) (Nat.le_of_ble_eq_true rfl) (Nat.le_of_ble_eq_true rfl) (isF_lt g2.2) (isF_sh g2.2) (Nat.le_refl _) (Nat.le_refl _) ?_
  refine rc_add (a := a) (w := 0) (T := T) (n := n) (o := fm R) (I0 := I0) (s := s) hR.2.2.1.2 v1 v2 v3 v4 v5 (fun J3 h4 => ?_)
  show j_W 87 d 0 0 0 0 72 [some (.ref 97), some (.int (nI p)), some (.int (nI j)), some (.int (nI a))] [] w1 (J3, D, RR R) Q
  refine q_iinc (L' := [some (.ref 97), some (.int (nI p)), some (.int (nI (j + 1))), some (.int (nI a))]) (v := (nI (j + 1))) d87_72 rfl (nI_inc _) rfl ?_
  refine q_goto (tgt := 7) d87_75 rfl ?_
  exact r_sub (L' := [some (.ref 97), some (.int (nI p)), some (.int (nI (j + 1))), none]) ⟨rfl, rfl, rfl, trivial⟩ (v6 J3 h4)

set_option maxRecDepth 10000 in
set_option maxHeartbeats 4000000 in
theorem s87y {d : Nat} {I : Nat → Nat → Int32} {D : Nat → Nat → UInt64} {R : Nat → Nat → Option Nat} {Q : j_Po} {p : Nat} {j : Nat} {T : Nat → Nat} {n : Nat} {I0 : Nat → Nat → Int32} {f a : Nat} (hR : WFR R) (hd : (10 + 6 * (4 - p)) ≤ d)
    (v1 : RCf T n (fm R) I0 I f)
    (v2 : ∀ J3 : Nat → Nat → Int32, (RCf T n (fm R) I0 J3 f) → j_W 87 d 0 0 0 0 7 [some (.ref 97), some (.int (nI p)), some (.int (nI (j + 1))), none] [] w1 (J3, D, RR R) Q) : j_W 87 d 0 0 0 0 63 [some (.ref 97), some (.int (nI p)), some (.int (nI j)), some (.int (nI a))] [] w1 (I, D, RR R) Q := by
  refine q_aload_n d87_63 rfl ?_
  have g2 := hR.m
  refine q_getR (x := ((R 97 2).getD 0)) d87_64 (fs5_18 87 rfl) rfl (lt_w1 rfl) sh97 ((RR_d rfl).trans g2.1) (lt1000 (isF_lt g2.2)) ?_
  refine q_iload_n d87_67 rfl ?_
  refine q_iconst (v := 0) (by decide) d87_68 ?_
  refine q_invV (o := ((R 97 2).getD 0)) (ci := 2) (av := [.int (nI a), .int 0]) (rest := []) (d' := 0) (mc' := 0) (ms' := 0) d87_69 (cv5_54 87 rfl) rfl (by decide) rfl rfl (by omega) (Nat.le_of_ble_eq_true rfl) (Nat.le_of_ble_eq_true rfl) (isF_lt g2.2) (isF_sh g2.2) (Nat.le_refl _) (Nat.le_refl _) ?_
  refine rc_addj (T := T) (n := n) (o := fm R) (I0 := I0) (f := f) hR.2.2.1.2 v1 (fun J3 h4 => ?_)
  show j_W 87 d 0 0 0 0 72 [some (.ref 97), some (.int (nI p)), some (.int (nI j)), some (.int (nI a))] [] w1 (J3, D, RR R) Q
  refine q_iinc (L' := [some (.ref 97), some (.int (nI p)), some (.int (nI (j + 1))), some (.int (nI a))]) (v := (nI (j + 1))) d87_72 rfl (nI_inc _) rfl ?_
  refine q_goto (tgt := 7) d87_75 rfl ?_
  exact r_sub (L' := [some (.ref 97), some (.int (nI p)), some (.int (nI (j + 1))), none]) ⟨rfl, rfl, rfl, trivial⟩ (v2 J3 h4)

set_option maxRecDepth 10000 in
set_option maxHeartbeats 4000000 in
theorem s86a {d : Nat} {I : Nat → Nat → Int32} {D : Nat → Nat → UInt64} {R : Nat → Nat → Option Nat} {Q : j_Po} {p : Nat} {T : Nat → Nat} {n : Nat} {I0 : Nat → Nat → Int32} {s : PSt} (hR : WFR R) (hC : CR T n R D I0 87 3 (10 + 6 * (4 - p)) p 0 [.ref 97, .int (nI p)]) (hd : (11 + 6 * (4 - p)) ≤ d)
    (v1 : okP n s)
    (v2 : pz s ≤ pb s)
    (v3 : tkK (ptk s))
    (v4 : RC T n (fm R) I0 I s)
    (v5 : ∀ J1 : Nat → Nat → Int32, ∀ o2 : POut, (PP T n 3 p 0 0 s o2) → (RCo T n (fm R) I0 J1 o2) → j_W 86 d 0 0 0 0 5 [some (.ref 97), some (.int (nI p)), none] [] w1 (J1, D, RR R) Q) : j_Call d 86 [.ref 97, .int (nI p)] w1 (I, D, RR R) 0 0 Q := by
  refine q_enter (L := [some (.ref 97), some (.int (nI p)), none]) j_m86 (Nat.le_of_ble_eq_true rfl) rfl ?_
  refine q_aload_n d86_0 rfl ?_
  refine q_iload_n d86_1 rfl ?_
  refine q_invV (o := 97) (ci := 5) (av := [.int (nI p)]) (rest := []) (d' := (10 + 6 * (4 - p))) (mc' := 0) (ms' := 0) d86_2 (cv5_51 86 rfl) rfl (by decide) rfl rfl (by omega) (Nat.le_of_ble_eq_true rfl) (Nat.le_of_ble_eq_true rfl) (lt_w1 rfl) sh97 (Nat.le_refl _) (Nat.le_refl _) ?_
  refine hC _ _ s _ (Nat.le_refl _) v1 v2 v3 v4 (fun J1 o2 h3 h4 => ?_)
  show j_W 86 d 0 0 0 0 5 [some (.ref 97), some (.int (nI p)), none] [] w1 (J1, D, RR R) Q
  exact r_sub (L' := [some (.ref 97), some (.int (nI p)), none]) ⟨rfl, rfl, trivial⟩ (v5 J1 o2 h3 h4)

set_option maxRecDepth 10000 in
set_option maxHeartbeats 4000000 in
theorem s86f {d : Nat} {I : Nat → Nat → Int32} {D : Nat → Nat → UInt64} {R : Nat → Nat → Option Nat} {Q : j_Po} {p : Nat} {f : Nat} (hR : WFR R) (hF : I 97 7 = nI f) (hf : f < 97) (hd : (11 + 6 * (4 - p)) ≤ d)
    (v1 : (¬ (nI f) = (-1)) → Q none w1 (I, D, RR R))
    (v2 : ((nI f) = (-1)) → j_W 86 d 0 0 0 0 13 [some (.ref 97), some (.int (nI p)), none] [] w1 (I, D, RR R) Q) : j_W 86 d 0 0 0 0 5 [some (.ref 97), some (.int (nI p)), none] [] w1 (I, D, RR R) Q := by
  refine q_aload_n d86_5 rfl ?_
  refine q_getI d86_6 (fs5_29 86 rfl) rfl (lt_w1 rfl) sh97 ?_
  refine r_int (y := (nI f)) (show I 97 7 = (nI f) from hF) ?_
  refine q_iconst (v := (-1)) (by decide) d86_9 ?_
  refine q_icmp_ne (tgt := 31) d86_10 rfl (fun h1t => ?_) (fun h1f => ?_)
  ·
    exact q_ret d86_31 rfl (Nat.le_refl _) (Nat.le_refl _) (v1 h1t)
  ·
    exact r_sub (L' := [some (.ref 97), some (.int (nI p)), none]) ⟨rfl, rfl, trivial⟩ (v2 h1f)

set_option maxRecDepth 10000 in
set_option maxHeartbeats 4000000 in
theorem s86g {d : Nat} {I : Nat → Nat → Int32} {D : Nat → Nat → UInt64} {R : Nat → Nat → Option Nat} {Q : j_Po} {p : Nat} {t : Nat} (hR : WFR R) (h7 : I 97 7 = -1) (h5 : I 97 5 = nI t) (ht : t < 300) (hd : (11 + 6 * (4 - p)) ≤ d)
    (v1 : (¬ (I 97 7) = (-1)) → Q none w1 (I, D, RR R))
    (v2 : ((I 97 7) = (-1)) → (t = 60) → j_W 86 d 0 0 0 0 49 [some (.ref 97), some (.int (nI p)), some (.int 8)] [] w1 (I, D, RR R) Q)
    (v3 : ((I 97 7) = (-1)) → (¬ t = 60) → (t = 61) → j_W 86 d 0 0 0 0 49 [some (.ref 97), some (.int (nI p)), some (.int 9)] [] w1 (I, D, RR R) Q)
    (v4 : ((I 97 7) = (-1)) → (¬ t = 60) → (¬ t = 61) → Q none w1 (I, D, RR R)) : j_W 86 d 0 0 0 0 5 [some (.ref 97), some (.int (nI p)), none] [] w1 (I, D, RR R) Q := by
  refine q_aload_n d86_5 rfl ?_
  refine q_getI d86_6 (fs5_29 86 rfl) rfl (lt_w1 rfl) sh97 ?_
  refine q_iconst (v := (-1)) (by decide) d86_9 ?_
  refine q_icmp_ne (tgt := 31) d86_10 rfl (fun h1t => ?_) (fun h1f => ?_)
  ·
    exact q_ret d86_31 rfl (Nat.le_refl _) (Nat.le_refl _) (v1 h1t)
  ·
    refine q_aload_n d86_13 rfl ?_
    refine q_getI d86_14 (fs5_42 86 rfl) rfl (lt_w1 rfl) sh97 ?_
    refine r_int (y := (nI t)) (show I 97 5 = (nI t) from h5) ?_
    refine q_bipush (v := 60) (by decide) d86_17 ?_
    refine q_icmp_eq (tgt := 32) d86_19 rfl (fun h2t => ?_) (fun h2f => ?_)
    ·
      have h2tc : t = 60 := (nI_eqN (by omega) (by omega)).mp h2t
      refine q_aload_n d86_32 rfl ?_
      refine q_getI d86_33 (fs5_42 86 rfl) rfl (lt_w1 rfl) sh97 ?_
      refine r_int (y := (nI t)) (show I 97 5 = (nI t) from h5) ?_
      refine q_bipush (v := 60) (by decide) d86_36 ?_
      refine q_icmp_ne (tgt := 46) d86_38 rfl (fun h3t => ?_) (fun h3f => ?_)
      ·
        have h3tc : ¬ t = 60 := mt (nI_eqN (by omega) (by omega)).mpr h3t
        exact False.elim (by first | exact absurd h3tc h2tc | exact absurd h2tc h3tc | exact (Int32.not_lt.mpr h3tc) h2tc | exact (Int32.not_lt.mpr h2tc) h3tc | exact h3tc (Int32.not_le.mp h2tc) | exact h2tc (Int32.not_le.mp h3tc) | omega)
      ·
        have h3fc : t = 60 := (nI_eqN (by omega) (by omega)).mp h3f
        refine q_bipush (v := 8) (by decide) d86_41 ?_
        refine q_goto (tgt := 48) d86_43 rfl ?_
        refine q_istore_n (L' := [some (.ref 97), some (.int (nI p)), some (.int 8)]) d86_48 (Nat.le_of_ble_eq_true rfl) rfl ?_
        exact r_sub (L' := [some (.ref 97), some (.int (nI p)), some (.int 8)]) ⟨rfl, rfl, rfl, trivial⟩ (v2 h1f h2tc)
    ·
      have h2fc : ¬ t = 60 := mt (nI_eqN (by omega) (by omega)).mpr h2f
      refine q_aload_n d86_22 rfl ?_
      refine q_getI d86_23 (fs5_42 86 rfl) rfl (lt_w1 rfl) sh97 ?_
      refine r_int (y := (nI t)) (show I 97 5 = (nI t) from h5) ?_
      refine q_bipush (v := 61) (by decide) d86_26 ?_
      refine q_icmp_eq (tgt := 32) d86_28 rfl (fun h4t => ?_) (fun h4f => ?_)
      ·
        have h4tc : t = 61 := (nI_eqN (by omega) (by omega)).mp h4t
        refine q_aload_n d86_32 rfl ?_
        refine q_getI d86_33 (fs5_42 86 rfl) rfl (lt_w1 rfl) sh97 ?_
        refine r_int (y := (nI t)) (show I 97 5 = (nI t) from h5) ?_
        refine q_bipush (v := 60) (by decide) d86_36 ?_
        refine q_icmp_ne (tgt := 46) d86_38 rfl (fun h5t => ?_) (fun h5f => ?_)
        ·
          have h5tc : ¬ t = 60 := mt (nI_eqN (by omega) (by omega)).mpr h5t
          refine q_bipush (v := 9) (by decide) d86_46 ?_
          refine q_istore_n (L' := [some (.ref 97), some (.int (nI p)), some (.int 9)]) d86_48 (Nat.le_of_ble_eq_true rfl) rfl ?_
          exact r_sub (L' := [some (.ref 97), some (.int (nI p)), some (.int 9)]) ⟨rfl, rfl, rfl, trivial⟩ (v3 h1f h2fc h4tc)
        ·
          have h5fc : t = 60 := (nI_eqN (by omega) (by omega)).mp h5f
          exact False.elim (by first | exact absurd h5fc h2fc | exact absurd h2fc h5fc | exact (Int32.not_lt.mpr h5fc) h2fc | exact (Int32.not_lt.mpr h2fc) h5fc | exact h5fc (Int32.not_le.mp h2fc) | exact h2fc (Int32.not_le.mp h5fc) | omega)
      ·
        have h4fc : ¬ t = 61 := mt (nI_eqN (by omega) (by omega)).mpr h4f
        exact q_ret d86_31 rfl (Nat.le_refl _) (Nat.le_refl _) (v4 h1f h2fc h4fc)

set_option maxRecDepth 10000 in
set_option maxHeartbeats 4000000 in
theorem s86h {d : Nat} {I : Nat → Nat → Int32} {D : Nat → Nat → UInt64} {R : Nat → Nat → Option Nat} {Q : j_Po} {p : Nat} {T : Nat → Nat} {n : Nat} {I0 : Nat → Nat → Int32} {s : PSt} {a : Nat} (hR : WFR R) (hC : CR T n R D I0 87 3 (10 + 6 * (4 - p)) p 0 [.ref 97, .int (nI p)]) (hd : (11 + 6 * (4 - p)) ≤ d)
    (v1 : okP n s)
    (v2 : RC T n (fm R) I0 I s)
    (v3 : 6 ≤ 6)
    (v4 : ∀ J1 : Nat → Nat → Int32, ∀ t2 : PSt, (nxP T n s t2) → (okP n t2) → (pe s ≤ pb t2) → (RC T n (fm R) I0 J1 t2) → okP n t2)
    (v5 : ∀ J1 : Nat → Nat → Int32, ∀ t2 : PSt, (nxP T n s t2) → (okP n t2) → (pe s ≤ pb t2) → (RC T n (fm R) I0 J1 t2) → pz t2 ≤ pb t2)
    (v6 : ∀ J1 : Nat → Nat → Int32, ∀ t2 : PSt, (nxP T n s t2) → (okP n t2) → (pe s ≤ pb t2) → (RC T n (fm R) I0 J1 t2) → tkK (ptk t2))
    (v7 : ∀ J1 : Nat → Nat → Int32, ∀ t2 : PSt, (nxP T n s t2) → (okP n t2) → (pe s ≤ pb t2) → (RC T n (fm R) I0 J1 t2) → RC T n (fm R) I0 J1 t2)
    (v8 : ∀ J1 : Nat → Nat → Int32, ∀ t2 : PSt, (nxP T n s t2) → (okP n t2) → (pe s ≤ pb t2) → (RC T n (fm R) I0 J1 t2) → ∀ J7 : Nat → Nat → Int32, ∀ o8 : POut, (PP T n 3 p 0 0 t2 o8) → (RCo T n (fm R) I0 J7 o8) → j_W 86 d 0 0 0 0 58 [some (.ref 97), some (.int (nI p)), some (.int (nI a))] [] w1 (J7, D, RR R) Q) : j_W 86 d 0 0 0 0 49 [some (.ref 97), some (.int (nI p)), some (.int (nI a))] [] w1 (I, D, RR R) Q := by
  refine q_aload_n d86_49 rfl ?_
  refine q_invV (o := 97) (ci := 5) (av := []) (rest := []) (d' := 6) (mc' := 0) (ms' := 0) d86_50 (cv5_35 86 rfl) rfl (by decide) rfl rfl (by omega) (Nat.le_of_ble_eq_true rfl) (Nat.le_of_ble_eq_true rfl) (lt_w1 rfl) sh97 (Nat.le_refl _) (Nat.le_refl _) ?_
  refine rc_look (T := T) (n := n) (o := fm R) (I0 := I0) (s := s) hR.2.2.1.2 v1 v2 v3 (fun J1 t2 h3 h4 h5 h6 => ?_)
  show j_W 86 d 0 0 0 0 53 [some (.ref 97), some (.int (nI p)), some (.int (nI a))] [] w1 (J1, D, RR R) Q
  refine q_aload_n d86_53 rfl ?_
  refine q_iload_n d86_54 rfl ?_
  refine q_invV (o := 97) (ci := 5) (av := [.int (nI p)]) (rest := []) (d' := (10 + 6 * (4 - p))) (mc' := 0) (ms' := 0) d86_55 (cv5_51 86 rfl) rfl (by decide) rfl rfl (by omega) (Nat.le_of_ble_eq_true rfl) (Nat.le_of_ble_eq_true rfl) (lt_w1 rfl) sh97 (Nat.le_refl _) (Nat.le_refl _) ?_
  refine hC _ _ t2 _ (Nat.le_refl _) (v4 J1 t2 h3 h4 h5 h6) (v5 J1 t2 h3 h4 h5 h6) (v6 J1 t2 h3 h4 h5 h6) (v7 J1 t2 h3 h4 h5 h6) (fun J7 o8 h9 h10 => ?_)
  show j_W 86 d 0 0 0 0 58 [some (.ref 97), some (.int (nI p)), some (.int (nI a))] [] w1 (J7, D, RR R) Q
  exact r_sub (L' := [some (.ref 97), some (.int (nI p)), some (.int (nI a))]) ⟨rfl, rfl, rfl, trivial⟩ (v8 J1 t2 h3 h4 h5 h6 J7 o8 h9 h10)

set_option maxRecDepth 10000 in
set_option maxHeartbeats 4000000 in
theorem s86x {d : Nat} {I : Nat → Nat → Int32} {D : Nat → Nat → UInt64} {R : Nat → Nat → Option Nat} {Q : j_Po} {p : Nat} {T : Nat → Nat} {n : Nat} {I0 : Nat → Nat → Int32} {s : PSt} {a : Nat} (hR : WFR R) (hd : (11 + 6 * (4 - p)) ≤ d)
    (v1 : pz s < 96)
    (v2 : RC T n (fm R) I0 I s)
    (v3 : a ≠ 1)
    (v4 : a < 13)
    (v5 : 0 < 16777216)
    (v6 : ∀ J3 : Nat → Nat → Int32, (RC T n (fm R) I0 J3 (addP s a 0)) → Q none w1 (J3, D, RR R)) : j_W 86 d 0 0 0 0 58 [some (.ref 97), some (.int (nI p)), some (.int (nI a))] [] w1 (I, D, RR R) Q := by
  refine q_aload_n d86_58 rfl ?_
  have g2 := hR.m
  refine q_getR (x := ((R 97 2).getD 0)) d86_59 (fs5_18 86 rfl) rfl (lt_w1 rfl) sh97 ((RR_d rfl).trans g2.1) (lt1000 (isF_lt g2.2)) ?_
  refine q_iload_n d86_62 rfl ?_
  refine q_iconst (v := 0) (by decide) d86_63 ?_
  refine q_invV (o := ((R 97 2).getD 0)) (ci := 2) (av := [.int (nI a), .int 0]) (rest := []) (d' := 0) (mc' := 0) (ms' := 0) d86_64 (cv5_54 86 rfl) rfl (by decide) rfl rfl (by omega) (Nat.le_of_ble_eq_true rfl) (Nat.le_of_ble_eq_true rfl) (isF_lt g2.2) (isF_sh g2.2) (Nat.le_refl _) (Nat.le_refl _) ?_
  refine rc_add (a := a) (w := 0) (T := T) (n := n) (o := fm R) (I0 := I0) (s := s) hR.2.2.1.2 v1 v2 v3 v4 v5 (fun J3 h4 => ?_)
  show j_W 86 d 0 0 0 0 67 [some (.ref 97), some (.int (nI p)), some (.int (nI a))] [] w1 (J3, D, RR R) Q
  exact q_ret d86_67 rfl (Nat.le_refl _) (Nat.le_refl _) (v6 J3 h4)

set_option maxRecDepth 10000 in
set_option maxHeartbeats 4000000 in
theorem s86y {d : Nat} {I : Nat → Nat → Int32} {D : Nat → Nat → UInt64} {R : Nat → Nat → Option Nat} {Q : j_Po} {p : Nat} {T : Nat → Nat} {n : Nat} {I0 : Nat → Nat → Int32} {f a : Nat} (hR : WFR R) (hd : (11 + 6 * (4 - p)) ≤ d)
    (v1 : RCf T n (fm R) I0 I f)
    (v2 : ∀ J3 : Nat → Nat → Int32, (RCf T n (fm R) I0 J3 f) → Q none w1 (J3, D, RR R)) : j_W 86 d 0 0 0 0 58 [some (.ref 97), some (.int (nI p)), some (.int (nI a))] [] w1 (I, D, RR R) Q := by
  refine q_aload_n d86_58 rfl ?_
  have g2 := hR.m
  refine q_getR (x := ((R 97 2).getD 0)) d86_59 (fs5_18 86 rfl) rfl (lt_w1 rfl) sh97 ((RR_d rfl).trans g2.1) (lt1000 (isF_lt g2.2)) ?_
  refine q_iload_n d86_62 rfl ?_
  refine q_iconst (v := 0) (by decide) d86_63 ?_
  refine q_invV (o := ((R 97 2).getD 0)) (ci := 2) (av := [.int (nI a), .int 0]) (rest := []) (d' := 0) (mc' := 0) (ms' := 0) d86_64 (cv5_54 86 rfl) rfl (by decide) rfl rfl (by omega) (Nat.le_of_ble_eq_true rfl) (Nat.le_of_ble_eq_true rfl) (isF_lt g2.2) (isF_sh g2.2) (Nat.le_refl _) (Nat.le_refl _) ?_
  refine rc_addj (T := T) (n := n) (o := fm R) (I0 := I0) (f := f) hR.2.2.1.2 v1 (fun J3 h4 => ?_)
  show j_W 86 d 0 0 0 0 67 [some (.ref 97), some (.int (nI p)), some (.int (nI a))] [] w1 (J3, D, RR R) Q
  exact q_ret d86_67 rfl (Nat.le_refl _) (Nat.le_refl _) (v2 J3 h4)

theorem l88 {D : Nat → Nat → UInt64} {R : Nat → Nat → Option Nat} {Q : j_Po} {p d : Nat} {T : Nat → Nat} {n : Nat} {I0 : Nat → Nat → Int32} (hR : WFR R) (hn : n ≤ 96) (hd : 9 + 6 * (4 - p) ≤ d) (hC : CR T n R D I0 89 0 (8 + 6 * (4 - p)) p 0 [.ref 97, .int (nI p)]) : ∀ (m j : Nat) (s : PSt) (I : Nat → Nat → Int32), n - pb s ≤ m → okP n s → pz s ≤ pb s → tkK (ptk s) → j ≤ pb s → RC T n (fm R) I0 I s → (∀ J o, PP T n 2 p 0 0 s o → RCo T n (fm R) I0 J o → Q none w1 (J, D, RR R)) → j_W 88 d 0 0 0 0 7 [some (.ref 97), some (.int (nI p)), some (.int (nI j)), none] [] w1 (I, D, RR R) Q
  | m, j, s, I, hm, hs, hz, hk, hj, hS, hq => by
    have h7 := hS.2.2.1
    have h5 := hS.2.2.2.2.2.1
    have ht := hk.2
    have hj9 : j < 200 := by have := hs.1; have := hs.2.1; omega
    have hTT := fun k hk => (hS.2.1.2.2 k hk).1
    by_cases hT : isT (ptk s).1
    · have hlt : pb s < pe s := hs.2.2 (by unfold isT at hT; omega)
      have hen := hs.2.1
      have key : ∀ a, a = opT (ptk s).1 → j_W 88 d 0 0 0 0 58 [some (.ref 97), some (.int (nI p)), some (.int (nI j)), some (.int (nI a))] [] w1 (I, D, RR R) Q := by
        intro a ha
        have ha1 : a ≠ 1 ∧ a < 13 := by rw [ha]; unfold opT; (repeat' split) <;> omega
        refine s88h hR hC hd hs hS (Nat.le_refl _) (fun J1 t2 h3 h4 h5 h6 => h4) (fun J1 t2 h3 h4 h5 h6 => (by have := h3.2.1; have := h4.1; omega)) (fun J1 t2 h3 h4 h5 h6 => h3.1.K hTT) (fun J1 t2 h3 h4 h5 h6 => h6) (fun J1 t2 h3 h4 h5 h6 J7 o8 h9 h10 => ?_)
        have hz2 : pz t2 ≤ pb t2 := by have := h3.2.1; have := h4.1; omega
        cases o8 with
        | inl f =>
          have hf : f ≤ n := h9.g h4
          exact s88y hR hd h10 (fun J3 h => s88f hR h.2.2.1 (by omega) (by omega) hd (fun _ => hq J3 (.inl f) (PP1.2.2.2.1 p s t2 f hT h3 h9) h) (fun _ _ => hq J3 (.inl f) (PP1.2.2.2.1 p s t2 f hT h3 h9) h) (fun _ h' => absurd h' (nI_ne_m1 (by omega))))
        | inr s2 =>
          obtain ⟨k1, k2, k3, k4, k5, k6⟩ := h9.g h4
          have k7 := k5 ⟨by decide, by decide⟩
          have k8 := k6 (by decide)
          have k9 := k1.1
          have k10 := k1.2.1
          have k11 := h4.1
          have k12 := h3.2.1
          refine s88x hR hd (by omega) h10 ha1.1 ha1.2 (by decide) (fun J3 h => ?_)
          match m, hm with
          | 0, hm => omega
          | m + 1, hm =>
            subst ha
            exact l88 hR hn hd hC m (j + 1) (addP s2 (opT (ptk s).1) 0) J3 (by show n - pb s2 ≤ m; omega) k1 (by show pz s2 + 1 ≤ pb s2; omega) (h9.k hTT (h3.1.K hTT)) (by show j + 1 ≤ pb s2; omega) h (fun J o ho hr => hq J o (PP1.2.2.2.2 p s t2 s2 o hT h3 h9 ho) hr)
      exact s88g hR h7 h5 ht hj9 hd (fun h => by omega) (fun _ h => absurd h7 h) (fun _ _ => h5) (fun _ _ a b c => key 7 (by unfold opT; rw [if_neg b, if_neg c])) (fun _ _ a b c => key 6 (by unfold opT; rw [if_neg b, if_pos c])) (fun _ _ a b => key 5 (by unfold opT; rw [if_pos b])) (fun _ _ a => absurd hT a)
    · exact s88g hR h7 h5 ht hj9 hd (fun _ => hq I (.inr s) (PP1.2.2.1 p s hT) hS) (fun _ h => absurd h7 h) (fun _ _ => h5) (fun _ _ a => absurd a hT) (fun _ _ a => absurd a hT) (fun _ _ a => absurd a hT) (fun _ _ _ => hq I (.inr s) (PP1.2.2.1 p s hT) hS)
theorem c88 {D : Nat → Nat → UInt64} {R : Nat → Nat → Option Nat} {p : Nat} {T : Nat → Nat} {n : Nat} {I0 : Nat → Nat → Int32} (hR : WFR R) (hn : n ≤ 96) (hC : CR T n R D I0 89 0 (8 + 6 * (4 - p)) p 0 [.ref 97, .int (nI p)]) : CR T n R D I0 88 1 (9 + 6 * (4 - p)) p 0 [.ref 97, .int (nI p)] := by
  intro d I s Q hd hs hz hk hS hq
  have hTT := fun k hk => (hS.2.1.2.2 k hk).1
  refine s88a hR hC hd hs hz hk hS (fun J1 o2 h1 h2 => s88b hR hd ?_)
  cases o2 with
  | inl f =>
    have hf : f ≤ n := h1.g hs
    exact s88f (j := 0) hR h2.2.2.1 (by omega) (by omega) hd (fun _ => hq J1 (.inl f) (PP1.1 p s f h1) h2) (fun _ _ => hq J1 (.inl f) (PP1.1 p s f h1) h2) (fun _ h' => absurd h' (nI_ne_m1 (by omega)))
  | inr s1 =>
    obtain ⟨k1, k2, k3, k4, k5, k6⟩ := h1.g hs
    exact l88 hR hn hd hC (n - pb s1) 0 s1 J1 (Nat.le_refl _) k1 (by have := k5 ⟨by decide, by decide⟩; have := hs.1; omega) (h1.k hTT hk) (Nat.zero_le _) h2 (fun J o ho hr => hq J o (PP1.2.1 p s s1 o h1 ho) hr)
theorem l87 {D : Nat → Nat → UInt64} {R : Nat → Nat → Option Nat} {Q : j_Po} {p d : Nat} {T : Nat → Nat} {n : Nat} {I0 : Nat → Nat → Int32} (hR : WFR R) (hn : n ≤ 96) (hd : 10 + 6 * (4 - p) ≤ d) (hC : CR T n R D I0 88 1 (9 + 6 * (4 - p)) p 0 [.ref 97, .int (nI p)]) : ∀ (m j : Nat) (s : PSt) (I : Nat → Nat → Int32), n - pb s ≤ m → okP n s → pz s ≤ pb s → tkK (ptk s) → j ≤ pb s → RC T n (fm R) I0 I s → (∀ J o, PP T n 4 p 0 0 s o → RCo T n (fm R) I0 J o → Q none w1 (J, D, RR R)) → j_W 87 d 0 0 0 0 7 [some (.ref 97), some (.int (nI p)), some (.int (nI j)), none] [] w1 (I, D, RR R) Q
  | m, j, s, I, hm, hs, hz, hk, hj, hS, hq => by
    have h7 := hS.2.2.1
    have h5 := hS.2.2.2.2.2.1
    have ht := hk.2
    have hj9 : j < 200 := by have := hs.1; have := hs.2.1; omega
    have hTT := fun k hk => (hS.2.1.2.2 k hk).1
    by_cases hT : isS (ptk s).1
    · have hlt : pb s < pe s := hs.2.2 (by unfold isS at hT; omega)
      have hen := hs.2.1
      have key : ∀ a, a = opS (ptk s).1 → j_W 87 d 0 0 0 0 54 [some (.ref 97), some (.int (nI p)), some (.int (nI j)), some (.int (nI a))] [] w1 (I, D, RR R) Q := by
        intro a ha
        have ha1 : a ≠ 1 ∧ a < 13 := by rw [ha]; unfold opS; (repeat' split) <;> omega
        refine s87h hR hC hd hs hS (Nat.le_refl _) (fun J1 t2 h3 h4 h5 h6 => h4) (fun J1 t2 h3 h4 h5 h6 => (by have := h3.2.1; have := h4.1; omega)) (fun J1 t2 h3 h4 h5 h6 => h3.1.K hTT) (fun J1 t2 h3 h4 h5 h6 => h6) (fun J1 t2 h3 h4 h5 h6 J7 o8 h9 h10 => ?_)
        have hz2 : pz t2 ≤ pb t2 := by have := h3.2.1; have := h4.1; omega
        cases o8 with
        | inl f =>
          have hf : f ≤ n := h9.g h4
          exact s87y hR hd h10 (fun J3 h => s87f hR h.2.2.1 (by omega) (by omega) hd (fun _ => hq J3 (.inl f) (PP2.2.2.2.1 p s t2 f hT h3 h9) h) (fun _ _ => hq J3 (.inl f) (PP2.2.2.2.1 p s t2 f hT h3 h9) h) (fun _ h' => absurd h' (nI_ne_m1 (by omega))))
        | inr s2 =>
          obtain ⟨k1, k2, k3, k4, k5, k6⟩ := h9.g h4
          have k7 := k5 ⟨by decide, by decide⟩
          have k8 := k6 (by decide)
          have k9 := k1.1
          have k10 := k1.2.1
          have k11 := h4.1
          have k12 := h3.2.1
          refine s87x hR hd (by omega) h10 ha1.1 ha1.2 (by decide) (fun J3 h => ?_)
          match m, hm with
          | 0, hm => omega
          | m + 1, hm =>
            subst ha
            exact l87 hR hn hd hC m (j + 1) (addP s2 (opS (ptk s).1) 0) J3 (by show n - pb s2 ≤ m; omega) k1 (by show pz s2 + 1 ≤ pb s2; omega) (h9.k hTT (h3.1.K hTT)) (by show j + 1 ≤ pb s2; omega) h (fun J o ho hr => hq J o (PP2.2.2.2.2 p s t2 s2 o hT h3 h9 ho) hr)
      exact s87g hR h7 h5 ht hj9 hd (fun h => by omega) (fun _ h => absurd h7 h) (fun _ _ a => key 3 (by unfold opS; rw [if_pos a])) (fun _ _ a b => absurd (hT.elim id (fun h => absurd h b)) a) (fun _ _ a b => key 4 (by unfold opS; rw [if_neg a]))
    · exact s87g hR h7 h5 ht hj9 hd (fun _ => hq I (.inr s) (PP2.2.2.1 p s hT) hS) (fun _ h => absurd h7 h) (fun _ _ a => absurd (Or.inl a) hT) (fun _ _ a b => hq I (.inr s) (PP2.2.2.1 p s hT) hS) (fun _ _ a b => absurd (Or.inr b) hT)
theorem c87 {D : Nat → Nat → UInt64} {R : Nat → Nat → Option Nat} {p : Nat} {T : Nat → Nat} {n : Nat} {I0 : Nat → Nat → Int32} (hR : WFR R) (hn : n ≤ 96) (hC : CR T n R D I0 88 1 (9 + 6 * (4 - p)) p 0 [.ref 97, .int (nI p)]) : CR T n R D I0 87 3 (10 + 6 * (4 - p)) p 0 [.ref 97, .int (nI p)] := by
  intro d I s Q hd hs hz hk hS hq
  have hTT := fun k hk => (hS.2.1.2.2 k hk).1
  refine s87a hR hC hd hs hz hk hS (fun J1 o2 h1 h2 => s87b hR hd ?_)
  cases o2 with
  | inl f =>
    have hf : f ≤ n := h1.g hs
    exact s87f (j := 0) hR h2.2.2.1 (by omega) (by omega) hd (fun _ => hq J1 (.inl f) (PP2.1 p s f h1) h2) (fun _ _ => hq J1 (.inl f) (PP2.1 p s f h1) h2) (fun _ h' => absurd h' (nI_ne_m1 (by omega)))
  | inr s1 =>
    obtain ⟨k1, k2, k3, k4, k5, k6⟩ := h1.g hs
    exact l87 hR hn hd hC (n - pb s1) 0 s1 J1 (Nat.le_refl _) k1 (by have := k5 ⟨by decide, by decide⟩; have := hs.1; omega) (h1.k hTT hk) (Nat.zero_le _) h2 (fun J o ho hr => hq J o (PP2.2.1 p s s1 o h1 ho) hr)
theorem c86 {D : Nat → Nat → UInt64} {R : Nat → Nat → Option Nat} {p : Nat} {T : Nat → Nat} {n : Nat} {I0 : Nat → Nat → Int32} (hR : WFR R) (hn : n ≤ 96) (hC : CR T n R D I0 87 3 (10 + 6 * (4 - p)) p 0 [.ref 97, .int (nI p)]) : CR T n R D I0 86 5 (11 + 6 * (4 - p)) p 0 [.ref 97, .int (nI p)] := by
  intro d I s Q hd hs hz hk hS hq
  have hTT := fun k hk => (hS.2.1.2.2 k hk).1
  refine s86a hR hC hd hs hz hk hS (fun J1 o2 h1 h2 => ?_)
  cases o2 with
  | inl f =>
    have hf : f ≤ n := h1.g hs
    exact s86f hR h2.2.2.1 (by omega) hd (fun _ => hq J1 (.inl f) (PP3.1 p s f h1) h2) (fun h' => absurd h' (nI_ne_m1 (by omega)))
  | inr s1 =>
    obtain ⟨k1, k2, k3, k4, k5, k6⟩ := h1.g hs
    have k7 := k5 ⟨by decide, by decide⟩
    have hs1 := hs.1
    have hk1 := h1.k hTT hk
    have h7 := h2.2.2.1
    have h5 := h2.2.2.2.2.2.1
    have ht := hk1.2
    by_cases hW : isW (ptk s1).1
    · have hlt : pb s1 < pe s1 := k1.2.2 (by unfold isW at hW; omega)
      have hen := k1.2.1
      have key : ∀ a, a = opW (ptk s1).1 → j_W 86 d 0 0 0 0 49 [some (.ref 97), some (.int (nI p)), some (.int (nI a))] [] w1 (J1, D, RR R) Q := by
        intro a ha
        have ha1 : a ≠ 1 ∧ a < 13 := by rw [ha]; unfold opW; split <;> omega
        refine s86h hR hC hd k1 h2 (Nat.le_refl _) (fun J1 t2 h3 h4 h5 h6 => h4) (fun J1 t2 h3 h4 h5 h6 => (by have := h3.2.1; have := h4.1; omega)) (fun J1 t2 h3 h4 h5 h6 => h3.1.K hTT) (fun J1 t2 h3 h4 h5 h6 => h6) (fun J4 t2 h3 h4 h5 h6 J7 o8 h9 h10 => ?_)
        have hz2 : pz t2 ≤ pb t2 := by have := h3.2.1; have := h4.1; omega
        cases o8 with
        | inl f => exact s86y hR hd h10 (fun J3 h => hq J3 (.inl f) (PP3.2.2.1 p s s1 t2 (.inl f) h1 hW h3 h9) h)
        | inr s2 =>
          obtain ⟨m1, m2, m3, m4, m5, m6⟩ := h9.g h4
          have m7 := m5 ⟨by decide, by decide⟩
          have m8 := m1.1
          have m9 := m1.2.1
          have m10 := h3.2.1
          have m11 := h4.1
          subst ha
          exact s86x hR hd (by omega) h10 ha1.1 ha1.2 (by decide) (fun J3 h => hq J3 (.inr (addP s2 (opW (ptk s1).1) 0)) (PP3.2.2.1 p s s1 t2 (.inr s2) h1 hW h3 h9) h)
      exact s86g hR h7 h5 ht hd (fun h => absurd h7 h) (fun _ a => key 8 (by unfold opW; rw [if_pos a])) (fun _ a b => key 9 (by unfold opW; rw [if_neg a])) (fun _ a b => absurd (hW.elim id (fun h => absurd h b)) a)
    · exact s86g hR h7 h5 ht hd (fun h => absurd h7 h) (fun _ a => absurd (Or.inl a) hW) (fun _ a b => absurd (Or.inr b) hW) (fun _ a b => hq J1 (.inr s1) (PP3.2.1 p s s1 h1 hW) h2)
