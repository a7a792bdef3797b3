/-! the class looks -/
set_option maxRecDepth 10000 in
set_option maxHeartbeats 4000000 in
theorem s67e {d : Nat} {I : Nat → Nat → Int32} {D : Nat → Nat → UInt64} {R : Nat → Nat → Option Nat} {Q : j_Po}  {T : Nat → Nat} {n : Nat} {p : Nat} (hT : TC T n I) (hn9 : n ≤ 96) (hp : I 97 4 = nI p) (hd : 6 ≤ d)
    (v1 : j_W 67 d 0 0 0 0 5 [some (.ref 97), some (.int (nI p)), none] [] w1 (I, D, RR R) Q) : j_Call d 67 [.ref 97] w1 (I, D, RR R) 0 0 Q := by
  refine q_enter (L := [some (.ref 97), none, none]) j_m67 (Nat.le_of_ble_eq_true rfl) rfl ?_
  refine q_aload_n d67_0 rfl ?_
  refine q_getI d67_1 (fs5_32 67 rfl) rfl (lt_w1 rfl) sh97 ?_
  refine r_int (y := (nI p)) (show I 97 4 = (nI p) from hp) ?_
  refine q_istore_n (L' := [some (.ref 97), some (.int (nI p)), none]) d67_4 (Nat.le_of_ble_eq_true rfl) rfl ?_
  exact r_sub (L' := [some (.ref 97), some (.int (nI p)), none]) ⟨rfl, rfl, trivial⟩ v1

set_option maxRecDepth 10000 in
set_option maxHeartbeats 4000000 in
theorem s67h {d : Nat} {I : Nat → Nat → Int32} {D : Nat → Nat → UInt64} {R : Nat → Nat → Option Nat} {Q : j_Po} {k : Nat} {T : Nat → Nat} {n : Nat} (hT : TC T n I) (hn9 : n ≤ 96) (hk : k ≤ n) (hd : 6 ≤ d)
    (v1 : (n ≤ k) → j_W 67 d 0 0 0 0 31 [some (.ref 97), some (.int (nI k)), none] [] w1 (I, D, RR R) Q)
    (v2 : (¬ n ≤ k) → (T k) < 256)
    (v3 : (¬ n ≤ k) → (isBl (T k)) → j_W 67 d 0 0 0 0 5 [some (.ref 97), some (.int (nI (k + 1))), none] [] w1 (I, D, RR R) Q)
    (v4 : (¬ n ≤ k) → (¬ isBl (T k)) → j_W 67 d 0 0 0 0 31 [some (.ref 97), some (.int (nI k)), none] [] w1 (I, D, RR R) Q) : j_W 67 d 0 0 0 0 5 [some (.ref 97), some (.int (nI k)), none] [] w1 (I, D, RR R) Q := by
  refine q_iload_n d67_5 rfl ?_
  refine q_aload_n d67_6 rfl ?_
  refine q_getI d67_7 (fs5_22 67 rfl) rfl (lt_w1 rfl) sh97 ?_
  refine r_int (y := (nI n)) (show I 97 1 = (nI n) from hT.2.1) ?_
  refine q_icmp_ge (tgt := 31) d67_10 rfl (fun h1t => ?_) (fun h1f => ?_)
  ·
    have h1tc : n ≤ k := (nI_leI (by omega) (by omega)).mp h1t
    exact r_sub (L' := [some (.ref 97), some (.int (nI k)), none]) ⟨rfl, rfl, trivial⟩ (v1 h1tc)
  ·
    have h1fc : ¬ n ≤ k := mt (nI_leI (by omega) (by omega)).mpr h1f
    refine q_aload_n d67_13 rfl ?_
    refine q_getR (x := 98) d67_14 (fs5_9 67 rfl) rfl (lt_w1 rfl) sh97 (rs97_0 R) (by decide) ?_
    refine q_iload_n d67_17 rfl ?_
    refine q_iaload (a := k) d67_18 (lt_w1 rfl) sh98 rfl (by omega) ?_
    refine r_int (y := nI (T k)) (hT.2.2 k (by omega)).2 ?_
    refine q_invS (av := [.int (nI (T k))]) (rest := []) (d' := 0) (mc' := 0) (ms' := 0) d67_19 (cv5_89 67 rfl) rfl rfl (by omega) (Nat.le_of_ble_eq_true rfl) (Nat.le_of_ble_eq_true rfl) (Nat.le_refl _) (Nat.le_refl _) ?_
    refine c68n (v2 h1fc) (fun h2 => ?_) (fun h2 => ?_)
    ·
      show j_W 67 d 0 0 0 0 22 [some (.ref 97), some (.int (nI k)), none] [.int 1] w1 (I, D, RR R) Q
      refine q_if_eq (tgt := 31) d67_22 rfl (fun h => absurd h (by decide)) (fun _ => ?_)
      refine q_iinc (L' := [some (.ref 97), some (.int (nI (k + 1))), none]) (v := (nI (k + 1))) d67_25 rfl (nI_inc _) rfl ?_
      refine q_goto (tgt := 5) d67_28 rfl ?_
      exact r_sub (L' := [some (.ref 97), some (.int (nI (k + 1))), none]) ⟨rfl, rfl, trivial⟩ (v3 h1fc h2)
    ·
      show j_W 67 d 0 0 0 0 22 [some (.ref 97), some (.int (nI k)), none] [.int 0] w1 (I, D, RR R) Q
      refine q_if_eq (tgt := 31) d67_22 rfl (fun _ => ?_) (fun h => absurd h (by decide))
      exact r_sub (L' := [some (.ref 97), some (.int (nI k)), none]) ⟨rfl, rfl, trivial⟩ (v4 h1fc h2)

set_option maxRecDepth 10000 in
set_option maxHeartbeats 4000000 in
theorem s67x {d : Nat} {I : Nat → Nat → Int32} {D : Nat → Nat → UInt64} {R : Nat → Nat → Option Nat} {Q : j_Po} {k : Nat} {T : Nat → Nat} {n : Nat} (hT : TC T n I) (hn9 : n ≤ 96) (hk : k ≤ n) (hd : 6 ≤ d)
    (v1 : (k < n) → (T k) < 256)
    (v2 : (k < n) → (isLt (T k)) → TC T n (j_u (j_u (j_u I 97 3 (nI k)) 97 4 (nI k)) 97 5 256))
    (v3 : (k < n) → (isLt (T k)) → (j_u (j_u (j_u I 97 3 (nI k)) 97 4 (nI k)) 97 5 256) 97 3 = nI k)
    (v4 : (k < n) → (isLt (T k)) → k < n)
    (v5 : (k < n) → (isLt (T k)) → isLt (T k))
    (v6 : (k < n) → (isLt (T k)) → 5 ≤ 5)
    (v7 : (k < n) → (isLt (T k)) → ∀ J3 : Nat → Nat → Int32, ∀ e4 : Nat, ∀ tk5 : Nat × Nat, (LxW T n k e4 tk5) → (RS (j_u (j_u (j_u I 97 3 (nI k)) 97 4 (nI k)) 97 5 256) J3 e4 tk5) → Q none w1 (J3, D, RR R))
    (v8 : (k < n) → (¬ isLt (T k)) → (isDg (T k)) → TC T n (j_u (j_u (j_u I 97 3 (nI k)) 97 4 (nI k)) 97 5 256))
    (v9 : (k < n) → (¬ isLt (T k)) → (isDg (T k)) → (j_u (j_u (j_u I 97 3 (nI k)) 97 4 (nI k)) 97 5 256) 97 3 = nI k)
    (v10 : (k < n) → (¬ isLt (T k)) → (isDg (T k)) → k < n)
    (v11 : (k < n) → (¬ isLt (T k)) → (isDg (T k)) → isDg (T k))
    (v12 : (k < n) → (¬ isLt (T k)) → (isDg (T k)) → 1 ≤ 1)
    (v13 : (k < n) → (¬ isLt (T k)) → (isDg (T k)) → ∀ J9 : Nat → Nat → Int32, ∀ e10 : Nat, ∀ tk11 : Nat × Nat, (LxN T n k e10 tk11) → (RS (j_u (j_u (j_u I 97 3 (nI k)) 97 4 (nI k)) 97 5 256) J9 e10 tk11) → Q none w1 (J9, D, RR R))
    (v14 : (k < n) → (¬ isLt (T k)) → (¬ isDg (T k)) → (isSg (T k)) → Q none w1 ((j_u (j_u (j_u (j_u (j_u I 97 3 (nI k)) 97 4 (nI k)) 97 5 256) 97 5 (nI (T k))) 97 4 (nI (k + 1))), D, RR R))
    (v15 : (k < n) → (¬ isLt (T k)) → (¬ isDg (T k)) → (¬ isSg (T k)) → Q none w1 ((j_u (j_u (j_u (j_u (j_u I 97 3 (nI k)) 97 4 (nI k)) 97 5 256) 97 5 262) 97 4 (nI (k + 1))), D, RR R))
    (v16 : (¬ k < n) → Q none w1 ((j_u (j_u (j_u I 97 3 (nI k)) 97 4 (nI k)) 97 5 256), D, RR R)) : j_W 67 d 0 0 0 0 31 [some (.ref 97), some (.int (nI k)), none] [] w1 (I, D, RR R) Q := by
  refine q_aload_n d67_31 rfl ?_
  refine q_iload_n d67_32 rfl ?_
  refine q_putI d67_33 (fs5_48 67 rfl) (Or.inl rfl) rfl (lt_w1 rfl) sh97 ?_
  refine q_aload_n d67_36 rfl ?_
  refine q_iload_n d67_37 rfl ?_
  refine q_putI d67_38 (fs5_32 67 rfl) (Or.inl rfl) rfl (lt_w1 rfl) sh97 ?_
  refine q_aload_n d67_41 rfl ?_
  refine q_sipush (v := 256) (by decide) d67_42 ?_
  refine q_putI d67_45 (fs5_42 67 rfl) (Or.inl rfl) rfl (lt_w1 rfl) sh97 ?_
  refine q_iload_n d67_48 rfl ?_
  refine q_aload_n d67_49 rfl ?_
  refine q_getI d67_50 (fs5_22 67 rfl) rfl (lt_w1 rfl) sh97 ?_
  refine r_int (y := (nI n)) (show (j_u (j_u (j_u I 97 3 (nI k)) 97 4 (nI k)) 97 5 256) 97 1 = (nI n) from (((j_u_k _ _ (by decide)).trans ((j_u_k _ _ (by decide)).trans (j_u_k _ _ (by decide)))).trans hT.2.1)) ?_
  refine q_icmp_lt (tgt := 57) d67_53 rfl (fun h1t => ?_) (fun h1f => ?_)
  ·
    have h1tc : k < n := (nI_ltI (by omega) (by omega)).mp h1t
    refine q_aload_n d67_57 rfl ?_
    refine q_getR (x := 98) d67_58 (fs5_9 67 rfl) rfl (lt_w1 rfl) sh97 (rs97_0 R) (by decide) ?_
    refine q_iload_n d67_61 rfl ?_
    refine q_iaload (a := k) d67_62 (lt_w1 rfl) sh98 rfl (by omega) ?_
    refine r_int (y := (I 98 k)) (show (j_u (j_u (j_u I 97 3 (nI k)) 97 4 (nI k)) 97 5 256) 98 k = (I 98 k) from ((j_u_o _ _ _ (by decide)).trans ((j_u_o _ _ _ (by decide)).trans (j_u_o _ _ _ (by decide))))) ?_
    refine r_int (y := nI (T k)) (hT.2.2 k (by omega)).2 ?_
    refine q_istore_n (L' := [some (.ref 97), some (.int (nI k)), some (.int (nI (T k)))]) d67_63 (Nat.le_of_ble_eq_true rfl) rfl ?_
    refine q_iload_n d67_64 rfl ?_
    refine q_invS (av := [.int (nI (T k))]) (rest := []) (d' := 0) (mc' := 0) (ms' := 0) d67_65 (cv5_93 67 rfl) rfl rfl (by omega) (Nat.le_of_ble_eq_true rfl) (Nat.le_of_ble_eq_true rfl) (Nat.le_refl _) (Nat.le_refl _) ?_
    refine c69n (v1 h1tc) (fun h2 => ?_) (fun h2 => ?_)
    ·
      show j_W 67 d 0 0 0 0 68 [some (.ref 97), some (.int (nI k)), some (.int (nI (T k)))] [.int 1] w1 ((j_u (j_u (j_u I 97 3 (nI k)) 97 4 (nI k)) 97 5 256), D, RR R) Q
      refine q_if_eq (tgt := 78) d67_68 rfl (fun h => absurd h (by decide)) (fun _ => ?_)
      refine q_aload_n d67_71 rfl ?_
      refine q_invV (o := 97) (ci := 5) (av := []) (rest := []) (d' := 5) (mc' := 0) (ms' := 0) d67_72 (cv5_96 67 rfl) rfl (by decide) rfl rfl (by omega) (Nat.le_of_ble_eq_true rfl) (Nat.le_of_ble_eq_true rfl) (lt_w1 rfl) sh97 (Nat.le_refl _) (Nat.le_refl _) ?_
      refine c70 (T := T) (n := n) (b := k) (v2 h1tc h2) (v3 h1tc h2) (v4 h1tc h2) (v5 h1tc h2) (v6 h1tc h2) (fun J3 e4 tk5 h6 h7 => ?_)
      show j_W 67 d 0 0 0 0 75 [some (.ref 97), some (.int (nI k)), some (.int (nI (T k)))] [] w1 (J3, D, RR R) Q
      refine q_goto (tgt := 117) d67_75 rfl ?_
      exact q_ret d67_117 rfl (Nat.le_refl _) (Nat.le_refl _) (v7 h1tc h2 J3 e4 tk5 h6 h7)
    ·
      show j_W 67 d 0 0 0 0 68 [some (.ref 97), some (.int (nI k)), some (.int (nI (T k)))] [.int 0] w1 ((j_u (j_u (j_u I 97 3 (nI k)) 97 4 (nI k)) 97 5 256), D, RR R) Q
      refine q_if_eq (tgt := 78) d67_68 rfl (fun _ => ?_) (fun h => absurd h (by decide))
      refine q_iload_n d67_78 rfl ?_
      refine q_invS (av := [.int (nI (T k))]) (rest := []) (d' := 0) (mc' := 0) (ms' := 0) d67_79 (cv5_99 67 rfl) rfl rfl (by omega) (Nat.le_of_ble_eq_true rfl) (Nat.le_of_ble_eq_true rfl) (Nat.le_refl _) (Nat.le_refl _) ?_
      refine c83n (v1 h1tc) (fun h8 => ?_) (fun h8 => ?_)
      ·
        show j_W 67 d 0 0 0 0 82 [some (.ref 97), some (.int (nI k)), some (.int (nI (T k)))] [.int 1] w1 ((j_u (j_u (j_u I 97 3 (nI k)) 97 4 (nI k)) 97 5 256), D, RR R) Q
        refine q_if_eq (tgt := 92) d67_82 rfl (fun h => absurd h (by decide)) (fun _ => ?_)
        refine q_aload_n d67_85 rfl ?_
        refine q_invV (o := 97) (ci := 5) (av := []) (rest := []) (d' := 1) (mc' := 0) (ms' := 0) d67_86 (cv5_102 67 rfl) rfl (by decide) rfl rfl (by omega) (Nat.le_of_ble_eq_true rfl) (Nat.le_of_ble_eq_true rfl) (lt_w1 rfl) sh97 (Nat.le_refl _) (Nat.le_refl _) ?_
        refine c84 (T := T) (n := n) (b := k) (v8 h1tc h2 h8) (v9 h1tc h2 h8) (v10 h1tc h2 h8) (v11 h1tc h2 h8) (v12 h1tc h2 h8) (fun J9 e10 tk11 h12 h13 => ?_)
        show j_W 67 d 0 0 0 0 89 [some (.ref 97), some (.int (nI k)), some (.int (nI (T k)))] [] w1 (J9, D, RR R) Q
        refine q_goto (tgt := 117) d67_89 rfl ?_
        exact q_ret d67_117 rfl (Nat.le_refl _) (Nat.le_refl _) (v13 h1tc h2 h8 J9 e10 tk11 h12 h13)
      ·
        show j_W 67 d 0 0 0 0 82 [some (.ref 97), some (.int (nI k)), some (.int (nI (T k)))] [.int 0] w1 ((j_u (j_u (j_u I 97 3 (nI k)) 97 4 (nI k)) 97 5 256), D, RR R) Q
        refine q_if_eq (tgt := 92) d67_82 rfl (fun _ => ?_) (fun h => absurd h (by decide))
        refine q_aload_n d67_92 rfl ?_
        refine q_iload_n d67_93 rfl ?_
        refine q_invS (av := [.int (nI (T k))]) (rest := [.ref 97]) (d' := 0) (mc' := 0) (ms' := 0) d67_94 (cv5_105 67 rfl) rfl rfl (by omega) (Nat.le_of_ble_eq_true rfl) (Nat.le_of_ble_eq_true rfl) (Nat.le_refl _) (Nat.le_refl _) ?_
        refine c85n (v1 h1tc) (fun h14 => ?_) (fun h14 => ?_)
        ·
          show j_W 67 d 0 0 0 0 97 [some (.ref 97), some (.int (nI k)), some (.int (nI (T k)))] [.int 1, .ref 97] w1 ((j_u (j_u (j_u I 97 3 (nI k)) 97 4 (nI k)) 97 5 256), D, RR R) Q
          refine q_if_eq (tgt := 104) d67_97 rfl (fun h => absurd h (by decide)) (fun _ => ?_)
          refine q_iload_n d67_100 rfl ?_
          refine q_goto (tgt := 107) d67_101 rfl ?_
          refine q_putI d67_107 (fs5_42 67 rfl) (Or.inl rfl) rfl (lt_w1 rfl) sh97 ?_
          refine q_aload_n d67_110 rfl ?_
          refine q_iload_n d67_111 rfl ?_
          refine q_iconst (v := 1) (by decide) d67_112 ?_
          refine q_iadd d67_113 ?_
          refine r_int (y := (nI (k + 1))) (nI_add k 1) ?_
          refine q_putI d67_114 (fs5_32 67 rfl) (Or.inl rfl) rfl (lt_w1 rfl) sh97 ?_
          exact q_ret d67_117 rfl (Nat.le_refl _) (Nat.le_refl _) (v14 h1tc h2 h8 h14)
        ·
          show j_W 67 d 0 0 0 0 97 [some (.ref 97), some (.int (nI k)), some (.int (nI (T k)))] [.int 0, .ref 97] w1 ((j_u (j_u (j_u I 97 3 (nI k)) 97 4 (nI k)) 97 5 256), D, RR R) Q
          refine q_if_eq (tgt := 104) d67_97 rfl (fun _ => ?_) (fun h => absurd h (by decide))
          refine q_sipush (v := 262) (by decide) d67_104 ?_
          refine q_putI d67_107 (fs5_42 67 rfl) (Or.inl rfl) rfl (lt_w1 rfl) sh97 ?_
          refine q_aload_n d67_110 rfl ?_
          refine q_iload_n d67_111 rfl ?_
          refine q_iconst (v := 1) (by decide) d67_112 ?_
          refine q_iadd d67_113 ?_
          refine r_int (y := (nI (k + 1))) (nI_add k 1) ?_
          refine q_putI d67_114 (fs5_32 67 rfl) (Or.inl rfl) rfl (lt_w1 rfl) sh97 ?_
          exact q_ret d67_117 rfl (Nat.le_refl _) (Nat.le_refl _) (v15 h1tc h2 h8 h14)
  ·
    have h1fc : ¬ k < n := mt (nI_ltI (by omega) (by omega)).mpr h1f
    exact q_ret d67_56 rfl (Nat.le_refl _) (Nat.le_refl _) (v16 h1fc)

def blR (T : Nat → Nat) (n : Nat) : Nat → Nat → Prop := Run (fun j => j < n ∧ isBl (T j))
/-- what is looked at from p on: it begins at b and ends at e -/
def Lx (T : Nat → Nat) (n p b e : Nat) (tk : Nat × Nat) : Prop := blR T n p b ∧ ((¬ b < n ∧ e = b ∧ tk = (256, 0)) ∨ LxW T n b e tk ∨ LxN T n b e tk ∨ (b < n ∧ ¬ isLt (T b) ∧ ¬ isDg (T b) ∧ e = b + 1 ∧ ((isSg (T b) ∧ tk = (T b, 0)) ∨ (¬ isSg (T b) ∧ tk = (262, 0)))))
theorem Lx.le {T : Nat → Nat} {n p b e : Nat} {tk : Nat × Nat} (h : Lx T n p b e tk) (hp : p ≤ n) : p ≤ b ∧ b ≤ e ∧ e ≤ n ∧ (tk.1 ≠ 256 → b < e) := by
  obtain ⟨⟨h1, h2, h3⟩, h4⟩ := h
  have hbn : b ≤ n := by
    rcases Nat.lt_or_ge p b with hl | hl
    · have := (h2 (b - 1) (by omega) (by omega)).1; omega
    · omega
  rcases h4 with ⟨a1, a2, a3⟩ | h4 | h4 | ⟨a1, a2, a3, a4, -⟩
  · exact ⟨h1, by omega, by omega, fun h => absurd (by rw [a3]) h⟩
  · obtain ⟨b1, b2, ⟨c1, c2, c3⟩, -⟩ := h4
    have hlt : b < e := by
      rcases Nat.lt_or_ge b e with hl | hl
      · exact hl
      · have : e = b := by omega
        subst this
        exact absurd ⟨b1, b2⟩ c3
    have := (c2 (e - 1) (by omega) (by omega)).1
    exact ⟨h1, by omega, by omega, fun _ => hlt⟩
  · obtain ⟨b1, b2, c, ⟨c1, c2, c3⟩, h5⟩ := h4
    have hlt : b < c := by
      rcases Nat.lt_or_ge b c with hl | hl
      · exact hl
      · have : c = b := by omega
        subst this
        exact absurd ⟨b1, b2⟩ c3
    have := (c2 (c - 1) (by omega) (by omega)).1
    rcases h5 with ⟨-, e1, -⟩ | ⟨⟨f1, -⟩, ⟨g1, g2, g3⟩, -⟩
    · exact ⟨h1, by omega, by omega, fun _ => by omega⟩
    · have : e ≤ n := by
        rcases Nat.lt_or_ge (c + 1) e with hl | hl
        · have := (g2 (e - 1) (by omega) (by omega)).1; omega
        · omega
      exact ⟨h1, by omega, this, fun _ => by omega⟩
  · exact ⟨h1, by omega, by omega, fun _ => by omega⟩
/-- the reader behind a look from p -/
def RdS (I J : Nat → Nat → Int32) (b e : Nat) (tk : Nat × Nat) : Prop := (∀ o, o ≠ 97 → J o = I o) ∧ (∀ i, i ≠ 3 → i ≠ 4 → i ≠ 5 → i ≠ 6 → J 97 i = I 97 i) ∧ J 97 3 = nI b ∧ J 97 4 = nI e ∧ J 97 5 = nI tk.1 ∧ (257 ≤ tk.1 → tk.1 ≤ 261 → J 97 6 = nI tk.2)
theorem RdS.of {I J : Nat → Nat → Int32} {k e : Nat} {tk : Nat × Nat} (h : RS (j_u (j_u (j_u I 97 3 (nI k)) 97 4 (nI k)) 97 5 256) J e tk) : RdS I J k e tk := by
  obtain ⟨h1, h2, h3, h4, h5⟩ := h
  refine ⟨fun o ho => (h1 o ho).trans ?_, fun i a b c f => (h2 i b c f).trans ?_, (h2 3 (by decide) (by decide) (by decide)).trans ?_, h3, h4, h5⟩
  · funext i; simp (disch := assumption) only [j_u_o]
  · simp (disch := assumption) only [j_u_k]
  · simp (disch := decide) only [j_u_k, j_u_same]
theorem c67 {d : Nat} {I : Nat → Nat → Int32} {D : Nat → Nat → UInt64} {R : Nat → Nat → Option Nat} {Q : j_Po} {T : Nat → Nat} {n p : Nat} (hT : TC T n I) (hp : I 97 4 = nI p) (hpn : p ≤ n) (hd : 6 ≤ d) (hq : ∀ J b e tk, Lx T n p b e tk → RdS I J b e tk → Q none w1 (J, D, RR R)) : j_Call d 67 [.ref 97] w1 (I, D, RR R) 0 0 Q := by
  have hn9 := hT.1
  have fin : ∀ k, k ≤ n → blR T n p k → j_W 67 d 0 0 0 0 31 [some (.ref 97), some (.int (nI k)), none] [] w1 (I, D, RR R) Q := fun k hk hr =>
    s67x hT hn9 hk hd (fun y1 => (hT.2.2 k y1).1) (fun y1 y2 => hT.cg (by simp (disch := decide) only [j_u_k, j_u_o]) (by funext i; simp (disch := decide) only [j_u_o])) (fun y1 y2 => (by simp (disch := decide) only [j_u_k, j_u_same])) (fun y1 y2 => y1) (fun y1 y2 => y2) (fun y1 y2 => Nat.le_refl _) (fun y1 y2 J3 e4 tk5 y6 y7 => hq _ k _ _ ⟨hr, Or.inr (Or.inl y6)⟩ (RdS.of y7)) (fun y1 y2 y3 => hT.cg (by simp (disch := decide) only [j_u_k, j_u_o]) (by funext i; simp (disch := decide) only [j_u_o])) (fun y1 y2 y3 => (by simp (disch := decide) only [j_u_k, j_u_same])) (fun y1 y2 y3 => y1) (fun y1 y2 y3 => y3) (fun y1 y2 y3 => Nat.le_refl _) (fun y1 y2 y3 J9 e10 tk11 y7 y8 => hq _ k _ _ ⟨hr, Or.inr (Or.inr (Or.inl y7))⟩ (RdS.of y8)) (fun y1 y2 y3 y4 => hq _ k (k + 1) (T k, 0) ⟨hr, Or.inr (Or.inr (Or.inr ⟨y1, y2, y3, rfl, Or.inl ⟨y4, rfl⟩⟩))⟩ ⟨fun o ho => by funext i; simp (disch := assumption) only [j_u_o], fun i h3 h4 h5 h6 => by simp (disch := assumption) only [j_u_k], by simp (disch := decide) only [j_u_k, j_u_same], by simp (disch := decide) only [j_u_k, j_u_same], by simp (disch := decide) only [j_u_k, j_u_same], fun h => absurd h (by have := (hT.2.2 k y1).1; show ¬ 257 ≤ T k; omega)⟩) (fun y1 y2 y3 y4 => hq _ k (k + 1) (262, 0) ⟨hr, Or.inr (Or.inr (Or.inr ⟨y1, y2, y3, rfl, Or.inr ⟨y4, rfl⟩⟩))⟩ ⟨fun o ho => by funext i; simp (disch := assumption) only [j_u_o], fun i h3 h4 h5 h6 => by simp (disch := assumption) only [j_u_k], by simp (disch := decide) only [j_u_k, j_u_same], by simp (disch := decide) only [j_u_k, j_u_same], by simp (disch := decide) only [j_u_k, j_u_same]; rfl, fun _ h => absurd h (by decide)⟩) (fun y1 => hq _ k k (256, 0) ⟨hr, Or.inl ⟨y1, rfl, rfl⟩⟩ ⟨fun o ho => by funext i; simp (disch := assumption) only [j_u_o], fun i h3 h4 h5 h6 => by simp (disch := assumption) only [j_u_k], by simp (disch := decide) only [j_u_k, j_u_same], by simp (disch := decide) only [j_u_k, j_u_same], by simp (disch := decide) only [j_u_k, j_u_same]; rfl, fun h => absurd h (by decide)⟩)
  have loop : ∀ z k, p ≤ k → k ≤ n → n - k = z → (∀ j, p ≤ j → j < k → j < n ∧ isBl (T j)) → j_W 67 d 0 0 0 0 5 [some (.ref 97), some (.int (nI k)), none] [] w1 (I, D, RR R) Q := fun z => by
    induction z with
    | zero =>
      intro k hpk hk hz hb
      exact s67h hT hn9 hk hd (fun _ => fin k hk ⟨hpk, hb, fun h => by omega⟩) (fun h => by omega) (fun h => by omega) (fun h => by omega)
    | succ z ih =>
      intro k hpk hk hz hb
      have hlt : k < n := by omega
      refine s67h hT hn9 hk hd (fun h => by omega) (fun _ => (hT.2.2 k hlt).1) (fun _ h => ih (k + 1) (by omega) (by omega) (by omega) (fun j h1 h2 => ?_)) (fun _ h => fin k hk ⟨hpk, hb, fun h2 => h h2.2⟩)
      by_cases e : j = k
      · subst e; exact ⟨hlt, h⟩
      · exact hb j h1 (by omega)
  exact s67e hT hn9 hp hd (loop _ p (Nat.le_refl _) hpn rfl (fun j h1 h2 => by omega))
