/-! the class reads one: a number, a cell -/
set_option maxRecDepth 10000 in
set_option maxHeartbeats 4000000 in
theorem s89n {d : Nat} {I : Nat → Nat → Int32} {D : Nat → Nat → UInt64} {R : Nat → Nat → Option Nat} {Q : j_Po} {p : Nat} {T : Nat → Nat} {n w : Nat} {I0 : Nat → Nat → Int32} {s : PSt} (hR : WFR R) (h6 : I 97 6 = nI w) (hd : 7 ≤ d)
    (v1 : pz s < 96)
    (v2 : RC T n (fm R) I0 I s)
    (v3 : 0 ≠ 1)
    (v4 : 0 < 13)
    (v5 : w < 16777216)
    (v6 : ∀ J3 : Nat → Nat → Int32, (RC T n (fm R) I0 J3 (addP s 0 w)) → okP n (addP s 0 w))
    (v7 : ∀ J3 : Nat → Nat → Int32, (RC T n (fm R) I0 J3 (addP s 0 w)) → RC T n (fm R) I0 J3 (addP s 0 w))
    (v8 : ∀ J3 : Nat → Nat → Int32, (RC T n (fm R) I0 J3 (addP s 0 w)) → 6 ≤ 6)
    (v9 : ∀ J3 : Nat → Nat → Int32, (RC T n (fm R) I0 J3 (addP s 0 w)) → ∀ J5 : Nat → Nat → Int32, ∀ t6 : PSt, (nxP T n (addP s 0 w) t6) → (okP n t6) → (pe (addP s 0 w) ≤ pb t6) → (RC T n (fm R) I0 J5 t6) → Q none w1 (J5, D, RR R)) : j_W 89 d 0 0 0 0 72 [some (.ref 97), some (.int (nI p))] [] w1 (I, D, RR R) Q := by
  refine q_aload_n d89_72 rfl ?_
  have g2 := hR.m
  refine q_getR (x := ((R 97 2).getD 0)) d89_73 (fs5_18 89 rfl) rfl (lt_w1 rfl) sh97 ((RR_d rfl).trans g2.1) (lt1000 (isF_lt g2.2)) ?_
  refine q_iconst (v := 0) (by decide) d89_76 ?_
  refine q_aload_n d89_77 rfl ?_
  refine q_getI d89_78 (fs5_68 89 rfl) rfl (lt_w1 rfl) sh97 ?_
  refine r_int (y := (nI w)) (show I 97 6 = (nI w) from h6) ?_
  refine q_invV (o := ((R 97 2).getD 0)) (ci := 2) (av := [.int 0, .int (nI w)]) (rest := []) (d' := 0) (mc' := 0) (ms' := 0) d89_81 (cv5_54 89 rfl) rfl (by decide) rfl rfl (by omega) (Nat.le_of_ble_eq_true rfl) (Nat.le_of_ble_eq_true rfl) (isF_lt g2.2) (isF_sh g2.2) (Nat.le_refl _) (Nat.le_refl _) ?_
  refine rc_add (a := 0) (T := T) (n := n) (o := fm R) (I0 := I0) (s := s) hR.2.2.1.2 v1 v2 v3 v4 v5 (fun J3 h4 => ?_)
  show j_W 89 d 0 0 0 0 84 [some (.ref 97), some (.int (nI p))] [] w1 (J3, D, RR R) Q
  refine q_aload_n d89_84 rfl ?_
  refine q_invV (o := 97) (ci := 5) (av := []) (rest := []) (d' := 6) (mc' := 0) (ms' := 0) d89_85 (cv5_35 89 rfl) rfl (by decide) rfl rfl (by omega) (Nat.le_of_ble_eq_true rfl) (Nat.le_of_ble_eq_true rfl) (lt_w1 rfl) sh97 (Nat.le_refl _) (Nat.le_refl _) ?_
  refine rc_look (T := T) (n := n) (o := fm R) (I0 := I0) (s := (addP s 0 w)) hR.2.2.1.2 (v6 J3 h4) (v7 J3 h4) (v8 J3 h4) (fun J5 t6 h7 h8 h9 h10 => ?_)
  show j_W 89 d 0 0 0 0 88 [some (.ref 97), some (.int (nI p))] [] w1 (J5, D, RR R) Q
  refine q_goto (tgt := 157) d89_88 rfl ?_
  exact q_ret d89_157 rfl (Nat.le_refl _) (Nat.le_refl _) (v9 J3 h4 J5 t6 h7 h8 h9 h10)

set_option maxRecDepth 10000 in
set_option maxHeartbeats 4000000 in
theorem s89i {d : Nat} {I : Nat → Nat → Int32} {D : Nat → Nat → UInt64} {R : Nat → Nat → Option Nat} {Q : j_Po} {p : Nat} {T : Nat → Nat} {n w : Nat} {I0 : Nat → Nat → Int32} {s : PSt} (hR : WFR R) (h6 : I 97 6 = nI w) (hJ6 : ∀ J, RCx T n (fm R) I0 J s 1 w → J 97 6 = nI w) (hd : 7 ≤ d)
    (v1 : pz s < 96)
    (v2 : RC T n (fm R) I0 I s)
    (v3 : 1 ≤ 17)
    (v4 : w < 16777216)
    (v5 : ∀ J3 : Nat → Nat → Int32, (RCx T n (fm R) I0 J3 s 1 w) → w < 24)
    (v6 : ∀ J3 : Nat → Nat → Int32, (RCx T n (fm R) I0 J3 s 1 w) → RCx T n (fm R) I0 J3 s 1 w)
    (v7 : ∀ J3 : Nat → Nat → Int32, (RCx T n (fm R) I0 J3 s 1 w) → ∀ J7 : Nat → Nat → Int32, (RC T n (fm R) I0 J7 (addP s 1 w)) → okP n (addP s 1 w))
    (v8 : ∀ J3 : Nat → Nat → Int32, (RCx T n (fm R) I0 J3 s 1 w) → ∀ J7 : Nat → Nat → Int32, (RC T n (fm R) I0 J7 (addP s 1 w)) → RC T n (fm R) I0 J7 (addP s 1 w))
    (v9 : ∀ J3 : Nat → Nat → Int32, (RCx T n (fm R) I0 J3 s 1 w) → ∀ J7 : Nat → Nat → Int32, (RC T n (fm R) I0 J7 (addP s 1 w)) → 6 ≤ 6)
    (v10 : ∀ J3 : Nat → Nat → Int32, (RCx T n (fm R) I0 J3 s 1 w) → ∀ J7 : Nat → Nat → Int32, (RC T n (fm R) I0 J7 (addP s 1 w)) → ∀ J9 : Nat → Nat → Int32, ∀ t10 : PSt, (nxP T n (addP s 1 w) t10) → (okP n t10) → (pe (addP s 1 w) ≤ pb t10) → (RC T n (fm R) I0 J9 t10) → Q none w1 (J9, D, RR R)) : j_W 89 d 0 0 0 0 91 [some (.ref 97), some (.int (nI p))] [] w1 (I, D, RR R) Q := by
  refine q_aload_n d89_91 rfl ?_
  have g2 := hR.m
  refine q_getR (x := ((R 97 2).getD 0)) d89_92 (fs5_18 89 rfl) rfl (lt_w1 rfl) sh97 ((RR_d rfl).trans g2.1) (lt1000 (isF_lt g2.2)) ?_
  refine q_iconst (v := 1) (by decide) d89_95 ?_
  refine q_aload_n d89_96 rfl ?_
  refine q_getI d89_97 (fs5_68 89 rfl) rfl (lt_w1 rfl) sh97 ?_
  refine r_int (y := (nI w)) (show I 97 6 = (nI w) from h6) ?_
  refine q_invV (o := ((R 97 2).getD 0)) (ci := 2) (av := [.int 1, .int (nI w)]) (rest := []) (d' := 0) (mc' := 0) (ms' := 0) d89_100 (cv5_54 89 rfl) rfl (by decide) rfl rfl (by omega) (Nat.le_of_ble_eq_true rfl) (Nat.le_of_ble_eq_true rfl) (isF_lt g2.2) (isF_sh g2.2) (Nat.le_refl _) (Nat.le_refl _) ?_
  refine rc_addx (a := 1) (T := T) (n := n) (o := fm R) (I0 := I0) (s := s) hR.2.2.1.2 v1 v2 v3 v4 (fun J3 h4 => ?_)
  show j_W 89 d 0 0 0 0 103 [some (.ref 97), some (.int (nI p))] [] w1 (J3, D, RR R) Q
  refine q_aload_n d89_103 rfl ?_
  have g6 := hR.m
  refine q_getR (x := ((R 97 2).getD 0)) d89_104 (fs5_18 89 rfl) rfl (lt_w1 rfl) sh97 ((RR_d rfl).trans g6.1) (lt1000 (isF_lt g6.2)) ?_
  refine q_aload_n d89_107 rfl ?_
  refine q_getI d89_108 (fs5_68 89 rfl) rfl (lt_w1 rfl) sh97 ?_
  refine r_int (y := (nI w)) (show J3 97 6 = (nI w) from (hJ6 _ h4)) ?_
  refine q_invV (o := ((R 97 2).getD 0)) (ci := 2) (av := [.int (nI w)]) (rest := []) (d' := 0) (mc' := 0) (ms' := 0) d89_111 (cv5_71 89 rfl) rfl (by decide) rfl rfl (by omega) (Nat.le_of_ble_eq_true rfl) (Nat.le_of_ble_eq_true rfl) (isF_lt g6.2) (isF_sh g6.2) (Nat.le_refl _) (Nat.le_refl _) ?_
  refine rc_cell (T := T) (n := n) (o := fm R) (I0 := I0) (s := s) hR.2.2.1.2 (v5 J3 h4) (v6 J3 h4) (fun J7 h8 => ?_)
  show j_W 89 d 0 0 0 0 114 [some (.ref 97), some (.int (nI p))] [] w1 (J7, D, RR R) Q
  refine q_aload_n d89_114 rfl ?_
  refine q_invV (o := 97) (ci := 5) (av := []) (rest := []) (d' := 6) (mc' := 0) (ms' := 0) d89_115 (cv5_35 89 rfl) rfl (by decide) rfl rfl (by omega) (Nat.le_of_ble_eq_true rfl) (Nat.le_of_ble_eq_true rfl) (lt_w1 rfl) sh97 (Nat.le_refl _) (Nat.le_refl _) ?_
  refine rc_look (T := T) (n := n) (o := fm R) (I0 := I0) (s := (addP s 1 w)) hR.2.2.1.2 (v7 J3 h4 J7 h8) (v8 J3 h4 J7 h8) (v9 J3 h4 J7 h8) (fun J9 t10 h11 h12 h13 h14 => ?_)
  show j_W 89 d 0 0 0 0 118 [some (.ref 97), some (.int (nI p))] [] w1 (J9, D, RR R) Q
  refine q_goto (tgt := 157) d89_118 rfl ?_
  exact q_ret d89_157 rfl (Nat.le_refl _) (Nat.le_refl _) (v10 J3 h4 J7 h8 J9 t10 h11 h12 h13 h14)

