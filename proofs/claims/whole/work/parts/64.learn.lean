/-! learning: a formula, a table -/
def cl26 (a : Int64) : Int32 := if lg_cmp a 2000 ≤ 0 then a.toInt32 else 2001
theorem c26 {d : Nat} {I : Nat → Nat → Int32} {D : Nat → Nat → UInt64} {R : Nat → Nat → Option Nat} {Q : j_Po} {a : Int64} (hq : Q (some (.int (cl26 a))) w1 (I, D, RR R)) : j_Call d 26 [.long a] w1 (I, D, RR R) 0 0 Q := by
  unfold cl26 at hq
  refine s26 (Nat.zero_le _) (fun h => ?_) (fun h => ?_)
  · rw [if_pos h] at hq; exact hq
  · rw [if_neg h] at hq; exact hq
theorem cl26_n {n : Nat} (h : n < 2 ^ 31) : cl26 (lN n) = nI (min 2001 n) := by
  have e : lg_cmp (lN n) 2000 ≤ 0 ↔ n ≤ 2000 := by
    rw [lg_cmp_le]
    exact lN_le (b := 2000) h (by decide)
  unfold cl26
  by_cases h2 : n ≤ 2000
  · rw [if_pos (e.mpr h2), lN_i, Nat.min_eq_right (by omega)]
  · rw [if_neg (mt e.mp h2), Nat.min_eq_left (by omega)]; rfl
def vry (I : Nat → Nat → Int32) (g : Nat) : Int32 := if I g 3 = -1 then 1 <<< (I g 2 &&& 31) else (1 <<< (I g 2 &&& 31)) ||| (1 <<< (I g 3 &&& 31))
theorem c28 {d : Nat} {I : Nat → Nat → Int32} {D : Nat → Nat → UInt64} {R : Nat → Nat → Option Nat} {Q : j_Po} {g : Nat} (hg : isG g) (hq : Q (some (.int (vry I g))) w1 (I, D, RR R)) : j_Call d 28 [.ref g] w1 (I, D, RR R) 0 0 Q := by
  unfold vry at hq
  refine s28 hg (Nat.zero_le _) (fun h => ?_) (fun h => ?_)
  · rw [if_neg h] at hq; exact hq
  · rw [if_pos h] at hq; exact hq
set_option maxRecDepth 10000 in
set_option maxHeartbeats 4000000 in
theorem s27e {d : Nat} {I : Nat → Nat → Int32} {D : Nat → Nat → UInt64} {R : Nat → Nat → Option Nat} {Q : j_Po} {c : Nat}  (hR : WFR R) (hc : c < 24) (hd : 1 ≤ d)
    (v1 : j_W 27 d 0 0 0 0 18 [some (.ref 204), some (.ref 108), some (.int (nI c)), some (.ref ((R 112 c).getD 0)), some (.int (1 <<< ((nI c) &&& 31))), some (.int 0), some (.int 0), none, none, none] [] w1 (I, D, RR R) Q) : j_Call d 27 [.ref 204, .ref 108, .int (nI c)] w1 (I, D, RR R) 0 0 Q := by
  refine q_enter (L := [some (.ref 204), some (.ref 108), some (.int (nI c)), none, none, none, none, none, none, none]) j_m27 (Nat.le_of_ble_eq_true rfl) rfl ?_
  refine q_aload_n d27_0 rfl ?_
  refine q_getR (x := 112) d27_1 (fs4_30 27 rfl) rfl (lt_w1 rfl) sh108 (rs108_3 R) (by decide) ?_
  refine q_iload_n d27_4 rfl ?_
  have g2 := hR.f c (by omega)
  refine q_aaload (c := 6) (a := c) (x := ((R 112 c).getD 0)) d27_5 (lt_w1 rfl) sh112 (by decide) rfl (by omega) ((RR_d rfl).trans g2.1) (lt1000 (isF_lt g2.2)) ?_
  refine q_astore_n (L' := [some (.ref 204), some (.ref 108), some (.int (nI c)), some (.ref ((R 112 c).getD 0)), none, none, none, none, none, none]) d27_6 (Nat.le_of_ble_eq_true rfl) (Nat.ne_of_lt (Nat.lt_trans (lt1000 (isF_lt g2.2)) (by decide))) rfl ?_
  refine q_iconst (v := 1) (by decide) d27_7 ?_
  refine q_iload_n d27_8 rfl ?_
  refine q_ishl d27_9 ?_
  refine q_istore (L' := [some (.ref 204), some (.ref 108), some (.int (nI c)), some (.ref ((R 112 c).getD 0)), some (.int (1 <<< ((nI c) &&& 31))), none, none, none, none, none]) d27_10 (Nat.le_of_ble_eq_true rfl) rfl ?_
  refine q_iconst (v := 0) (by decide) d27_12 ?_
  refine q_istore (L' := [some (.ref 204), some (.ref 108), some (.int (nI c)), some (.ref ((R 112 c).getD 0)), some (.int (1 <<< ((nI c) &&& 31))), some (.int 0), none, none, none, none]) d27_13 (Nat.le_of_ble_eq_true rfl) rfl ?_
  refine q_iconst (v := 0) (by decide) d27_15 ?_
  refine q_istore (L' := [some (.ref 204), some (.ref 108), some (.int (nI c)), some (.ref ((R 112 c).getD 0)), some (.int (1 <<< ((nI c) &&& 31))), some (.int 0), some (.int 0), none, none, none]) d27_16 (Nat.le_of_ble_eq_true rfl) rfl ?_
  exact r_sub (L' := [some (.ref 204), some (.ref 108), some (.int (nI c)), some (.ref ((R 112 c).getD 0)), some (.int (1 <<< ((nI c) &&& 31))), some (.int 0), some (.int 0), none, none, none]) ⟨rfl, rfl, rfl, rfl, rfl, rfl, rfl, trivial⟩ v1

set_option maxRecDepth 10000 in
set_option maxHeartbeats 4000000 in
theorem s27a {d : Nat} {I : Nat → Nat → Int32} {D : Nat → Nat → UInt64} {R : Nat → Nat → Option Nat} {Q : j_Po} {c : Nat} {f : Nat} {x : Int32} {y : Int32} {k : Nat}  (hR : WFR R) (hc : c < 24) (hf : isF f) (hk : k ≤ 24) (hd : 1 ≤ d)
    (v1 : (24 ≤ k) → j_W 27 d 0 0 0 0 76 [some (.ref 204), some (.ref 108), some (.int (nI c)), some (.ref f), some (.int x), some (.int y), some (.int 1), some (.int 0), none, none] [] w1 (I, D, RR R) Q)
    (v2 : (¬ 24 ≤ k) → ((¬ ((I f 2) >>> ((nI k) &&& 31)) &&& 1 = 0)) → j_W 27 d 0 0 0 0 18 [some (.ref 204), some (.ref 108), some (.int (nI c)), some (.ref f), some (.int (x ||| (I 206 k))), some (.int (y ||| (I 207 k))), some (.int (nI (k + 1))), none, none, none] [] w1 (I, D, RR R) Q)
    (v3 : (¬ 24 ≤ k) → (¬ ((¬ ((I f 2) >>> ((nI k) &&& 31)) &&& 1 = 0))) → j_W 27 d 0 0 0 0 18 [some (.ref 204), some (.ref 108), some (.int (nI c)), some (.ref f), some (.int x), some (.int y), some (.int (nI (k + 1))), none, none, none] [] w1 (I, D, RR R) Q) : j_W 27 d 0 0 0 0 18 [some (.ref 204), some (.ref 108), some (.int (nI c)), some (.ref f), some (.int x), some (.int y), some (.int (nI k)), none, none, none] [] w1 (I, D, RR R) Q := by
  refine q_iload d27_18 rfl ?_
  refine q_bipush (v := 24) (by decide) d27_20 ?_
  refine q_icmp_ge (tgt := 70) d27_22 rfl (fun h1t => ?_) (fun h1f => ?_)
  ·
    have h1tc : 24 ≤ k := (nI_leI (by omega) (by omega)).mp h1t
    refine q_iconst (v := 1) (by decide) d27_70 ?_
    refine q_istore (L' := [some (.ref 204), some (.ref 108), some (.int (nI c)), some (.ref f), some (.int x), some (.int y), some (.int 1), none, none, none]) d27_71 (Nat.le_of_ble_eq_true rfl) rfl ?_
    refine q_iconst (v := 0) (by decide) d27_73 ?_
    refine q_istore (L' := [some (.ref 204), some (.ref 108), some (.int (nI c)), some (.ref f), some (.int x), some (.int y), some (.int 1), some (.int 0), none, none]) d27_74 (Nat.le_of_ble_eq_true rfl) rfl ?_
    exact r_sub (L' := [some (.ref 204), some (.ref 108), some (.int (nI c)), some (.ref f), some (.int x), some (.int y), some (.int 1), some (.int 0), none, none]) ⟨rfl, rfl, rfl, rfl, rfl, rfl, rfl, rfl, trivial⟩ (v1 h1tc)
  ·
    have h1fc : ¬ 24 ≤ k := mt (nI_leI (by omega) (by omega)).mpr h1f
    refine q_aload_n d27_25 rfl ?_
    refine q_getI d27_26 (fs4_36 27 rfl) rfl (isF_lt hf) (isF_sh hf) ?_
    refine q_iload d27_29 rfl ?_
    refine q_invSN (av := [.int (I f 2), .int (nI k)]) (rest := []) (d' := 0) (mc' := 0) (ms' := 0) d27_31 (nv4_55 27 rfl) rfl rfl (by omega) (Nat.le_of_ble_eq_true rfl) (Nat.le_of_ble_eq_true rfl) (Nat.le_refl _) (Nat.le_refl _) ?_
    refine p21  (fun h2 => ?_) (fun h2 => ?_)
    ·
      show j_W 27 d 0 0 0 0 34 [some (.ref 204), some (.ref 108), some (.int (nI c)), some (.ref f), some (.int x), some (.int y), some (.int (nI k)), none, none, none] [.int 1] w1 (I, D, RR R) Q
      refine q_if_ne (tgt := 40) d27_34 rfl (fun _ => ?_) (fun h => absurd h (by decide))
      refine q_iload d27_40 rfl ?_
      refine q_aload_n d27_42 rfl ?_
      refine q_getR (x := 206) d27_43 (fs4_15 27 rfl) rfl (lt_w1 rfl) sh204 (rs204_1 R) (by decide) ?_
      refine q_iload d27_46 rfl ?_
      refine q_iaload (a := k) d27_48 (lt_w1 rfl) sh206 rfl (by omega) ?_
      refine q_ior d27_49 ?_
      refine q_istore (L' := [some (.ref 204), some (.ref 108), some (.int (nI c)), some (.ref f), some (.int (x ||| (I 206 k))), some (.int y), some (.int (nI k)), none, none, none]) d27_50 (Nat.le_of_ble_eq_true rfl) rfl ?_
      refine q_iload d27_52 rfl ?_
      refine q_aload_n d27_54 rfl ?_
      refine q_getR (x := 207) d27_55 (fs4_18 27 rfl) rfl (lt_w1 rfl) sh204 (rs204_2 R) (by decide) ?_
      refine q_iload d27_58 rfl ?_
      refine q_iaload (a := k) d27_60 (lt_w1 rfl) sh207 rfl (by omega) ?_
      refine q_ior d27_61 ?_
      refine q_istore (L' := [some (.ref 204), some (.ref 108), some (.int (nI c)), some (.ref f), some (.int (x ||| (I 206 k))), some (.int (y ||| (I 207 k))), some (.int (nI k)), none, none, none]) d27_62 (Nat.le_of_ble_eq_true rfl) rfl ?_
      refine q_iinc (L' := [some (.ref 204), some (.ref 108), some (.int (nI c)), some (.ref f), some (.int (x ||| (I 206 k))), some (.int (y ||| (I 207 k))), some (.int (nI (k + 1))), none, none, none]) (v := (nI (k + 1))) d27_64 rfl (nI_inc _) rfl ?_
      refine q_goto (tgt := 18) d27_67 rfl ?_
      exact r_sub (L' := [some (.ref 204), some (.ref 108), some (.int (nI c)), some (.ref f), some (.int (x ||| (I 206 k))), some (.int (y ||| (I 207 k))), some (.int (nI (k + 1))), none, none, none]) ⟨rfl, rfl, rfl, rfl, rfl, rfl, rfl, trivial⟩ (v2 h1fc h2)
    ·
      show j_W 27 d 0 0 0 0 34 [some (.ref 204), some (.ref 108), some (.int (nI c)), some (.ref f), some (.int x), some (.int y), some (.int (nI k)), none, none, none] [.int 0] w1 (I, D, RR R) Q
      refine q_if_ne (tgt := 40) d27_34 rfl (fun h => absurd h (by decide)) (fun _ => ?_)
      refine q_goto (tgt := 64) d27_37 rfl ?_
      refine q_iinc (L' := [some (.ref 204), some (.ref 108), some (.int (nI c)), some (.ref f), some (.int x), some (.int y), some (.int (nI (k + 1))), none, none, none]) (v := (nI (k + 1))) d27_64 rfl (nI_inc _) rfl ?_
      refine q_goto (tgt := 18) d27_67 rfl ?_
      exact r_sub (L' := [some (.ref 204), some (.ref 108), some (.int (nI c)), some (.ref f), some (.int x), some (.int y), some (.int (nI (k + 1))), none, none, none]) ⟨rfl, rfl, rfl, rfl, rfl, rfl, rfl, trivial⟩ (v3 h1fc h2)

set_option maxRecDepth 10000 in
set_option maxHeartbeats 4000000 in
theorem s27b {d : Nat} {I : Nat → Nat → Int32} {D : Nat → Nat → UInt64} {R : Nat → Nat → Option Nat} {Q : j_Po} {c : Nat} {f : Nat} {x : Int32} {y : Int32} {z : Int32} {k : Nat}  (hR : WFR R) (hc : c < 24) (hf : isF f) (hk : k ≤ 6) (hd : 1 ≤ d)
    (v1 : (6 ≤ k) → j_W 27 d 0 0 0 0 201 [some (.ref 204), none, some (.int (nI c)), none, some (.int x), none, none, some (.long 0), none, some (.int 0)] [] w1 ((j_u (j_u (j_u I 206 c x) 207 c y) 209 c z), D, RR R) Q)
    (v2 : (¬ 6 ≤ k) → ((I (f + 2) k) = 0) → j_W 27 d 0 0 0 0 76 [some (.ref 204), some (.ref 108), some (.int (nI c)), some (.ref f), some (.int x), some (.int y), some (.int z), some (.int (nI (k + 1))), none, none] [] w1 (I, D, RR R) Q)
    (v3 : (¬ 6 ≤ k) → (¬ (I (f + 2) k) = 0) → (¬ (I ((R 113 k).getD 0) 0) = 0) → vp_in (I ((R 113 k).getD 0) 1) 24)
    (v4 : (¬ 6 ≤ k) → (¬ (I (f + 2) k) = 0) → (¬ (I ((R 113 k).getD 0) 0) = 0) → j_W 27 d 0 0 0 0 76 [some (.ref 204), some (.ref 108), some (.int (nI c)), some (.ref f), some (.int x), some (.int (y ||| ((I 207 ((I ((R 113 k).getD 0) 1).toNatClampNeg)) &&& ((vry I ((R 113 k).getD 0)) ^^^ (-1))))), some (.int (cl26 (((((I (f + 2) k) : Int32).toInt64) * (((I 208 (24 + k)) : Int32).toInt64)) + ((z : Int32).toInt64)))), some (.int (nI (k + 1))), none, none] [] w1 (I, D, RR R) Q)
    (v5 : (¬ 6 ≤ k) → (¬ (I (f + 2) k) = 0) → ((I ((R 113 k).getD 0) 0) = 0) → j_W 27 d 0 0 0 0 76 [some (.ref 204), some (.ref 108), some (.int (nI c)), some (.ref f), some (.int x), some (.int y), some (.int z), some (.int (nI (k + 1))), none, none] [] w1 (I, D, RR R) Q) : j_W 27 d 0 0 0 0 76 [some (.ref 204), some (.ref 108), some (.int (nI c)), some (.ref f), some (.int x), some (.int y), some (.int z), some (.int (nI k)), none, none] [] w1 (I, D, RR R) Q := by
  refine q_iload d27_76 rfl ?_
  refine q_bipush (v := 6) (by decide) d27_78 ?_
  refine q_icmp_ge (tgt := 171) d27_80 rfl (fun h1t => ?_) (fun h1f => ?_)
  ·
    have h1tc : 6 ≤ k := (nI_leI (by omega) (by omega)).mp h1t
    refine q_aload_n d27_171 rfl ?_
    refine q_getR (x := 206) d27_172 (fs4_15 27 rfl) rfl (lt_w1 rfl) sh204 (rs204_1 R) (by decide) ?_
    refine q_iload_n d27_175 rfl ?_
    refine q_iload d27_176 rfl ?_
    refine q_iastore (a := c) d27_178 (lt_w1 rfl) sh206 rfl (by omega) ?_
    refine q_aload_n d27_179 rfl ?_
    refine q_getR (x := 207) d27_180 (fs4_18 27 rfl) rfl (lt_w1 rfl) sh204 (rs204_2 R) (by decide) ?_
    refine q_iload_n d27_183 rfl ?_
    refine q_iload d27_184 rfl ?_
    refine q_iastore (a := c) d27_186 (lt_w1 rfl) sh207 rfl (by omega) ?_
    refine q_aload_n d27_187 rfl ?_
    refine q_getR (x := 209) d27_188 (fs4_24 27 rfl) rfl (lt_w1 rfl) sh204 (rs204_4 R) (by decide) ?_
    refine q_iload_n d27_191 rfl ?_
    refine q_iload d27_192 rfl ?_
    refine q_iastore (a := c) d27_194 (lt_w1 rfl) sh209 rfl (by omega) ?_
    refine q_lconst (v := 0) (by decide) d27_195 ?_
    refine q_lstore (L' := [some (.ref 204), some (.ref 108), some (.int (nI c)), some (.ref f), some (.int x), some (.int y), some (.int z), some (.long 0), none, none]) d27_196 (Nat.le_of_ble_eq_true rfl) rfl ?_
    refine q_iconst (v := 0) (by decide) d27_198 ?_
    refine q_istore (L' := [some (.ref 204), some (.ref 108), some (.int (nI c)), some (.ref f), some (.int x), some (.int y), some (.int z), some (.long 0), none, some (.int 0)]) d27_199 (Nat.le_of_ble_eq_true rfl) rfl ?_
    exact r_sub (L' := [some (.ref 204), none, some (.int (nI c)), none, some (.int x), none, none, some (.long 0), none, some (.int 0)]) ⟨rfl, rfl, rfl, rfl, rfl, trivial⟩ (v1 h1tc)
  ·
    have h1fc : ¬ 6 ≤ k := mt (nI_leI (by omega) (by omega)).mpr h1f
    refine q_aload_n d27_83 rfl ?_
    refine q_getR (x := 113) d27_84 (fs4_42 27 rfl) rfl (lt_w1 rfl) sh108 (rs108_4 R) (by decide) ?_
    refine q_iload d27_87 rfl ?_
    have g3 := hR.g k (by omega)
    refine q_aaload (c := 7) (a := k) (x := ((R 113 k).getD 0)) d27_89 (lt_w1 rfl) sh113 (by decide) rfl (by omega) ((RR_d rfl).trans g3.1) (lt1000 (isG_lt g3.2)) ?_
    refine q_astore (L' := [some (.ref 204), some (.ref 108), some (.int (nI c)), some (.ref f), some (.int x), some (.int y), some (.int z), some (.int (nI k)), some (.ref ((R 113 k).getD 0)), none]) d27_90 (Nat.le_of_ble_eq_true rfl) (Nat.ne_of_lt (Nat.lt_trans (lt1000 (isG_lt g3.2)) (by decide))) rfl ?_
    refine q_aload_n d27_92 rfl ?_
    refine q_getR (x := (f + 2)) d27_93 (fs4_82 27 rfl) rfl (isF_lt hf) (isF_sh hf) (isF_r2 R hf) (lt1000 (isF_lt2 hf)) ?_
    refine q_iload d27_96 rfl ?_
    refine q_iaload (a := k) d27_98 (isF_lt2 hf) (isF_sh2 hf) rfl (by omega) ?_
    refine q_if_eq (tgt := 165) d27_99 rfl (fun h4t => ?_) (fun h4f => ?_)
    ·
      refine q_iinc (L' := [some (.ref 204), some (.ref 108), some (.int (nI c)), some (.ref f), some (.int x), some (.int y), some (.int z), some (.int (nI (k + 1))), some (.ref ((R 113 k).getD 0)), none]) (v := (nI (k + 1))) d27_165 rfl (nI_inc _) rfl ?_
      refine q_goto (tgt := 76) d27_168 rfl ?_
      exact r_sub (L' := [some (.ref 204), some (.ref 108), some (.int (nI c)), some (.ref f), some (.int x), some (.int y), some (.int z), some (.int (nI (k + 1))), none, none]) ⟨rfl, rfl, rfl, rfl, rfl, rfl, rfl, rfl, trivial⟩ (v2 h1fc h4t)
    ·
      refine q_aload d27_102 rfl ?_
      refine q_getI d27_104 (fs4_46 27 rfl) rfl (isG_lt g3.2) (isG_sh g3.2) ?_
      refine q_if_ne (tgt := 113) d27_107 rfl (fun h5t => ?_) (fun h5f => ?_)
      ·
        refine q_iload d27_113 rfl ?_
        refine q_aload_n d27_115 rfl ?_
        refine q_getR (x := 207) d27_116 (fs4_18 27 rfl) rfl (lt_w1 rfl) sh204 (rs204_2 R) (by decide) ?_
        refine q_aload d27_119 rfl ?_
        refine q_getI d27_121 (fs4_52 27 rfl) rfl (isG_lt g3.2) (isG_sh g3.2) ?_
        have g6 := ix_of (v3 h1fc h4f h5t) (by decide)
        refine q_iaload (a := (I ((R 113 k).getD 0) 1).toNatClampNeg) d27_124 (lt_w1 rfl) sh207 g6.1 g6.2 ?_
        refine q_aload d27_125 rfl ?_
        refine q_invV (o := ((R 113 k).getD 0)) (ci := 3) (av := []) (rest := [.int (I 207 ((I ((R 113 k).getD 0) 1).toNatClampNeg)), .int y]) (d' := 0) (mc' := 0) (ms' := 0) d27_127 (cv4_85 27 rfl) rfl (by decide) rfl rfl (by omega) (Nat.le_of_ble_eq_true rfl) (Nat.le_of_ble_eq_true rfl) (isG_lt g3.2) (isG_sh g3.2) (Nat.le_refl _) (Nat.le_refl _) ?_
        refine c28 g3.2  ?_
        show j_W 27 d 0 0 0 0 130 [some (.ref 204), some (.ref 108), some (.int (nI c)), some (.ref f), some (.int x), some (.int y), some (.int z), some (.int (nI k)), some (.ref ((R 113 k).getD 0)), none] [.int (vry I ((R 113 k).getD 0)), .int (I 207 ((I ((R 113 k).getD 0) 1).toNatClampNeg)), .int y] w1 (I, D, RR R) Q
        refine q_iconst (v := (-1)) (by decide) d27_130 ?_
        refine q_ixor d27_131 ?_
        refine q_iand d27_132 ?_
        refine q_ior d27_133 ?_
        refine q_istore (L' := [some (.ref 204), some (.ref 108), some (.int (nI c)), some (.ref f), some (.int x), some (.int (y ||| ((I 207 ((I ((R 113 k).getD 0) 1).toNatClampNeg)) &&& ((vry I ((R 113 k).getD 0)) ^^^ (-1))))), some (.int z), some (.int (nI k)), some (.ref ((R 113 k).getD 0)), none]) d27_134 (Nat.le_of_ble_eq_true rfl) rfl ?_
        refine q_aload_n d27_136 rfl ?_
        refine q_getR (x := (f + 2)) d27_137 (fs4_82 27 rfl) rfl (isF_lt hf) (isF_sh hf) (isF_r2 R hf) (lt1000 (isF_lt2 hf)) ?_
        refine q_iload d27_140 rfl ?_
        refine q_iaload (a := k) d27_142 (isF_lt2 hf) (isF_sh2 hf) rfl (by omega) ?_
        refine q_i2l d27_143 ?_
        refine q_aload_n d27_144 rfl ?_
        refine q_getR (x := 208) d27_145 (fs4_21 27 rfl) rfl (lt_w1 rfl) sh204 (rs204_3 R) (by decide) ?_
        refine q_bipush (v := 24) (by decide) d27_148 ?_
        refine q_iload d27_150 rfl ?_
        refine q_iadd d27_152 ?_
        refine r_int (y := (nI (24 + k))) (nI_add 24 k) ?_
        refine q_iaload (a := (24 + k)) d27_153 (lt_w1 rfl) sh208 rfl (by omega) ?_
        refine q_i2l d27_154 ?_
        refine q_lmul d27_155 ?_
        refine q_iload d27_156 rfl ?_
        refine q_i2l d27_158 ?_
        refine q_ladd d27_159 ?_
        refine q_invS (av := [.long (((((I (f + 2) k) : Int32).toInt64) * (((I 208 (24 + k)) : Int32).toInt64)) + ((z : Int32).toInt64))]) (rest := []) (d' := 0) (mc' := 0) (ms' := 0) d27_160 (cv4_89 27 rfl) rfl rfl (by omega) (Nat.le_of_ble_eq_true rfl) (Nat.le_of_ble_eq_true rfl) (Nat.le_refl _) (Nat.le_refl _) ?_
        refine c26  ?_
        show j_W 27 d 0 0 0 0 163 [some (.ref 204), some (.ref 108), some (.int (nI c)), some (.ref f), some (.int x), some (.int (y ||| ((I 207 ((I ((R 113 k).getD 0) 1).toNatClampNeg)) &&& ((vry I ((R 113 k).getD 0)) ^^^ (-1))))), some (.int z), some (.int (nI k)), some (.ref ((R 113 k).getD 0)), none] [.int (cl26 (((((I (f + 2) k) : Int32).toInt64) * (((I 208 (24 + k)) : Int32).toInt64)) + ((z : Int32).toInt64)))] w1 (I, D, RR R) Q
        refine q_istore (L' := [some (.ref 204), some (.ref 108), some (.int (nI c)), some (.ref f), some (.int x), some (.int (y ||| ((I 207 ((I ((R 113 k).getD 0) 1).toNatClampNeg)) &&& ((vry I ((R 113 k).getD 0)) ^^^ (-1))))), some (.int (cl26 (((((I (f + 2) k) : Int32).toInt64) * (((I 208 (24 + k)) : Int32).toInt64)) + ((z : Int32).toInt64)))), some (.int (nI k)), some (.ref ((R 113 k).getD 0)), none]) d27_163 (Nat.le_of_ble_eq_true rfl) rfl ?_
        refine q_iinc (L' := [some (.ref 204), some (.ref 108), some (.int (nI c)), some (.ref f), some (.int x), some (.int (y ||| ((I 207 ((I ((R 113 k).getD 0) 1).toNatClampNeg)) &&& ((vry I ((R 113 k).getD 0)) ^^^ (-1))))), some (.int (cl26 (((((I (f + 2) k) : Int32).toInt64) * (((I 208 (24 + k)) : Int32).toInt64)) + ((z : Int32).toInt64)))), some (.int (nI (k + 1))), some (.ref ((R 113 k).getD 0)), none]) (v := (nI (k + 1))) d27_165 rfl (nI_inc _) rfl ?_
        refine q_goto (tgt := 76) d27_168 rfl ?_
        exact r_sub (L' := [some (.ref 204), some (.ref 108), some (.int (nI c)), some (.ref f), some (.int x), some (.int (y ||| ((I 207 ((I ((R 113 k).getD 0) 1).toNatClampNeg)) &&& ((vry I ((R 113 k).getD 0)) ^^^ (-1))))), some (.int (cl26 (((((I (f + 2) k) : Int32).toInt64) * (((I 208 (24 + k)) : Int32).toInt64)) + ((z : Int32).toInt64)))), some (.int (nI (k + 1))), none, none]) ⟨rfl, rfl, rfl, rfl, rfl, rfl, rfl, rfl, trivial⟩ (v4 h1fc h4f h5t)
      ·
        refine q_goto (tgt := 165) d27_110 rfl ?_
        refine q_iinc (L' := [some (.ref 204), some (.ref 108), some (.int (nI c)), some (.ref f), some (.int x), some (.int y), some (.int z), some (.int (nI (k + 1))), some (.ref ((R 113 k).getD 0)), none]) (v := (nI (k + 1))) d27_165 rfl (nI_inc _) rfl ?_
        refine q_goto (tgt := 76) d27_168 rfl ?_
        exact r_sub (L' := [some (.ref 204), some (.ref 108), some (.int (nI c)), some (.ref f), some (.int x), some (.int y), some (.int z), some (.int (nI (k + 1))), none, none]) ⟨rfl, rfl, rfl, rfl, rfl, rfl, rfl, rfl, trivial⟩ (v5 h1fc h4f h5f)

set_option maxRecDepth 10000 in
set_option maxHeartbeats 4000000 in
theorem s27c {d : Nat} {I : Nat → Nat → Int32} {D : Nat → Nat → UInt64} {R : Nat → Nat → Option Nat} {Q : j_Po} {c : Nat} {x : Int32} {b : Int64} {k : Nat}  (hc : c < 24) (hk : k ≤ 24) (hd : 1 ≤ d)
    (v1 : (24 ≤ k) → Q none w1 ((j_u I 208 c (cl26 b)), D, RR R))
    (v2 : (¬ 24 ≤ k) → ((¬ (x >>> ((nI k) &&& 31)) &&& 1 = 0)) → j_W 27 d 0 0 0 0 201 [some (.ref 204), none, some (.int (nI c)), none, some (.int x), none, none, some (.long (b + (((I 209 k) : Int32).toInt64))), none, some (.int (nI (k + 1)))] [] w1 (I, D, RR R) Q)
    (v3 : (¬ 24 ≤ k) → (¬ ((¬ (x >>> ((nI k) &&& 31)) &&& 1 = 0))) → j_W 27 d 0 0 0 0 201 [some (.ref 204), none, some (.int (nI c)), none, some (.int x), none, none, some (.long b), none, some (.int (nI (k + 1)))] [] w1 (I, D, RR R) Q) : j_W 27 d 0 0 0 0 201 [some (.ref 204), none, some (.int (nI c)), none, some (.int x), none, none, some (.long b), none, some (.int (nI k))] [] w1 (I, D, RR R) Q := by
  refine q_iload d27_201 rfl ?_
  refine q_bipush (v := 24) (by decide) d27_203 ?_
  refine q_icmp_ge (tgt := 237) d27_205 rfl (fun h1t => ?_) (fun h1f => ?_)
  ·
    have h1tc : 24 ≤ k := (nI_leI (by omega) (by omega)).mp h1t
    refine q_aload_n d27_237 rfl ?_
    refine q_getR (x := 208) d27_238 (fs4_21 27 rfl) rfl (lt_w1 rfl) sh204 (rs204_3 R) (by decide) ?_
    refine q_iload_n d27_241 rfl ?_
    refine q_lload d27_242 rfl ?_
    refine q_invS (av := [.long b]) (rest := [.int (nI c), .ref 208]) (d' := 0) (mc' := 0) (ms' := 0) d27_244 (cv4_89 27 rfl) rfl rfl (by omega) (Nat.le_of_ble_eq_true rfl) (Nat.le_of_ble_eq_true rfl) (Nat.le_refl _) (Nat.le_refl _) ?_
    refine c26  ?_
    show j_W 27 d 0 0 0 0 247 [some (.ref 204), none, some (.int (nI c)), none, some (.int x), none, none, some (.long b), none, some (.int (nI k))] [.int (cl26 b), .int (nI c), .ref 208] w1 (I, D, RR R) Q
    refine q_iastore (a := c) d27_247 (lt_w1 rfl) sh208 rfl (by omega) ?_
    exact q_ret d27_248 rfl (Nat.le_refl _) (Nat.le_refl _) (v1 h1tc)
  ·
    have h1fc : ¬ 24 ≤ k := mt (nI_leI (by omega) (by omega)).mpr h1f
    refine q_iload d27_208 rfl ?_
    refine q_iload d27_210 rfl ?_
    refine q_invSN (av := [.int x, .int (nI k)]) (rest := []) (d' := 0) (mc' := 0) (ms' := 0) d27_212 (nv4_55 27 rfl) rfl rfl (by omega) (Nat.le_of_ble_eq_true rfl) (Nat.le_of_ble_eq_true rfl) (Nat.le_refl _) (Nat.le_refl _) ?_
    refine p21  (fun h2 => ?_) (fun h2 => ?_)
    ·
      show j_W 27 d 0 0 0 0 215 [some (.ref 204), none, some (.int (nI c)), none, some (.int x), none, none, some (.long b), none, some (.int (nI k))] [.int 1] w1 (I, D, RR R) Q
      refine q_if_eq (tgt := 231) d27_215 rfl (fun h => absurd h (by decide)) (fun _ => ?_)
      refine q_lload d27_218 rfl ?_
      refine q_aload_n d27_220 rfl ?_
      refine q_getR (x := 209) d27_221 (fs4_24 27 rfl) rfl (lt_w1 rfl) sh204 (rs204_4 R) (by decide) ?_
      refine q_iload d27_224 rfl ?_
      refine q_iaload (a := k) d27_226 (lt_w1 rfl) sh209 rfl (by omega) ?_
      refine q_i2l d27_227 ?_
      refine q_ladd d27_228 ?_
      refine q_lstore (L' := [some (.ref 204), none, some (.int (nI c)), none, some (.int x), none, none, some (.long (b + (((I 209 k) : Int32).toInt64))), none, some (.int (nI k))]) d27_229 (Nat.le_of_ble_eq_true rfl) rfl ?_
      refine q_iinc (L' := [some (.ref 204), none, some (.int (nI c)), none, some (.int x), none, none, some (.long (b + (((I 209 k) : Int32).toInt64))), none, some (.int (nI (k + 1)))]) (v := (nI (k + 1))) d27_231 rfl (nI_inc _) rfl ?_
      refine q_goto (tgt := 201) d27_234 rfl ?_
      exact r_sub (L' := [some (.ref 204), none, some (.int (nI c)), none, some (.int x), none, none, some (.long (b + (((I 209 k) : Int32).toInt64))), none, some (.int (nI (k + 1)))]) ⟨rfl, rfl, rfl, rfl, rfl, trivial⟩ (v2 h1fc h2)
    ·
      show j_W 27 d 0 0 0 0 215 [some (.ref 204), none, some (.int (nI c)), none, some (.int x), none, none, some (.long b), none, some (.int (nI k))] [.int 0] w1 (I, D, RR R) Q
      refine q_if_eq (tgt := 231) d27_215 rfl (fun _ => ?_) (fun h => absurd h (by decide))
      refine q_iinc (L' := [some (.ref 204), none, some (.int (nI c)), none, some (.int x), none, none, some (.long b), none, some (.int (nI (k + 1)))]) (v := (nI (k + 1))) d27_231 rfl (nI_inc _) rfl ?_
      refine q_goto (tgt := 201) d27_234 rfl ?_
      exact r_sub (L' := [some (.ref 204), none, some (.int (nI c)), none, some (.int x), none, none, some (.long b), none, some (.int (nI (k + 1)))]) ⟨rfl, rfl, rfl, rfl, rfl, trivial⟩ (v3 h1fc h2)

set_option maxRecDepth 10000 in
set_option maxHeartbeats 4000000 in
theorem s23 {d : Nat} {I : Nat → Nat → Int32} {D : Nat → Nat → UInt64} {R : Nat → Nat → Option Nat} {Q : j_Po} {t : Nat}  (hR : WFR R) (ht : t < 6) (hd : 2 ≤ d)
    (v1 : ((I ((R 113 t).getD 0) 0) = 0) → Q none w1 ((j_u I 208 (24 + t) 0), D, RR R))
    (v2 : (¬ (I ((R 113 t).getD 0) 0) = 0) → vp_in (I ((R 113 t).getD 0) 1) 30)
    (v3 : (¬ (I ((R 113 t).getD 0) 0) = 0) → ((I ((R 113 t).getD 0) 5) ≤ 0) → Q none w1 ((j_u I 208 (24 + t) (cl26 ((((I 208 ((I ((R 113 t).getD 0) 1).toNatClampNeg)) : Int32).toInt64) * ((((I ((R 113 t).getD 0) 4) * 1) : Int32).toInt64)))), D, RR R))
    (v4 : (¬ (I ((R 113 t).getD 0) 0) = 0) → (¬ (I ((R 113 t).getD 0) 5) ≤ 0) → Q none w1 ((j_u I 208 (24 + t) (cl26 ((((I 208 ((I ((R 113 t).getD 0) 1).toNatClampNeg)) : Int32).toInt64) * ((((I ((R 113 t).getD 0) 4) * (I ((R 113 t).getD 0) 5)) : Int32).toInt64)))), D, RR R)) : j_Call d 23 [.ref 204, .ref 108, .int (nI t)] w1 (I, D, RR R) 0 0 Q := by
  refine q_enter (L := [some (.ref 204), some (.ref 108), some (.int (nI t)), none]) j_m23 (Nat.le_of_ble_eq_true rfl) rfl ?_
  refine q_aload_n d23_0 rfl ?_
  refine q_getR (x := 113) d23_1 (fs4_42 23 rfl) rfl (lt_w1 rfl) sh108 (rs108_4 R) (by decide) ?_
  refine q_iload_n d23_4 rfl ?_
  have g2 := hR.g t (by omega)
  refine q_aaload (c := 7) (a := t) (x := ((R 113 t).getD 0)) d23_5 (lt_w1 rfl) sh113 (by decide) rfl (by omega) ((RR_d rfl).trans g2.1) (lt1000 (isG_lt g2.2)) ?_
  refine q_astore_n (L' := [some (.ref 204), some (.ref 108), some (.int (nI t)), some (.ref ((R 113 t).getD 0))]) d23_6 (Nat.le_of_ble_eq_true rfl) (Nat.ne_of_lt (Nat.lt_trans (lt1000 (isG_lt g2.2)) (by decide))) rfl ?_
  refine q_aload_n d23_7 rfl ?_
  refine q_getR (x := 208) d23_8 (fs4_21 23 rfl) rfl (lt_w1 rfl) sh204 (rs204_3 R) (by decide) ?_
  refine q_bipush (v := 24) (by decide) d23_11 ?_
  refine q_iload_n d23_13 rfl ?_
  refine q_iadd d23_14 ?_
  refine r_int (y := (nI (24 + t))) (nI_add 24 t) ?_
  refine q_aload_n d23_15 rfl ?_
  refine q_getI d23_16 (fs4_46 23 rfl) rfl (isG_lt g2.2) (isG_sh g2.2) ?_
  refine q_if_eq (tgt := 44) d23_19 rfl (fun h3t => ?_) (fun h3f => ?_)
  ·
    refine q_iconst (v := 0) (by decide) d23_44 ?_
    refine q_iastore (a := (24 + t)) d23_45 (lt_w1 rfl) sh208 rfl (by omega) ?_
    exact q_ret d23_46 rfl (Nat.le_refl _) (Nat.le_refl _) (v1 h3t)
  ·
    refine q_aload_n d23_22 rfl ?_
    refine q_getR (x := 208) d23_23 (fs4_21 23 rfl) rfl (lt_w1 rfl) sh204 (rs204_3 R) (by decide) ?_
    refine q_aload_n d23_26 rfl ?_
    refine q_getI d23_27 (fs4_52 23 rfl) rfl (isG_lt g2.2) (isG_sh g2.2) ?_
    have g4 := ix_of (v2 h3f) (by decide)
    refine q_iaload (a := (I ((R 113 t).getD 0) 1).toNatClampNeg) d23_30 (lt_w1 rfl) sh208 g4.1 g4.2 ?_
    refine q_i2l d23_31 ?_
    refine q_aload_n d23_32 rfl ?_
    refine q_invV (o := ((R 113 t).getD 0)) (ci := 3) (av := []) (rest := [.long (((I 208 ((I ((R 113 t).getD 0) 1).toNatClampNeg)) : Int32).toInt64), .int (nI (24 + t)), .ref 208]) (d' := 1) (mc' := 0) (ms' := 0) d23_33 (cv4_93 23 rfl) rfl (by decide) rfl rfl (by omega) (Nat.le_of_ble_eq_true rfl) (Nat.le_of_ble_eq_true rfl) (isG_lt g2.2) (isG_sh g2.2) (Nat.le_refl _) (Nat.le_refl _) ?_
    refine s24 (g := ((R 113 t).getD 0)) g2.2 (Nat.le_refl _) (fun c5 => ?_) (fun c6 => ?_)
    ·
      show j_W 23 d 0 0 0 0 36 [some (.ref 204), some (.ref 108), some (.int (nI t)), some (.ref ((R 113 t).getD 0))] [.int ((I ((R 113 t).getD 0) 4) * 1), .long (((I 208 ((I ((R 113 t).getD 0) 1).toNatClampNeg)) : Int32).toInt64), .int (nI (24 + t)), .ref 208] w1 (I, D, RR R) Q
      refine q_i2l d23_36 ?_
      refine q_lmul d23_37 ?_
      refine q_invS (av := [.long ((((I 208 ((I ((R 113 t).getD 0) 1).toNatClampNeg)) : Int32).toInt64) * ((((I ((R 113 t).getD 0) 4) * 1) : Int32).toInt64))]) (rest := [.int (nI (24 + t)), .ref 208]) (d' := 0) (mc' := 0) (ms' := 0) d23_38 (cv4_89 23 rfl) rfl rfl (by omega) (Nat.le_of_ble_eq_true rfl) (Nat.le_of_ble_eq_true rfl) (Nat.le_refl _) (Nat.le_refl _) ?_
      refine c26  ?_
      show j_W 23 d 0 0 0 0 41 [some (.ref 204), some (.ref 108), some (.int (nI t)), some (.ref ((R 113 t).getD 0))] [.int (cl26 ((((I 208 ((I ((R 113 t).getD 0) 1).toNatClampNeg)) : Int32).toInt64) * ((((I ((R 113 t).getD 0) 4) * 1) : Int32).toInt64))), .int (nI (24 + t)), .ref 208] w1 (I, D, RR R) Q
      refine q_goto (tgt := 45) d23_41 rfl ?_
      refine q_iastore (a := (24 + t)) d23_45 (lt_w1 rfl) sh208 rfl (by omega) ?_
      exact q_ret d23_46 rfl (Nat.le_refl _) (Nat.le_refl _) (v3 h3f c5)
    ·
      show j_W 23 d 0 0 0 0 36 [some (.ref 204), some (.ref 108), some (.int (nI t)), some (.ref ((R 113 t).getD 0))] [.int ((I ((R 113 t).getD 0) 4) * (I ((R 113 t).getD 0) 5)), .long (((I 208 ((I ((R 113 t).getD 0) 1).toNatClampNeg)) : Int32).toInt64), .int (nI (24 + t)), .ref 208] w1 (I, D, RR R) Q
      refine q_i2l d23_36 ?_
      refine q_lmul d23_37 ?_
      refine q_invS (av := [.long ((((I 208 ((I ((R 113 t).getD 0) 1).toNatClampNeg)) : Int32).toInt64) * ((((I ((R 113 t).getD 0) 4) * (I ((R 113 t).getD 0) 5)) : Int32).toInt64))]) (rest := [.int (nI (24 + t)), .ref 208]) (d' := 0) (mc' := 0) (ms' := 0) d23_38 (cv4_89 23 rfl) rfl rfl (by omega) (Nat.le_of_ble_eq_true rfl) (Nat.le_of_ble_eq_true rfl) (Nat.le_refl _) (Nat.le_refl _) ?_
      refine c26  ?_
      show j_W 23 d 0 0 0 0 41 [some (.ref 204), some (.ref 108), some (.int (nI t)), some (.ref ((R 113 t).getD 0))] [.int (cl26 ((((I 208 ((I ((R 113 t).getD 0) 1).toNatClampNeg)) : Int32).toInt64) * ((((I ((R 113 t).getD 0) 4) * (I ((R 113 t).getD 0) 5)) : Int32).toInt64))), .int (nI (24 + t)), .ref 208] w1 (I, D, RR R) Q
      refine q_goto (tgt := 45) d23_41 rfl ?_
      refine q_iastore (a := (24 + t)) d23_45 (lt_w1 rfl) sh208 rfl (by omega) ?_
      exact q_ret d23_46 rfl (Nat.le_refl _) (Nat.le_refl _) (v4 h3f c6)

/-! what the learning reads -/
def CBP (o : Nat) : Prop := (99 ≤ o ∧ o ≤ 104) ∨ (109 ≤ o ∧ o ≤ 111) ∨ (114 ≤ o ∧ o < 204)
theorem fo_P {R : Nat → Nat → Option Nat} (hR : WFR R) {c : Nat} (hc : c < 24) : CBP (fo R c) ∧ CBP (fo R c + 1) ∧ CBP (fo R c + 2) := by
  unfold CBP
  rcases (hR.1 c hc).2 with h | ⟨k, h1, h2⟩ <;> omega
theorem go_P {R : Nat → Nat → Option Nat} (hR : WFR R) {t : Nat} (ht : t < 6) : CBP (go R t) ∧ CBP (go R t + 1) ∧ CBP (go R t + 2) := by
  unfold CBP
  rcases (hR.2.1 t ht).2 with h | ⟨k, h1, h2⟩ <;> omega
theorem FR.cg {z : Nat} {s : Nat → Nat × Nat} {I I' : Nat → Nat → Int32} {o : Nat} (h : FR z s I o) (h0 : I' o = I o) (h1 : I' (o + 1) = I (o + 1)) (h2 : I' (o + 2) = I (o + 2)) : FR z s I' o := by
  unfold FR; rw [h0, h1, h2]; exact h
theorem GR.cg {β : Bd} {t : Nat} {I I' : Nat → Nat → Int32} {D D' : Nat → Nat → UInt64} {g : Nat} (h : GR β t I D g) (h0 : I' g = I g) (h1 : D' (g + 1) = D (g + 1)) (h2 : D' (g + 2) = D (g + 2)) : GR β t I' D' g := by
  unfold GR; rw [h0, h1, h2]; exact h
theorem CB.cg {β : Bd} {I I' : Nat → Nat → Int32} {D D' : Nat → Nat → UInt64} {R : Nat → Nat → Option Nat} (hR : WFR R) (h : CB β I D R) (hI : ∀ o, CBP o → I' o = I o) (hD : ∀ o, CBP o → D' o = D o) : CB β I' D' R := by
  refine ⟨fun c hc => ?_, fun t ht => ?_⟩
  · obtain ⟨h1, h2, h3, h4, h5⟩ := h.1 c hc
    obtain ⟨p0, p1, p2⟩ := fo_P hR hc
    rw [hI 109 (by unfold CBP; omega), hI 111 (by unfold CBP; omega), hD 110 (by unfold CBP; omega)]
    exact ⟨h1, h2, h3, h4, h5.cg (hI _ p0) (hI _ p1) (hI _ p2)⟩
  · obtain ⟨p0, p1, p2⟩ := go_P hR ht
    exact (h.2 t ht).cg (hI _ p0) (hD _ p1) (hD _ p2)
theorem CB.eds {β : Bd} {I : Nat → Nat → Int32} {D : Nat → Nat → UInt64} {R : Nat → Nat → Option Nat} (h : CB β I D R) (hV : BV β) : ∀ u, u < 30 → ∀ v, v < 32 → bt (nby I R u) v = ed β u v := by
  intro u hu v hv
  unfold nby ed
  by_cases hc : u < 24
  · rw [if_pos hc, if_pos hc]
    exact (h.1 u hc).2.2.2.2.2.2.1 v hv
  · rw [if_neg hc, if_neg hc]
    have ht : u - 24 < 6 := by omega
    obtain ⟨g1, g2⟩ := h.2 (u - 24) ht
    cases hl : bL β (u - 24) with
    | false =>
      rw [hl] at g1
      rw [if_pos (show I (go R (u - 24)) 0 = 0 from g1), b_0, Bool.false_and]
    | true =>
      rw [hl] at g1
      obtain ⟨g3, -⟩ := g2 hl
      have ho := (hV.2.1 (u - 24) ht hl).1
      rw [if_neg (by rw [show I (go R (u - 24)) 0 = 1 from g1]; decide), g3, bt_one (by omega) hv, Bool.true_and]
theorem ed_lt {β : Bd} (hV : BV β) {u v : Nat} (hu : u < 30) (h : ed β u v = true) : v < 30 := by
  unfold ed at h
  split at h
  · rename_i hc
    have hs := (hV.1 u hc).2.2.2.2.1
    have : ∀ z, z ≤ bZ β u → nmB z (bS β u) v = true → v < 30 := by
      intro z
      induction z with
      | zero => intro _ h; cases h
      | succ z ih =>
        intro hz h
        rw [nmB, Bool.or_eq_true] at h
        rcases h with h | h
        · exact ih (by omega) h
        · obtain ⟨-, -, a3, -, a5⟩ := (hs z (by omega)).1
          unfold stN at h
          simp only [Bool.or_eq_true, decide_eq_true_eq] at h
          rcases h with ⟨b1, b2⟩ | ⟨b1, b2⟩
          · have := a3 b1; omega
          · have := a5 b1; omega
    exact this _ (Nat.le_refl _) h
  · rename_i hc
    simp only [Bool.and_eq_true, decide_eq_true_eq] at h
    have := (hV.2.1 (u - 24) (by omega) h.1).1
    omega
/-- all burdens are small numbers -/
def NB (I : Nat → Nat → Int32) : Prop := (∀ v, v < 30 → I 208 v = nI (bu I v) ∧ bu I v ≤ 2001) ∧ ∀ c, c < 24 → I 209 c = nI (shr I c) ∧ shr I c ≤ 2001
theorem nI_cl {x : Int32} {n : Nat} (h : x = nI n) (hn : n ≤ 2001) : x = nI x.toNatClampNeg ∧ x.toNatClampNeg ≤ 2001 := by
  subst h; rw [nI_clamp (by omega)]; exact ⟨rfl, hn⟩
theorem NM.nb {β : Bd} {I : Nat → Nat → Int32} (h : NM β I) : NB I := by
  refine ⟨fun v hv => ?_, fun c hc => ?_⟩
  · by_cases hc : v < 24
    · refine nI_cl (h.1 v hc).2.2.2 ?_
      split <;> omega
    · have := h.2 (v - 24) (by omega)
      unfold NMt at this
      rw [show 24 + (v - 24) = v by omega] at this
      refine nI_cl (this : I 208 v = _) ?_
      split <;> omega
  · refine nI_cl (h.1 c hc).2.2.1 ?_
    split <;> omega
theorem vry_b {β : Bd} {I : Nat → Nat → Int32} {D : Nat → Nat → UInt64} {t g v : Nat} (hV : BV β) (ht : t < 6) (hg : GR β t I D g) (hl : bL β t = true) (hv : v < 32) : bt (vry I g) v = vr β t v := by
  obtain ⟨-, g2⟩ := hg
  obtain ⟨-, e1, e2, -⟩ := g2 hl
  obtain ⟨-, l1, -, l2, -⟩ := hV.2.1 t ht hl
  unfold vry vr
  rw [e1, e2]
  cases ho : b2 β t with
  | none =>
    rw [if_pos (by rfl), bt_one (by omega) hv]
    simp
  | some o =>
    have := (l2 o ho).1
    have hne : ¬ oI (some o) = -1 := by
      show ¬ nI o = -1
      intro e
      have h1 := nI_toInt (n := o) (by omega)
      rw [e] at h1
      have : (-1 : Int32).toInt = -1 := by decide
      omega
    rw [if_neg hne, b_or, bt_one (by omega) hv]
    show (_ || bt (1 <<< (nI o &&& 31)) v) = _
    rw [bt_one (by omega) hv]
    congr 1
    by_cases e : v = o
    · subst e; simp
    · rw [decide_eq_false e, decide_eq_false (fun h => e (Option.some.inj h).symm)]
section LF
variable {d : Nat} {I : Nat → Nat → Int32} {D : Nat → Nat → UInt64} {R : Nat → Nat → Option Nat} {Q : j_Po} {β : Bd} {c : Nat}
def xB (β : Bd) (I : Nat → Nat → Int32) (c n v : Nat) : Bool := decide (v = c) || anyB n fun k => nmB (bZ β c) (bS β c) k && bt (I 206 k) v
def yB (β : Bd) (I : Nat → Nat → Int32) (c n v : Nat) : Bool := anyB n fun k => nmB (bZ β c) (bS β c) k && bt (I 207 k) v
def zB (β : Bd) (I : Nat → Nat → Int32) (c n v : Nat) : Bool := anyB n fun t => decide (0 < tmB β c t) && bL β t && (bt (I 207 (bO β t)) v && !vr β t v)
def sB (β : Bd) (I : Nat → Nat → Int32) (c n : Nat) : Nat := sumN n fun t => if bL β t = true then tmB β c t * bu I (24 + t) else 0
theorem l27a (hR : WFR R) (hd : 1 ≤ d) (hc : c < 24) {f : Nat} (hf : isF f) (hb : ∀ v, v < 32 → bt (I f 2) v = nmB (bZ β c) (bS β c) v)
    (K : ∀ x y, (∀ v, v < 32 → bt x v = xB β I c 24 v) → (∀ v, v < 32 → bt y v = yB β I c 24 v) → j_W 27 d 0 0 0 0 76 [some (.ref 204), some (.ref 108), some (.int (nI c)), some (.ref f), some (.int x), some (.int y), some (.int 1), some (.int 0), none, none] [] w1 (I, D, RR R) Q) :
    ∀ (n k : Nat) (x y : Int32), n + k = 24 → (∀ v, v < 32 → bt x v = xB β I c k v) → (∀ v, v < 32 → bt y v = yB β I c k v) →
    j_W 27 d 0 0 0 0 18 [some (.ref 204), some (.ref 108), some (.int (nI c)), some (.ref f), some (.int x), some (.int y), some (.int (nI k)), none, none, none] [] w1 (I, D, RR R) Q := by
  intro n
  induction n with
  | zero =>
    intro k x y hk h1 h2
    have : k = 24 := by omega
    subst this
    exact s27a hR hc hf (by omega) hd (fun _ => K x y h1 h2) (fun h => absurd (by omega) h) (fun h => absurd (by omega) h)
  | succ n ih =>
    intro k x y hk h1 h2
    refine s27a hR hc hf (by omega) hd (fun h => absurd h (by omega)) (fun _ g => ?_) (fun _ g => ?_)
    · have gb := (hn_t (by omega)).mp g
      rw [hb k (by omega)] at gb
      refine ih (k + 1) _ _ (by omega) (fun v hv => ?_) (fun v hv => ?_)
      · rw [b_or, h1 v hv]; unfold xB; rw [anyB, gb, Bool.true_and, Bool.or_assoc]
      · rw [b_or, h2 v hv]; unfold yB; rw [anyB, gb, Bool.true_and]
    · have gb : bt (I f 2) k = false := by
        cases hb : bt (I f 2) k with
        | false => rfl
        | true => exact absurd ((hn_t (by omega)).mpr hb) g
      rw [hb k (by omega)] at gb
      refine ih (k + 1) _ _ (by omega) (fun v hv => ?_) (fun v hv => ?_)
      · rw [h1 v hv]; unfold xB; rw [anyB, gb, Bool.false_and, Bool.or_false]
      · rw [h2 v hv]; unfold yB; rw [anyB, gb, Bool.false_and, Bool.or_false]
theorem l27c {x : Int32} (hd : 1 ≤ d) (hc : c < 24) (hN : ∀ k, k < 24 → I 209 k = nI (shr I k) ∧ shr I k ≤ 2001) (hq : Q none w1 (j_u I 208 c (nI (min 2001 (sumN 24 fun k => if bt x k = true then shr I k else 0))), D, RR R)) :
    ∀ (n k : Nat), n + k = 24 → j_W 27 d 0 0 0 0 201 [some (.ref 204), none, some (.int (nI c)), none, some (.int x), none, none, some (.long (lN (sumN k fun k => if bt x k = true then shr I k else 0))), none, some (.int (nI k))] [] w1 (I, D, RR R) Q := by
  have hle : ∀ n, (sumN n fun k => if bt x k = true then shr I k else 0) ≤ n * 2001 ∨ 24 < n := by
    intro n
    by_cases h : 24 < n
    · exact Or.inr h
    · refine Or.inl (sumN_b fun k hk => ?_)
      split
      · exact (hN k (by omega)).2
      · omega
  intro n
  induction n with
  | zero =>
    intro k hk
    have : k = 24 := by omega
    subst this
    refine s27c hc (by omega) hd (fun _ => ?_) (fun h => absurd (by omega) h) (fun h => absurd (by omega) h)
    rw [cl26_n (by have := hle 24; omega)]; exact hq
  | succ n ih =>
    intro k hk
    refine s27c hc (by omega) hd (fun h => absurd h (by omega)) (fun _ g => ?_) (fun _ g => ?_)
    · have gb := (hn_t (by omega)).mp g
      have := ih (k + 1) (by omega)
      rw [sumN, if_pos gb] at this
      obtain ⟨e1, e2⟩ := hN k (by omega)
      rw [e1, nI_l (by omega), lN_add]
      exact this
    · have gb : bt x k = false := by
        cases hb : bt x k with
        | false => rfl
        | true => exact absurd ((hn_t (by omega)).mpr hb) g
      have := ih (k + 1) (by omega)
      rw [sumN, gb, if_neg (by decide), Nat.add_zero] at this
      exact this
theorem l27b (hR : WFR R) (hd : 1 ≤ d) (hc : c < 24) {f : Nat} (hf : isF f) (hV : BV β) (hC : CB β I D R) (hB : NB I) (ht : ∀ t, t < 6 → I (f + 2) t = nI (tmB β c t)) {x : Int32} {Y : Nat → Bool}
    (hq : ∀ y, (∀ v, v < 32 → bt y v = (Y v || zB β I c 6 v)) → Q none w1 (j_u (j_u (j_u (j_u I 206 c x) 207 c y) 209 c (nI (min 2001 (1 + sB β I c 6)))) 208 c (nI (min 2001 (sumN 24 fun k => if bt x k = true then (if k = c then min 2001 (1 + sB β I c 6) else shr I k) else 0))), D, RR R)) :
    ∀ (n k : Nat) (y : Int32), n + k = 6 → (∀ v, v < 32 → bt y v = (Y v || zB β I c k v)) →
    j_W 27 d 0 0 0 0 76 [some (.ref 204), some (.ref 108), some (.int (nI c)), some (.ref f), some (.int x), some (.int y), some (.int (nI (min 2001 (1 + sB β I c k)))), some (.int (nI k)), none, none] [] w1 (I, D, RR R) Q := by
  intro n
  induction n with
  | zero =>
    intro k y hk h1
    have : k = 6 := by omega
    subst this
    refine s27b hR hc hf (by omega) hd (fun _ => ?_) (fun h => absurd (by omega) h) (fun h => absurd (by omega) h) (fun h => absurd (by omega) h) (fun h => absurd (by omega) h)
    have hsh : ∀ k, shr (j_u (j_u (j_u I 206 c x) 207 c y) 209 c (nI (min 2001 (1 + sB β I c 6)))) k = if k = c then min 2001 (1 + sB β I c 6) else shr I k := by
      intro k
      unfold shr
      by_cases e : k = c
      · subst e; rw [j_u_same, if_pos rfl, nI_clamp (by omega)]
      · rw [j_u_k _ _ e, j_u_o _ _ _ (by decide), j_u_o _ _ _ (by decide), if_neg e]
    have e0 := l27c (d := d) (D := D) (R := R) (Q := Q) (x := x) (I := j_u (j_u (j_u I 206 c x) 207 c y) 209 c (nI (min 2001 (1 + sB β I c 6)))) hd hc (fun k hk => ?_) ?_ 24 0 rfl
    · exact e0
    · rw [hsh k]
      by_cases e : k = c
      · subst e; rw [j_u_same, if_pos rfl]; exact ⟨rfl, by omega⟩
      · rw [j_u_k _ _ e, j_u_o _ _ _ (by decide), j_u_o _ _ _ (by decide), if_neg e]; exact hB.2 k hk
    · have : (fun k => if bt x k = true then shr (j_u (j_u (j_u I 206 c x) 207 c y) 209 c (nI (min 2001 (1 + sB β I c 6)))) k else 0) = fun k => if bt x k = true then (if k = c then min 2001 (1 + sB β I c 6) else shr I k) else 0 := funext fun k => by rw [hsh k]
      rw [this]
      exact hq y h1
  | succ n ih =>
    intro k y hk h1
    have hk6 : k < 6 := by omega
    have hG := hC.2 k hk6
    have t31 : tmB β c k < 2 ^ 31 := Nat.lt_of_le_of_lt (tmN_le _) (by have := (hV.1 c hc).2.1; omega)
    have skip : (¬ (0 < tmB β c k) ∨ bL β k = false) → j_W 27 d 0 0 0 0 76 [some (.ref 204), some (.ref 108), some (.int (nI c)), some (.ref f), some (.int x), some (.int y), some (.int (nI (min 2001 (1 + sB β I c k)))), some (.int (nI (k + 1))), none, none] [] w1 (I, D, RR R) Q := by
      intro h
      have e1 : sB β I c (k + 1) = sB β I c k := by
        unfold sB
        rw [sumN]
        rcases h with h | h
        · have : tmB β c k = 0 := by omega
          rw [this, Nat.zero_mul, ite_self, Nat.add_zero]
        · rw [h, if_neg (by decide), Nat.add_zero]
      have e2 : ∀ v, zB β I c (k + 1) v = zB β I c k v := by
        intro v
        unfold zB
        rw [anyB]
        rcases h with h | h
        · rw [decide_eq_false h, Bool.false_and, Bool.false_and, Bool.or_false]
        · rw [h, Bool.and_false, Bool.false_and, Bool.or_false]
      have := ih (k + 1) y (by omega) (fun v hv => by rw [e2]; exact h1 v hv)
      rw [e1] at this
      exact this
    have lay : ¬ (I ((R 113 k).getD 0) 0) = 0 → bL β k = true := fun h => by
      cases hl : bL β k with
      | true => rfl
      | false => exact absurd (by have := hG.1; rw [hl] at this; exact this) h
    refine s27b hR hc hf (by omega) hd (fun h => absurd h (by omega)) (fun _ g => skip (Or.inl ?_)) (fun _ g g2 => ?_) (fun _ g g2 => ?_) (fun _ g g2 => skip (Or.inr ?_))
    · rw [ht k hk6] at g
      rw [(nI_eq (b := 0) t31 (by decide)).mp g]; omega
    · obtain ⟨e1, -⟩ := hG.2 (lay g2)
      rw [show I ((R 113 k).getD 0) 1 = nI (bO β k) from e1]
      exact vp_in_nI (hV.2.1 k hk6 (lay g2)).1 (by decide)
    · have hl := lay g2
      obtain ⟨e1, -⟩ := hG.2 hl
      have ho := (hV.2.1 k hk6 hl).1
      have htm : 0 < tmB β c k := by
        rw [ht k hk6] at g
        rcases Nat.eq_zero_or_pos (tmB β c k) with h | h
        · rw [h] at g; exact absurd rfl g
        · exact h
      have t96 : tmB β c k ≤ 96 := Nat.le_trans (tmN_le _) (hV.1 c hc).2.1
      obtain ⟨b1', b2'⟩ := hB.1 (24 + k) (by omega)
      rw [show I ((R 113 k).getD 0) 1 = nI (bO β k) from e1, nI_clamp (by omega), ht k hk6, b1', nI_l t31, nI_l (by omega), nI_l (by omega), lN_mul, lN_add]
      have hp : tmB β c k * bu I (24 + k) ≤ 96 * 2001 := Nat.mul_le_mul t96 b2'
      rw [cl26_n (by omega)]
      have e3 : min 2001 (tmB β c k * bu I (24 + k) + min 2001 (1 + sB β I c k)) = min 2001 (1 + sB β I c (k + 1)) := by
        have : sB β I c (k + 1) = sB β I c k + tmB β c k * bu I (24 + k) := by
          unfold sB
          rw [sumN, if_pos hl]
        rw [this]
        generalize tmB β c k * bu I (24 + k) = p
        omega
      rw [e3]
      refine ih (k + 1) _ (by omega) (fun v hv => ?_)
      rw [b_or, h1 v hv, b_and, bt_not _ hv, vry_b hV hk6 hG hl hv]
      unfold zB
      rw [anyB, decide_eq_true htm, hl, Bool.true_and, Bool.true_and, Bool.or_assoc]
    · have := hG.1
      rw [show I (go R k) 0 = 0 from g2] at this
      cases hl : bL β k with
      | false => rfl
      | true => rw [hl] at this; exact absurd this (by decide)
theorem c27 (hR : WFR R) (hd : 1 ≤ d) (hc : c < 24) (hV : BV β) (hC : CB β I D R) (hB : NB I)
    (hq : ∀ x y, (∀ v, v < 32 → bt x v = xB β I c 24 v) → (∀ v, v < 32 → bt y v = (yB β I c 24 v || zB β I c 6 v)) → Q none w1 (j_u (j_u (j_u (j_u I 206 c x) 207 c y) 209 c (nI (min 2001 (1 + sB β I c 6)))) 208 c (nI (min 2001 (sumN 24 fun k => if bt x k = true then (if k = c then min 2001 (1 + sB β I c 6) else shr I k) else 0))), D, RR R)) :
    j_Call d 27 [.ref 204, .ref 108, .int (nI c)] w1 (I, D, RR R) 0 0 Q := by
  have hF := (hC.1 c hc).2.2.2.2
  have hf := (hR.f c hc).2
  refine s27e hR hc hd ?_
  refine l27a (β := β) hR hd hc hf hF.2.2.1 (fun x y hx hy => ?_) 24 0 _ _ rfl (fun v hv => ?_) (fun v hv => ?_)
  · have e1 : (nI (min 2001 (1 + sB β I c 0)) : Int32) = 1 := rfl
    have := l27b (d := d) (Q := Q) (x := x) (Y := yB β I c 24) hR hd hc hf hV hC hB hF.2.2.2 (fun y hy => hq x y hx hy) 6 0 y rfl (fun v hv => by rw [hy v hv]; unfold zB anyB; rw [Bool.or_false])
    rw [e1] at this
    exact this
  · rw [bt_one (by omega) hv]; unfold xB anyB; rw [Bool.or_false]
  · rw [b_0]; rfl
theorem c23 {t : Nat} (hR : WFR R) (hd : 2 ≤ d) (ht : t < 6) (hV : BV β) (hC : CB β I D R) (hB : NB I) (hq : Q none w1 (j_u I 208 (24 + t) (nI (if bL β t = true then min 2001 (bu I (bO β t) * cas β t) else 0)), D, RR R)) : j_Call d 23 [.ref 204, .ref 108, .int (nI t)] w1 (I, D, RR R) 0 0 Q := by
  have hG := hC.2 t ht
  have lay : ¬ (I ((R 113 t).getD 0) 0) = 0 → bL β t = true := fun h => by
    cases hl : bL β t with
    | true => rfl
    | false => exact absurd (by have := hG.1; rw [hl] at this; exact this) h
  have key : ∀ (hl : bL β t = true) (y : Int32), I ((R 113 t).getD 0) 4 * y = nI (cas β t) → Q none w1 ((j_u I 208 (24 + t) (cl26 ((((I 208 ((I ((R 113 t).getD 0) 1).toNatClampNeg)) : Int32).toInt64) * ((((I ((R 113 t).getD 0) 4) * y) : Int32).toInt64)))), D, RR R) := by
    intro hl y hy
    obtain ⟨e1, -⟩ := hG.2 hl
    obtain ⟨ho, -, -, -, m1, m2, -, -, n2, -⟩ := hV.2.1 t ht hl
    obtain ⟨b1', b2'⟩ := hB.1 (bO β t) (by omega)
    have hcas : cas β t ≤ 64 := by
      unfold cas
      have : (if b2 β t = none then 1 else bn β t) ≤ 8 := by split <;> omega
      exact Nat.mul_le_mul m2 this
    rw [hy, show I ((R 113 t).getD 0) 1 = nI (bO β t) from e1, nI_clamp (by omega), b1', nI_l (by omega), nI_l (by omega), lN_mul, cl26_n (by
      have := Nat.mul_le_mul b2' hcas
      omega)]
    rw [if_pos hl] at hq
    exact hq
  refine s23 hR ht hd (fun g => ?_) (fun g => ?_) (fun g g2 => ?_) (fun g g2 => ?_)
  · cases hl : bL β t with
    | true =>
      have := hG.1
      rw [hl, show I (go R t) 0 = 0 from g] at this
      exact absurd this (by decide)
    | false => rw [hl, if_neg (by decide)] at hq; exact hq
  · obtain ⟨e1, -⟩ := hG.2 (lay g)
    rw [show I ((R 113 t).getD 0) 1 = nI (bO β t) from e1]
    exact vp_in_nI (by have := (hV.2.1 t ht (lay g)).1; omega) (by decide)
  · have hl := lay g
    obtain ⟨-, -, -, e4, e5, -⟩ := hG.2 hl
    obtain ⟨-, -, -, -, m1, m2, n0, n1, n2, -⟩ := hV.2.1 t ht hl
    refine key hl 1 ?_
    rw [show I ((R 113 t).getD 0) 4 = nI (bm β t) from e4, show (1 : Int32) = nI 1 from rfl, pk_mul]
    rw [show I ((R 113 t).getD 0) 5 = nI (bn β t) from e5] at g2
    have : bn β t = 0 := by
      rcases Nat.eq_zero_or_pos (bn β t) with h | h
      · exact h
      · exact absurd g2 (nI_nle h (by omega))
    unfold cas
    by_cases ho : b2 β t = none
    · rw [if_pos ho]
    · have := n1 ho; omega
  · have hl := lay g
    obtain ⟨-, -, -, e4, e5, -⟩ := hG.2 hl
    obtain ⟨-, -, -, -, m1, m2, n0, n1, n2, -⟩ := hV.2.1 t ht hl
    refine key hl _ ?_
    rw [show I ((R 113 t).getD 0) 4 = nI (bm β t) from e4, show I ((R 113 t).getD 0) 5 = nI (bn β t) from e5, pk_mul]
    rw [show I ((R 113 t).getD 0) 5 = nI (bn β t) from e5] at g2
    unfold cas
    rw [if_neg (fun ho => g2 (by rw [n0 ho]; decide))]
end LF
