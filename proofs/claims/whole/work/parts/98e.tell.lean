/-! the class tells -/
set_option maxRecDepth 10000 in
set_option maxHeartbeats 4000000 in
theorem t37e {d : Nat} {I : Nat → Nat → Int32} {D : Nat → Nat → UInt64} {R : Nat → Nat → Option Nat} {Q : j_Po} {L : Nat} {c : Nat} {b : Nat} (hR : WFR R) (hc : c < 24) (h7 : I 107 7 = nI b) (hd : 0 ≤ d)
    (v1 : j_W 37 d 0 0 0 0 19 [some (.ref 107), some (.int (nI L)), some (.int (nI c)), some (.ref ((R 112 c).getD 0)), some (.int (nI b)), some (.int 0), none, none] [] w1 (I, D, RR R) Q) : j_Call d 37 [.ref 107, .int (nI L), .int (nI c)] w1 (I, D, RR R) 0 0 Q := by
  refine q_enter (L := [some (.ref 107), some (.int (nI L)), some (.int (nI c)), none, none, none, none, none]) j_m37 (Nat.le_of_ble_eq_true rfl) rfl ?_
  refine q_aload_n d37_0 rfl ?_
  refine q_getR (x := 108) d37_1 (fs8_12 37 rfl) rfl (lt_w1 rfl) sh107 (rs107_0 R) (by decide) ?_
  refine q_getR (x := 112) d37_4 (fs8_102 37 rfl) rfl (lt_w1 rfl) sh108 (rs108_3 R) (by decide) ?_
  refine q_iload_n d37_7 rfl ?_
  have g2 := hR.f c (by omega)
  refine q_aaload (c := 6) (a := c) (x := ((R 112 c).getD 0)) d37_8 (lt_w1 rfl) sh112 (by decide) rfl (by omega) ((RR_d rfl).trans g2.1) (lt1000 (isF_lt g2.2)) ?_
  refine q_astore_n (L' := [some (.ref 107), some (.int (nI L)), some (.int (nI c)), some (.ref ((R 112 c).getD 0)), none, none, none, none]) d37_9 (Nat.le_of_ble_eq_true rfl) (Nat.ne_of_lt (Nat.lt_trans (lt1000 (isF_lt g2.2)) (by decide))) rfl ?_
  refine q_aload_n d37_10 rfl ?_
  refine q_getI d37_11 (fs8_50 37 rfl) rfl (lt_w1 rfl) sh107 ?_
  refine r_int (y := (nI b)) (show I 107 7 = (nI b) from h7) ?_
  refine q_istore (L' := [some (.ref 107), some (.int (nI L)), some (.int (nI c)), some (.ref ((R 112 c).getD 0)), some (.int (nI b)), none, none, none]) d37_14 (Nat.le_of_ble_eq_true rfl) rfl ?_
  refine q_iconst (v := 0) (by decide) d37_16 ?_
  refine q_istore (L' := [some (.ref 107), some (.int (nI L)), some (.int (nI c)), some (.ref ((R 112 c).getD 0)), some (.int (nI b)), some (.int 0), none, none]) d37_17 (Nat.le_of_ble_eq_true rfl) rfl ?_
  exact r_sub (L' := [some (.ref 107), some (.int (nI L)), some (.int (nI c)), some (.ref ((R 112 c).getD 0)), some (.int (nI b)), some (.int 0), none, none]) ⟨rfl, rfl, rfl, rfl, rfl, rfl, trivial⟩ v1

set_option maxRecDepth 10000 in
set_option maxHeartbeats 4000000 in
theorem t37h {d : Nat} {I : Nat → Nat → Int32} {D : Nat → Nat → UInt64} {R : Nat → Nat → Option Nat} {Q : j_Po} {L : Nat} {c : Nat} {f : Nat} {b : Nat} {k : Nat} {z : Nat} (hf : isF f) (hc : c < 24) (hL : L < 7) (h1 : I f 1 = nI z) (hz : z ≤ 96) (hk : k ≤ 96) (hb : b < 256) (hd : 2 ≤ d)
    (v1 : (z ≤ k) → (b < 256) → (¬ ((j_u (j_u I 107 7 (nI b)) (221 + L) c (I 229 b)) 229 b) = 0) → Q none w1 ((j_u (j_u I 107 7 (nI b)) (221 + L) c (I 229 b)), (j_u D (213 + L) c FP.dconst0), RR R))
    (v2 : (z ≤ k) → (b < 256) → (((j_u (j_u I 107 7 (nI b)) (221 + L) c (I 229 b)) 229 b) = 0) → Sm (D 228 b))
    (v3 : (z ≤ k) → (b < 256) → (((j_u (j_u I 107 7 (nI b)) (221 + L) c (I 229 b)) 229 b) = 0) → 1 ≤ 1)
    (v4 : (z ≤ k) → (b < 256) → (((j_u (j_u I 107 7 (nI b)) (221 + L) c (I 229 b)) 229 b) = 0) → Q none w1 ((j_u (j_u I 107 7 (nI b)) (221 + L) c (I 229 b)), (j_u D (213 + L) c (kp ((j_u (j_u I 107 7 (nI b)) (221 + L) c (I 229 b)) 109 c) (D 228 b))), RR R))
    (v5 : (z ≤ k) → (¬ b < 256) → Q none w1 (I, D, RR R))
    (v6 : (¬ z ≤ k) → j_W 37 d 0 0 0 0 52 [some (.ref 107), some (.int (nI L)), some (.int (nI c)), some (.ref f), some (.int (nI b)), some (.int (nI k)), some (.int ((I (f + 1) k) >>> (24 &&& 31))), some (.int ((I (f + 1) k) &&& 16777215))] [] w1 (I, D, RR R) Q) : j_W 37 d 0 0 0 0 19 [some (.ref 107), some (.int (nI L)), some (.int (nI c)), some (.ref f), some (.int (nI b)), some (.int (nI k)), none, none] [] w1 (I, D, RR R) Q := by
  refine q_iload d37_19 rfl ?_
  refine q_aload_n d37_21 rfl ?_
  refine q_getI d37_22 (fs8_106 37 rfl) rfl (isF_lt hf) (isF_sh hf) ?_
  refine r_int (y := (nI z)) (show I f 1 = (nI z) from h1) ?_
  refine q_icmp_ge (tgt := 182) d37_25 rfl (fun h1t => ?_) (fun h1f => ?_)
  ·
    have h1tc : z ≤ k := (nI_leI (by omega) (by omega)).mp h1t
    refine q_iload d37_182 rfl ?_
    refine q_sipush (v := 256) (by decide) d37_184 ?_
    refine q_icmp_lt (tgt := 191) d37_187 rfl (fun h2t => ?_) (fun h2f => ?_)
    ·
      have h2tc : b < 256 := (nI_ltI (by omega) (by omega)).mp h2t
      refine q_aload_n d37_191 rfl ?_
      refine q_iload d37_192 rfl ?_
      refine q_putI d37_194 (fs8_50 37 rfl) (Or.inl rfl) rfl (lt_w1 rfl) sh107 ?_
      refine q_aload_n d37_197 rfl ?_
      refine q_getR (x := 220) d37_198 (fs8_38 37 rfl) rfl (lt_w1 rfl) sh107 (rs107_4 R) (by decide) ?_
      refine q_iload_n d37_201 rfl ?_
      refine q_aaload (c := 4) (a := L) (x := (221 + L)) d37_202 (lt_w1 rfl) sh220 (by decide) rfl (by omega) (rm220 R (by omega)) (lt1000 (lm220 (by omega))) ?_
      refine q_iload_n d37_203 rfl ?_
      refine q_aload_n d37_204 rfl ?_
      refine q_getR (x := 229) d37_205 (fs8_45 37 rfl) rfl (lt_w1 rfl) sh107 (rs107_6 R) (by decide) ?_
      refine q_iload d37_208 rfl ?_
      refine q_iaload (a := b) d37_210 (lt_w1 rfl) sh229 rfl (by omega) ?_
      refine r_int (y := (I 229 b)) (show (j_u I 107 7 (nI b)) 229 b = (I 229 b) from (j_u_o _ _ _ (by decide))) ?_
      refine q_iastore (a := c) d37_211 (lm220 (by omega)) (sm220 (by omega)) rfl (by omega) ?_
      refine q_aload_n d37_212 rfl ?_
      refine q_getR (x := 212) d37_213 (fs8_33 37 rfl) rfl (lt_w1 rfl) sh107 (rs107_3 R) (by decide) ?_
      refine q_iload_n d37_216 rfl ?_
      refine q_aaload (c := 3) (a := L) (x := (213 + L)) d37_217 (lt_w1 rfl) sh212 (by decide) rfl (by omega) (rm212 R (by omega)) (lt1000 (lm212 (by omega))) ?_
      refine q_iload_n d37_218 rfl ?_
      refine q_aload_n d37_219 rfl ?_
      refine q_getR (x := 229) d37_220 (fs8_45 37 rfl) rfl (lt_w1 rfl) sh107 (rs107_6 R) (by decide) ?_
      refine q_iload d37_223 rfl ?_
      refine q_iaload (a := b) d37_225 (lt_w1 rfl) sh229 rfl (by omega) ?_
      refine q_if_ne (tgt := 251) d37_226 rfl (fun h3t => ?_) (fun h3f => ?_)
      ·
        refine q_dconst0 d37_251 ?_
        refine q_dastore (a := c) d37_252 (lm212 (by omega)) (sm212 (by omega)) rfl (by omega) ?_
        exact q_ret d37_253 rfl (Nat.le_refl _) (Nat.le_refl _) (v1 h1tc h2tc h3t)
      ·
        refine q_aload_n d37_229 rfl ?_
        refine q_getR (x := 108) d37_230 (fs8_12 37 rfl) rfl (lt_w1 rfl) sh107 (rs107_0 R) (by decide) ?_
        refine q_getR (x := 109) d37_233 (fs8_54 37 rfl) rfl (lt_w1 rfl) sh108 (rs108_0 R) (by decide) ?_
        refine q_iload_n d37_236 rfl ?_
        refine q_iaload (a := c) d37_237 (lt_w1 rfl) sh109 rfl (by omega) ?_
        refine q_aload_n d37_238 rfl ?_
        refine q_getR (x := 228) d37_239 (fs8_41 37 rfl) rfl (lt_w1 rfl) sh107 (rs107_5 R) (by decide) ?_
        refine q_iload d37_242 rfl ?_
        refine q_daload (a := b) d37_244 (lt_w1 rfl) sh228 rfl (by omega) ?_
        refine q_invSN (av := [.int ((j_u (j_u I 107 7 (nI b)) (221 + L) c (I 229 b)) 109 c), .double (D 228 b)]) (rest := [.int (nI c), .ref (213 + L)]) (d' := 1) (mc' := 0) (ms' := 0) d37_245 (nv8_59 37 rfl) rfl rfl (by omega) (Nat.le_of_ble_eq_true rfl) (Nat.le_of_ble_eq_true rfl) (Nat.le_refl _) (Nat.le_refl _) ?_
        refine c15 (v2 h1tc h2tc h3f) (v3 h1tc h2tc h3f) ?_
        show j_W 37 d 0 0 0 0 248 [some (.ref 107), some (.int (nI L)), some (.int (nI c)), some (.ref f), some (.int (nI b)), some (.int (nI k)), none, none] [.double (kp ((j_u (j_u I 107 7 (nI b)) (221 + L) c (I 229 b)) 109 c) (D 228 b)), .int (nI c), .ref (213 + L)] w1 ((j_u (j_u I 107 7 (nI b)) (221 + L) c (I 229 b)), D, RR R) Q
        refine q_goto (tgt := 252) d37_248 rfl ?_
        refine q_dastore (a := c) d37_252 (lm212 (by omega)) (sm212 (by omega)) rfl (by omega) ?_
        exact q_ret d37_253 rfl (Nat.le_refl _) (Nat.le_refl _) (v4 h1tc h2tc h3f)
    ·
      have h2fc : ¬ b < 256 := mt (nI_ltI (by omega) (by omega)).mpr h2f
      exact q_ret d37_190 rfl (Nat.le_refl _) (Nat.le_refl _) (v5 h1tc h2fc)
  ·
    have h1fc : ¬ z ≤ k := mt (nI_leI (by omega) (by omega)).mpr h1f
    refine q_aload_n d37_28 rfl ?_
    refine q_getR (x := (f + 1)) d37_29 (fs8_111 37 rfl) rfl (isF_lt hf) (isF_sh hf) (isF_r1 R hf) (lt1000 (isF_lt1 hf)) ?_
    refine q_iload d37_32 rfl ?_
    refine q_iaload (a := k) d37_34 (isF_lt1 hf) (isF_sh1 hf) rfl (by omega) ?_
    refine q_bipush (v := 24) (by decide) d37_35 ?_
    refine q_ishr d37_37 ?_
    refine q_istore (L' := [some (.ref 107), some (.int (nI L)), some (.int (nI c)), some (.ref f), some (.int (nI b)), some (.int (nI k)), some (.int ((I (f + 1) k) >>> (24 &&& 31))), none]) d37_38 (Nat.le_of_ble_eq_true rfl) rfl ?_
    refine q_aload_n d37_40 rfl ?_
    refine q_getR (x := (f + 1)) d37_41 (fs8_111 37 rfl) rfl (isF_lt hf) (isF_sh hf) (isF_r1 R hf) (lt1000 (isF_lt1 hf)) ?_
    refine q_iload d37_44 rfl ?_
    refine q_iaload (a := k) d37_46 (isF_lt1 hf) (isF_sh1 hf) rfl (by omega) ?_
    refine q_ldcI (v := 16777215) d37_47 (kc8_114 37 rfl) ?_
    refine q_iand d37_49 ?_
    refine q_istore (L' := [some (.ref 107), some (.int (nI L)), some (.int (nI c)), some (.ref f), some (.int (nI b)), some (.int (nI k)), some (.int ((I (f + 1) k) >>> (24 &&& 31))), some (.int ((I (f + 1) k) &&& 16777215))]) d37_50 (Nat.le_of_ble_eq_true rfl) rfl ?_
    exact r_sub (L' := [some (.ref 107), some (.int (nI L)), some (.int (nI c)), some (.ref f), some (.int (nI b)), some (.int (nI k)), some (.int ((I (f + 1) k) >>> (24 &&& 31))), some (.int ((I (f + 1) k) &&& 16777215))]) ⟨rfl, rfl, rfl, rfl, rfl, rfl, rfl, rfl, trivial⟩ (v6 h1fc)

set_option maxRecDepth 10000 in
set_option maxHeartbeats 4000000 in
theorem t37d {d : Nat} {I : Nat → Nat → Int32} {D : Nat → Nat → UInt64} {R : Nat → Nat → Option Nat} {Q : j_Po} {L : Nat} {c : Nat} {f : Nat} {b : Nat} {k : Nat} {w : Nat} {a : Nat} (hf : isF f) (hc : c < 24) (hL : L < 7) (ha17 : a ≤ 17) (hd : 0 ≤ d)
    (v1 : (¬ (nI a) = 0) → (¬ a = 1) → (a < 13) → (¬ a = 2) → (¬ a = 12) → j_W 37 d 0 0 0 0 169 [some (.ref 107), some (.int (nI L)), some (.int (nI c)), some (.ref f), some (.int (nI b)), some (.int (nI k)), some (.int (nI a)), some (.int (nI w))] [] w1 (I, D, RR R) Q)
    (v2 : (¬ (nI a) = 0) → (¬ a = 1) → (a < 13) → (¬ a = 2) → (a = 12) → j_W 37 d 0 0 0 0 162 [some (.ref 107), some (.int (nI L)), some (.int (nI c)), some (.ref f), some (.int (nI b)), some (.int (nI k)), some (.int (nI a)), some (.int (nI w))] [] w1 (I, D, RR R) Q)
    (v3 : (¬ (nI a) = 0) → (¬ a = 1) → (a < 13) → (a = 2) → j_W 37 d 0 0 0 0 148 [some (.ref 107), some (.int (nI L)), some (.int (nI c)), some (.ref f), some (.int (nI b)), some (.int (nI k)), some (.int (nI a)), some (.int (nI w))] [] w1 (I, D, RR R) Q)
    (v4 : (¬ (nI a) = 0) → (¬ a = 1) → (¬ a < 13) → j_W 37 d 0 0 0 0 118 [some (.ref 107), some (.int (nI L)), some (.int (nI c)), some (.ref f), some (.int (nI b)), some (.int (nI k)), some (.int (nI a)), some (.int (nI w))] [] w1 (I, D, RR R) Q)
    (v5 : (¬ (nI a) = 0) → (a = 1) → j_W 37 d 0 0 0 0 78 [some (.ref 107), some (.int (nI L)), some (.int (nI c)), some (.ref f), some (.int (nI b)), some (.int (nI k)), some (.int (nI a)), some (.int (nI w))] [] w1 (I, D, RR R) Q)
    (v6 : ((nI a) = 0) → j_W 37 d 0 0 0 0 57 [some (.ref 107), some (.int (nI L)), some (.int (nI c)), some (.ref f), some (.int (nI b)), some (.int (nI k)), some (.int (nI a)), some (.int (nI w))] [] w1 (I, D, RR R) Q) : j_W 37 d 0 0 0 0 52 [some (.ref 107), some (.int (nI L)), some (.int (nI c)), some (.ref f), some (.int (nI b)), some (.int (nI k)), some (.int (nI a)), some (.int (nI w))] [] w1 (I, D, RR R) Q := by
  refine q_iload d37_52 rfl ?_
  refine q_if_ne (tgt := 72) d37_54 rfl (fun h1t => ?_) (fun h1f => ?_)
  ·
    refine q_iload d37_72 rfl ?_
    refine q_iconst (v := 1) (by decide) d37_74 ?_
    refine q_icmp_ne (tgt := 111) d37_75 rfl (fun h2t => ?_) (fun h2f => ?_)
    ·
      have h2tc : ¬ a = 1 := mt (nI_eqN (by omega) (by omega)).mpr h2t
      refine q_iload d37_111 rfl ?_
      refine q_bipush (v := 13) (by decide) d37_113 ?_
      refine q_icmp_lt (tgt := 142) d37_115 rfl (fun h3t => ?_) (fun h3f => ?_)
      ·
        have h3tc : a < 13 := (nI_ltI (by omega) (by omega)).mp h3t
        refine q_iload d37_142 rfl ?_
        refine q_iconst (v := 2) (by decide) d37_144 ?_
        refine q_icmp_ne (tgt := 155) d37_145 rfl (fun h4t => ?_) (fun h4f => ?_)
        ·
          have h4tc : ¬ a = 2 := mt (nI_eqN (by omega) (by omega)).mpr h4t
          refine q_iload d37_155 rfl ?_
          refine q_bipush (v := 12) (by decide) d37_157 ?_
          refine q_icmp_ne (tgt := 169) d37_159 rfl (fun h5t => ?_) (fun h5f => ?_)
          ·
            have h5tc : ¬ a = 12 := mt (nI_eqN (by omega) (by omega)).mpr h5t
            exact r_sub (L' := [some (.ref 107), some (.int (nI L)), some (.int (nI c)), some (.ref f), some (.int (nI b)), some (.int (nI k)), some (.int (nI a)), some (.int (nI w))]) ⟨rfl, rfl, rfl, rfl, rfl, rfl, rfl, rfl, trivial⟩ (v1 h1t h2tc h3tc h4tc h5tc)
          ·
            have h5fc : a = 12 := (nI_eqN (by omega) (by omega)).mp h5f
            exact r_sub (L' := [some (.ref 107), some (.int (nI L)), some (.int (nI c)), some (.ref f), some (.int (nI b)), some (.int (nI k)), some (.int (nI a)), some (.int (nI w))]) ⟨rfl, rfl, rfl, rfl, rfl, rfl, rfl, rfl, trivial⟩ (v2 h1t h2tc h3tc h4tc h5fc)
        ·
          have h4fc : a = 2 := (nI_eqN (by omega) (by omega)).mp h4f
          exact r_sub (L' := [some (.ref 107), some (.int (nI L)), some (.int (nI c)), some (.ref f), some (.int (nI b)), some (.int (nI k)), some (.int (nI a)), some (.int (nI w))]) ⟨rfl, rfl, rfl, rfl, rfl, rfl, rfl, rfl, trivial⟩ (v3 h1t h2tc h3tc h4fc)
      ·
        have h3fc : ¬ a < 13 := mt (nI_ltI (by omega) (by omega)).mpr h3f
        exact r_sub (L' := [some (.ref 107), some (.int (nI L)), some (.int (nI c)), some (.ref f), some (.int (nI b)), some (.int (nI k)), some (.int (nI a)), some (.int (nI w))]) ⟨rfl, rfl, rfl, rfl, rfl, rfl, rfl, rfl, trivial⟩ (v4 h1t h2tc h3fc)
    ·
      have h2fc : a = 1 := (nI_eqN (by omega) (by omega)).mp h2f
      exact r_sub (L' := [some (.ref 107), some (.int (nI L)), some (.int (nI c)), some (.ref f), some (.int (nI b)), some (.int (nI k)), some (.int (nI a)), some (.int (nI w))]) ⟨rfl, rfl, rfl, rfl, rfl, rfl, rfl, rfl, trivial⟩ (v5 h1t h2fc)
  ·
    exact r_sub (L' := [some (.ref 107), some (.int (nI L)), some (.int (nI c)), some (.ref f), some (.int (nI b)), some (.int (nI k)), some (.int (nI a)), some (.int (nI w))]) ⟨rfl, rfl, rfl, rfl, rfl, rfl, rfl, rfl, trivial⟩ (v6 h1f)

set_option maxRecDepth 10000 in
set_option maxHeartbeats 4000000 in
theorem t37_0 {d : Nat} {I : Nat → Nat → Int32} {D : Nat → Nat → UInt64} {R : Nat → Nat → Option Nat} {Q : j_Po} {L : Nat} {c : Nat} {f : Nat} {b : Nat} {k : Nat} {a : Nat} {w : Nat} {s : Nat → Vl} {h : Nat} (hf : isF f) (hc : c < 24) (hL : L < 7) (hk : k < 96) (hd : 1 ≤ d)
    (v1 : vf_n64 (FP.ddiv (FP.i2d (nI w)) 4652007308841189376))
    (v2 : SV I D b h s)
    (v3 : b + h < 256)
    (v4 : VR (nI (0, fig w).1) (FP.ddiv (FP.i2d (nI w)) 4652007308841189376) (0, fig w))
    (v5 : ∀ J1 : Nat → Nat → Int32, ∀ E2 : Nat → Nat → UInt64, (SV J1 E2 b (h + 1) (fu s h (0, fig w))) → (FS b I D J1 E2) → j_W 37 d 0 0 0 0 19 [some (.ref 107), some (.int (nI L)), some (.int (nI c)), some (.ref f), some (.int (nI b)), some (.int (nI (k + 1))), none, none] [] w1 (J1, E2, RR R) Q) : j_W 37 d 0 0 0 0 57 [some (.ref 107), some (.int (nI L)), some (.int (nI c)), some (.ref f), some (.int (nI b)), some (.int (nI k)), some (.int (nI a)), some (.int (nI w))] [] w1 (I, D, RR R) Q := by
  refine q_aload_n d37_57 rfl ?_
  refine q_iload d37_58 rfl ?_
  refine q_i2d d37_60 ?_
  refine q_ldcD (v := 4652007308841189376) d37_61 (kc8_115 37 rfl) ?_
  refine q_ddiv v1 d37_64 ?_
  refine q_iconst (v := 0) (by decide) d37_65 ?_
  refine q_invV (o := 107) (ci := 8) (av := [.double (FP.ddiv (FP.i2d (nI w)) 4652007308841189376), .int 0]) (rest := []) (d' := 0) (mc' := 0) (ms' := 0) d37_66 (cv8_117 37 rfl) rfl (by decide) rfl rfl (by omega) (Nat.le_of_ble_eq_true rfl) (Nat.le_of_ble_eq_true rfl) (lt_w1 rfl) sh107 (Nat.le_refl _) (Nat.le_refl _) ?_
  refine c38 (b := b) (h := h) (s := s) (v := (0, fig w)) v2 v3 v4 (fun J1 E2 h3 h4 => ?_)
  show j_W 37 d 0 0 0 0 69 [some (.ref 107), some (.int (nI L)), some (.int (nI c)), some (.ref f), some (.int (nI b)), some (.int (nI k)), some (.int (nI a)), some (.int (nI w))] [] w1 (J1, E2, RR R) Q
  refine q_goto (tgt := 176) d37_69 rfl ?_
  refine q_iinc (L' := [some (.ref 107), some (.int (nI L)), some (.int (nI c)), some (.ref f), some (.int (nI b)), some (.int (nI (k + 1))), some (.int (nI a)), some (.int (nI w))]) (v := (nI (k + 1))) d37_176 rfl (nI_inc _) rfl ?_
  refine q_goto (tgt := 19) d37_179 rfl ?_
  exact r_sub (L' := [some (.ref 107), some (.int (nI L)), some (.int (nI c)), some (.ref f), some (.int (nI b)), some (.int (nI (k + 1))), none, none]) ⟨rfl, rfl, rfl, rfl, rfl, rfl, trivial⟩ (v5 J1 E2 h3 h4)

set_option maxRecDepth 10000 in
set_option maxHeartbeats 4000000 in
theorem t37_1 {d : Nat} {I : Nat → Nat → Int32} {D : Nat → Nat → UInt64} {R : Nat → Nat → Option Nat} {Q : j_Po} {L : Nat} {c : Nat} {f : Nat} {b : Nat} {k : Nat} {a : Nat} {w : Nat} {β : Bd} {s : Nat → Vl} {h : Nat} {η : VEnv} (hf : isF f) (hc : c < 24) (hL : L < 7) (hk : k < 96) (hw : w < 24) (hw1 : I (221 + L) w = nI (val β η w).1) (hd : 1 ≤ d)
    (v1 : SV I D b h s)
    (v2 : b + h < 256)
    (v3 : VR (nI (val β η w).1) (D (213 + L) w) (val β η w))
    (v4 : ∀ J1 : Nat → Nat → Int32, ∀ E2 : Nat → Nat → UInt64, (SV J1 E2 b (h + 1) (fu s h (val β η w))) → (FS b I D J1 E2) → j_W 37 d 0 0 0 0 19 [some (.ref 107), some (.int (nI L)), some (.int (nI c)), some (.ref f), some (.int (nI b)), some (.int (nI (k + 1))), none, none] [] w1 (J1, E2, RR R) Q) : j_W 37 d 0 0 0 0 78 [some (.ref 107), some (.int (nI L)), some (.int (nI c)), some (.ref f), some (.int (nI b)), some (.int (nI k)), some (.int (nI a)), some (.int (nI w))] [] w1 (I, D, RR R) Q := by
  refine q_iload d37_78 rfl ?_
  refine q_invSN (av := [.int (nI w)]) (rest := []) (d' := 0) (mc' := 0) (ms' := 0) d37_80 (nv8_121 37 rfl) rfl rfl (by omega) (Nat.le_of_ble_eq_true rfl) (Nat.le_of_ble_eq_true rfl) (Nat.le_refl _) (Nat.le_refl _) ?_
  refine r12t (by first | omega | decide)  ?_
  show j_W 37 d 0 0 0 0 83 [some (.ref 107), some (.int (nI L)), some (.int (nI c)), some (.ref f), some (.int (nI b)), some (.int (nI k)), some (.int (nI a)), some (.int (nI w))] [.int 1] w1 (I, D, RR R) Q
  refine q_if_eq (tgt := 111) d37_83 rfl (fun h => absurd h (by decide)) (fun _ => ?_)
  refine q_aload_n d37_86 rfl ?_
  refine q_aload_n d37_87 rfl ?_
  refine q_getR (x := 212) d37_88 (fs8_33 37 rfl) rfl (lt_w1 rfl) sh107 (rs107_3 R) (by decide) ?_
  refine q_iload_n d37_91 rfl ?_
  refine q_aaload (c := 3) (a := L) (x := (213 + L)) d37_92 (lt_w1 rfl) sh212 (by decide) rfl (by omega) (rm212 R (by omega)) (lt1000 (lm212 (by omega))) ?_
  refine q_iload d37_93 rfl ?_
  refine q_daload (a := w) d37_95 (lm212 (by omega)) (sm212 (by omega)) rfl (by omega) ?_
  refine q_aload_n d37_96 rfl ?_
  refine q_getR (x := 220) d37_97 (fs8_38 37 rfl) rfl (lt_w1 rfl) sh107 (rs107_4 R) (by decide) ?_
  refine q_iload_n d37_100 rfl ?_
  refine q_aaload (c := 4) (a := L) (x := (221 + L)) d37_101 (lt_w1 rfl) sh220 (by decide) rfl (by omega) (rm220 R (by omega)) (lt1000 (lm220 (by omega))) ?_
  refine q_iload d37_102 rfl ?_
  refine q_iaload (a := w) d37_104 (lm220 (by omega)) (sm220 (by omega)) rfl (by omega) ?_
  refine r_int (y := nI ((val β η w).1)) hw1 ?_
  refine q_invV (o := 107) (ci := 8) (av := [.double (D (213 + L) w), .int (nI ((val β η w).1))]) (rest := []) (d' := 0) (mc' := 0) (ms' := 0) d37_105 (cv8_117 37 rfl) rfl (by decide) rfl rfl (by omega) (Nat.le_of_ble_eq_true rfl) (Nat.le_of_ble_eq_true rfl) (lt_w1 rfl) sh107 (Nat.le_refl _) (Nat.le_refl _) ?_
  refine c38 (b := b) (h := h) (s := s) (v := (val β η w)) v1 v2 v3 (fun J1 E2 h3 h4 => ?_)
  show j_W 37 d 0 0 0 0 108 [some (.ref 107), some (.int (nI L)), some (.int (nI c)), some (.ref f), some (.int (nI b)), some (.int (nI k)), some (.int (nI a)), some (.int (nI w))] [] w1 (J1, E2, RR R) Q
  refine q_goto (tgt := 176) d37_108 rfl ?_
  refine q_iinc (L' := [some (.ref 107), some (.int (nI L)), some (.int (nI c)), some (.ref f), some (.int (nI b)), some (.int (nI (k + 1))), some (.int (nI a)), some (.int (nI w))]) (v := (nI (k + 1))) d37_176 rfl (nI_inc _) rfl ?_
  refine q_goto (tgt := 19) d37_179 rfl ?_
  exact r_sub (L' := [some (.ref 107), some (.int (nI L)), some (.int (nI c)), some (.ref f), some (.int (nI b)), some (.int (nI (k + 1))), none, none]) ⟨rfl, rfl, rfl, rfl, rfl, rfl, trivial⟩ (v4 J1 E2 h3 h4)

set_option maxRecDepth 10000 in
set_option maxHeartbeats 4000000 in
theorem t37_2 {d : Nat} {I : Nat → Nat → Int32} {D : Nat → Nat → UInt64} {R : Nat → Nat → Option Nat} {Q : j_Po} {L : Nat} {c : Nat} {f : Nat} {b : Nat} {k : Nat} {a : Nat} {w : Nat} {s : Nat → Vl} {h : Nat} (hf : isF f) (hc : c < 24) (hL : L < 7) (hk : k < 96) (hd : 1 ≤ d)
    (v1 : SV I D b h s)
    (v2 : b + h < 256)
    (v3 : 1 ≤ h)
    (v4 : ∀ J1 : Nat → Nat → Int32, ∀ E2 : Nat → Nat → UInt64, (SV J1 E2 b h (fu s (h - 1) (negV (s (h - 1))))) → (FS b I D J1 E2) → j_W 37 d 0 0 0 0 19 [some (.ref 107), some (.int (nI L)), some (.int (nI c)), some (.ref f), some (.int (nI b)), some (.int (nI (k + 1))), none, none] [] w1 (J1, E2, RR R) Q) : j_W 37 d 0 0 0 0 148 [some (.ref 107), some (.int (nI L)), some (.int (nI c)), some (.ref f), some (.int (nI b)), some (.int (nI k)), some (.int (nI a)), some (.int (nI w))] [] w1 (I, D, RR R) Q := by
  refine q_aload_n d37_148 rfl ?_
  refine q_invV (o := 107) (ci := 8) (av := []) (rest := []) (d' := 0) (mc' := 0) (ms' := 0) d37_149 (cv8_131 37 rfl) rfl (by decide) rfl rfl (by omega) (Nat.le_of_ble_eq_true rfl) (Nat.le_of_ble_eq_true rfl) (lt_w1 rfl) sh107 (Nat.le_refl _) (Nat.le_refl _) ?_
  refine c50 (b := b) (h := h) (s := s) v1 v2 v3 (fun J1 E2 h3 h4 => ?_)
  show j_W 37 d 0 0 0 0 152 [some (.ref 107), some (.int (nI L)), some (.int (nI c)), some (.ref f), some (.int (nI b)), some (.int (nI k)), some (.int (nI a)), some (.int (nI w))] [] w1 (J1, E2, RR R) Q
  refine q_goto (tgt := 176) d37_152 rfl ?_
  refine q_iinc (L' := [some (.ref 107), some (.int (nI L)), some (.int (nI c)), some (.ref f), some (.int (nI b)), some (.int (nI (k + 1))), some (.int (nI a)), some (.int (nI w))]) (v := (nI (k + 1))) d37_176 rfl (nI_inc _) rfl ?_
  refine q_goto (tgt := 19) d37_179 rfl ?_
  exact r_sub (L' := [some (.ref 107), some (.int (nI L)), some (.int (nI c)), some (.ref f), some (.int (nI b)), some (.int (nI (k + 1))), none, none]) ⟨rfl, rfl, rfl, rfl, rfl, rfl, trivial⟩ (v4 J1 E2 h3 h4)

set_option maxRecDepth 10000 in
set_option maxHeartbeats 4000000 in
theorem t37_12 {d : Nat} {I : Nat → Nat → Int32} {D : Nat → Nat → UInt64} {R : Nat → Nat → Option Nat} {Q : j_Po} {L : Nat} {c : Nat} {f : Nat} {b : Nat} {k : Nat} {a : Nat} {w : Nat} {s : Nat → Vl} {h : Nat} (hf : isF f) (hc : c < 24) (hL : L < 7) (hk : k < 96) (hd : 1 ≤ d)
    (v1 : SV I D b h s)
    (v2 : b + h < 255)
    (v3 : 3 ≤ h)
    (v4 : ∀ J1 : Nat → Nat → Int32, ∀ E2 : Nat → Nat → UInt64, (SV J1 E2 b (h - 2) (fu s (h - 3) (pickV (s (h - 3)) (s (h - 2)) (s (h - 1))))) → (FS b I D J1 E2) → j_W 37 d 0 0 0 0 19 [some (.ref 107), some (.int (nI L)), some (.int (nI c)), some (.ref f), some (.int (nI b)), some (.int (nI (k + 1))), none, none] [] w1 (J1, E2, RR R) Q) : j_W 37 d 0 0 0 0 162 [some (.ref 107), some (.int (nI L)), some (.int (nI c)), some (.ref f), some (.int (nI b)), some (.int (nI k)), some (.int (nI a)), some (.int (nI w))] [] w1 (I, D, RR R) Q := by
  refine q_aload_n d37_162 rfl ?_
  refine q_invV (o := 107) (ci := 8) (av := []) (rest := []) (d' := 0) (mc' := 0) (ms' := 0) d37_163 (cv8_134 37 rfl) rfl (by decide) rfl rfl (by omega) (Nat.le_of_ble_eq_true rfl) (Nat.le_of_ble_eq_true rfl) (lt_w1 rfl) sh107 (Nat.le_refl _) (Nat.le_refl _) ?_
  refine c51 (b := b) (h := h) (s := s) v1 v2 v3 (fun J1 E2 h3 h4 => ?_)
  show j_W 37 d 0 0 0 0 166 [some (.ref 107), some (.int (nI L)), some (.int (nI c)), some (.ref f), some (.int (nI b)), some (.int (nI k)), some (.int (nI a)), some (.int (nI w))] [] w1 (J1, E2, RR R) Q
  refine q_goto (tgt := 176) d37_166 rfl ?_
  refine q_iinc (L' := [some (.ref 107), some (.int (nI L)), some (.int (nI c)), some (.ref f), some (.int (nI b)), some (.int (nI (k + 1))), some (.int (nI a)), some (.int (nI w))]) (v := (nI (k + 1))) d37_176 rfl (nI_inc _) rfl ?_
  refine q_goto (tgt := 19) d37_179 rfl ?_
  exact r_sub (L' := [some (.ref 107), some (.int (nI L)), some (.int (nI c)), some (.ref f), some (.int (nI b)), some (.int (nI (k + 1))), none, none]) ⟨rfl, rfl, rfl, rfl, rfl, rfl, trivial⟩ (v4 J1 E2 h3 h4)

set_option maxRecDepth 10000 in
set_option maxHeartbeats 4000000 in
theorem t37_3 {d : Nat} {I : Nat → Nat → Int32} {D : Nat → Nat → UInt64} {R : Nat → Nat → Option Nat} {Q : j_Po} {L : Nat} {c : Nat} {f : Nat} {b : Nat} {k : Nat} {w : Nat} {s : Nat → Vl} {h : Nat} {a : Nat} (hf : isF f) (hc : c < 24) (hL : L < 7) (hk : k < 96) (ha3 : 3 ≤ a) (ha11 : a ≤ 11) (hd : 2 ≤ d)
    (v1 : SV I D b h s)
    (v2 : b + h < 256)
    (v3 : 2 ≤ h)
    (v4 : 3 ≤ a)
    (v5 : a ≤ 11)
    (v6 : c < 24)
    (v7 : 1 ≤ 1)
    (v8 : ∀ J1 : Nat → Nat → Int32, ∀ E2 : Nat → Nat → UInt64, (SV J1 E2 b (h - 1) (fu s (h - 2) (twoV a c (s (h - 2)) (s (h - 1))))) → (FS b I D J1 E2) → j_W 37 d 0 0 0 0 19 [some (.ref 107), some (.int (nI L)), some (.int (nI c)), some (.ref f), some (.int (nI b)), some (.int (nI (k + 1))), none, none] [] w1 (J1, E2, RR R) Q) : j_W 37 d 0 0 0 0 169 [some (.ref 107), some (.int (nI L)), some (.int (nI c)), some (.ref f), some (.int (nI b)), some (.int (nI k)), some (.int (nI a)), some (.int (nI w))] [] w1 (I, D, RR R) Q := by
  refine q_aload_n d37_169 rfl ?_
  refine q_iload d37_170 rfl ?_
  refine q_iload_n d37_172 rfl ?_
  refine q_invV (o := 107) (ci := 8) (av := [.int (nI a), .int (nI c)]) (rest := []) (d' := 1) (mc' := 0) (ms' := 0) d37_173 (cv8_137 37 rfl) rfl (by decide) rfl rfl (by omega) (Nat.le_of_ble_eq_true rfl) (Nat.le_of_ble_eq_true rfl) (lt_w1 rfl) sh107 (Nat.le_refl _) (Nat.le_refl _) ?_
  refine c52 (b := b) (h := h) (s := s) v1 v2 v3 v4 v5 v6 v7 (fun J1 E2 h3 h4 => ?_)
  show j_W 37 d 0 0 0 0 176 [some (.ref 107), some (.int (nI L)), some (.int (nI c)), some (.ref f), some (.int (nI b)), some (.int (nI k)), some (.int (nI a)), some (.int (nI w))] [] w1 (J1, E2, RR R) Q
  refine q_iinc (L' := [some (.ref 107), some (.int (nI L)), some (.int (nI c)), some (.ref f), some (.int (nI b)), some (.int (nI (k + 1))), some (.int (nI a)), some (.int (nI w))]) (v := (nI (k + 1))) d37_176 rfl (nI_inc _) rfl ?_
  refine q_goto (tgt := 19) d37_179 rfl ?_
  exact r_sub (L' := [some (.ref 107), some (.int (nI L)), some (.int (nI c)), some (.ref f), some (.int (nI b)), some (.int (nI (k + 1))), none, none]) ⟨rfl, rfl, rfl, rfl, rfl, rfl, trivial⟩ (v8 J1 E2 h3 h4)

set_option maxRecDepth 10000 in
set_option maxHeartbeats 4000000 in
theorem t37_13 {d : Nat} {I : Nat → Nat → Int32} {D : Nat → Nat → UInt64} {R : Nat → Nat → Option Nat} {Q : j_Po} {L : Nat} {c : Nat} {f : Nat} {b : Nat} {k : Nat} {w : Nat} {h : Nat} {a : Nat} {AP : (Nat → Nat → Int32) → (Nat → Nat → UInt64) → Prop} (hf : isF f) (hc : c < 24) (hL : L < 7) (hk : k < 96) (ha13 : 13 ≤ a) (ha17 : a ≤ 17) (hw : w < 6) (hA : ∀ (Q : j_Po), (∀ J E, AP J E → Q none w1 (J, E, RR R)) → j_Call (d - 1) 40 [.ref 107, .int (nI L), .int (nI c), .int (nI w), .int (nI (a - 13))] w1 (I, D, RR R) 0 0 Q) (hd : 1 ≤ d)
    (v1 : ∀ J1 : Nat → Nat → Int32, ∀ E2 : Nat → Nat → UInt64, (AP J1 E2) → j_W 37 d 0 0 0 0 19 [some (.ref 107), some (.int (nI L)), some (.int (nI c)), some (.ref f), some (.int (nI b)), some (.int (nI (k + 1))), none, none] [] w1 (J1, E2, RR R) Q) : j_W 37 d 0 0 0 0 118 [some (.ref 107), some (.int (nI L)), some (.int (nI c)), some (.ref f), some (.int (nI b)), some (.int (nI k)), some (.int (nI a)), some (.int (nI w))] [] w1 (I, D, RR R) Q := by
  refine q_iload d37_118 rfl ?_
  refine q_invSN (av := [.int (nI w)]) (rest := []) (d' := 0) (mc' := 0) (ms' := 0) d37_120 (nv8_124 37 rfl) rfl rfl (by omega) (Nat.le_of_ble_eq_true rfl) (Nat.le_of_ble_eq_true rfl) (Nat.le_refl _) (Nat.le_refl _) ?_
  refine r39t (by first | omega | decide)  ?_
  show j_W 37 d 0 0 0 0 123 [some (.ref 107), some (.int (nI L)), some (.int (nI c)), some (.ref f), some (.int (nI b)), some (.int (nI k)), some (.int (nI a)), some (.int (nI w))] [.int 1] w1 (I, D, RR R) Q
  refine q_if_eq (tgt := 142) d37_123 rfl (fun h => absurd h (by decide)) (fun _ => ?_)
  refine q_aload_n d37_126 rfl ?_
  refine q_iload_n d37_127 rfl ?_
  refine q_iload_n d37_128 rfl ?_
  refine q_iload d37_129 rfl ?_
  refine q_iload d37_131 rfl ?_
  refine q_bipush (v := 13) (by decide) d37_133 ?_
  refine q_isub d37_135 ?_
  refine r_int (y := (nI (a - 13))) (pk_sub (b := 13) (by omega)) ?_
  refine q_invV (o := 107) (ci := 8) (av := [.int (nI L), .int (nI c), .int (nI w), .int (nI (a - 13))]) (rest := []) (d' := (d - 1)) (mc' := 0) (ms' := 0) d37_136 (cv8_127 37 rfl) rfl (by decide) rfl rfl (by omega) (Nat.le_of_ble_eq_true rfl) (Nat.le_of_ble_eq_true rfl) (lt_w1 rfl) sh107 (Nat.le_refl _) (Nat.le_refl _) ?_
  refine hA _  (fun J1 E2 h3 => ?_)
  show j_W 37 d 0 0 0 0 139 [some (.ref 107), some (.int (nI L)), some (.int (nI c)), some (.ref f), some (.int (nI b)), some (.int (nI k)), some (.int (nI a)), some (.int (nI w))] [] w1 (J1, E2, RR R) Q
  refine q_goto (tgt := 176) d37_139 rfl ?_
  refine q_iinc (L' := [some (.ref 107), some (.int (nI L)), some (.int (nI c)), some (.ref f), some (.int (nI b)), some (.int (nI (k + 1))), some (.int (nI a)), some (.int (nI w))]) (v := (nI (k + 1))) d37_176 rfl (nI_inc _) rfl ?_
  refine q_goto (tgt := 19) d37_179 rfl ?_
  exact r_sub (L' := [some (.ref 107), some (.int (nI L)), some (.int (nI c)), some (.ref f), some (.int (nI b)), some (.int (nI (k + 1))), none, none]) ⟨rfl, rfl, rfl, rfl, rfl, rfl, trivial⟩ (v1 J1 E2 h3)

set_option maxRecDepth 10000 in
set_option maxHeartbeats 4000000 in
theorem t40e {d : Nat} {I : Nat → Nat → Int32} {D : Nat → Nat → UInt64} {R : Nat → Nat → Option Nat} {Q : j_Po} {L : Nat} {c : Nat} {t : Nat} {f : Nat} (hR : WFR R) (hc : c < 24) (ht : t < 6) (hf5 : f < 5) (hd : 1 ≤ d)
    (v1 : (¬ (I ((R 113 t).getD 0) 0) = 0) → j_W 40 d 0 0 0 0 26 [some (.ref 107), some (.int (nI L)), some (.int (nI c)), some (.int (nI t)), some (.int (nI f)), none] [] w1 (I, D, RR R) Q)
    (v2 : ((I ((R 113 t).getD 0) 0) = 0) → j_W 40 d 0 0 0 0 15 [some (.ref 107), some (.int (nI L)), some (.int (nI c)), some (.int (nI t)), some (.int (nI f)), none] [] w1 (I, D, RR R) Q) : j_Call d 40 [.ref 107, .int (nI L), .int (nI c), .int (nI t), .int (nI f)] w1 (I, D, RR R) 0 0 Q := by
  refine q_enter (L := [some (.ref 107), some (.int (nI L)), some (.int (nI c)), some (.int (nI t)), some (.int (nI f)), none]) j_m40 (Nat.le_of_ble_eq_true rfl) rfl ?_
  refine q_aload_n d40_0 rfl ?_
  refine q_getR (x := 108) d40_1 (fs8_12 40 rfl) rfl (lt_w1 rfl) sh107 (rs107_0 R) (by decide) ?_
  refine q_getR (x := 113) d40_4 (fs8_148 40 rfl) rfl (lt_w1 rfl) sh108 (rs108_4 R) (by decide) ?_
  refine q_iload_n d40_7 rfl ?_
  have g2 := hR.g t (by omega)
  refine q_aaload (c := 7) (a := t) (x := ((R 113 t).getD 0)) d40_8 (lt_w1 rfl) sh113 (by decide) rfl (by omega) ((RR_d rfl).trans g2.1) (lt1000 (isG_lt g2.2)) ?_
  refine q_getI d40_9 (fs8_152 40 rfl) rfl (isG_lt g2.2) (isG_sh g2.2) ?_
  refine q_if_ne (tgt := 26) d40_12 rfl (fun h3t => ?_) (fun h3f => ?_)
  ·
    exact r_sub (L' := [some (.ref 107), some (.int (nI L)), some (.int (nI c)), some (.int (nI t)), some (.int (nI f)), none]) ⟨rfl, rfl, rfl, rfl, rfl, trivial⟩ (v1 h3t)
  ·
    exact r_sub (L' := [some (.ref 107), some (.int (nI L)), some (.int (nI c)), some (.int (nI t)), some (.int (nI f)), none]) ⟨rfl, rfl, rfl, rfl, rfl, trivial⟩ (v2 h3f)

set_option maxRecDepth 10000 in
set_option maxHeartbeats 4000000 in
theorem t40n {d : Nat} {I : Nat → Nat → Int32} {D : Nat → Nat → UInt64} {R : Nat → Nat → Option Nat} {Q : j_Po} {L : Nat} {c : Nat} {t : Nat} {f : Nat} {s : Nat → Vl} {h : Nat} {b : Nat} (hR : WFR R) (hc : c < 24) (ht : t < 6) (hf5 : f < 5) (hd : 1 ≤ d)
    (v1 : 4 < 10)
    (v2 : c < 24)
    (v3 : SV I D b h s)
    (v4 : b + h < 256)
    (v5 : VR (nI (128 + c, FP.dconst0).1) FP.dconst0 (128 + c, FP.dconst0))
    (v6 : ∀ J1 : Nat → Nat → Int32, ∀ E2 : Nat → Nat → UInt64, (SV J1 E2 b (h + 1) (fu s h (128 + c, FP.dconst0))) → (FS b I D J1 E2) → Q none w1 (J1, E2, RR R)) : j_W 40 d 0 0 0 0 15 [some (.ref 107), some (.int (nI L)), some (.int (nI c)), some (.int (nI t)), some (.int (nI f)), none] [] w1 (I, D, RR R) Q := by
  refine q_aload_n d40_15 rfl ?_
  refine q_dconst0 d40_16 ?_
  refine q_iconst (v := 4) (by decide) d40_17 ?_
  refine q_iload_n d40_18 rfl ?_
  refine q_invSN (av := [.int 4, .int (nI c)]) (rest := [.double FP.dconst0, .ref 107]) (d' := 0) (mc' := 0) (ms' := 0) d40_19 (nv8_67 40 rfl) rfl rfl (by omega) (Nat.le_of_ble_eq_true rfl) (Nat.le_of_ble_eq_true rfl) (Nat.le_refl _) (Nat.le_refl _) ?_
  refine c35n (a := 4) (b := c) v1 v2 ?_
  show j_W 40 d 0 0 0 0 22 [some (.ref 107), some (.int (nI L)), some (.int (nI c)), some (.int (nI t)), some (.int (nI f)), none] [.int (nI (4 * 32 + c)), .double FP.dconst0, .ref 107] w1 (I, D, RR R) Q
  refine q_invV (o := 107) (ci := 8) (av := [.double FP.dconst0, .int (nI (4 * 32 + c))]) (rest := []) (d' := 0) (mc' := 0) (ms' := 0) d40_22 (cv8_117 40 rfl) rfl (by decide) rfl rfl (by omega) (Nat.le_of_ble_eq_true rfl) (Nat.le_of_ble_eq_true rfl) (lt_w1 rfl) sh107 (Nat.le_refl _) (Nat.le_refl _) ?_
  refine c38 (b := b) (h := h) (s := s) (v := (128 + c, FP.dconst0)) v3 v4 v5 (fun J1 E2 h3 h4 => ?_)
  show j_W 40 d 0 0 0 0 25 [some (.ref 107), some (.int (nI L)), some (.int (nI c)), some (.int (nI t)), some (.int (nI f)), none] [] w1 (J1, E2, RR R) Q
  exact q_ret d40_25 rfl (Nat.le_refl _) (Nat.le_refl _) (v6 J1 E2 h3 h4)

set_option maxRecDepth 10000 in
set_option maxHeartbeats 4000000 in
theorem t40t {d : Nat} {I : Nat → Nat → Int32} {D : Nat → Nat → UInt64} {R : Nat → Nat → Option Nat} {Q : j_Po} {L : Nat} {c : Nat} {t : Nat} {f : Nat} {AP : (Nat → Nat → Int32) → (Nat → Nat → UInt64) → Prop} (hR : WFR R) (hc : c < 24) (ht : t < 6) (hf5 : f < 5) (hT : ∀ (Q : j_Po), (∀ J E, AP J E → Q none w1 (J, E, RR R)) → j_Call (d - 1) 41 [.ref 107, .int (nI L), .int (nI t)] w1 (I, D, RR R) 0 0 Q) (hd : 1 ≤ d)
    (v1 : ∀ J1 : Nat → Nat → Int32, ∀ E2 : Nat → Nat → UInt64, (AP J1 E2) → j_W 40 d 0 0 0 0 32 [some (.ref 107), some (.int (nI L)), some (.int (nI c)), some (.int (nI t)), some (.int (nI f)), none] [] w1 (J1, E2, RR R) Q) : j_W 40 d 0 0 0 0 26 [some (.ref 107), some (.int (nI L)), some (.int (nI c)), some (.int (nI t)), some (.int (nI f)), none] [] w1 (I, D, RR R) Q := by
  refine q_aload_n d40_26 rfl ?_
  refine q_iload_n d40_27 rfl ?_
  refine q_iload_n d40_28 rfl ?_
  refine q_invV (o := 107) (ci := 8) (av := [.int (nI L), .int (nI t)]) (rest := []) (d' := (d - 1)) (mc' := 0) (ms' := 0) d40_29 (cv8_158 40 rfl) rfl (by decide) rfl rfl (by omega) (Nat.le_of_ble_eq_true rfl) (Nat.le_of_ble_eq_true rfl) (lt_w1 rfl) sh107 (Nat.le_refl _) (Nat.le_refl _) ?_
  refine hT _  (fun J1 E2 h3 => ?_)
  show j_W 40 d 0 0 0 0 32 [some (.ref 107), some (.int (nI L)), some (.int (nI c)), some (.int (nI t)), some (.int (nI f)), none] [] w1 (J1, E2, RR R) Q
  exact r_sub (L' := [some (.ref 107), some (.int (nI L)), some (.int (nI c)), some (.int (nI t)), some (.int (nI f)), none]) ⟨rfl, rfl, rfl, rfl, rfl, trivial⟩ (v1 J1 E2 h3)

set_option maxRecDepth 10000 in
set_option maxHeartbeats 4000000 in
theorem t40x {d : Nat} {I : Nat → Nat → Int32} {D : Nat → Nat → UInt64} {R : Nat → Nat → Option Nat} {Q : j_Po} {L : Nat} {c : Nat} {t : Nat} {f : Nat} {n : Nat} {v : Nat → Vl} (hR : WFR R) (hc : c < 24) (ht : t < 6) (hf5 : f < 5) (hd : 1 ≤ d)
    (v1 : n ≤ 64)
    (v2 : f < 5)
    (v3 : ∀ k, k < n → (v k).1 = 0 → Sm (v k).2)
    (v4 : TLR I D (230 + 3 * t) n v)
    (v5 : j_W 40 d 0 0 0 0 45 [some (.ref 107), some (.int (nI L)), some (.int (nI c)), some (.int (nI t)), some (.int (nI f)), some (.int (nI (askE f (tal v n))))] [] w1 (I, D, RR R) Q) : j_W 40 d 0 0 0 0 32 [some (.ref 107), some (.int (nI L)), some (.int (nI c)), some (.int (nI t)), some (.int (nI f)), none] [] w1 (I, D, RR R) Q := by
  refine q_aload_n d40_32 rfl ?_
  refine q_getR (x := 211) d40_33 (fs8_27 40 rfl) rfl (lt_w1 rfl) sh107 (rs107_2 R) (by decide) ?_
  refine q_iload_n d40_36 rfl ?_
  refine q_aaload (c := 9) (a := t) (x := (230 + 3 * t)) d40_37 (lt_w1 rfl) sh211 (by decide) rfl (by omega) (rl211 R (by omega)) (lt1000 (isTl_lt (isTl_k _ (by omega)))) ?_
  refine q_iload d40_38 rfl ?_
  refine q_invV (o := (230 + 3 * t)) (ci := 7) (av := [.int (nI f)]) (rest := []) (d' := 0) (mc' := 0) (ms' := 0) d40_40 (cv8_161 40 rfl) rfl (by decide) rfl rfl (by omega) (Nat.le_of_ble_eq_true rfl) (Nat.le_of_ble_eq_true rfl) (isTl_lt (isTl_k _ (by omega))) (isTl_sh (isTl_k _ (by omega))) (Nat.le_refl _) (Nat.le_refl _) ?_
  refine c48 (n := n) (v := v) (f := f) (isTl_k t ht) v1 v2 v3 v4 ?_
  show j_W 40 d 0 0 0 0 43 [some (.ref 107), some (.int (nI L)), some (.int (nI c)), some (.int (nI t)), some (.int (nI f)), none] [.int (nI (askE f (tal v n)))] w1 (I, D, RR R) Q
  refine q_istore (L' := [some (.ref 107), some (.int (nI L)), some (.int (nI c)), some (.int (nI t)), some (.int (nI f)), some (.int (nI (askE f (tal v n))))]) d40_43 (Nat.le_of_ble_eq_true rfl) rfl ?_
  exact r_sub (L' := [some (.ref 107), some (.int (nI L)), some (.int (nI c)), some (.int (nI t)), some (.int (nI f)), some (.int (nI (askE f (tal v n))))]) ⟨rfl, rfl, rfl, rfl, rfl, rfl, trivial⟩ v5

set_option maxRecDepth 10000 in
set_option maxHeartbeats 4000000 in
theorem t40y {d : Nat} {I : Nat → Nat → Int32} {D : Nat → Nat → UInt64} {R : Nat → Nat → Option Nat} {Q : j_Po} {L : Nat} {c : Nat} {t : Nat} {f : Nat} {x9 : Nat} {s : Nat → Vl} {h : Nat} {b : Nat} (hR : WFR R) (hc : c < 24) (ht : t < 6) (hf5 : f < 5) (hx9 : x9 < 5) (hd : 1 ≤ d)
    (v1 : ((nI x9) = 0) → j_W 40 d 0 0 0 0 64 [some (.ref 107), some (.int (nI L)), some (.int (nI c)), some (.int (nI t)), some (.int (nI f)), none] [] w1 (I, D, RR R) Q)
    (v2 : (¬ (nI x9) = 0) → x9 < 10)
    (v3 : (¬ (nI x9) = 0) → c < 24)
    (v4 : (¬ (nI x9) = 0) → SV I D b h s)
    (v5 : (¬ (nI x9) = 0) → b + h < 256)
    (v6 : (¬ (nI x9) = 0) → VR (nI (x9 * 32 + c, FP.dconst0).1) FP.dconst0 (x9 * 32 + c, FP.dconst0))
    (v7 : (¬ (nI x9) = 0) → ∀ J2 : Nat → Nat → Int32, ∀ E3 : Nat → Nat → UInt64, (SV J2 E3 b (h + 1) (fu s h (x9 * 32 + c, FP.dconst0))) → (FS b I D J2 E3) → Q none w1 (J2, E3, RR R)) : j_W 40 d 0 0 0 0 45 [some (.ref 107), some (.int (nI L)), some (.int (nI c)), some (.int (nI t)), some (.int (nI f)), some (.int (nI x9))] [] w1 (I, D, RR R) Q := by
  refine q_iload d40_45 rfl ?_
  refine q_if_eq (tgt := 64) d40_47 rfl (fun h1t => ?_) (fun h1f => ?_)
  ·
    exact r_sub (L' := [some (.ref 107), some (.int (nI L)), some (.int (nI c)), some (.int (nI t)), some (.int (nI f)), none]) ⟨rfl, rfl, rfl, rfl, rfl, trivial⟩ (v1 h1t)
  ·
    refine q_aload_n d40_50 rfl ?_
    refine q_dconst0 d40_51 ?_
    refine q_iload d40_52 rfl ?_
    refine q_iload_n d40_54 rfl ?_
    refine q_invSN (av := [.int (nI x9), .int (nI c)]) (rest := [.double FP.dconst0, .ref 107]) (d' := 0) (mc' := 0) (ms' := 0) d40_55 (nv8_67 40 rfl) rfl rfl (by omega) (Nat.le_of_ble_eq_true rfl) (Nat.le_of_ble_eq_true rfl) (Nat.le_refl _) (Nat.le_refl _) ?_
    refine c35n (a := x9) (b := c) (v2 h1f) (v3 h1f) ?_
    show j_W 40 d 0 0 0 0 58 [some (.ref 107), some (.int (nI L)), some (.int (nI c)), some (.int (nI t)), some (.int (nI f)), some (.int (nI x9))] [.int (nI (x9 * 32 + c)), .double FP.dconst0, .ref 107] w1 (I, D, RR R) Q
    refine q_invV (o := 107) (ci := 8) (av := [.double FP.dconst0, .int (nI (x9 * 32 + c))]) (rest := []) (d' := 0) (mc' := 0) (ms' := 0) d40_58 (cv8_117 40 rfl) rfl (by decide) rfl rfl (by omega) (Nat.le_of_ble_eq_true rfl) (Nat.le_of_ble_eq_true rfl) (lt_w1 rfl) sh107 (Nat.le_refl _) (Nat.le_refl _) ?_
    refine c38 (b := b) (h := h) (s := s) (v := (x9 * 32 + c, FP.dconst0)) (v4 h1f) (v5 h1f) (v6 h1f) (fun J2 E3 h4 h5 => ?_)
    show j_W 40 d 0 0 0 0 61 [some (.ref 107), some (.int (nI L)), some (.int (nI c)), some (.int (nI t)), some (.int (nI f)), some (.int (nI x9))] [] w1 (J2, E3, RR R) Q
    refine q_goto (tgt := 80) d40_61 rfl ?_
    exact q_ret d40_80 rfl (Nat.le_refl _) (Nat.le_refl _) (v7 h1f J2 E3 h4 h5)

set_option maxRecDepth 10000 in
set_option maxHeartbeats 4000000 in
theorem t40z {d : Nat} {I : Nat → Nat → Int32} {D : Nat → Nat → UInt64} {R : Nat → Nat → Option Nat} {Q : j_Po} {L : Nat} {c : Nat} {t : Nat} {f : Nat} {s : Nat → Vl} {h : Nat} {b n : Nat} {v : Nat → Vl} (hR : WFR R) (hc : c < 24) (ht : t < 6) (hf5 : f < 5) (hd : 1 ≤ d)
    (v1 : n ≤ 64)
    (v2 : f < 5)
    (v3 : ∀ k, k < n → (v k).1 = 0 → Sm (v k).2)
    (v4 : TLR I D (230 + 3 * t) n v)
    (v5 : askE f (tal v n) = 0)
    (v6 : (Sm (askN f (tal v n))) → SV I D b h s)
    (v7 : (Sm (askN f (tal v n))) → b + h < 256)
    (v8 : (Sm (askN f (tal v n))) → VR (nI (0, askN f (tal v n)).1) (askN f (tal v n)) (0, askN f (tal v n)))
    (v9 : (Sm (askN f (tal v n))) → ∀ J2 : Nat → Nat → Int32, ∀ E3 : Nat → Nat → UInt64, (SV J2 E3 b (h + 1) (fu s h (0, askN f (tal v n)))) → (FS b I D J2 E3) → Q none w1 (J2, E3, RR R)) : j_W 40 d 0 0 0 0 64 [some (.ref 107), some (.int (nI L)), some (.int (nI c)), some (.int (nI t)), some (.int (nI f)), none] [] w1 (I, D, RR R) Q := by
  refine q_aload_n d40_64 rfl ?_
  refine q_aload_n d40_65 rfl ?_
  refine q_getR (x := 211) d40_66 (fs8_27 40 rfl) rfl (lt_w1 rfl) sh107 (rs107_2 R) (by decide) ?_
  refine q_iload_n d40_69 rfl ?_
  refine q_aaload (c := 9) (a := t) (x := (230 + 3 * t)) d40_70 (lt_w1 rfl) sh211 (by decide) rfl (by omega) (rl211 R (by omega)) (lt1000 (isTl_lt (isTl_k _ (by omega)))) ?_
  refine q_iload d40_71 rfl ?_
  refine q_invV (o := (230 + 3 * t)) (ci := 7) (av := [.int (nI f)]) (rest := [.ref 107]) (d' := 0) (mc' := 0) (ms' := 0) d40_73 (cv8_165 40 rfl) rfl (by decide) rfl rfl (by omega) (Nat.le_of_ble_eq_true rfl) (Nat.le_of_ble_eq_true rfl) (isTl_lt (isTl_k _ (by omega))) (isTl_sh (isTl_k _ (by omega))) (Nat.le_refl _) (Nat.le_refl _) ?_
  refine c49 (n := n) (v := v) (f := f) (isTl_k t ht) v1 v2 v3 v4 v5 (fun h1 => ?_)
  show j_W 40 d 0 0 0 0 76 [some (.ref 107), some (.int (nI L)), some (.int (nI c)), some (.int (nI t)), some (.int (nI f)), none] [.double (askN f (tal v n)), .ref 107] w1 (I, D, RR R) Q
  refine q_iconst (v := 0) (by decide) d40_76 ?_
  refine q_invV (o := 107) (ci := 8) (av := [.double (askN f (tal v n)), .int 0]) (rest := []) (d' := 0) (mc' := 0) (ms' := 0) d40_77 (cv8_117 40 rfl) rfl (by decide) rfl rfl (by omega) (Nat.le_of_ble_eq_true rfl) (Nat.le_of_ble_eq_true rfl) (lt_w1 rfl) sh107 (Nat.le_refl _) (Nat.le_refl _) ?_
  refine c38 (b := b) (h := h) (s := s) (v := (0, askN f (tal v n))) (v6 h1) (v7 h1) (v8 h1) (fun J2 E3 h4 h5 => ?_)
  show j_W 40 d 0 0 0 0 80 [some (.ref 107), some (.int (nI L)), some (.int (nI c)), some (.int (nI t)), some (.int (nI f)), none] [] w1 (J2, E3, RR R) Q
  exact q_ret d40_80 rfl (Nat.le_refl _) (Nat.le_refl _) (v9 h1 J2 E3 h4 h5)

