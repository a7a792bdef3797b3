/-! keep and kept -/
theorem tsw_lo {x : Int32} (lo n : Nat) {hi : Int} (h9 : hi = ((lo + n : Nat) : Int) - 1 ∧ lo + n < 2 ^ 31) (h : ∀ c, lo ≤ c → c < lo + n → ¬ x = nI c) : x.toInt < lo ∨ hi < x.toInt := by
  obtain ⟨rfl, h3⟩ := h9
  rcases Int.lt_or_le x.toInt lo with h1 | h1
  · exact Or.inl h1
  · rcases Int.lt_or_le (((lo + n : Nat) : Int) - 1) x.toInt with h2 | h2
    · exact Or.inr h2
    · obtain ⟨m, hm⟩ : ∃ m : Nat, x.toInt = m := ⟨x.toInt.toNat, by omega⟩
      refine absurd (Int32.toInt_inj.mp ?_) (h m (by omega) (by omega))
      rw [hm, nI_toInt (by omega)]
def pl (x : UInt64) : UInt64 := if deq x FP.dconst0 = true then FP.dconst0 else x
def kp (k : Int32) (x : UInt64) : UInt64 :=
  if k = 1 then pl (FP.l2d (FP.d2l x)) else if k = 2 then pl (FP.f2d (FP.d2f x)) else if k = 3 then pl (FP.i2d (FP.d2l x).toInt32.toInt8.toInt32) else if k = 4 then pl (FP.f2d (FP.frem (FP.d2f x) 1135869952)) else if k = 5 then pl (if dlt x 13875379345695965184 = true then 13875379345695965184 else if dgt x 4652007308841189376 = true then 4652007308841189376 else x) else pl x
theorem pl_sm {x : UInt64} (h : Sm x) : Sm (pl x) ∧ pl x ≠ 0x8000000000000000 := by
  unfold pl
  split
  · exact ⟨sm_0, by decide⟩
  · refine ⟨h, fun e => ?_⟩
    subst e
    exact absurd (show deq 0x8000000000000000 FP.dconst0 = true by decide +kernel) (by assumption)
theorem kp_sm {k : Int32} {x : UInt64} (h : Sm x) : Sm (kp k x) ∧ kp k x ≠ 0x8000000000000000 := by
  unfold kp
  split
  · exact pl_sm (sm_l h)
  split
  · exact pl_sm (sm_f h)
  split
  · exact pl_sm (sm_i _)
  split
  · have := frem_drem (d2f_sm h).1 fi_f360 wm_360
    rw [this.2, d360]
    exact pl_sm (sm_drem (sm_f h) fi_360 vm_360)
  split
  · split
    · exact pl_sm sm_m1000
    split
    · exact pl_sm sm_1000
    · exact pl_sm h
  · exact pl_sm h
theorem kp_4 {x : UInt64} (h : Sm x) : kp 4 x = pl (FP.drem (FP.f2d (FP.d2f x)) 4645040803167600640) := by
  have := frem_drem (d2f_sm h).1 fi_f360 wm_360
  rw [d360] at this
  rw [← this.2]; rfl
set_option maxRecDepth 10000 in
set_option maxHeartbeats 4000000 in
theorem s15 {d : Nat} {I : Nat → Nat → Int32} {D : Nat → Nat → UInt64} {R : Nat → Nat → Option Nat} {Q : j_Po} {k : Int32} {x : UInt64}   (hd : 1 ≤ d)
    (v1 : (k = 1) → (deq (FP.l2d (FP.d2l x)) FP.dconst0 = false) → Q (some (.double (FP.l2d (FP.d2l x)))) w1 (I, D, RR R))
    (v2 : (k = 1) → (deq (FP.l2d (FP.d2l x)) FP.dconst0 = true) → Q (some (.double FP.dconst0)) w1 (I, D, RR R))
    (v3 : (¬ k = 1) → (k = 2) → vf_n32 (FP.d2f x))
    (v4 : (¬ k = 1) → (k = 2) → vf_n64 (FP.f2d (FP.d2f x)))
    (v5 : (¬ k = 1) → (k = 2) → (deq (FP.f2d (FP.d2f x)) FP.dconst0 = false) → Q (some (.double (FP.f2d (FP.d2f x)))) w1 (I, D, RR R))
    (v6 : (¬ k = 1) → (k = 2) → (deq (FP.f2d (FP.d2f x)) FP.dconst0 = true) → Q (some (.double FP.dconst0)) w1 (I, D, RR R))
    (v7 : (¬ k = 1) → (¬ k = 2) → (k = 3) → (deq (FP.i2d (((((FP.d2l x) : Int64).toInt32) : Int32).toInt8.toInt32)) FP.dconst0 = false) → Q (some (.double (FP.i2d (((((FP.d2l x) : Int64).toInt32) : Int32).toInt8.toInt32)))) w1 (I, D, RR R))
    (v8 : (¬ k = 1) → (¬ k = 2) → (k = 3) → (deq (FP.i2d (((((FP.d2l x) : Int64).toInt32) : Int32).toInt8.toInt32)) FP.dconst0 = true) → Q (some (.double FP.dconst0)) w1 (I, D, RR R))
    (v9 : (¬ k = 1) → (¬ k = 2) → (¬ k = 3) → (k = 4) → vf_n32 (FP.d2f x))
    (v10 : (¬ k = 1) → (¬ k = 2) → (¬ k = 3) → (k = 4) → vf_n64 (FP.f2d (FP.d2f x)))
    (v11 : (¬ k = 1) → (¬ k = 2) → (¬ k = 3) → (k = 4) → Fi (FP.f2d (FP.d2f x)))
    (v12 : (¬ k = 1) → (¬ k = 2) → (¬ k = 3) → (k = 4) → Fi 4645040803167600640)
    (v13 : (¬ k = 1) → (¬ k = 2) → (¬ k = 3) → (k = 4) → vm 4645040803167600640 ≠ 0)
    (v14 : (¬ k = 1) → (¬ k = 2) → (¬ k = 3) → (k = 4) → vm (FP.f2d (FP.d2f x)) < 2 ^ 1199)
    (v15 : (¬ k = 1) → (¬ k = 2) → (¬ k = 3) → (k = 4) → (deq (FP.drem (FP.f2d (FP.d2f x)) 4645040803167600640) FP.dconst0 = false) → Q (some (.double (FP.drem (FP.f2d (FP.d2f x)) 4645040803167600640))) w1 (I, D, RR R))
    (v16 : (¬ k = 1) → (¬ k = 2) → (¬ k = 3) → (k = 4) → (deq (FP.drem (FP.f2d (FP.d2f x)) 4645040803167600640) FP.dconst0 = true) → Q (some (.double FP.dconst0)) w1 (I, D, RR R))
    (v17 : (¬ k = 1) → (¬ k = 2) → (¬ k = 3) → (¬ k = 4) → (k = 5) → (dlt x 13875379345695965184 = false) → (dgt x 4652007308841189376 = false) → (deq x FP.dconst0 = false) → Q (some (.double x)) w1 (I, D, RR R))
    (v18 : (¬ k = 1) → (¬ k = 2) → (¬ k = 3) → (¬ k = 4) → (k = 5) → (dlt x 13875379345695965184 = false) → (dgt x 4652007308841189376 = false) → (deq x FP.dconst0 = true) → Q (some (.double FP.dconst0)) w1 (I, D, RR R))
    (v19 : (¬ k = 1) → (¬ k = 2) → (¬ k = 3) → (¬ k = 4) → (k = 5) → (dlt x 13875379345695965184 = false) → (dgt x 4652007308841189376 = true) → (deq 4652007308841189376 FP.dconst0 = false) → Q (some (.double 4652007308841189376)) w1 (I, D, RR R))
    (v20 : (¬ k = 1) → (¬ k = 2) → (¬ k = 3) → (¬ k = 4) → (k = 5) → (dlt x 13875379345695965184 = false) → (dgt x 4652007308841189376 = true) → (deq 4652007308841189376 FP.dconst0 = true) → Q (some (.double FP.dconst0)) w1 (I, D, RR R))
    (v21 : (¬ k = 1) → (¬ k = 2) → (¬ k = 3) → (¬ k = 4) → (k = 5) → (dlt x 13875379345695965184 = true) → (deq 13875379345695965184 FP.dconst0 = false) → Q (some (.double 13875379345695965184)) w1 (I, D, RR R))
    (v22 : (¬ k = 1) → (¬ k = 2) → (¬ k = 3) → (¬ k = 4) → (k = 5) → (dlt x 13875379345695965184 = true) → (deq 13875379345695965184 FP.dconst0 = true) → Q (some (.double FP.dconst0)) w1 (I, D, RR R))
    (v23 : (¬ k = 1) → (¬ k = 2) → (¬ k = 3) → (¬ k = 4) → (¬ k = 5) → (deq x FP.dconst0 = false) → Q (some (.double x)) w1 (I, D, RR R))
    (v24 : (¬ k = 1) → (¬ k = 2) → (¬ k = 3) → (¬ k = 4) → (¬ k = 5) → (deq x FP.dconst0 = true) → Q (some (.double FP.dconst0)) w1 (I, D, RR R)) : j_Call d 15 [.int k, .double x] w1 (I, D, RR R) 0 0 Q := by
  refine q_enter (L := [some (.int k), some (.double x), none, none, none]) j_m15 (Nat.le_of_ble_eq_true rfl) rfl ?_
  refine q_dload_n d15_0 rfl ?_
  refine q_dstore_n (L' := [some (.int k), some (.double x), none, some (.double x), none]) d15_1 (Nat.le_of_ble_eq_true rfl) rfl ?_
  refine q_iload_n d15_2 rfl ?_
  by_cases h1 : k = 1
  ·
    refine r_int (y := 1) h1 ?_
    refine q_tableIn (tgt := 36) d15_3 (by decide) (by decide) rfl rfl ?_
    refine q_dload_n d15_36 rfl ?_
    refine q_d2l d15_37 ?_
    refine q_l2d d15_38 ?_
    refine q_dstore_n (L' := [some (.int k), some (.double x), none, some (.double (FP.l2d (FP.d2l x))), none]) d15_39 (Nat.le_of_ble_eq_true rfl) rfl ?_
    refine q_goto (tgt := 105) d15_40 rfl ?_
    refine q_dload_n d15_105 rfl ?_
    refine q_dconst0 d15_106 ?_
    refine q_dcmp d15_107 ?_
    refine q_if_ne (tgt := 115) d15_108 rfl (fun h2t => ?_) (fun h2f => ?_)
    ·
      have h2tc : deq (FP.l2d (FP.d2l x)) FP.dconst0 = false := dc_l_ne_t h2t
      refine q_dload_n d15_115 rfl ?_
      exact q_dret d15_116 rfl (Nat.le_refl _) (Nat.le_refl _) (v1 h1 h2tc)
    ·
      have h2fc : deq (FP.l2d (FP.d2l x)) FP.dconst0 = true := dc_l_ne_f h2f
      refine q_dconst0 d15_111 ?_
      refine q_goto (tgt := 116) d15_112 rfl ?_
      exact q_dret d15_116 rfl (Nat.le_refl _) (Nat.le_refl _) (v2 h1 h2fc)
  by_cases h3 : k = 2
  ·
    refine r_int (y := 2) h3 ?_
    refine q_tableIn (tgt := 43) d15_3 (by decide) (by decide) rfl rfl ?_
    refine q_dload_n d15_43 rfl ?_
    refine q_d2f (v3 h1 h3) d15_44 ?_
    refine q_f2d (v4 h1 h3) d15_45 ?_
    refine q_dstore_n (L' := [some (.int k), some (.double x), none, some (.double (FP.f2d (FP.d2f x))), none]) d15_46 (Nat.le_of_ble_eq_true rfl) rfl ?_
    refine q_goto (tgt := 105) d15_47 rfl ?_
    refine q_dload_n d15_105 rfl ?_
    refine q_dconst0 d15_106 ?_
    refine q_dcmp d15_107 ?_
    refine q_if_ne (tgt := 115) d15_108 rfl (fun h4t => ?_) (fun h4f => ?_)
    ·
      have h4tc : deq (FP.f2d (FP.d2f x)) FP.dconst0 = false := dc_l_ne_t h4t
      refine q_dload_n d15_115 rfl ?_
      exact q_dret d15_116 rfl (Nat.le_refl _) (Nat.le_refl _) (v5 h1 h3 h4tc)
    ·
      have h4fc : deq (FP.f2d (FP.d2f x)) FP.dconst0 = true := dc_l_ne_f h4f
      refine q_dconst0 d15_111 ?_
      refine q_goto (tgt := 116) d15_112 rfl ?_
      exact q_dret d15_116 rfl (Nat.le_refl _) (Nat.le_refl _) (v6 h1 h3 h4fc)
  by_cases h5 : k = 3
  ·
    refine r_int (y := 3) h5 ?_
    refine q_tableIn (tgt := 50) d15_3 (by decide) (by decide) rfl rfl ?_
    refine q_dload_n d15_50 rfl ?_
    refine q_d2l d15_51 ?_
    refine q_l2i d15_52 ?_
    refine q_i2b d15_53 ?_
    refine q_i2d d15_54 ?_
    refine q_dstore_n (L' := [some (.int k), some (.double x), none, some (.double (FP.i2d (((((FP.d2l x) : Int64).toInt32) : Int32).toInt8.toInt32))), none]) d15_55 (Nat.le_of_ble_eq_true rfl) rfl ?_
    refine q_goto (tgt := 105) d15_56 rfl ?_
    refine q_dload_n d15_105 rfl ?_
    refine q_dconst0 d15_106 ?_
    refine q_dcmp d15_107 ?_
    refine q_if_ne (tgt := 115) d15_108 rfl (fun h6t => ?_) (fun h6f => ?_)
    ·
      have h6tc : deq (FP.i2d (((((FP.d2l x) : Int64).toInt32) : Int32).toInt8.toInt32)) FP.dconst0 = false := dc_l_ne_t h6t
      refine q_dload_n d15_115 rfl ?_
      exact q_dret d15_116 rfl (Nat.le_refl _) (Nat.le_refl _) (v7 h1 h3 h5 h6tc)
    ·
      have h6fc : deq (FP.i2d (((((FP.d2l x) : Int64).toInt32) : Int32).toInt8.toInt32)) FP.dconst0 = true := dc_l_ne_f h6f
      refine q_dconst0 d15_111 ?_
      refine q_goto (tgt := 116) d15_112 rfl ?_
      exact q_dret d15_116 rfl (Nat.le_refl _) (Nat.le_refl _) (v8 h1 h3 h5 h6fc)
  by_cases h7 : k = 4
  ·
    refine r_int (y := 4) h7 ?_
    refine q_tableIn (tgt := 59) d15_3 (by decide) (by decide) rfl rfl ?_
    refine q_dload_n d15_59 rfl ?_
    refine q_d2f (v9 h1 h3 h5 h7) d15_60 ?_
    refine q_f2d (v10 h1 h3 h5 h7) d15_61 ?_
    refine q_ldcD (v := 4645040803167600640) d15_62 (kc9_457 15 rfl) ?_
    refine q_invS (av := [.double (FP.f2d (FP.d2f x)), .double 4645040803167600640]) (rest := []) (d' := 0) (mc' := 0) (ms' := 0) d15_65 (cv9_459 15 rfl) rfl rfl (by omega) (Nat.le_of_ble_eq_true rfl) (Nat.le_of_ble_eq_true rfl) (Nat.le_refl _) (Nat.le_refl _) ?_
    refine c16 (v11 h1 h3 h5 h7) (v12 h1 h3 h5 h7) (v13 h1 h3 h5 h7) (v14 h1 h3 h5 h7) ?_
    show j_W 15 d 0 0 0 0 68 [some (.int k), some (.double x), none, some (.double x), none] [.double (FP.drem (FP.f2d (FP.d2f x)) 4645040803167600640)] w1 (I, D, RR R) Q
    refine q_dstore_n (L' := [some (.int k), some (.double x), none, some (.double (FP.drem (FP.f2d (FP.d2f x)) 4645040803167600640)), none]) d15_68 (Nat.le_of_ble_eq_true rfl) rfl ?_
    refine q_goto (tgt := 105) d15_69 rfl ?_
    refine q_dload_n d15_105 rfl ?_
    refine q_dconst0 d15_106 ?_
    refine q_dcmp d15_107 ?_
    refine q_if_ne (tgt := 115) d15_108 rfl (fun h8t => ?_) (fun h8f => ?_)
    ·
      have h8tc : deq (FP.drem (FP.f2d (FP.d2f x)) 4645040803167600640) FP.dconst0 = false := dc_l_ne_t h8t
      refine q_dload_n d15_115 rfl ?_
      exact q_dret d15_116 rfl (Nat.le_refl _) (Nat.le_refl _) (v15 h1 h3 h5 h7 h8tc)
    ·
      have h8fc : deq (FP.drem (FP.f2d (FP.d2f x)) 4645040803167600640) FP.dconst0 = true := dc_l_ne_f h8f
      refine q_dconst0 d15_111 ?_
      refine q_goto (tgt := 116) d15_112 rfl ?_
      exact q_dret d15_116 rfl (Nat.le_refl _) (Nat.le_refl _) (v16 h1 h3 h5 h7 h8fc)
  by_cases h9 : k = 5
  ·
    refine r_int (y := 5) h9 ?_
    refine q_tableIn (tgt := 72) d15_3 (by decide) (by decide) rfl rfl ?_
    refine q_dload_n d15_72 rfl ?_
    refine q_ldcD (v := 13875379345695965184) d15_73 (kc9_463 15 rfl) ?_
    refine q_dcmp d15_76 ?_
    refine q_if_ge (tgt := 86) d15_77 rfl (fun h10t => ?_) (fun h10f => ?_)
    ·
      have h10tc : dlt x 13875379345695965184 = false := dc_g_ge_t h10t
      refine q_dload_n d15_86 rfl ?_
      refine q_ldcD (v := 4652007308841189376) d15_87 (kc9_465 15 rfl) ?_
      refine q_dcmp d15_90 ?_
      refine q_if_le (tgt := 100) d15_91 rfl (fun h11t => ?_) (fun h11f => ?_)
      ·
        have h11tc : dgt x 4652007308841189376 = false := dc_l_le_t h11t
        refine q_dload_n d15_100 rfl ?_
        refine q_dstore_n (L' := [some (.int k), some (.double x), none, some (.double x), none]) d15_101 (Nat.le_of_ble_eq_true rfl) rfl ?_
        refine q_goto (tgt := 105) d15_102 rfl ?_
        refine q_dload_n d15_105 rfl ?_
        refine q_dconst0 d15_106 ?_
        refine q_dcmp d15_107 ?_
        refine q_if_ne (tgt := 115) d15_108 rfl (fun h12t => ?_) (fun h12f => ?_)
        ·
          have h12tc : deq x FP.dconst0 = false := dc_l_ne_t h12t
          refine q_dload_n d15_115 rfl ?_
          exact q_dret d15_116 rfl (Nat.le_refl _) (Nat.le_refl _) (v17 h1 h3 h5 h7 h9 h10tc h11tc h12tc)
        ·
          have h12fc : deq x FP.dconst0 = true := dc_l_ne_f h12f
          refine q_dconst0 d15_111 ?_
          refine q_goto (tgt := 116) d15_112 rfl ?_
          exact q_dret d15_116 rfl (Nat.le_refl _) (Nat.le_refl _) (v18 h1 h3 h5 h7 h9 h10tc h11tc h12fc)
      ·
        have h11fc : dgt x 4652007308841189376 = true := dc_l_le_f h11f
        refine q_ldcD (v := 4652007308841189376) d15_94 (kc9_465 15 rfl) ?_
        refine q_goto (tgt := 101) d15_97 rfl ?_
        refine q_dstore_n (L' := [some (.int k), some (.double x), none, some (.double 4652007308841189376), none]) d15_101 (Nat.le_of_ble_eq_true rfl) rfl ?_
        refine q_goto (tgt := 105) d15_102 rfl ?_
        refine q_dload_n d15_105 rfl ?_
        refine q_dconst0 d15_106 ?_
        refine q_dcmp d15_107 ?_
        refine q_if_ne (tgt := 115) d15_108 rfl (fun h13t => ?_) (fun h13f => ?_)
        ·
          have h13tc : deq 4652007308841189376 FP.dconst0 = false := dc_l_ne_t h13t
          refine q_dload_n d15_115 rfl ?_
          exact q_dret d15_116 rfl (Nat.le_refl _) (Nat.le_refl _) (v19 h1 h3 h5 h7 h9 h10tc h11fc h13tc)
        ·
          have h13fc : deq 4652007308841189376 FP.dconst0 = true := dc_l_ne_f h13f
          refine q_dconst0 d15_111 ?_
          refine q_goto (tgt := 116) d15_112 rfl ?_
          exact q_dret d15_116 rfl (Nat.le_refl _) (Nat.le_refl _) (v20 h1 h3 h5 h7 h9 h10tc h11fc h13fc)
    ·
      have h10fc : dlt x 13875379345695965184 = true := dc_g_ge_f h10f
      refine q_ldcD (v := 13875379345695965184) d15_80 (kc9_463 15 rfl) ?_
      refine q_goto (tgt := 101) d15_83 rfl ?_
      refine q_dstore_n (L' := [some (.int k), some (.double x), none, some (.double 13875379345695965184), none]) d15_101 (Nat.le_of_ble_eq_true rfl) rfl ?_
      refine q_goto (tgt := 105) d15_102 rfl ?_
      refine q_dload_n d15_105 rfl ?_
      refine q_dconst0 d15_106 ?_
      refine q_dcmp d15_107 ?_
      refine q_if_ne (tgt := 115) d15_108 rfl (fun h14t => ?_) (fun h14f => ?_)
      ·
        have h14tc : deq 13875379345695965184 FP.dconst0 = false := dc_l_ne_t h14t
        refine q_dload_n d15_115 rfl ?_
        exact q_dret d15_116 rfl (Nat.le_refl _) (Nat.le_refl _) (v21 h1 h3 h5 h7 h9 h10fc h14tc)
      ·
        have h14fc : deq 13875379345695965184 FP.dconst0 = true := dc_l_ne_f h14f
        refine q_dconst0 d15_111 ?_
        refine q_goto (tgt := 116) d15_112 rfl ?_
        exact q_dret d15_116 rfl (Nat.le_refl _) (Nat.le_refl _) (v22 h1 h3 h5 h7 h9 h10fc h14fc)
  have g15 : (k).toInt < 1 ∨ 5 < (k).toInt := tsw_lo 1 5 (by decide) (fun c hb hc => by
    have : c = 1 ∨ c = 2 ∨ c = 3 ∨ c = 4 ∨ c = 5 := by omega
    rcases this with rfl | rfl | rfl | rfl | rfl
    · exact h1
    · exact h3
    · exact h5
    · exact h7
    · exact h9)
  refine q_tableOut (tgt := 105) d15_3 g15 rfl ?_
  refine q_dload_n d15_105 rfl ?_
  refine q_dconst0 d15_106 ?_
  refine q_dcmp d15_107 ?_
  refine q_if_ne (tgt := 115) d15_108 rfl (fun h16t => ?_) (fun h16f => ?_)
  ·
    have h16tc : deq x FP.dconst0 = false := dc_l_ne_t h16t
    refine q_dload_n d15_115 rfl ?_
    exact q_dret d15_116 rfl (Nat.le_refl _) (Nat.le_refl _) (v23 h1 h3 h5 h7 h9 h16tc)
  ·
    have h16fc : deq x FP.dconst0 = true := dc_l_ne_f h16f
    refine q_dconst0 d15_111 ?_
    refine q_goto (tgt := 116) d15_112 rfl ?_
    exact q_dret d15_116 rfl (Nat.le_refl _) (Nat.le_refl _) (v24 h1 h3 h5 h7 h9 h16fc)

set_option maxRecDepth 10000 in
set_option maxHeartbeats 4000000 in
theorem s172k {d : Nat} {I : Nat → Nat → Int32} {D : Nat → Nat → UInt64} {R : Nat → Nat → Option Nat} {Q : j_Po} {x : UInt64}   (hd : 0 ≤ d)
    (v1 : (deq x FP.dconst0 = false) → Q (some (.double x)) w1 (I, D, RR R))
    (v2 : (deq x FP.dconst0 = true) → Q (some (.double FP.dconst0)) w1 (I, D, RR R)) : j_Call d 172 [.double x] w1 (I, D, RR R) 0 0 Q := by
  refine q_enter (L := [some (.double x), none]) j_m172 (Nat.le_of_ble_eq_true rfl) rfl ?_
  refine q_dload_n d172_0 rfl ?_
  refine q_dconst0 d172_1 ?_
  refine q_dcmp d172_2 ?_
  refine q_if_ne (tgt := 10) d172_3 rfl (fun h1t => ?_) (fun h1f => ?_)
  ·
    have h1tc : deq x FP.dconst0 = false := dc_l_ne_t h1t
    refine q_dload_n d172_10 rfl ?_
    exact q_dret d172_11 rfl (Nat.le_refl _) (Nat.le_refl _) (v1 h1tc)
  ·
    have h1fc : deq x FP.dconst0 = true := dc_l_ne_f h1f
    refine q_dconst0 d172_6 ?_
    refine q_goto (tgt := 11) d172_7 rfl ?_
    exact q_dret d172_11 rfl (Nat.le_refl _) (Nat.le_refl _) (v2 h1fc)

set_option maxRecDepth 10000 in
set_option maxHeartbeats 4000000 in
theorem s171 {d : Nat} {I : Nat → Nat → Int32} {D : Nat → Nat → UInt64} {R : Nat → Nat → Option Nat} {Q : j_Po} {k : Int32} {x : UInt64}   (hd : 1 ≤ d)
    (v1 : (¬ k = 1) → (¬ k = 2) → (¬ k = 3) → (¬ k = 4) → (¬ k = 5) → (deq x FP.dconst0 = false) → Q (some (.double x)) w1 (I, D, RR R))
    (v2 : (¬ k = 1) → (¬ k = 2) → (¬ k = 3) → (¬ k = 4) → (¬ k = 5) → (deq x FP.dconst0 = true) → Q (some (.double FP.dconst0)) w1 (I, D, RR R))
    (v3 : (¬ k = 1) → (¬ k = 2) → (¬ k = 3) → (¬ k = 4) → (k = 5) → (dlt x 13875379345695965184 = false) → (dgt x 4652007308841189376 = false) → (deq x FP.dconst0 = false) → Q (some (.double x)) w1 (I, D, RR R))
    (v4 : (¬ k = 1) → (¬ k = 2) → (¬ k = 3) → (¬ k = 4) → (k = 5) → (dlt x 13875379345695965184 = false) → (dgt x 4652007308841189376 = false) → (deq x FP.dconst0 = true) → Q (some (.double FP.dconst0)) w1 (I, D, RR R))
    (v5 : (¬ k = 1) → (¬ k = 2) → (¬ k = 3) → (¬ k = 4) → (k = 5) → (dlt x 13875379345695965184 = false) → (dgt x 4652007308841189376 = true) → (deq 4652007308841189376 FP.dconst0 = false) → Q (some (.double 4652007308841189376)) w1 (I, D, RR R))
    (v6 : (¬ k = 1) → (¬ k = 2) → (¬ k = 3) → (¬ k = 4) → (k = 5) → (dlt x 13875379345695965184 = false) → (dgt x 4652007308841189376 = true) → (deq 4652007308841189376 FP.dconst0 = true) → Q (some (.double FP.dconst0)) w1 (I, D, RR R))
    (v7 : (¬ k = 1) → (¬ k = 2) → (¬ k = 3) → (¬ k = 4) → (k = 5) → (dlt x 13875379345695965184 = true) → (deq 13875379345695965184 FP.dconst0 = false) → Q (some (.double 13875379345695965184)) w1 (I, D, RR R))
    (v8 : (¬ k = 1) → (¬ k = 2) → (¬ k = 3) → (¬ k = 4) → (k = 5) → (dlt x 13875379345695965184 = true) → (deq 13875379345695965184 FP.dconst0 = true) → Q (some (.double FP.dconst0)) w1 (I, D, RR R))
    (v9 : (¬ k = 1) → (¬ k = 2) → (¬ k = 3) → (k = 4) → vf_n32 (FP.d2f x))
    (v10 : (¬ k = 1) → (¬ k = 2) → (¬ k = 3) → (k = 4) → vf_n32 (FP.frem (FP.d2f x) 1135869952))
    (v11 : (¬ k = 1) → (¬ k = 2) → (¬ k = 3) → (k = 4) → vf_n64 (FP.f2d (FP.frem (FP.d2f x) 1135869952)))
    (v12 : (¬ k = 1) → (¬ k = 2) → (¬ k = 3) → (k = 4) → (deq (FP.f2d (FP.frem (FP.d2f x) 1135869952)) FP.dconst0 = false) → Q (some (.double (FP.f2d (FP.frem (FP.d2f x) 1135869952)))) w1 (I, D, RR R))
    (v13 : (¬ k = 1) → (¬ k = 2) → (¬ k = 3) → (k = 4) → (deq (FP.f2d (FP.frem (FP.d2f x) 1135869952)) FP.dconst0 = true) → Q (some (.double FP.dconst0)) w1 (I, D, RR R))
    (v14 : (¬ k = 1) → (¬ k = 2) → (k = 3) → (deq (FP.i2d (((((FP.d2l x) : Int64).toInt32) : Int32).toInt8.toInt32)) FP.dconst0 = false) → Q (some (.double (FP.i2d (((((FP.d2l x) : Int64).toInt32) : Int32).toInt8.toInt32)))) w1 (I, D, RR R))
    (v15 : (¬ k = 1) → (¬ k = 2) → (k = 3) → (deq (FP.i2d (((((FP.d2l x) : Int64).toInt32) : Int32).toInt8.toInt32)) FP.dconst0 = true) → Q (some (.double FP.dconst0)) w1 (I, D, RR R))
    (v16 : (¬ k = 1) → (k = 2) → vf_n32 (FP.d2f x))
    (v17 : (¬ k = 1) → (k = 2) → vf_n64 (FP.f2d (FP.d2f x)))
    (v18 : (¬ k = 1) → (k = 2) → (deq (FP.f2d (FP.d2f x)) FP.dconst0 = false) → Q (some (.double (FP.f2d (FP.d2f x)))) w1 (I, D, RR R))
    (v19 : (¬ k = 1) → (k = 2) → (deq (FP.f2d (FP.d2f x)) FP.dconst0 = true) → Q (some (.double FP.dconst0)) w1 (I, D, RR R))
    (v20 : (k = 1) → (deq (FP.l2d (FP.d2l x)) FP.dconst0 = false) → Q (some (.double (FP.l2d (FP.d2l x)))) w1 (I, D, RR R))
    (v21 : (k = 1) → (deq (FP.l2d (FP.d2l x)) FP.dconst0 = true) → Q (some (.double FP.dconst0)) w1 (I, D, RR R)) : j_Call d 171 [.int k, .double x] w1 (I, D, RR R) 0 0 Q := by
  refine q_enter (L := [some (.int k), some (.double x), none]) j_m171 (Nat.le_of_ble_eq_true rfl) rfl ?_
  refine q_iload_n d171_0 rfl ?_
  refine q_iconst (v := 1) (by decide) d171_1 ?_
  refine q_icmp_ne (tgt := 12) d171_2 rfl (fun h1t => ?_) (fun h1f => ?_)
  ·
    refine q_iload_n d171_12 rfl ?_
    refine q_iconst (v := 2) (by decide) d171_13 ?_
    refine q_icmp_ne (tgt := 24) d171_14 rfl (fun h2t => ?_) (fun h2f => ?_)
    ·
      refine q_iload_n d171_24 rfl ?_
      refine q_iconst (v := 3) (by decide) d171_25 ?_
      refine q_icmp_ne (tgt := 38) d171_26 rfl (fun h3t => ?_) (fun h3f => ?_)
      ·
        refine q_iload_n d171_38 rfl ?_
        refine q_iconst (v := 4) (by decide) d171_39 ?_
        refine q_icmp_ne (tgt := 53) d171_40 rfl (fun h4t => ?_) (fun h4f => ?_)
        ·
          refine q_iload_n d171_53 rfl ?_
          refine q_iconst (v := 5) (by decide) d171_54 ?_
          refine q_icmp_ne (tgt := 91) d171_55 rfl (fun h5t => ?_) (fun h5f => ?_)
          ·
            refine q_dload_n d171_91 rfl ?_
            refine q_invS (av := [.double x]) (rest := []) (d' := 0) (mc' := 0) (ms' := 0) d171_92 (cv10_187 171 rfl) rfl rfl (by omega) (Nat.le_of_ble_eq_true rfl) (Nat.le_of_ble_eq_true rfl) (Nat.le_refl _) (Nat.le_refl _) ?_
            refine s172k   (Nat.le_refl _) (fun c6 => ?_) (fun c7 => ?_)
            ·
              show j_W 171 d 0 0 0 0 95 [some (.int k), some (.double x), none] [.double x] w1 (I, D, RR R) Q
              exact q_dret d171_95 rfl (Nat.le_refl _) (Nat.le_refl _) (v1 h1t h2t h3t h4t h5t c6)
            ·
              show j_W 171 d 0 0 0 0 95 [some (.int k), some (.double x), none] [.double FP.dconst0] w1 (I, D, RR R) Q
              exact q_dret d171_95 rfl (Nat.le_refl _) (Nat.le_refl _) (v2 h1t h2t h3t h4t h5t c7)
          ·
            refine q_dload_n d171_58 rfl ?_
            refine q_ldcD (v := 13875379345695965184) d171_59 (kc10_192 171 rfl) ?_
            refine q_dcmp d171_62 ?_
            refine q_if_ge (tgt := 72) d171_63 rfl (fun h8t => ?_) (fun h8f => ?_)
            ·
              have h8tc : dlt x 13875379345695965184 = false := dc_g_ge_t h8t
              refine q_dload_n d171_72 rfl ?_
              refine q_ldcD (v := 4652007308841189376) d171_73 (kc10_194 171 rfl) ?_
              refine q_dcmp d171_76 ?_
              refine q_if_le (tgt := 86) d171_77 rfl (fun h9t => ?_) (fun h9f => ?_)
              ·
                have h9tc : dgt x 4652007308841189376 = false := dc_l_le_t h9t
                refine q_dload_n d171_86 rfl ?_
                refine q_invS (av := [.double x]) (rest := []) (d' := 0) (mc' := 0) (ms' := 0) d171_87 (cv10_187 171 rfl) rfl rfl (by omega) (Nat.le_of_ble_eq_true rfl) (Nat.le_of_ble_eq_true rfl) (Nat.le_refl _) (Nat.le_refl _) ?_
                refine s172k   (Nat.le_refl _) (fun c10 => ?_) (fun c11 => ?_)
                ·
                  show j_W 171 d 0 0 0 0 90 [some (.int k), some (.double x), none] [.double x] w1 (I, D, RR R) Q
                  exact q_dret d171_90 rfl (Nat.le_refl _) (Nat.le_refl _) (v3 h1t h2t h3t h4t h5f h8tc h9tc c10)
                ·
                  show j_W 171 d 0 0 0 0 90 [some (.int k), some (.double x), none] [.double FP.dconst0] w1 (I, D, RR R) Q
                  exact q_dret d171_90 rfl (Nat.le_refl _) (Nat.le_refl _) (v4 h1t h2t h3t h4t h5f h8tc h9tc c11)
              ·
                have h9fc : dgt x 4652007308841189376 = true := dc_l_le_f h9f
                refine q_ldcD (v := 4652007308841189376) d171_80 (kc10_194 171 rfl) ?_
                refine q_goto (tgt := 87) d171_83 rfl ?_
                refine q_invS (av := [.double 4652007308841189376]) (rest := []) (d' := 0) (mc' := 0) (ms' := 0) d171_87 (cv10_187 171 rfl) rfl rfl (by omega) (Nat.le_of_ble_eq_true rfl) (Nat.le_of_ble_eq_true rfl) (Nat.le_refl _) (Nat.le_refl _) ?_
                refine s172k   (Nat.le_refl _) (fun c12 => ?_) (fun c13 => ?_)
                ·
                  show j_W 171 d 0 0 0 0 90 [some (.int k), some (.double x), none] [.double 4652007308841189376] w1 (I, D, RR R) Q
                  exact q_dret d171_90 rfl (Nat.le_refl _) (Nat.le_refl _) (v5 h1t h2t h3t h4t h5f h8tc h9fc c12)
                ·
                  show j_W 171 d 0 0 0 0 90 [some (.int k), some (.double x), none] [.double FP.dconst0] w1 (I, D, RR R) Q
                  exact q_dret d171_90 rfl (Nat.le_refl _) (Nat.le_refl _) (v6 h1t h2t h3t h4t h5f h8tc h9fc c13)
            ·
              have h8fc : dlt x 13875379345695965184 = true := dc_g_ge_f h8f
              refine q_ldcD (v := 13875379345695965184) d171_66 (kc10_192 171 rfl) ?_
              refine q_goto (tgt := 87) d171_69 rfl ?_
              refine q_invS (av := [.double 13875379345695965184]) (rest := []) (d' := 0) (mc' := 0) (ms' := 0) d171_87 (cv10_187 171 rfl) rfl rfl (by omega) (Nat.le_of_ble_eq_true rfl) (Nat.le_of_ble_eq_true rfl) (Nat.le_refl _) (Nat.le_refl _) ?_
              refine s172k   (Nat.le_refl _) (fun c14 => ?_) (fun c15 => ?_)
              ·
                show j_W 171 d 0 0 0 0 90 [some (.int k), some (.double x), none] [.double 13875379345695965184] w1 (I, D, RR R) Q
                exact q_dret d171_90 rfl (Nat.le_refl _) (Nat.le_refl _) (v7 h1t h2t h3t h4t h5f h8fc c14)
              ·
                show j_W 171 d 0 0 0 0 90 [some (.int k), some (.double x), none] [.double FP.dconst0] w1 (I, D, RR R) Q
                exact q_dret d171_90 rfl (Nat.le_refl _) (Nat.le_refl _) (v8 h1t h2t h3t h4t h5f h8fc c15)
        ·
          refine q_dload_n d171_43 rfl ?_
          refine q_d2f (v9 h1t h2t h3t h4f) d171_44 ?_
          refine q_ldcF (v := 1135869952) d171_45 (kc10_191 171 rfl) ?_
          refine q_frem (v10 h1t h2t h3t h4f) d171_47 ?_
          refine q_f2d (v11 h1t h2t h3t h4f) d171_48 ?_
          refine q_invS (av := [.double (FP.f2d (FP.frem (FP.d2f x) 1135869952))]) (rest := []) (d' := 0) (mc' := 0) (ms' := 0) d171_49 (cv10_187 171 rfl) rfl rfl (by omega) (Nat.le_of_ble_eq_true rfl) (Nat.le_of_ble_eq_true rfl) (Nat.le_refl _) (Nat.le_refl _) ?_
          refine s172k   (Nat.le_refl _) (fun c16 => ?_) (fun c17 => ?_)
          ·
            show j_W 171 d 0 0 0 0 52 [some (.int k), some (.double x), none] [.double (FP.f2d (FP.frem (FP.d2f x) 1135869952))] w1 (I, D, RR R) Q
            exact q_dret d171_52 rfl (Nat.le_refl _) (Nat.le_refl _) (v12 h1t h2t h3t h4f c16)
          ·
            show j_W 171 d 0 0 0 0 52 [some (.int k), some (.double x), none] [.double FP.dconst0] w1 (I, D, RR R) Q
            exact q_dret d171_52 rfl (Nat.le_refl _) (Nat.le_refl _) (v13 h1t h2t h3t h4f c17)
      ·
        refine q_dload_n d171_29 rfl ?_
        refine q_d2l d171_30 ?_
        refine q_l2i d171_31 ?_
        refine q_i2b d171_32 ?_
        refine q_i2d d171_33 ?_
        refine q_invS (av := [.double (FP.i2d (((((FP.d2l x) : Int64).toInt32) : Int32).toInt8.toInt32))]) (rest := []) (d' := 0) (mc' := 0) (ms' := 0) d171_34 (cv10_187 171 rfl) rfl rfl (by omega) (Nat.le_of_ble_eq_true rfl) (Nat.le_of_ble_eq_true rfl) (Nat.le_refl _) (Nat.le_refl _) ?_
        refine s172k   (Nat.le_refl _) (fun c18 => ?_) (fun c19 => ?_)
        ·
          show j_W 171 d 0 0 0 0 37 [some (.int k), some (.double x), none] [.double (FP.i2d (((((FP.d2l x) : Int64).toInt32) : Int32).toInt8.toInt32))] w1 (I, D, RR R) Q
          exact q_dret d171_37 rfl (Nat.le_refl _) (Nat.le_refl _) (v14 h1t h2t h3f c18)
        ·
          show j_W 171 d 0 0 0 0 37 [some (.int k), some (.double x), none] [.double FP.dconst0] w1 (I, D, RR R) Q
          exact q_dret d171_37 rfl (Nat.le_refl _) (Nat.le_refl _) (v15 h1t h2t h3f c19)
    ·
      refine q_dload_n d171_17 rfl ?_
      refine q_d2f (v16 h1t h2f) d171_18 ?_
      refine q_f2d (v17 h1t h2f) d171_19 ?_
      refine q_invS (av := [.double (FP.f2d (FP.d2f x))]) (rest := []) (d' := 0) (mc' := 0) (ms' := 0) d171_20 (cv10_187 171 rfl) rfl rfl (by omega) (Nat.le_of_ble_eq_true rfl) (Nat.le_of_ble_eq_true rfl) (Nat.le_refl _) (Nat.le_refl _) ?_
      refine s172k   (Nat.le_refl _) (fun c20 => ?_) (fun c21 => ?_)
      ·
        show j_W 171 d 0 0 0 0 23 [some (.int k), some (.double x), none] [.double (FP.f2d (FP.d2f x))] w1 (I, D, RR R) Q
        exact q_dret d171_23 rfl (Nat.le_refl _) (Nat.le_refl _) (v18 h1t h2f c20)
      ·
        show j_W 171 d 0 0 0 0 23 [some (.int k), some (.double x), none] [.double FP.dconst0] w1 (I, D, RR R) Q
        exact q_dret d171_23 rfl (Nat.le_refl _) (Nat.le_refl _) (v19 h1t h2f c21)
  ·
    refine q_dload_n d171_5 rfl ?_
    refine q_d2l d171_6 ?_
    refine q_l2d d171_7 ?_
    refine q_invS (av := [.double (FP.l2d (FP.d2l x))]) (rest := []) (d' := 0) (mc' := 0) (ms' := 0) d171_8 (cv10_187 171 rfl) rfl rfl (by omega) (Nat.le_of_ble_eq_true rfl) (Nat.le_of_ble_eq_true rfl) (Nat.le_refl _) (Nat.le_refl _) ?_
    refine s172k   (Nat.le_refl _) (fun c22 => ?_) (fun c23 => ?_)
    ·
      show j_W 171 d 0 0 0 0 11 [some (.int k), some (.double x), none] [.double (FP.l2d (FP.d2l x))] w1 (I, D, RR R) Q
      exact q_dret d171_11 rfl (Nat.le_refl _) (Nat.le_refl _) (v20 h1f c22)
    ·
      show j_W 171 d 0 0 0 0 11 [some (.int k), some (.double x), none] [.double FP.dconst0] w1 (I, D, RR R) Q
      exact q_dret d171_11 rfl (Nat.le_refl _) (Nat.le_refl _) (v21 h1f c23)

theorem c15 {d : Nat} {I : Nat → Nat → Int32} {D : Nat → Nat → UInt64} {R : Nat → Nat → Option Nat} {Q : j_Po} {k : Int32} {x : UInt64} (h : Sm x) (hd : 1 ≤ d) (hq : Q (some (.double (kp k x))) w1 (I, D, RR R)) : j_Call d 15 [.int k, .double x] w1 (I, D, RR R) 0 0 Q := s15 hd (fun h1 h2 => by simpa only [kp, pl, if_pos h1, h2, if_true, if_false, Bool.false_eq_true] using hq) (fun h1 h2 => by simpa only [kp, pl, if_pos h1, h2, if_true, if_false, Bool.false_eq_true] using hq) (fun h1 h2 => Jvm.Free.Fl.d2f_out (fi_nn h.1)) (fun h1 h2 => Jvm.Free.Fl.f2d_out (Jvm.Free.Fl.d2f_out (fi_nn h.1))) (fun h1 h2 h3 => by simpa only [kp, pl, if_neg h1, if_pos h2, h3, if_true, if_false, Bool.false_eq_true] using hq) (fun h1 h2 h3 => by simpa only [kp, pl, if_neg h1, if_pos h2, h3, if_true, if_false, Bool.false_eq_true] using hq) (fun h1 h2 h3 h4 => by simpa only [kp, pl, if_neg h1, if_neg h2, if_pos h3, h4, if_true, if_false, Bool.false_eq_true] using hq) (fun h1 h2 h3 h4 => by simpa only [kp, pl, if_neg h1, if_neg h2, if_pos h3, h4, if_true, if_false, Bool.false_eq_true] using hq) (fun h1 h2 h3 h4 => Jvm.Free.Fl.d2f_out (fi_nn h.1)) (fun h1 h2 h3 h4 => Jvm.Free.Fl.f2d_out (Jvm.Free.Fl.d2f_out (fi_nn h.1))) (fun h1 h2 h3 h4 => (sm_f h).1) (fun h1 h2 h3 h4 => fi_360) (fun h1 h2 h3 h4 => vm_360) (fun h1 h2 h3 h4 => Nat.lt_of_le_of_lt (sm_f h).2 (Nat.pow_lt_pow_right (by decide) (by decide))) (fun h1 h2 h3 h4 h5 => by subst h4; rw [kp_4 h] at hq; simpa only [pl, h5, if_true, if_false, Bool.false_eq_true] using hq) (fun h1 h2 h3 h4 h5 => by subst h4; rw [kp_4 h] at hq; simpa only [pl, h5, if_true, if_false, Bool.false_eq_true] using hq) (fun h1 h2 h3 h4 h5 h6 h7 h8 => by simpa only [kp, pl, if_neg h1, if_neg h2, if_neg h3, if_neg h4, if_pos h5, h6, h7, h8, if_true, if_false, Bool.false_eq_true] using hq) (fun h1 h2 h3 h4 h5 h6 h7 h8 => by simpa only [kp, pl, if_neg h1, if_neg h2, if_neg h3, if_neg h4, if_pos h5, h6, h7, h8, if_true, if_false, Bool.false_eq_true] using hq) (fun h1 h2 h3 h4 h5 h6 h7 h8 => by simpa only [kp, pl, if_neg h1, if_neg h2, if_neg h3, if_neg h4, if_pos h5, h6, h7, h8, if_true, if_false, Bool.false_eq_true] using hq) (fun h1 h2 h3 h4 h5 h6 h7 h8 => by simpa only [kp, pl, if_neg h1, if_neg h2, if_neg h3, if_neg h4, if_pos h5, h6, h7, h8, if_true, if_false, Bool.false_eq_true] using hq) (fun h1 h2 h3 h4 h5 h6 h7 => by simpa only [kp, pl, if_neg h1, if_neg h2, if_neg h3, if_neg h4, if_pos h5, h6, h7, if_true, if_false, Bool.false_eq_true] using hq) (fun h1 h2 h3 h4 h5 h6 h7 => by simpa only [kp, pl, if_neg h1, if_neg h2, if_neg h3, if_neg h4, if_pos h5, h6, h7, if_true, if_false, Bool.false_eq_true] using hq) (fun h1 h2 h3 h4 h5 h6 => by simpa only [kp, pl, if_neg h1, if_neg h2, if_neg h3, if_neg h4, if_neg h5, h6, if_true, if_false, Bool.false_eq_true] using hq) (fun h1 h2 h3 h4 h5 h6 => by simpa only [kp, pl, if_neg h1, if_neg h2, if_neg h3, if_neg h4, if_neg h5, h6, if_true, if_false, Bool.false_eq_true] using hq)
theorem c171 {d : Nat} {I : Nat → Nat → Int32} {D : Nat → Nat → UInt64} {R : Nat → Nat → Option Nat} {Q : j_Po} {k : Int32} {x : UInt64} (h : Sm x) (hd : 1 ≤ d) (hq : Q (some (.double (kp k x))) w1 (I, D, RR R)) : j_Call d 171 [.int k, .double x] w1 (I, D, RR R) 0 0 Q := s171 hd (fun h1 h2 h3 h4 h5 h6 => by simpa only [kp, pl, if_neg h1, if_neg h2, if_neg h3, if_neg h4, if_neg h5, h6, if_true, if_false, Bool.false_eq_true] using hq) (fun h1 h2 h3 h4 h5 h6 => by simpa only [kp, pl, if_neg h1, if_neg h2, if_neg h3, if_neg h4, if_neg h5, h6, if_true, if_false, Bool.false_eq_true] using hq) (fun h1 h2 h3 h4 h5 h6 h7 h8 => by simpa only [kp, pl, if_neg h1, if_neg h2, if_neg h3, if_neg h4, if_pos h5, h6, h7, h8, if_true, if_false, Bool.false_eq_true] using hq) (fun h1 h2 h3 h4 h5 h6 h7 h8 => by simpa only [kp, pl, if_neg h1, if_neg h2, if_neg h3, if_neg h4, if_pos h5, h6, h7, h8, if_true, if_false, Bool.false_eq_true] using hq) (fun h1 h2 h3 h4 h5 h6 h7 h8 => by simpa only [kp, pl, if_neg h1, if_neg h2, if_neg h3, if_neg h4, if_pos h5, h6, h7, h8, if_true, if_false, Bool.false_eq_true] using hq) (fun h1 h2 h3 h4 h5 h6 h7 h8 => by simpa only [kp, pl, if_neg h1, if_neg h2, if_neg h3, if_neg h4, if_pos h5, h6, h7, h8, if_true, if_false, Bool.false_eq_true] using hq) (fun h1 h2 h3 h4 h5 h6 h7 => by simpa only [kp, pl, if_neg h1, if_neg h2, if_neg h3, if_neg h4, if_pos h5, h6, h7, if_true, if_false, Bool.false_eq_true] using hq) (fun h1 h2 h3 h4 h5 h6 h7 => by simpa only [kp, pl, if_neg h1, if_neg h2, if_neg h3, if_neg h4, if_pos h5, h6, h7, if_true, if_false, Bool.false_eq_true] using hq) (fun h1 h2 h3 h4 => Jvm.Free.Fl.d2f_out (fi_nn h.1)) (fun h1 h2 h3 h4 => (Jvm.Free.Fl.fin32_core.mpr (frem_drem (d2f_sm h).1 fi_f360 wm_360).1).noNaN) (fun h1 h2 h3 h4 => Jvm.Free.Fl.f2d_out (Jvm.Free.Fl.fin32_core.mpr (frem_drem (d2f_sm h).1 fi_f360 wm_360).1).noNaN) (fun h1 h2 h3 h4 h5 => by simpa only [kp, pl, if_neg h1, if_neg h2, if_neg h3, if_pos h4, h5, if_true, if_false, Bool.false_eq_true] using hq) (fun h1 h2 h3 h4 h5 => by simpa only [kp, pl, if_neg h1, if_neg h2, if_neg h3, if_pos h4, h5, if_true, if_false, Bool.false_eq_true] using hq) (fun h1 h2 h3 h4 => by simpa only [kp, pl, if_neg h1, if_neg h2, if_pos h3, h4, if_true, if_false, Bool.false_eq_true] using hq) (fun h1 h2 h3 h4 => by simpa only [kp, pl, if_neg h1, if_neg h2, if_pos h3, h4, if_true, if_false, Bool.false_eq_true] using hq) (fun h1 h2 => Jvm.Free.Fl.d2f_out (fi_nn h.1)) (fun h1 h2 => Jvm.Free.Fl.f2d_out (Jvm.Free.Fl.d2f_out (fi_nn h.1))) (fun h1 h2 h3 => by simpa only [kp, pl, if_neg h1, if_pos h2, h3, if_true, if_false, Bool.false_eq_true] using hq) (fun h1 h2 h3 => by simpa only [kp, pl, if_neg h1, if_pos h2, h3, if_true, if_false, Bool.false_eq_true] using hq) (fun h1 h2 => by simpa only [kp, pl, if_pos h1, h2, if_true, if_false, Bool.false_eq_true] using hq) (fun h1 h2 => by simpa only [kp, pl, if_pos h1, h2, if_true, if_false, Bool.false_eq_true] using hq)
