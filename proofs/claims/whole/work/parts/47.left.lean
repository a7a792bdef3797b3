/-! leftOver -/
set_option maxRecDepth 10000 in
set_option maxHeartbeats 4000000 in
theorem s16e {d : Nat} {I : Nat → Nat → Int32} {D : Nat → Nat → UInt64} {R : Nat → Nat → Option Nat} {Q : j_Po} {a : UInt64} {b : UInt64}   (hd : 0 ≤ d)
    (v1 : (dlt a FP.dconst0 = false) → (dlt b FP.dconst0 = false) → j_W 16 d 0 0 0 0 31 [some (.double a), none, some (.double b), none, some (.double a), none, some (.double b), none, some (.int 0)] [] w1 (I, D, RR R) Q)
    (v2 : (dlt a FP.dconst0 = false) → (dlt b FP.dconst0 = true) → j_W 16 d 0 0 0 0 31 [some (.double a), none, some (.double b), none, some (.double a), none, some (.double (FP.dneg b)), none, some (.int 0)] [] w1 (I, D, RR R) Q)
    (v3 : (dlt a FP.dconst0 = true) → (dlt b FP.dconst0 = false) → j_W 16 d 0 0 0 0 31 [some (.double a), none, some (.double b), none, some (.double (FP.dneg a)), none, some (.double b), none, some (.int 0)] [] w1 (I, D, RR R) Q)
    (v4 : (dlt a FP.dconst0 = true) → (dlt b FP.dconst0 = true) → j_W 16 d 0 0 0 0 31 [some (.double a), none, some (.double b), none, some (.double (FP.dneg a)), none, some (.double (FP.dneg b)), none, some (.int 0)] [] w1 (I, D, RR R) Q) : j_Call d 16 [.double a, .double b] w1 (I, D, RR R) 0 0 Q := by
  refine q_enter (L := [some (.double a), none, some (.double b), none, none, none, none, none, none]) j_m16 (Nat.le_of_ble_eq_true rfl) rfl ?_
  refine q_dload_n d16_0 rfl ?_
  refine q_dconst0 d16_1 ?_
  refine q_dcmp d16_2 ?_
  refine q_if_ge (tgt := 11) d16_3 rfl (fun h1t => ?_) (fun h1f => ?_)
  ·
    have h1tc : dlt a FP.dconst0 = false := dc_g_ge_t h1t
    refine q_dload_n d16_11 rfl ?_
    refine q_dstore (L' := [some (.double a), none, some (.double b), none, some (.double a), none, none, none, none]) d16_12 (Nat.le_of_ble_eq_true rfl) rfl ?_
    refine q_dload_n d16_14 rfl ?_
    refine q_dconst0 d16_15 ?_
    refine q_dcmp d16_16 ?_
    refine q_if_ge (tgt := 25) d16_17 rfl (fun h2t => ?_) (fun h2f => ?_)
    ·
      have h2tc : dlt b FP.dconst0 = false := dc_g_ge_t h2t
      refine q_dload_n d16_25 rfl ?_
      refine q_dstore (L' := [some (.double a), none, some (.double b), none, some (.double a), none, some (.double b), none, none]) d16_26 (Nat.le_of_ble_eq_true rfl) rfl ?_
      refine q_iconst (v := 0) (by decide) d16_28 ?_
      refine q_istore (L' := [some (.double a), none, some (.double b), none, some (.double a), none, some (.double b), none, some (.int 0)]) d16_29 (Nat.le_of_ble_eq_true rfl) rfl ?_
      exact r_sub (L' := [some (.double a), none, some (.double b), none, some (.double a), none, some (.double b), none, some (.int 0)]) ⟨rfl, rfl, rfl, rfl, rfl, trivial⟩ (v1 h1tc h2tc)
    ·
      have h2fc : dlt b FP.dconst0 = true := dc_g_ge_f h2f
      refine q_dload_n d16_20 rfl ?_
      refine q_dneg d16_21 ?_
      refine q_goto (tgt := 26) d16_22 rfl ?_
      refine q_dstore (L' := [some (.double a), none, some (.double b), none, some (.double a), none, some (.double (FP.dneg b)), none, none]) d16_26 (Nat.le_of_ble_eq_true rfl) rfl ?_
      refine q_iconst (v := 0) (by decide) d16_28 ?_
      refine q_istore (L' := [some (.double a), none, some (.double b), none, some (.double a), none, some (.double (FP.dneg b)), none, some (.int 0)]) d16_29 (Nat.le_of_ble_eq_true rfl) rfl ?_
      exact r_sub (L' := [some (.double a), none, some (.double b), none, some (.double a), none, some (.double (FP.dneg b)), none, some (.int 0)]) ⟨rfl, rfl, rfl, rfl, rfl, trivial⟩ (v2 h1tc h2fc)
  ·
    have h1fc : dlt a FP.dconst0 = true := dc_g_ge_f h1f
    refine q_dload_n d16_6 rfl ?_
    refine q_dneg d16_7 ?_
    refine q_goto (tgt := 12) d16_8 rfl ?_
    refine q_dstore (L' := [some (.double a), none, some (.double b), none, some (.double (FP.dneg a)), none, none, none, none]) d16_12 (Nat.le_of_ble_eq_true rfl) rfl ?_
    refine q_dload_n d16_14 rfl ?_
    refine q_dconst0 d16_15 ?_
    refine q_dcmp d16_16 ?_
    refine q_if_ge (tgt := 25) d16_17 rfl (fun h3t => ?_) (fun h3f => ?_)
    ·
      have h3tc : dlt b FP.dconst0 = false := dc_g_ge_t h3t
      refine q_dload_n d16_25 rfl ?_
      refine q_dstore (L' := [some (.double a), none, some (.double b), none, some (.double (FP.dneg a)), none, some (.double b), none, none]) d16_26 (Nat.le_of_ble_eq_true rfl) rfl ?_
      refine q_iconst (v := 0) (by decide) d16_28 ?_
      refine q_istore (L' := [some (.double a), none, some (.double b), none, some (.double (FP.dneg a)), none, some (.double b), none, some (.int 0)]) d16_29 (Nat.le_of_ble_eq_true rfl) rfl ?_
      exact r_sub (L' := [some (.double a), none, some (.double b), none, some (.double (FP.dneg a)), none, some (.double b), none, some (.int 0)]) ⟨rfl, rfl, rfl, rfl, rfl, trivial⟩ (v3 h1fc h3tc)
    ·
      have h3fc : dlt b FP.dconst0 = true := dc_g_ge_f h3f
      refine q_dload_n d16_20 rfl ?_
      refine q_dneg d16_21 ?_
      refine q_goto (tgt := 26) d16_22 rfl ?_
      refine q_dstore (L' := [some (.double a), none, some (.double b), none, some (.double (FP.dneg a)), none, some (.double (FP.dneg b)), none, none]) d16_26 (Nat.le_of_ble_eq_true rfl) rfl ?_
      refine q_iconst (v := 0) (by decide) d16_28 ?_
      refine q_istore (L' := [some (.double a), none, some (.double b), none, some (.double (FP.dneg a)), none, some (.double (FP.dneg b)), none, some (.int 0)]) d16_29 (Nat.le_of_ble_eq_true rfl) rfl ?_
      exact r_sub (L' := [some (.double a), none, some (.double b), none, some (.double (FP.dneg a)), none, some (.double (FP.dneg b)), none, some (.int 0)]) ⟨rfl, rfl, rfl, rfl, rfl, trivial⟩ (v4 h1fc h3fc)

set_option maxRecDepth 10000 in
set_option maxHeartbeats 4000000 in
theorem s16d {d : Nat} {I : Nat → Nat → Int32} {D : Nat → Nat → UInt64} {R : Nat → Nat → Option Nat} {Q : j_Po} {a : UInt64} {b : UInt64} {l : UInt64} {y : UInt64} {k : Nat}  (hk : k ≤ 1200) (hd : 0 ≤ d)
    (v1 : (1200 ≤ k) → j_W 16 d 0 0 0 0 61 [some (.double a), none, some (.double b), none, some (.double l), none, some (.double y), none, some (.int (nI k))] [] w1 (I, D, RR R) Q)
    (v2 : (¬ 1200 ≤ k) → (dlt y l = false) → j_W 16 d 0 0 0 0 61 [some (.double a), none, some (.double b), none, some (.double l), none, some (.double y), none, some (.int (nI k))] [] w1 (I, D, RR R) Q)
    (v3 : (¬ 1200 ≤ k) → (dlt y l = true) → vf_n64 (FP.dmul y 4611686018427387904))
    (v4 : (¬ 1200 ≤ k) → (dlt y l = true) → j_W 16 d 0 0 0 0 31 [some (.double a), none, some (.double b), none, some (.double l), none, some (.double (FP.dmul y 4611686018427387904)), none, some (.int (nI (k + 1)))] [] w1 (I, D, RR R) Q) : j_W 16 d 0 0 0 0 31 [some (.double a), none, some (.double b), none, some (.double l), none, some (.double y), none, some (.int (nI k))] [] w1 (I, D, RR R) Q := by
  refine q_iload d16_31 rfl ?_
  refine q_sipush (v := 1200) (by decide) d16_33 ?_
  refine q_icmp_ge (tgt := 61) d16_36 rfl (fun h1t => ?_) (fun h1f => ?_)
  ·
    have h1tc : 1200 ≤ k := (nI_leI (by omega) (by omega)).mp h1t
    exact r_sub (L' := [some (.double a), none, some (.double b), none, some (.double l), none, some (.double y), none, some (.int (nI k))]) ⟨rfl, rfl, rfl, rfl, rfl, trivial⟩ (v1 h1tc)
  ·
    have h1fc : ¬ 1200 ≤ k := mt (nI_leI (by omega) (by omega)).mpr h1f
    refine q_dload d16_39 rfl ?_
    refine q_dload d16_41 rfl ?_
    refine q_dcmp d16_43 ?_
    refine q_if_ge (tgt := 61) d16_44 rfl (fun h2t => ?_) (fun h2f => ?_)
    ·
      have h2tc : dlt y l = false := dc_g_ge_t h2t
      exact r_sub (L' := [some (.double a), none, some (.double b), none, some (.double l), none, some (.double y), none, some (.int (nI k))]) ⟨rfl, rfl, rfl, rfl, rfl, trivial⟩ (v2 h1fc h2tc)
    ·
      have h2fc : dlt y l = true := dc_g_ge_f h2f
      refine q_dload d16_47 rfl ?_
      refine q_ldcD (v := 4611686018427387904) d16_49 (kc9_467 16 rfl) ?_
      refine q_dmul (v3 h1fc h2fc) d16_52 ?_
      refine q_dstore (L' := [some (.double a), none, some (.double b), none, some (.double l), none, some (.double (FP.dmul y 4611686018427387904)), none, some (.int (nI k))]) d16_53 (Nat.le_of_ble_eq_true rfl) rfl ?_
      refine q_iinc (L' := [some (.double a), none, some (.double b), none, some (.double l), none, some (.double (FP.dmul y 4611686018427387904)), none, some (.int (nI (k + 1)))]) (v := (nI (k + 1))) d16_55 rfl (nI_inc _) rfl ?_
      refine q_goto (tgt := 31) d16_58 rfl ?_
      exact r_sub (L' := [some (.double a), none, some (.double b), none, some (.double l), none, some (.double (FP.dmul y 4611686018427387904)), none, some (.int (nI (k + 1)))]) ⟨rfl, rfl, rfl, rfl, rfl, trivial⟩ (v4 h1fc h2fc)

set_option maxRecDepth 10000 in
set_option maxHeartbeats 4000000 in
theorem s16h {d : Nat} {I : Nat → Nat → Int32} {D : Nat → Nat → UInt64} {R : Nat → Nat → Option Nat} {Q : j_Po} {a : UInt64} {b : UInt64} {l : UInt64} {y : UInt64} {k : Int32}   (hd : 0 ≤ d)
    (v1 : (k < 0) → (dlt a FP.dconst0 = false) → Q (some (.double l)) w1 (I, D, RR R))
    (v2 : (k < 0) → (dlt a FP.dconst0 = true) → Q (some (.double (FP.dneg l))) w1 (I, D, RR R))
    (v3 : (¬ k < 0) → (dge l y = false) → vf_n64 (FP.ddiv y 4611686018427387904))
    (v4 : (¬ k < 0) → (dge l y = false) → j_W 16 d 0 0 0 0 61 [some (.double a), none, some (.double b), none, some (.double l), none, some (.double (FP.ddiv y 4611686018427387904)), none, some (.int (k + (-1)))] [] w1 (I, D, RR R) Q)
    (v5 : (¬ k < 0) → (dge l y = true) → vf_n64 (FP.dsub l y))
    (v6 : (¬ k < 0) → (dge l y = true) → vf_n64 (FP.ddiv y 4611686018427387904))
    (v7 : (¬ k < 0) → (dge l y = true) → j_W 16 d 0 0 0 0 61 [some (.double a), none, some (.double b), none, some (.double (FP.dsub l y)), none, some (.double (FP.ddiv y 4611686018427387904)), none, some (.int (k + (-1)))] [] w1 (I, D, RR R) Q) : j_W 16 d 0 0 0 0 61 [some (.double a), none, some (.double b), none, some (.double l), none, some (.double y), none, some (.int k)] [] w1 (I, D, RR R) Q := by
  refine q_iload d16_61 rfl ?_
  refine q_if_lt (tgt := 95) d16_63 rfl (fun h1t => ?_) (fun h1f => ?_)
  ·
    refine q_dload_n d16_95 rfl ?_
    refine q_dconst0 d16_96 ?_
    refine q_dcmp d16_97 ?_
    refine q_if_ge (tgt := 107) d16_98 rfl (fun h2t => ?_) (fun h2f => ?_)
    ·
      have h2tc : dlt a FP.dconst0 = false := dc_g_ge_t h2t
      refine q_dload d16_107 rfl ?_
      exact q_dret d16_109 rfl (Nat.le_refl _) (Nat.le_refl _) (v1 h1t h2tc)
    ·
      have h2fc : dlt a FP.dconst0 = true := dc_g_ge_f h2f
      refine q_dload d16_101 rfl ?_
      refine q_dneg d16_103 ?_
      refine q_goto (tgt := 109) d16_104 rfl ?_
      exact q_dret d16_109 rfl (Nat.le_refl _) (Nat.le_refl _) (v2 h1t h2fc)
  ·
    refine q_dload d16_66 rfl ?_
    refine q_dload d16_68 rfl ?_
    refine q_dcmp d16_70 ?_
    refine q_if_lt (tgt := 81) d16_71 rfl (fun h3t => ?_) (fun h3f => ?_)
    ·
      have h3tc : dge l y = false := dc_l_lt_t h3t
      refine q_dload d16_81 rfl ?_
      refine q_ldcD (v := 4611686018427387904) d16_83 (kc9_467 16 rfl) ?_
      refine q_ddiv (v3 h1f h3tc) d16_86 ?_
      refine q_dstore (L' := [some (.double a), none, some (.double b), none, some (.double l), none, some (.double (FP.ddiv y 4611686018427387904)), none, some (.int k)]) d16_87 (Nat.le_of_ble_eq_true rfl) rfl ?_
      refine q_iinc (L' := [some (.double a), none, some (.double b), none, some (.double l), none, some (.double (FP.ddiv y 4611686018427387904)), none, some (.int (k + (-1)))]) (v := (k + (-1))) d16_89 rfl rfl rfl ?_
      refine q_goto (tgt := 61) d16_92 rfl ?_
      exact r_sub (L' := [some (.double a), none, some (.double b), none, some (.double l), none, some (.double (FP.ddiv y 4611686018427387904)), none, some (.int (k + (-1)))]) ⟨rfl, rfl, rfl, rfl, rfl, trivial⟩ (v4 h1f h3tc)
    ·
      have h3fc : dge l y = true := dc_l_lt_f h3f
      refine q_dload d16_74 rfl ?_
      refine q_dload d16_76 rfl ?_
      refine q_dsub (v5 h1f h3fc) d16_78 ?_
      refine q_dstore (L' := [some (.double a), none, some (.double b), none, some (.double (FP.dsub l y)), none, some (.double y), none, some (.int k)]) d16_79 (Nat.le_of_ble_eq_true rfl) rfl ?_
      refine q_dload d16_81 rfl ?_
      refine q_ldcD (v := 4611686018427387904) d16_83 (kc9_467 16 rfl) ?_
      refine q_ddiv (v6 h1f h3fc) d16_86 ?_
      refine q_dstore (L' := [some (.double a), none, some (.double b), none, some (.double (FP.dsub l y)), none, some (.double (FP.ddiv y 4611686018427387904)), none, some (.int k)]) d16_87 (Nat.le_of_ble_eq_true rfl) rfl ?_
      refine q_iinc (L' := [some (.double a), none, some (.double b), none, some (.double (FP.dsub l y)), none, some (.double (FP.ddiv y 4611686018427387904)), none, some (.int (k + (-1)))]) (v := (k + (-1))) d16_89 rfl rfl rfl ?_
      refine q_goto (tgt := 61) d16_92 rfl ?_
      exact r_sub (L' := [some (.double a), none, some (.double b), none, some (.double (FP.dsub l y)), none, some (.double (FP.ddiv y 4611686018427387904)), none, some (.int (k + (-1)))]) ⟨rfl, rfl, rfl, rfl, rfl, trivial⟩ (v7 h1f h3fc)

theorem rep_pow {n : Nat} (h : rep n) (k : Nat) : rep (n * 2 ^ k) := by
  obtain ⟨c, e, h1, rfl⟩ := h
  exact ⟨c, e + k, h1, by rw [Nat.pow_add, Nat.mul_assoc]⟩
theorem drem_fi {a b : UInt64} (ha : Fi a) (hb : Fi b) (hz : vm b ≠ 0) : Fi (FP.drem a b) ∧ vs (FP.drem a b) = vs a ∧ vm (FP.drem a b) = vm a % vm b := by
  obtain ⟨c, e, h1, h2, h3, -, -⟩ := fi_shape ha
  obtain ⟨c', e', k1, k2, k3, -, -⟩ := fi_shape hb
  obtain ⟨u, q, g1, g2⟩ := Jvm.FP.Core.drem_exact h1 k1 (fun h => hz (by rw [k3, h, Nat.zero_mul]))
  refine ⟨⟨_, _, _, g1⟩, ?_, ?_⟩
  · show Jvm.FP.Core.sgn _ = _
    rw [g1]; rfl
  · show Jvm.FP.Core.zmag _ _ = Jvm.FP.Core.zmag _ _ % Jvm.FP.Core.zmag _ _
    rw [g1, h1, k1]; exact g2
def lfI (a b l : UInt64) : Prop := Fi l ∧ (vm a = 0 ∧ l = a ∨ vm a ≠ 0 ∧ vs l = false) ∧ vm l % vm b = vm a % vm b
theorem lfI.z {a b l : UInt64} (h : lfI a b l) : vz l = (vm l : Int) := by
  rcases h.2.1 with ⟨h1, h2⟩ | ⟨h1, h2⟩
  · subst h2
    cases hs : vs l with
    | false => exact vz_pos hs
    | true => rw [vz_neg hs, h1]; rfl
  · exact vz_pos h2
theorem nI_m1 (n : Nat) : nI (n + 1) + -1 = nI n := by rw [show nI (n + 1) + -1 = nI (n + 1) - 1 from (Int32.sub_eq_add_neg ..).symm]; exact nI_pred n
section LF
variable {d : Nat} {I : Nat → Nat → Int32} {D : Nat → Nat → UInt64} {R : Nat → Nat → Option Nat} {Q : j_Po} {a b : UInt64}
theorem l16h (ha : Fi a) (hb : Fi b) (hbz : 0 < vm b) (hq : Q (some (.double (FP.drem a b))) w1 (I, D, RR R)) : ∀ (n : Nat) (l y : UInt64), lfI a b l → vm l < vm b * 2 ^ n → (1 ≤ n → Fi y ∧ vs y = false ∧ vm y = vm b * 2 ^ (n - 1)) →
    j_W 16 d 0 0 0 0 61 [some (.double a), none, some (.double b), none, some (.double l), none, some (.double y), none, some (.int (nI n + -1))] [] w1 (I, D, RR R) Q := by
  intro n
  obtain ⟨r1, r2, r3⟩ := drem_fi ha hb (Nat.ne_of_gt hbz)
  induction n with
  | zero =>
    intro l y h hl _
    have hm : vm l = vm a % vm b := by
      rw [← h.2.2]; exact (Nat.mod_eq_of_lt (by simpa using hl)).symm
    have c0 : ∀ {P : Prop}, (¬ (nI 0 + -1 : Int32) < 0) → P := fun hc => absurd (by decide) hc
    refine s16h (Nat.zero_le _) (fun _ g => ?_) (fun _ g => ?_) (fun c _ => c0 c) (fun c _ => c0 c) (fun c _ => c0 c) (fun c _ => c0 c) (fun c _ => c0 c)
    · have : l = FP.drem a b := vm_inj h.1 r1 (by
        rw [r2]
        rcases h.2.1 with ⟨_, h2⟩ | ⟨h1, h2⟩
        · rw [h2]
        · rw [h2]
          cases hs : vs a with
          | false => rfl
          | true =>
            have := (dlt_iff ha fi_0).mpr (by rw [vz_0, vz_neg hs]; omega)
            rw [this] at g; cases g) (by rw [hm, r3])
      rw [this]; exact hq
    · have g2 := (dlt_iff ha fi_0).mp g
      rw [vz_0] at g2
      have hs : vs a = true := by
        cases hs : vs a with
        | true => rfl
        | false => rw [vz_pos hs] at g2; omega
      have hz : vm a ≠ 0 := by rw [vz_neg hs] at g2; omega
      obtain ⟨d1, d2, d3⟩ := dneg_fi h.1
      have : FP.dneg l = FP.drem a b := vm_inj d1 r1 (by
        rw [r2, d2, hs]
        rcases h.2.1 with ⟨h1, _⟩ | ⟨_, h2⟩
        · exact absurd h1 hz
        · rw [h2]; rfl) (by rw [d3, hm, r3])
      rw [this]; exact hq
  | succ n ih =>
    intro l y h hl hy
    obtain ⟨y1, y2, y3⟩ := hy (by omega)
    rw [show n + 1 - 1 = n by omega] at y3
    have p2 := Nat.two_pow_pos n
    have hn0 : ¬ (nI (n + 1) + -1 : Int32) < 0 → True := fun _ => trivial
    have nn2 : vf_n64 (FP.ddiv y 4611686018427387904) := Jvm.Free.Fl.ddiv_out (fi_nn y1) fi_2 nz_2
    have hy2 : 1 ≤ n → Fi (FP.ddiv y 4611686018427387904) ∧ vs (FP.ddiv y 4611686018427387904) = false ∧ vm (FP.ddiv y 4611686018427387904) = vm b * 2 ^ (n - 1) := by
      intro hn
      have := ddiv_2 (m := vm b * 2 ^ (n - 1)) y1 (by
        have e : 2 ^ n = 2 * 2 ^ (n - 1) := by rw [Nat.mul_comm, ← Nat.pow_succ]; congr 1; omega
        rw [y3, e, Nat.mul_left_comm]) (rep_pow (fi_rep hb) _)
      rw [y2] at this
      exact this
    have hl2 : vm l < 2 * (vm b * 2 ^ n) := by rw [Nat.pow_succ, Nat.mul_comm (2 ^ n) 2, Nat.mul_left_comm] at hl; exact hl
    have ge_iff : dge l y = true ↔ vm y ≤ vm l := by
      rw [dge_iff h.1 y1, h.z, vz_pos y2]; omega
    have ypos : 0 < vm y := by rw [y3]; exact Nat.mul_pos hbz p2
    have big : vm y ≤ vm l → vs l = false ∧ vm a ≠ 0 := fun hc => by
      rcases h.2.1 with ⟨h1, h2⟩ | ⟨h1, h2⟩
      · subst h2; omega
      · exact ⟨h2, h1⟩
    refine s16h (Nat.zero_le _) (fun c _ => ?_) (fun c _ => ?_) (fun _ _ => nn2) (fun _ g => ?_) (fun _ g => ?_) (fun _ _ => nn2) (fun _ g => ?_)
    · rw [nI_m1] at c
      rcases Nat.lt_or_ge n (2 ^ 31) with hn | hn
      · exact absurd c (nI_pos hn)
      · exfalso
        have e1 := fi_top y1
        rw [y3] at e1
        have e2 : 2 ^ n ≤ vm b * 2 ^ n := Nat.le_mul_of_pos_left _ hbz
        have e3 : n < 2098 := (Nat.pow_lt_pow_iff_right (by decide : 1 < 2)).mp (Nat.lt_of_le_of_lt e2 e1)
        omega
    · rw [nI_m1] at c
      rcases Nat.lt_or_ge n (2 ^ 31) with hn | hn
      · exact absurd c (nI_pos hn)
      · exfalso
        have e1 := fi_top y1
        rw [y3] at e1
        have e2 : 2 ^ n ≤ vm b * 2 ^ n := Nat.le_mul_of_pos_left _ hbz
        have e3 : n < 2098 := (Nat.pow_lt_pow_iff_right (by decide : 1 < 2)).mp (Nat.lt_of_le_of_lt e2 e1)
        omega
    · rw [nI_m1]
      refine ih l _ h ?_ hy2
      rw [← y3]
      refine Nat.lt_of_not_le fun hc => ?_
      rw [ge_iff.mpr hc] at g; cases g
    · obtain ⟨s1, -⟩ := big (ge_iff.mp g)
      exact fi_nn (dsub_ex h.1 y1 s1 y2 (ge_iff.mp g) (rep_sub h.1 y1 (ge_iff.mp g) (by omega))).1
    · rw [nI_m1]
      have hc := ge_iff.mp g
      obtain ⟨s1, s2⟩ := big hc
      obtain ⟨t1, t2, t3⟩ := dsub_ex h.1 y1 s1 y2 hc (rep_sub h.1 y1 hc (by omega))
      refine ih _ _ ⟨t1, Or.inr ⟨s2, t2⟩, ?_⟩ (by rw [t3]; omega) hy2
      rw [t3, ← h.2.2, y3]
      exact Nat.sub_mul_mod (by rw [← y3]; exact hc)
theorem l16d (ha : Fi a) (hb : Fi b) (hbz : 0 < vm b) (hq : Q (some (.double (FP.drem a b))) w1 (I, D, RR R)) {l : UInt64} (hl : lfI a b l) (hs : vm l < 2 ^ 1199) : ∀ (n k : Nat) (y : UInt64), n + k = 1200 → Fi y → vs y = false → vm y = vm b * 2 ^ k →
    j_W 16 d 0 0 0 0 31 [some (.double a), none, some (.double b), none, some (.double l), none, some (.double y), none, some (.int (nI k))] [] w1 (I, D, RR R) Q := by
  intro n
  induction n with
  | zero =>
    intro k y hk y1 y2 y3
    have : k = 1200 := by omega
    subst this
    refine s16d (k := 1200) (by omega) (Nat.zero_le _) (fun _ => ?_) (fun h => absurd (by omega) h) (fun h => absurd (by omega) h) (fun h => absurd (by omega) h)
    rw [← nI_m1 1200]
    refine l16h ha hb hbz hq 1201 l y hl ?_ (fun _ => ⟨y1, y2, y3⟩)
    have e1 : (2 : Nat) ^ 1199 ≤ 2 ^ 1201 := Nat.pow_le_pow_right (by decide) (by decide)
    exact Nat.lt_of_lt_of_le hs (Nat.le_trans e1 (Nat.le_mul_of_pos_left _ hbz))
  | succ n ih =>
    intro k y hk y1 y2 y3
    have lt_i : dlt y l = true ↔ vm y < vm l := by
      rw [dlt_iff y1 hl.1, hl.z, vz_pos y2]; omega
    have p2 := Nat.two_pow_pos k
    have big : vm y < vm l → 2 * vm y < 2 ^ 2098 := fun h => by
      have e1 : (2 : Nat) ^ 1200 ≤ 2 ^ 2098 := Nat.pow_le_pow_right (by decide) (by decide)
      have e2 : (2 : Nat) ^ 1200 = 2 * 2 ^ 1199 := by rw [show (1200 : Nat) = 1199 + 1 from rfl, Nat.pow_succ, Nat.mul_comm]
      rw [e2] at e1
      generalize (2 : Nat) ^ 2098 = u at e1 ⊢
      generalize (2 : Nat) ^ 1199 = v at e1 hs
      omega
    refine s16d (k := k) (by omega) (Nat.zero_le _) (fun h => absurd h (by omega)) (fun _ g => ?_) (fun _ g => ?_) (fun _ g => ?_)
    · rw [← nI_m1 k]
      refine l16h ha hb hbz hq (k + 1) l y hl ?_ (fun _ => ⟨y1, y2, y3⟩)
      have g1 : ¬ vm y < vm l := fun hc => by rw [lt_i.mpr hc] at g; cases g
      rw [Nat.pow_succ, Nat.mul_comm (2 ^ k) 2, Nat.mul_left_comm, ← y3]
      have : 0 < vm y := by rw [y3]; exact Nat.mul_pos hbz p2
      omega
    · exact fi_nn (dmul_2 y1 (big (lt_i.mp g))).1
    · obtain ⟨t1, t2, t3⟩ := dmul_2 y1 (big (lt_i.mp g))
      exact ih (k + 1) _ (by omega) t1 (by rw [t2, y2]) (by rw [t3, y3, Nat.pow_succ, Nat.mul_comm (2 ^ k) 2, Nat.mul_left_comm])
theorem c16 (ha : Fi a) (hb : Fi b) (hbz : vm b ≠ 0) (hs : vm a < 2 ^ 1199) (hq : Q (some (.double (FP.drem a b))) w1 (I, D, RR R)) : j_Call d 16 [.double a, .double b] w1 (I, D, RR R) 0 0 Q := by
  have hbz' := Nat.pos_of_ne_zero hbz
  have la : dlt a FP.dconst0 = false → lfI a b a := fun g => by
    refine ⟨ha, ?_, rfl⟩
    by_cases hz : vm a = 0
    · exact Or.inl ⟨hz, rfl⟩
    · refine Or.inr ⟨hz, ?_⟩
      cases hs : vs a with
      | false => rfl
      | true =>
        have := (dlt_iff ha fi_0).mpr (by rw [vz_0, vz_neg hs]; omega)
        rw [this] at g; cases g
  have lb : dlt a FP.dconst0 = true → lfI a b (FP.dneg a) := fun g => by
    have g2 := (dlt_iff ha fi_0).mp g
    rw [vz_0] at g2
    have hs : vs a = true := by
      cases hs : vs a with
      | true => rfl
      | false => rw [vz_pos hs] at g2; omega
    have hz : vm a ≠ 0 := by rw [vz_neg hs] at g2; omega
    obtain ⟨d1, d2, d3⟩ := dneg_fi ha
    exact ⟨d1, Or.inr ⟨hz, by rw [d2, hs]; rfl⟩, by rw [d3]⟩
  have ba : dlt b FP.dconst0 = false → vs b = false := fun g => by
    cases hs : vs b with
    | false => rfl
    | true =>
      have := (dlt_iff hb fi_0).mpr (by rw [vz_0, vz_neg hs]; omega)
      rw [this] at g; cases g
  have bb : dlt b FP.dconst0 = true → Fi (FP.dneg b) ∧ vs (FP.dneg b) = false ∧ vm (FP.dneg b) = vm b := fun g => by
    have g2 := (dlt_iff hb fi_0).mp g
    rw [vz_0] at g2
    have hs : vs b = true := by
      cases hs : vs b with
      | true => rfl
      | false => rw [vz_pos hs] at g2; omega
    obtain ⟨d1, d2, d3⟩ := dneg_fi hb
    exact ⟨d1, by rw [d2, hs]; rfl, d3⟩
  have hs2 : vm (FP.dneg a) < 2 ^ 1199 := by rw [(dneg_fi ha).2.2]; exact hs
  refine s16e (Nat.zero_le _) (fun g1 g2 => ?_) (fun g1 g2 => ?_) (fun g1 g2 => ?_) (fun g1 g2 => ?_)
  · exact l16d ha hb hbz' hq (la g1) hs 1200 0 b rfl hb (ba g2) (by rw [Nat.pow_zero, Nat.mul_one])
  · obtain ⟨t1, t2, t3⟩ := bb g2
    exact l16d ha hb hbz' hq (la g1) hs 1200 0 _ rfl t1 t2 (by rw [t3, Nat.pow_zero, Nat.mul_one])
  · exact l16d ha hb hbz' hq (lb g1) hs2 1200 0 b rfl hb (ba g2) (by rw [Nat.pow_zero, Nat.mul_one])
  · obtain ⟨t1, t2, t3⟩ := bb g2
    exact l16d ha hb hbz' hq (lb g1) hs2 1200 0 _ rfl t1 t2 (by rw [t3, Nat.pow_zero, Nat.mul_one])
end LF
