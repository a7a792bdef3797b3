/-! the reference: words, digits, numbers -/
theorem j_wStr {p : Program} {l : Launch} {e : Env} {R : Room} {s : State} {m : MethodId} {args : Array Value} {below : List Frame} {meth : Method} {c : Code} {T : State} {locs : List Loc} {cells slots : Nat} (X : Stand p l e R s m args below meth c T locs cells slots) (hx : p.tables.exec = Jvm.exec) {own text : String} {idx : Nat} {a : Addr} (ho : s.vm.findClass own = some m.cls)
    {A : Array Value} (h1 : (Cond.stringRef own idx text).before A s = true) (h2 : (Term.string own idx).eval A s none [] s = some (.ref a)) {g : JFrame} (hg : g.method = m) (hd : decode c.code g.pc = .ok (.ldc_w idx, 3)) (t : State) (ht : Steps p.tables e below (T.setTop { g with pc := g.pc + 3, stack := .ref a :: g.stack }) t) : Steps p.tables e below (T.setTop g) t := by
  obtain ⟨k0, cf, j0, a0, q1, q2, q3, -, q4, q5⟩ := Cond.stringRef_spec ho h1
  have q6 := h2.symm.trans q5
  cases q6
  obtain ⟨k1, r1, r2⟩ := X.warmed.alike.2.2 _ _ q1
  have r3 : k1.resolved[idx]? = some (some (.string a)) := by
    rcases X.warmed.entry q1 r1 idx with r | ⟨r, -⟩
    · rw [r]; exact q4
    · rw [q4] at r; cases r
  subst hg
  jvm_step X.here [hx, hd, ldc_w.wp_string (e := e) (s := T) (f := g) X.here.top r1 (by rw [r2]; exact q2) q3 r3]
  exact ht
section RC2
variable {i d mc ms k n pc : Nat} {L : List (Option Value)} {st : List Value} {w : j_Wd} {τ : j_St} {Q : j_Po}
theorem q_ldcwS {idx q : Nat} (hd : j_At i pc (.ldc_w idx) 3) (hq : q < 9) (hm : (j_own i, idx, q) ∈ j_strs) (kk : j_W i d mc ms k n (pc + 3) L (.ref (1000000 + 2 * q) :: st) w τ Q) : j_W i d mc ms k n pc L st w τ Q := by
  intro l g p e s m args below meth c C H locs ls hR hS hL
  have h := kk l g p e s m args below meth c C H locs ls hR hS hL
  simp only [List.map_cons] at h
  rw [j_cv_tx (by omega)] at h
  obtain ⟨hZ1, hZ2⟩ := C.2.2.2.2.2.2.2.2.2.1.2.2.2.2.2 _ hm
  intro T hT X
  obtain ⟨t, a1, b1⟩ := h T hT X
  exact ⟨t, j_wStr X C.1 C.own hZ1 hZ2 (g := F0 m pc ls (List.map (j_cv g) st)) rfl (by rw [C.2.1]; exact hd) t a1, b1⟩
end RC2
set_option maxRecDepth 10000 in
set_option maxHeartbeats 4000000 in
theorem s214 {d : Nat} {I : Nat → Nat → Int32} {D : Nat → Nat → UInt64} {R : Nat → Nat → Option Nat} {Q : j_Po}  {T : Nat → Nat} {n b e : Nat} (hT : TR T n I) (hb : I 260 40 = nI b) (he : I 260 39 = nI e) (hbe : b ≤ e) (hen : e ≤ n) (hd : 5 ≤ d)
    (v1 : TR T n I)
    (v2 : I 260 40 = nI b)
    (v3 : I 260 39 = nI e)
    (v4 : b ≤ e)
    (v5 : e ≤ n)
    (v6 : 4 ≤ 4)
    (v7 : (WM T b e 3) → Q (some (.int 0)) w1 (I, D, RR R))
    (v8 : (¬ WM T b e 3) → (WM T b e 4) → Q (some (.int 1)) w1 (I, D, RR R))
    (v9 : (¬ WM T b e 3) → (¬ WM T b e 4) → (WM T b e 5) → Q (some (.int 2)) w1 (I, D, RR R))
    (v10 : (¬ WM T b e 3) → (¬ WM T b e 4) → (¬ WM T b e 5) → (WM T b e 6) → Q (some (.int 3)) w1 (I, D, RR R))
    (v11 : (¬ WM T b e 3) → (¬ WM T b e 4) → (¬ WM T b e 5) → (¬ WM T b e 6) → (WM T b e 7) → Q (some (.int 4)) w1 (I, D, RR R))
    (v12 : (¬ WM T b e 3) → (¬ WM T b e 4) → (¬ WM T b e 5) → (¬ WM T b e 6) → (¬ WM T b e 7) → (WM T b e 0) → Q (some (.int 5)) w1 (I, D, RR R))
    (v13 : (¬ WM T b e 3) → (¬ WM T b e 4) → (¬ WM T b e 5) → (¬ WM T b e 6) → (¬ WM T b e 7) → (¬ WM T b e 0) → (WM T b e 1) → Q (some (.int 6)) w1 (I, D, RR R))
    (v14 : (¬ WM T b e 3) → (¬ WM T b e 4) → (¬ WM T b e 5) → (¬ WM T b e 6) → (¬ WM T b e 7) → (¬ WM T b e 0) → (¬ WM T b e 1) → (WM T b e 2) → Q (some (.int 7)) w1 (I, D, RR R))
    (v15 : (¬ WM T b e 3) → (¬ WM T b e 4) → (¬ WM T b e 5) → (¬ WM T b e 6) → (¬ WM T b e 7) → (¬ WM T b e 0) → (¬ WM T b e 1) → (¬ WM T b e 2) → Q (some (.int (-1))) w1 (I, D, RR R)) : j_Call d 214 [.ref 260] w1 (I, D, RR R) 0 0 Q := by
  refine q_enter (L := [some (.ref 260)]) j_m214 (Nat.le_of_ble_eq_true rfl) rfl ?_
  refine q_aload_n d214_0 rfl ?_
  refine q_ldcwS (q := 3) d214_1 (by decide) (by decide +kernel) ?_
  refine q_invV (o := 260) (ci := 10) (av := [.ref (1000000 + 2 * 3)]) (rest := []) (d' := 4) (mc' := 0) (ms' := 0) d214_4 (cv10_404 214 rfl) rfl (by decide) rfl rfl (by omega) (Nat.le_of_ble_eq_true rfl) (Nat.le_of_ble_eq_true rfl) (lt_w1 rfl) sh260 (Nat.le_refl _) (Nat.le_refl _) ?_
  refine c215 (T := T) (n := n) (b := b) (e := e) (by decide) v1 v2 v3 v4 v5 v6 (fun h1 => ?_) (fun h1 => ?_)
  ·
    show j_W 214 d 0 0 0 0 7 [some (.ref 260)] [.int 1] w1 (I, D, RR R) Q
    refine q_if_eq (tgt := 14) d214_7 rfl (fun h => absurd h (by decide)) (fun _ => ?_)
    refine q_iconst (v := 0) (by decide) d214_10 ?_
    refine q_goto (tgt := 115) d214_11 rfl ?_
    exact q_iret d214_115 rfl (Nat.le_refl _) (Nat.le_refl _) (v7 h1)
  ·
    show j_W 214 d 0 0 0 0 7 [some (.ref 260)] [.int 0] w1 (I, D, RR R) Q
    refine q_if_eq (tgt := 14) d214_7 rfl (fun _ => ?_) (fun h => absurd h (by decide))
    refine q_aload_n d214_14 rfl ?_
    refine q_ldcwS (q := 4) d214_15 (by decide) (by decide +kernel) ?_
    refine q_invV (o := 260) (ci := 10) (av := [.ref (1000000 + 2 * 4)]) (rest := []) (d' := 4) (mc' := 0) (ms' := 0) d214_18 (cv10_404 214 rfl) rfl (by decide) rfl rfl (by omega) (Nat.le_of_ble_eq_true rfl) (Nat.le_of_ble_eq_true rfl) (lt_w1 rfl) sh260 (Nat.le_refl _) (Nat.le_refl _) ?_
    refine c215 (T := T) (n := n) (b := b) (e := e) (by decide) v1 v2 v3 v4 v5 v6 (fun h2 => ?_) (fun h2 => ?_)
    ·
      show j_W 214 d 0 0 0 0 21 [some (.ref 260)] [.int 1] w1 (I, D, RR R) Q
      refine q_if_eq (tgt := 28) d214_21 rfl (fun h => absurd h (by decide)) (fun _ => ?_)
      refine q_iconst (v := 1) (by decide) d214_24 ?_
      refine q_goto (tgt := 115) d214_25 rfl ?_
      exact q_iret d214_115 rfl (Nat.le_refl _) (Nat.le_refl _) (v8 h1 h2)
    ·
      show j_W 214 d 0 0 0 0 21 [some (.ref 260)] [.int 0] w1 (I, D, RR R) Q
      refine q_if_eq (tgt := 28) d214_21 rfl (fun _ => ?_) (fun h => absurd h (by decide))
      refine q_aload_n d214_28 rfl ?_
      refine q_ldcwS (q := 5) d214_29 (by decide) (by decide +kernel) ?_
      refine q_invV (o := 260) (ci := 10) (av := [.ref (1000000 + 2 * 5)]) (rest := []) (d' := 4) (mc' := 0) (ms' := 0) d214_32 (cv10_404 214 rfl) rfl (by decide) rfl rfl (by omega) (Nat.le_of_ble_eq_true rfl) (Nat.le_of_ble_eq_true rfl) (lt_w1 rfl) sh260 (Nat.le_refl _) (Nat.le_refl _) ?_
      refine c215 (T := T) (n := n) (b := b) (e := e) (by decide) v1 v2 v3 v4 v5 v6 (fun h3 => ?_) (fun h3 => ?_)
      ·
        show j_W 214 d 0 0 0 0 35 [some (.ref 260)] [.int 1] w1 (I, D, RR R) Q
        refine q_if_eq (tgt := 42) d214_35 rfl (fun h => absurd h (by decide)) (fun _ => ?_)
        refine q_iconst (v := 2) (by decide) d214_38 ?_
        refine q_goto (tgt := 115) d214_39 rfl ?_
        exact q_iret d214_115 rfl (Nat.le_refl _) (Nat.le_refl _) (v9 h1 h2 h3)
      ·
        show j_W 214 d 0 0 0 0 35 [some (.ref 260)] [.int 0] w1 (I, D, RR R) Q
        refine q_if_eq (tgt := 42) d214_35 rfl (fun _ => ?_) (fun h => absurd h (by decide))
        refine q_aload_n d214_42 rfl ?_
        refine q_ldcwS (q := 6) d214_43 (by decide) (by decide +kernel) ?_
        refine q_invV (o := 260) (ci := 10) (av := [.ref (1000000 + 2 * 6)]) (rest := []) (d' := 4) (mc' := 0) (ms' := 0) d214_46 (cv10_404 214 rfl) rfl (by decide) rfl rfl (by omega) (Nat.le_of_ble_eq_true rfl) (Nat.le_of_ble_eq_true rfl) (lt_w1 rfl) sh260 (Nat.le_refl _) (Nat.le_refl _) ?_
        refine c215 (T := T) (n := n) (b := b) (e := e) (by decide) v1 v2 v3 v4 v5 v6 (fun h4 => ?_) (fun h4 => ?_)
        ·
          show j_W 214 d 0 0 0 0 49 [some (.ref 260)] [.int 1] w1 (I, D, RR R) Q
          refine q_if_eq (tgt := 56) d214_49 rfl (fun h => absurd h (by decide)) (fun _ => ?_)
          refine q_iconst (v := 3) (by decide) d214_52 ?_
          refine q_goto (tgt := 115) d214_53 rfl ?_
          exact q_iret d214_115 rfl (Nat.le_refl _) (Nat.le_refl _) (v10 h1 h2 h3 h4)
        ·
          show j_W 214 d 0 0 0 0 49 [some (.ref 260)] [.int 0] w1 (I, D, RR R) Q
          refine q_if_eq (tgt := 56) d214_49 rfl (fun _ => ?_) (fun h => absurd h (by decide))
          refine q_aload_n d214_56 rfl ?_
          refine q_ldcwS (q := 7) d214_57 (by decide) (by decide +kernel) ?_
          refine q_invV (o := 260) (ci := 10) (av := [.ref (1000000 + 2 * 7)]) (rest := []) (d' := 4) (mc' := 0) (ms' := 0) d214_60 (cv10_404 214 rfl) rfl (by decide) rfl rfl (by omega) (Nat.le_of_ble_eq_true rfl) (Nat.le_of_ble_eq_true rfl) (lt_w1 rfl) sh260 (Nat.le_refl _) (Nat.le_refl _) ?_
          refine c215 (T := T) (n := n) (b := b) (e := e) (by decide) v1 v2 v3 v4 v5 v6 (fun h5 => ?_) (fun h5 => ?_)
          ·
            show j_W 214 d 0 0 0 0 63 [some (.ref 260)] [.int 1] w1 (I, D, RR R) Q
            refine q_if_eq (tgt := 70) d214_63 rfl (fun h => absurd h (by decide)) (fun _ => ?_)
            refine q_iconst (v := 4) (by decide) d214_66 ?_
            refine q_goto (tgt := 115) d214_67 rfl ?_
            exact q_iret d214_115 rfl (Nat.le_refl _) (Nat.le_refl _) (v11 h1 h2 h3 h4 h5)
          ·
            show j_W 214 d 0 0 0 0 63 [some (.ref 260)] [.int 0] w1 (I, D, RR R) Q
            refine q_if_eq (tgt := 70) d214_63 rfl (fun _ => ?_) (fun h => absurd h (by decide))
            refine q_aload_n d214_70 rfl ?_
            refine q_ldcwS (q := 0) d214_71 (by decide) (by decide +kernel) ?_
            refine q_invV (o := 260) (ci := 10) (av := [.ref (1000000 + 2 * 0)]) (rest := []) (d' := 4) (mc' := 0) (ms' := 0) d214_74 (cv10_404 214 rfl) rfl (by decide) rfl rfl (by omega) (Nat.le_of_ble_eq_true rfl) (Nat.le_of_ble_eq_true rfl) (lt_w1 rfl) sh260 (Nat.le_refl _) (Nat.le_refl _) ?_
            refine c215 (T := T) (n := n) (b := b) (e := e) (by decide) v1 v2 v3 v4 v5 v6 (fun h6 => ?_) (fun h6 => ?_)
            ·
              show j_W 214 d 0 0 0 0 77 [some (.ref 260)] [.int 1] w1 (I, D, RR R) Q
              refine q_if_eq (tgt := 84) d214_77 rfl (fun h => absurd h (by decide)) (fun _ => ?_)
              refine q_iconst (v := 5) (by decide) d214_80 ?_
              refine q_goto (tgt := 115) d214_81 rfl ?_
              exact q_iret d214_115 rfl (Nat.le_refl _) (Nat.le_refl _) (v12 h1 h2 h3 h4 h5 h6)
            ·
              show j_W 214 d 0 0 0 0 77 [some (.ref 260)] [.int 0] w1 (I, D, RR R) Q
              refine q_if_eq (tgt := 84) d214_77 rfl (fun _ => ?_) (fun h => absurd h (by decide))
              refine q_aload_n d214_84 rfl ?_
              refine q_ldcwS (q := 1) d214_85 (by decide) (by decide +kernel) ?_
              refine q_invV (o := 260) (ci := 10) (av := [.ref (1000000 + 2 * 1)]) (rest := []) (d' := 4) (mc' := 0) (ms' := 0) d214_88 (cv10_404 214 rfl) rfl (by decide) rfl rfl (by omega) (Nat.le_of_ble_eq_true rfl) (Nat.le_of_ble_eq_true rfl) (lt_w1 rfl) sh260 (Nat.le_refl _) (Nat.le_refl _) ?_
              refine c215 (T := T) (n := n) (b := b) (e := e) (by decide) v1 v2 v3 v4 v5 v6 (fun h7 => ?_) (fun h7 => ?_)
              ·
                show j_W 214 d 0 0 0 0 91 [some (.ref 260)] [.int 1] w1 (I, D, RR R) Q
                refine q_if_eq (tgt := 99) d214_91 rfl (fun h => absurd h (by decide)) (fun _ => ?_)
                refine q_bipush (v := 6) (by decide) d214_94 ?_
                refine q_goto (tgt := 115) d214_96 rfl ?_
                exact q_iret d214_115 rfl (Nat.le_refl _) (Nat.le_refl _) (v13 h1 h2 h3 h4 h5 h6 h7)
              ·
                show j_W 214 d 0 0 0 0 91 [some (.ref 260)] [.int 0] w1 (I, D, RR R) Q
                refine q_if_eq (tgt := 99) d214_91 rfl (fun _ => ?_) (fun h => absurd h (by decide))
                refine q_aload_n d214_99 rfl ?_
                refine q_ldcwS (q := 2) d214_100 (by decide) (by decide +kernel) ?_
                refine q_invV (o := 260) (ci := 10) (av := [.ref (1000000 + 2 * 2)]) (rest := []) (d' := 4) (mc' := 0) (ms' := 0) d214_103 (cv10_404 214 rfl) rfl (by decide) rfl rfl (by omega) (Nat.le_of_ble_eq_true rfl) (Nat.le_of_ble_eq_true rfl) (lt_w1 rfl) sh260 (Nat.le_refl _) (Nat.le_refl _) ?_
                refine c215 (T := T) (n := n) (b := b) (e := e) (by decide) v1 v2 v3 v4 v5 v6 (fun h8 => ?_) (fun h8 => ?_)
                ·
                  show j_W 214 d 0 0 0 0 106 [some (.ref 260)] [.int 1] w1 (I, D, RR R) Q
                  refine q_if_eq (tgt := 114) d214_106 rfl (fun h => absurd h (by decide)) (fun _ => ?_)
                  refine q_bipush (v := 7) (by decide) d214_109 ?_
                  refine q_goto (tgt := 115) d214_111 rfl ?_
                  exact q_iret d214_115 rfl (Nat.le_refl _) (Nat.le_refl _) (v14 h1 h2 h3 h4 h5 h6 h7 h8)
                ·
                  show j_W 214 d 0 0 0 0 106 [some (.ref 260)] [.int 0] w1 (I, D, RR R) Q
                  refine q_if_eq (tgt := 114) d214_106 rfl (fun _ => ?_) (fun h => absurd h (by decide))
                  refine q_iconst (v := (-1)) (by decide) d214_114 ?_
                  exact q_iret d214_115 rfl (Nat.le_refl _) (Nat.le_refl _) (v15 h1 h2 h3 h4 h5 h6 h7 h8)

def rwd (q : Nat) : Nat := if q < 3 then q + 5 else q - 3
section RW
variable {d : Nat} {I : Nat → Nat → Int32} {D : Nat → Nat → UInt64} {R : Nat → Nat → Option Nat} {Q : j_Po} {T : Nat → Nat} {n b e p : Nat}
theorem c214 (hT : TR T n I) (hb : I 260 40 = nI b) (he : I 260 39 = nI e) (hbe : b ≤ e) (hen : e ≤ n) (hd : 5 ≤ d) (h1 : ∀ q, q < 8 → WM T b e q → Q (some (.int (nI (rwd q)))) w1 (I, D, RR R)) (h0 : (∀ q, q < 8 → ¬ WM T b e q) → Q (some (.int (-1))) w1 (I, D, RR R)) : j_Call d 214 [.ref 260] w1 (I, D, RR R) 0 0 Q :=
  s214 hT hb he hbe hen hd (hT) (hb) (he) (hbe) (hen) (Nat.le_refl _) (fun y1 => h1 3 (by decide) y1) (fun y1 y2 => h1 4 (by decide) y2) (fun y1 y2 y3 => h1 5 (by decide) y3) (fun y1 y2 y3 y4 => h1 6 (by decide) y4) (fun y1 y2 y3 y4 y5 => h1 7 (by decide) y5) (fun y1 y2 y3 y4 y5 y6 => h1 0 (by decide) y6) (fun y1 y2 y3 y4 y5 y6 y7 => h1 1 (by decide) y7) (fun y1 y2 y3 y4 y5 y6 y7 y8 => h1 2 (by decide) y8) (fun y1 y2 y3 y4 y5 y6 y7 y8 => h0 (fun q hq8 => by have h8 : q = 0 ∨ q = 1 ∨ q = 2 ∨ q = 3 ∨ q = 4 ∨ q = 5 ∨ q = 6 ∨ q = 7 := (by omega); rcases h8 with rfl | rfl | rfl | rfl | rfl | rfl | rfl | rfl <;> assumption))
theorem c168m {lo hi : Nat} (hl : lo < 256) (hh : hi < 256) (hlo : 0 < lo) (hq : Q (some (.int 0)) w1 (I, D, RR R)) : j_Call d 168 [.int (-1), .int (nI lo), .int (nI hi)] w1 (I, D, RR R) 0 0 Q :=
  p168 (fun h => absurd (by rw [Int32.lt_iff_toInt_lt, nI_toInt (by omega)]; show (-1 : Int) < _; omega) h.1) (fun _ => hq)
end RW
set_option maxRecDepth 10000 in
set_option maxHeartbeats 4000000 in
theorem s216n {d : Nat} {I : Nat → Nat → Int32} {D : Nat → Nat → UInt64} {R : Nat → Nat → Option Nat} {Q : j_Po}  {T : Nat → Nat} {n p : Nat} (hT : TR T n I) (hp : I 260 39 = nI p) (hpn : p ≤ n) (hn9 : n ≤ 96) (hd : 1 ≤ d)
    (v1 : TR T n I)
    (v2 : p < 200)
    (v3 : (p < n) → (T p) < 256)
    (v4 : (p < n) → (isDg (T p)) → Q (some (.int 1)) w1 (I, D, RR R))
    (v5 : (p < n) → (¬ isDg (T p)) → Q (some (.int 0)) w1 (I, D, RR R))
    (v6 : (¬ p < n) → Q (some (.int 0)) w1 (I, D, RR R)) : j_Call d 216 [.ref 260] w1 (I, D, RR R) 0 0 Q := by
  refine q_enter (L := [some (.ref 260)]) j_m216 (Nat.le_of_ble_eq_true rfl) rfl ?_
  refine q_aload_n d216_0 rfl ?_
  refine q_aload_n d216_1 rfl ?_
  refine q_getI d216_2 (fs10_351 216 rfl) rfl (lt_w1 rfl) sh260 ?_
  refine r_int (y := (nI p)) (show I 260 39 = (nI p) from hp) ?_
  refine q_invV (o := 260) (ci := 10) (av := [.int (nI p)]) (rest := []) (d' := 0) (mc' := 0) (ms' := 0) d216_5 (cv10_354 216 rfl) rfl (by decide) rfl rfl (by omega) (Nat.le_of_ble_eq_true rfl) (Nat.le_of_ble_eq_true rfl) (lt_w1 rfl) sh260 (Nat.le_refl _) (Nat.le_refl _) ?_
  refine c213 (T := T) (n := n) v1 v2 (fun h1 => ?_) (fun h1 => ?_)
  ·
    show j_W 216 d 0 0 0 0 8 [some (.ref 260)] [.int (nI (T p))] w1 (I, D, RR R) Q
    refine q_bipush (v := 48) (by decide) d216_8 ?_
    refine q_bipush (v := 57) (by decide) d216_10 ?_
    refine q_invS (av := [.int (nI (T p)), .int 48, .int 57]) (rest := []) (d' := 0) (mc' := 0) (ms' := 0) d216_12 (cv10_183 216 rfl) rfl rfl (by omega) (Nat.le_of_ble_eq_true rfl) (Nat.le_of_ble_eq_true rfl) (Nat.le_refl _) (Nat.le_refl _) ?_
    refine c168n (lo := 48) (hi := 57) (by decide) (by decide) (v3 h1) (fun h2 => ?_) (fun h2 => ?_)
    ·
      show j_W 216 d 0 0 0 0 15 [some (.ref 260)] [.int 1] w1 (I, D, RR R) Q
      exact q_zret d216_15 rfl (Or.inr rfl) (Nat.le_refl _) (Nat.le_refl _) (v4 h1 h2)
    ·
      show j_W 216 d 0 0 0 0 15 [some (.ref 260)] [.int 0] w1 (I, D, RR R) Q
      exact q_zret d216_15 rfl (Or.inl rfl) (Nat.le_refl _) (Nat.le_refl _) (v5 h1 h2)
  ·
    show j_W 216 d 0 0 0 0 8 [some (.ref 260)] [.int (-1)] w1 (I, D, RR R) Q
    refine q_bipush (v := 48) (by decide) d216_8 ?_
    refine q_bipush (v := 57) (by decide) d216_10 ?_
    refine q_invS (av := [.int (-1), .int 48, .int 57]) (rest := []) (d' := 0) (mc' := 0) (ms' := 0) d216_12 (cv10_183 216 rfl) rfl rfl (by omega) (Nat.le_of_ble_eq_true rfl) (Nat.le_of_ble_eq_true rfl) (Nat.le_refl _) (Nat.le_refl _) ?_
    refine c168m (lo := 48) (hi := 57) (by decide) (by decide) (by decide)  ?_
    show j_W 216 d 0 0 0 0 15 [some (.ref 260)] [.int 0] w1 (I, D, RR R) Q
    exact q_zret d216_15 rfl (Or.inl rfl) (Nat.le_refl _) (Nat.le_refl _) (v6 h1)

theorem c216 {d : Nat} {I : Nat → Nat → Int32} {D : Nat → Nat → UInt64} {R : Nat → Nat → Option Nat} {Q : j_Po} {T : Nat → Nat} {n p : Nat} (hT : TR T n I) (hp : I 260 39 = nI p) (hpn : p ≤ n) (hd : 1 ≤ d) (h1 : p < n → isDg (T p) → Q (some (.int 1)) w1 (I, D, RR R)) (h0 : ¬ (p < n ∧ isDg (T p)) → Q (some (.int 0)) w1 (I, D, RR R)) : j_Call d 216 [.ref 260] w1 (I, D, RR R) 0 0 Q :=
  have hn9 := hT.1
  s216n hT hp hpn hn9 hd hT (by omega) (fun h => (hT.2.2 p h).1) (fun h g => h1 h g) (fun _ g => h0 (fun h2 => g h2.2)) (fun g => h0 (fun h2 => g h2.1))
