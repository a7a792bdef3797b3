/-! returns, entry, calls -/
section JRET
variable {i d mc ms k n pc : Nat} {L : List (Option Value)} {st : List Value} {w : j_Wd} {τ : j_St} {Q : j_Po}
theorem j_back {g : j_G} {s t : State} {H : Heap} {locs : List Loc} {args : Array Value} {r : Option Value} (hK : j_K g s) (hR : j_Rep g w τ H) (hS : va_S (j_A g) s.heap H locs) (hq : Q r w τ) (ht : t.heap = H) (hW : s.WarmedH t.vm) : j_Q g Q args s (.returned (r.map (j_cv g))) t :=
  ⟨r, w, τ, rfl, hq, ⟨by rw [ht]; exact hR, hK.to hW (by rw [ht]; exact hS)⟩, hS.F ht⟩
theorem q_iret {v : Int32} (hd : j_At i pc .ireturn 1) (hr : j_rt i = some .int) (hk : k ≤ mc) (hn : n ≤ ms) (hq : Q (some (.int v)) w τ) : j_W i d mc ms k n pc L [.int v] w τ Q := fun l g p e s m args below meth c C H locs ls hR hS hL =>
  W.widen hk hn (W.iret C.1 C.2.1 (C.2.2.2.1.trans hr) (fun t ht hW => j_back (r := some (.int v)) C.2.2.2.2.2.2.2.2 hR hS hq ht hW) hS.2.2 hd C.2.2.2.2.2.2.1)
theorem q_zret {v : Int32} (hd : j_At i pc .ireturn 1) (hr : j_rt i = some .boolean) (hv : v = 0 ∨ v = 1) (hk : k ≤ mc) (hn : n ≤ ms) (hq : Q (some (.int v)) w τ) : j_W i d mc ms k n pc L [.int v] w τ Q := fun l g p e s m args below meth c C H locs ls hR hS hL =>
  W.widen hk hn (W.zret C.1 C.2.1 (C.2.2.2.1.trans hr) (by rcases hv with rfl | rfl <;> rfl) (fun t ht hW => j_back (r := some (.int v)) C.2.2.2.2.2.2.2.2 hR hS hq ht hW) hS.2.2 hd C.2.2.2.2.2.2.1)
theorem q_bret {v : Int32} (hd : j_At i pc .ireturn 1) {ty : FieldType} (hr : j_rt i = some ty) (hv : narrow ty (.int v) = .int v) (hk : k ≤ mc) (hn : n ≤ ms) (hq : Q (some (.int v)) w τ) : j_W i d mc ms k n pc L [.int v] w τ Q := fun l g p e s m args below meth c C H locs ls hR hS hL =>
  W.widen hk hn (W.zret C.1 C.2.1 (C.2.2.2.1.trans hr) hv (fun t ht hW => j_back (r := some (.int v)) C.2.2.2.2.2.2.2.2 hR hS hq ht hW) hS.2.2 hd C.2.2.2.2.2.2.1)
theorem q_lret {v : Int64} (hd : j_At i pc .lreturn 1) (hr : j_rt i = some .long) (hk : k ≤ mc) (hn : n ≤ ms) (hq : Q (some (.long v)) w τ) : j_W i d mc ms k n pc L [.long v] w τ Q := fun l g p e s m args below meth c C H locs ls hR hS hL =>
  W.widen hk hn (W.lret C.1 C.2.1 (C.2.2.2.1.trans hr) (fun t ht hW => j_back (r := some (.long v)) C.2.2.2.2.2.2.2.2 hR hS hq ht hW) hS.2.2 hd C.2.2.2.2.2.2.1)
theorem q_dret {v : UInt64} (hd : j_At i pc .dreturn 1) (hr : j_rt i = some .double) (hk : k ≤ mc) (hn : n ≤ ms) (hq : Q (some (.double v)) w τ) : j_W i d mc ms k n pc L [.double v] w τ Q := fun l g p e s m args below meth c C H locs ls hR hS hL =>
  W.widen hk hn (W.dret C.1 C.2.1 (C.2.2.2.1.trans hr) (fun t ht hW => j_back (r := some (.double v)) C.2.2.2.2.2.2.2.2 hR hS hq ht hW) hS.2.2 hd C.2.2.2.2.2.2.1)
theorem q_ret (hd : j_At i pc .return_ 1) (hr : j_rt i = none) (hk : k ≤ mc) (hn : n ≤ ms) (hq : Q none w τ) : j_W i d mc ms k n pc L [] w τ Q := fun l g p e s m args below meth c C H locs ls hR hS hL =>
  W.widen hk hn (W.vret C.1 C.2.1 (C.2.2.2.1.trans hr) (fun t ht hW => j_back (r := none) C.2.2.2.2.2.2.2.2 hR hS hq ht hW) hS.2.2 hd C.2.2.2.2.2.2.1)
theorem q_aret {o : Nat} {C0 : String} (hd : j_At i pc .areturn 1) (hr : j_rt i = some (.object C0)) (ho : o < 1000000) (hk : k ≤ mc) (hn : n ≤ ms) (hq : Q (some (.ref o)) w τ) : j_W i d mc ms k n pc L [.ref o] w τ Q := fun l g p e s m args below meth c C H locs ls hR hS hL =>
  W.widen hk hn (W.aret C.1 C.2.1 (C.2.2.2.1.trans hr) (Or.inl ⟨_, rfl⟩) (Or.inr ⟨j_ad g o, j_cv_r ho⟩) (fun t ht hW => j_back (r := some (.ref o)) C.2.2.2.2.2.2.2.2 hR hS hq ht hW) hS.2.2 hd C.2.2.2.2.2.2.1)
end JRET
/-- the locals at the entry -/
def j_ent : List Value → List (Option Value)
  | [] => []
  | v :: vs => if v.category = 2 then some v :: none :: j_ent vs else some v :: j_ent vs
def j_enL (n : Nat) (av : List Value) : List (Option Value) := j_ent av ++ List.replicate (n - (j_ent av).length) none
theorem j_pr_none (g : j_G) : ∀ (m k : Nat), j_pr g k (List.replicate m none) = []
  | 0, _ => rfl
  | m + 1, k => by rw [List.replicate_succ, j_pr, j_pr_none g m (k + 1)]
theorem j_pr_ent (g : j_G) (m : Nat) : ∀ (av : List Value) (k : Nat), j_pr g k (j_ent av ++ List.replicate m none) = lv_args k (av.map (j_cv g))
  | [], k => by simp [j_ent, lv_args, j_pr_none]
  | v :: av, k => by
    rw [List.map_cons, lv_args, j_cv_cat, j_ent]
    by_cases h : v.category = 2
    · rw [if_pos h, if_pos h, List.cons_append, List.cons_append, j_pr, j_pr, j_pr_ent g m av (k + 1 + 1)]
    · rw [if_neg h, if_neg h, List.cons_append, j_pr, j_pr_ent g m av (k + 1)]
theorem j_ent_len (g : j_G) : ∀ (av : List Value), (lg_sl (av.map (j_cv g))).length = (j_ent av).length
  | [] => rfl
  | v :: av => by
    have ih := j_ent_len g av
    unfold lg_sl at ih ⊢
    rw [List.map_cons, List.flatMap_cons, List.length_append, ih, j_cv_cat, j_ent]
    by_cases h : v.category = 2
    · rw [if_pos h, if_pos h]; simp; omega
    · rw [if_neg h, if_neg h]; simp; omega
theorem q_enter {i d mc ms : Nat} {av : List Value} {L : List (Option Value)} {w : j_Wd} {τ : j_St} {Q : j_Po} (hm : j_MM i) (hn : (j_ent av).length ≤ j_ml i) (hL : j_enL (j_ml i) av = L) (kk : j_W i d mc ms 0 0 0 L [] w τ Q) : j_Call d i av w τ mc ms Q := by
  intro l g
  refine va_MetF (cc := j_b i) (maxL := j_ml i) (ret := j_rt i) hm.2.1 rfl ?_
  intro p e s m args below meth c s₁ B hml hv
  obtain ⟨rfl, hR, hK⟩ := hv
  have C : j_C i g p s m ((av.map (j_cv g)).toArray) meth c := ⟨B.exec, B.bytes, hml, B.returns, findClass_of_methodNamed B.named, atoms_spec (ws := j_ws i) B.pre, B.notSynchronized, (name_of_methodNamed B.named B.method).1, hK⟩
  rw [lg_entry_eq]
  have hl := lv_entry (av.map (j_cv g)) (n := j_ml i) (by rw [j_ent_len]; exact hn)
  refine kk l g p e s m _ below meth c C s.heap [] _ hR va_S.rf ⟨?_, hl.1, hl.2.1, ?_⟩
  · subst hL
    unfold j_enL
    rw [List.length_append, List.length_replicate]
    omega
  · subst hL
    unfold j_enL
    rw [j_pr_ent]
    exact hl.2.2
theorem j_Call.mono {d i mc ms : Nat} {av : List Value} {w : j_Wd} {τ : j_St} {Q Q' : j_Po} (h : j_Call d i av w τ mc ms Q) (hq : ∀ r w τ, Q r w τ → Q' r w τ) : j_Call d i av w τ mc ms Q' := by
  intro l g p e ha hc hk s m args below hf happ hP hK
  obtain ⟨t, o, h1, h2, h3, ⟨⟨r, w1, τ1, h4, h5, h6⟩, h7⟩⟩ := h l g p e ha hc hk s m args below hf happ hP hK
  exact ⟨t, o, h1, h2, h3, ⟨⟨r, w1, τ1, h4, hq _ _ _ h5, h6⟩, h7⟩⟩
section JCALL
variable {i d mc ms k n pc : Nat} {L : List (Option Value)} {st : List Value} {w : j_Wd} {τ : j_St} {Q : j_Po}
theorem j_after {l : Launch} {g : j_G} {p : Program} {e : Env} {s : State} {m : MethodId} {args : Array Value} {below : List Frame} {meth : Method} {c : Code} {H : Heap} {locs : List Loc} {ls : Array Slot} {mc' ms' : Nat} {st0 rest : List Value} {a : Array Value}
    (C : j_C i g p s m args meth c) (hR : j_Rep g w τ H) (hS : va_S (j_A g) s.heap H locs) (hL : j_L g ls (j_ml i) L)
    (hr : va_Run p l e (j_rm d mc ms) s m args below meth c H locs k n mc' ms' (F0 m pc ls st0) (rest.map (j_cv g)) (j_Q g (fun r w' τ' => j_W i d mc ms (k + mc') (n + ms') (pc + 3) L (r.toList ++ rest) w' τ' Q) a) (j_A g)) :
    W p l e (j_rm d mc ms) s m args below meth c H locs k n (MQ below (j_Q g Q) args s mc ms (j_A g)) (F0 m pc ls st0) := by
  intro T hT X
  obtain ⟨v, st₀, t, T', L1, h0, X', hL1, e1, e2, ⟨r, w', τ', hv, hq, ⟨hR', hK'⟩, hz, hk⟩, st⟩ := hr T hT X
  have hv' : v = r.map (j_cv g) := Outcome.returned.inj hv
  subst hv'
  rw [h0] at hz hk
  have hS' : va_S (j_A g) s.heap t.heap (locs ++ L1) := ⟨Nat.le_trans hS.1 hz, fun q h1 h2 => by rw [hk q (Nat.lt_of_lt_of_le h1 hS.1) h2]; exact hS.2.1 q h1 h2, fun q hq => by
      rcases List.mem_append.mp hq with h | h
      · exact hS.2.2 q h
      · exact hL1 q h⟩
  have key := hq l g p e s m args below meth c C t.heap (locs ++ L1) ls hR' hS' hL T' e1 X'
  obtain ⟨t2, a1, b1⟩ := key
  refine ⟨t2, st t2 ?_, b1⟩
  have ee : (r.map (j_cv g)).toList ++ rest.map (j_cv g) = (r.toList ++ rest).map (j_cv g) := by cases r <;> simp
  rw [ee]
  exact a1
/-- the words of a call -/
def j_CV (i idx j na : Nat) : Prop := Cond.methodLink (j_own i) idx (j_y j) ∈ lw_tbl ∧ Cond.instanceMethod (j_y j) ∈ lw_tbl ∧ Cond.selects (j_own j) (j_y j) (j_y j) ∈ lw_tbl ∧ Cond.initialized (j_own j) ∈ lw_tbl ∧ j_MM j ∧ (parseMethodDescriptor (j_y j).desc).map (fun d => d.parameters.length) = some na
def j_CS (i idx j na : Nat) : Prop := Cond.methodLink (j_own i) idx (j_y j) ∈ lw_tbl ∧ Cond.static (j_y j) ∈ lw_tbl ∧ Cond.initialized (j_own j) ∈ lw_tbl ∧ j_MM j ∧ (parseMethodDescriptor (j_y j).desc).map (fun d => d.parameters.length) = some na
def j_CI (i idx j na : Nat) : Prop := Cond.methodLink (j_own i) idx (j_y j) ∈ lw_tbl ∧ Cond.instanceMethod (j_y j) ∈ lw_tbl ∧ Cond.initialized (j_own j) ∈ lw_tbl ∧ j_MM j ∧ (parseMethodDescriptor (j_y j).desc).map (fun d => d.parameters.length) = some na ∧ (j_y j).name = "<init>" ∧ j_rt j = none
/-- those of a call of a nest mate's private method -/
def j_NV (i idx j na : Nat) : Prop := (∃ host, Cond.methodLinkNest (j_own i) idx (j_y j) host ∈ j_nw) ∧ Cond.instanceMethod (j_y j) ∈ lw_tbl ∧ Cond.selects (j_own j) (j_y j) (j_y j) ∈ lw_tbl ∧ Cond.initialized (j_own j) ∈ lw_tbl ∧ j_MM j ∧ (parseMethodDescriptor (j_y j).desc).map (fun d => d.parameters.length) = some na
def j_NS (i idx j na : Nat) : Prop := (∃ host, Cond.methodLinkNest (j_own i) idx (j_y j) host ∈ j_nw) ∧ Cond.static (j_y j) ∈ lw_tbl ∧ Cond.initialized (j_own j) ∈ lw_tbl ∧ j_MM j ∧ (parseMethodDescriptor (j_y j).desc).map (fun d => d.parameters.length) = some na
def j_NI (i idx j na : Nat) : Prop := (∃ host, Cond.methodLinkNest (j_own i) idx (j_y j) host ∈ j_nw) ∧ Cond.instanceMethod (j_y j) ∈ lw_tbl ∧ Cond.initialized (j_own j) ∈ lw_tbl ∧ j_MM j ∧ (parseMethodDescriptor (j_y j).desc).map (fun d => d.parameters.length) = some na ∧ (j_y j).name = "<init>" ∧ j_rt j = none
theorem j_preS {g : j_G} {s : State} {H : Heap} {locs : List Loc} {av : List Value} {p : Program} {m : MethodId} {args : Array Value} {meth : Method} {c : Code} (C : j_C i g p s m args meth c) (hR : j_Rep g w τ H) (hS : va_S (j_A g) s.heap H locs) : PreS s H (j_P g av w τ) (av.map (j_cv g)) :=
  ⟨j_P_blind g av w τ, fun U hU hW => ⟨rfl, by rw [hU]; exact hR, C.2.2.2.2.2.2.2.2.to hW (by rw [hU]; exact hS)⟩⟩
theorem j_recv {g : j_G} {s : State} {H : Heap} {p : Program} {m : MethodId} {args : Array Value} {meth : Method} {c : Code} {o ci z : Nat} (C : j_C i g p s m args meth c) (hR : j_Rep g w τ H) (ho : o < w.1) (hs : w.2 o = (ci, z)) (hci : ci < 11) : ∃ cellB : Cell, H[g.1 + o]? = some cellB ∧ cellB.vm.isStatics = false ∧ s.vm.findClass (j_cn ci) = some cellB.cls := by
  obtain ⟨-, cell, q1, q2, q3, -⟩ := hR.ob ho hs (by omega)
  exact ⟨cell, q1, by rw [q3]; rfl, by rw [q2]; exact (C.2.2.2.2.2.2.2.2.1.1 ci _ (j_cl hci)).2.1⟩
theorem j_fix {g : j_G} {s : State} {p : Program} {m : MethodId} {args : Array Value} {meth : Method} {c : Code} (C : j_C i g p s m args meth c) : CallFix p m c (j_b i) (j_ml i) s args (j_ws i) (j_own i) := ⟨C.1, C.2.1, C.2.2.1, C.2.2.2.2.1, C.2.2.2.2.2.1⟩
theorem j_rm_ok {d d' mc ms mc' ms' ml : Nat} (hd : d' + 1 ≤ d) (hml : ml ≤ 45) : (j_rm d' mc' ms').frames + 1 ≤ (j_rm d mc ms).frames ∧ 8 + (ml + 11) + (j_rm d' mc' ms').locals ≤ (j_rm d mc ms).locals := ⟨hd, by show 8 + (ml + 11) + 64 * d' ≤ 64 * d; omega⟩
theorem j_sumc {g : j_G} {rest : List Value} (h : (rest.map fun v => v.category).sum ≤ 8) {m : MethodId} {ls : Array Slot} {st0 : List Value} : 2 * (F0 m pc ls st0).monitorRoom + ((rest.map (j_cv g)).map fun v => v.category).sum ≤ 8 := by
  rw [j_cats]; exact lv_room h
theorem q_invV {idx j na d' mc' ms' o z ci : Nat} {av rest : List Value} (hd : j_At i pc (.invokevirtual idx) 3) (hc : j_CV i idx j na) (hci : j_own j = j_cn ci) (hci2 : ci < 11) (hst : st = av.reverse ++ .ref o :: rest) (hna : av.length = na) (hdp : d' + 1 ≤ d) (hml : j_ml j ≤ 45) (hrest : (rest.map fun v => v.category).sum ≤ 8) (ho : o < w.1) (hs : w.2 o = (ci, z)) (hmc : k + mc' ≤ mc) (hms : n + ms' ≤ ms)
    (hM : j_Call d' j (.ref o :: av) w τ mc' ms' (fun r w' τ' => j_W i d mc ms (k + mc') (n + ms') (pc + 3) L (r.toList ++ rest) w' τ' Q)) : j_W i d mc ms k n pc L st w τ Q := by
  intro l g p e s m args below meth c C H locs ls hR hS hL
  obtain ⟨h1, h2, h3, h4, h5, h6⟩ := hc
  have cw : CallW (j_rm d mc ms) s args (j_own i) (j_own j) idx (j_y j) (j_b j) (j_ml j) (j_rt j) (j_ws j) (j_rm d' mc' ms') mc' ms' na :=
    ⟨callB_of na C.2.2.2.2.2.1 (j_good h5) rfl rfl rfl (C.wd h4 rfl) (C.wd h1 rfl) ⟨h5.2.2.1, h5.2.2.2, h6⟩ (j_rm_ok hdp hml), C.wd h2 rfl, C.wd h3 rfl⟩
  have hp := j_preS (av := .ref o :: av) C hR hS
  have e1 : (Value.ref o :: av).map (j_cv g) = .ref (g.1 + o) :: av.map (j_cv g) := by rw [List.map_cons, j_cv_ref hR ho]
  rw [e1] at hp
  subst hst
  refine j_after C hR hS hL (rest := rest) (va_runV (As := av.map (j_cv g)) (b := g.1 + o) (j_fix C) (hM l g) cw ⟨hp.1, by rw [hci]; exact j_recv C hR ho hs hci2, hp.2⟩ rfl (by rw [List.length_map]; exact hna) hL.2.1 ?_ (j_sumc hrest) hd ⟨hmc, hms⟩)
  show List.map _ _ = _
  rw [List.map_append, List.map_cons, j_cv_ref hR ho, List.map_reverse]
theorem q_invVN {idx j na d' mc' ms' o z ci : Nat} {av rest : List Value} (hd : j_At i pc (.invokevirtual idx) 3) (hc : j_NV i idx j na) (hci : j_own j = j_cn ci) (hci2 : ci < 11) (hst : st = av.reverse ++ .ref o :: rest) (hna : av.length = na) (hdp : d' + 1 ≤ d) (hml : j_ml j ≤ 45) (hrest : (rest.map fun v => v.category).sum ≤ 8) (ho : o < w.1) (hs : w.2 o = (ci, z)) (hmc : k + mc' ≤ mc) (hms : n + ms' ≤ ms)
    (hM : j_Call d' j (.ref o :: av) w τ mc' ms' (fun r w' τ' => j_W i d mc ms (k + mc') (n + ms') (pc + 3) L (r.toList ++ rest) w' τ' Q)) : j_W i d mc ms k n pc L st w τ Q := by
  intro l g p e s m args below meth c C H locs ls hR hS hL
  obtain ⟨⟨host, h1⟩, h2, h3, h4, h5, h6⟩ := hc
  have cw := va_cnB (R := j_rm d mc ms) (s := s) (args := args) (own := j_own i) (index := idx) (y := j_y j) (bytes := j_b j) (maxL := j_ml j) (ret := j_rt j) (ws := j_ws j) (rm := j_rm d' mc' ms') (mc := mc') (ms := ms') (host := host) na C.2.2.2.2.2.1 (j_good h5) rfl rfl rfl (C.2.2.2.2.2.2.2.2.2.2.1 _ h1) (C.wd h4 rfl) ⟨h5.2.2.1, h5.2.2.2, h6⟩ (j_rm_ok hdp hml)
  have hp := j_preS (av := .ref o :: av) C hR hS
  have e1 : (Value.ref o :: av).map (j_cv g) = .ref (g.1 + o) :: av.map (j_cv g) := by rw [List.map_cons, j_cv_ref hR ho]
  rw [e1] at hp
  subst hst
  refine j_after C hR hS hL (rest := rest) (va_runVN (As := av.map (j_cv g)) (b := g.1 + o) (C := j_own j) (j_fix C) (hM l g) ⟨cw, C.wd h2 rfl, C.wd h3 rfl⟩ ⟨hp.1, by rw [hci]; exact j_recv C hR ho hs hci2, hp.2⟩ rfl (by rw [List.length_map]; exact hna) hL.2.1 ?_ (j_sumc hrest) hd ⟨hmc, hms⟩)
  show List.map _ _ = _
  rw [List.map_append, List.map_cons, j_cv_ref hR ho, List.map_reverse]
theorem q_invS {idx j na d' mc' ms' : Nat} {av rest : List Value} (hd : j_At i pc (.invokestatic idx) 3) (hc : j_CS i idx j na) (hst : st = av.reverse ++ rest) (hna : av.length = na) (hdp : d' + 1 ≤ d) (hml : j_ml j ≤ 45) (hrest : (rest.map fun v => v.category).sum ≤ 8) (hmc : k + mc' ≤ mc) (hms : n + ms' ≤ ms)
    (hM : j_Call d' j av w τ mc' ms' (fun r w' τ' => j_W i d mc ms (k + mc') (n + ms') (pc + 3) L (r.toList ++ rest) w' τ' Q)) : j_W i d mc ms k n pc L st w τ Q := by
  intro l g p e s m args below meth c C H locs ls hR hS hL
  obtain ⟨h1, h2, h4, h5, h6⟩ := hc
  have cw : CallB (j_rm d mc ms) s args (j_own i) idx (j_y j) (j_b j) (j_ml j) (j_rt j) (j_ws j) (j_rm d' mc' ms') mc' ms' na :=
    callB_of na C.2.2.2.2.2.1 (j_good h5) rfl rfl rfl (C.wd h4 rfl) (C.wd h1 rfl) ⟨h5.2.2.1, h5.2.2.2, h6⟩ (j_rm_ok hdp hml)
  subst hst
  refine j_after C hR hS hL (rest := rest) (va_runS (As := av.map (j_cv g)) (j_fix C) (hM l g) ⟨cw, C.wd h2 rfl⟩ (j_preS C hR hS) rfl (by rw [List.length_map]; exact hna) hL.2.1 ?_ (j_sumc hrest) hd ⟨hmc, hms⟩)
  show List.map _ _ = _
  rw [List.map_append, List.map_reverse]
theorem q_invSN {idx j na d' mc' ms' : Nat} {av rest : List Value} (hd : j_At i pc (.invokestatic idx) 3) (hc : j_NS i idx j na) (hst : st = av.reverse ++ rest) (hna : av.length = na) (hdp : d' + 1 ≤ d) (hml : j_ml j ≤ 45) (hrest : (rest.map fun v => v.category).sum ≤ 8) (hmc : k + mc' ≤ mc) (hms : n + ms' ≤ ms)
    (hM : j_Call d' j av w τ mc' ms' (fun r w' τ' => j_W i d mc ms (k + mc') (n + ms') (pc + 3) L (r.toList ++ rest) w' τ' Q)) : j_W i d mc ms k n pc L st w τ Q := by
  intro l g p e s m args below meth c C H locs ls hR hS hL
  obtain ⟨⟨host, h1⟩, h2, h4, h5, h6⟩ := hc
  have cw := va_cnB (R := j_rm d mc ms) (s := s) (args := args) (own := j_own i) (index := idx) (y := j_y j) (bytes := j_b j) (maxL := j_ml j) (ret := j_rt j) (ws := j_ws j) (rm := j_rm d' mc' ms') (mc := mc') (ms := ms') (host := host) na C.2.2.2.2.2.1 (j_good h5) rfl rfl rfl (C.2.2.2.2.2.2.2.2.2.2.1 _ h1) (C.wd h4 rfl) ⟨h5.2.2.1, h5.2.2.2, h6⟩ (j_rm_ok hdp hml)
  subst hst
  refine j_after C hR hS hL (rest := rest) (va_runSN (As := av.map (j_cv g)) (j_fix C) (hM l g) ⟨cw, C.wd h2 rfl, trivial⟩ (j_preS C hR hS) rfl (by rw [List.length_map]; exact hna) hL.2.1 ?_ (j_sumc hrest) hd ⟨hmc, hms⟩)
  show List.map _ _ = _
  rw [List.map_append, List.map_reverse]
theorem q_invI {idx j na d' mc' ms' o : Nat} {av rest : List Value} (hd : j_At i pc (.invokespecial idx) 3) (hc : j_CI i idx j na) (hst : st = av.reverse ++ .ref o :: rest) (hna : av.length = na) (hdp : d' + 1 ≤ d) (hml : j_ml j ≤ 45) (hrest : (rest.map fun v => v.category).sum ≤ 8) (ho : o < w.1) (hmc : k + mc' ≤ mc) (hms : n + ms' ≤ ms)
    (hM : j_Call d' j (.ref o :: av) w τ mc' ms' (fun r w' τ' => j_W i d mc ms (k + mc') (n + ms') (pc + 3) L (r.toList ++ rest) w' τ' Q)) : j_W i d mc ms k n pc L st w τ Q := by
  intro l g p e s m args below meth c C H locs ls hR hS hL
  obtain ⟨h1, h2, h4, h5, h6, h7, h8⟩ := hc
  have cw : CallB (j_rm d mc ms) s args (j_own i) idx (j_y j) (j_b j) (j_ml j) (j_rt j) (j_ws j) (j_rm d' mc' ms') mc' ms' na :=
    callB_of na C.2.2.2.2.2.1 (j_good h5) rfl rfl rfl (C.wd h4 rfl) (C.wd h1 rfl) ⟨h5.2.2.1, h5.2.2.2, h6⟩ (j_rm_ok hdp hml)
  rw [h8] at cw
  have hp := j_preS (av := .ref o :: av) C hR hS
  have e1 : (Value.ref o :: av).map (j_cv g) = .ref (g.1 + o) :: av.map (j_cv g) := by rw [List.map_cons, j_cv_ref hR ho]
  rw [e1] at hp
  subst hst
  refine j_after C hR hS hL (rest := rest) (va_runI (As := av.map (j_cv g)) (b := g.1 + o) (j_fix C) (hM l g) ⟨cw, h7, C.wd h2 rfl⟩ hp rfl (by rw [List.length_map]; exact hna) hL.2.1 ?_ (j_sumc hrest) hd ⟨hmc, hms⟩)
  show List.map _ _ = _
  rw [List.map_append, List.map_cons, j_cv_ref hR ho, List.map_reverse]
theorem q_invIN {idx j na d' mc' ms' o : Nat} {av rest : List Value} (hd : j_At i pc (.invokespecial idx) 3) (hc : j_NI i idx j na) (hst : st = av.reverse ++ .ref o :: rest) (hna : av.length = na) (hdp : d' + 1 ≤ d) (hml : j_ml j ≤ 45) (hrest : (rest.map fun v => v.category).sum ≤ 8) (ho : o < w.1) (hmc : k + mc' ≤ mc) (hms : n + ms' ≤ ms)
    (hM : j_Call d' j (.ref o :: av) w τ mc' ms' (fun r w' τ' => j_W i d mc ms (k + mc') (n + ms') (pc + 3) L (r.toList ++ rest) w' τ' Q)) : j_W i d mc ms k n pc L st w τ Q := by
  intro l g p e s m args below meth c C H locs ls hR hS hL
  obtain ⟨⟨host, h1⟩, h2, h4, h5, h6, h7, h8⟩ := hc
  have cw := va_cnB (R := j_rm d mc ms) (s := s) (args := args) (own := j_own i) (index := idx) (y := j_y j) (bytes := j_b j) (maxL := j_ml j) (ret := j_rt j) (ws := j_ws j) (rm := j_rm d' mc' ms') (mc := mc') (ms := ms') (host := host) na C.2.2.2.2.2.1 (j_good h5) rfl rfl rfl (C.2.2.2.2.2.2.2.2.2.2.1 _ h1) (C.wd h4 rfl) ⟨h5.2.2.1, h5.2.2.2, h6⟩ (j_rm_ok hdp hml)
  rw [h8] at cw
  have hp := j_preS (av := .ref o :: av) C hR hS
  have e1 : (Value.ref o :: av).map (j_cv g) = .ref (g.1 + o) :: av.map (j_cv g) := by rw [List.map_cons, j_cv_ref hR ho]
  rw [e1] at hp
  subst hst
  refine j_after C hR hS hL (rest := rest) (va_runIN (As := av.map (j_cv g)) (b := g.1 + o) (j_fix C) (hM l g) ⟨cw, h7, C.wd h2 rfl⟩ hp rfl (by rw [List.length_map]; exact hna) hL.2.1 ?_ (j_sumc hrest) hd ⟨hmc, hms⟩)
  show List.map _ _ = _
  rw [List.map_append, List.map_cons, j_cv_ref hR ho, List.map_reverse]
/-- Object.<init> -/
theorem q_objinit {idx o : Nat} (hd : j_At i pc (.invokespecial idx) 3) (h1 : Cond.methodLink (j_own i) idx objectInit ∈ lw_tbl) (h2 : Cond.instanceMethod objectInit ∈ lw_tbl) (h3 : Cond.code objectInit ⟨#[0xb1]⟩ 1 none ∈ lw_tbl) (hd1 : 1 ≤ d) (hst : (st.map fun v => v.category).sum ≤ 8) (ho : o < w.1) (kk : j_W i d mc ms k n (pc + 3) L st w τ Q) : j_W i d mc ms k n pc L (.ref o :: st) w τ Q := by
  intro l g p e s m args below meth c C H locs ls hR hS hL
  simp only [List.map_cons]
  rw [j_cv_ref hR ho]
  refine W.objInit C.1 C.2.1 C.own (C.wd h1 rfl) (C.wd h2 rfl) (C.wd h3 rfl) (g := F0 m pc ls (.ref (g.1 + o) :: st.map (j_cv g))) rfl (by rw [C.2.2.1]; exact hL.2.1) rfl hd hd1 ?_ (W.eq (g2 := F0 m (pc + 3) ls (st.map (j_cv g))) rfl (kk l g p e s m args below meth c C H locs ls hR hS hL))
  show 2 * 0 + _ + 12 ≤ 64 * d
  rw [j_cats]
  omega
end JCALL
