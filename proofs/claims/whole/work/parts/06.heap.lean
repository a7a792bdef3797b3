theorem j_rk : ∀ c, 3 ≤ c → c < 10 → j_kd (j_aty c) = 2 ∧ (j_aty c).isReference = true
    | 3, _, _ => ⟨rfl, rfl⟩ | 4, _, _ => ⟨rfl, rfl⟩ | 5, _, _ => ⟨rfl, rfl⟩ | 6, _, _ => ⟨rfl, rfl⟩ | 7, _, _ => ⟨rfl, rfl⟩ | 8, _, _ => ⟨rfl, rfl⟩ | 9, _, _ => ⟨rfl, rfl⟩
    | 0, h, _ => absurd h (by omega) | 1, h, _ => absurd h (by omega) | 2, h, _ => absurd h (by omega)
    | q + 10, _, h => absurd h (by omega)
theorem j_cv_r {g : j_G} {x : Nat} (h : x < 1000000) : j_cv g (.ref x) = .ref (j_ad g x) := if_neg (show ¬ x = 1000098 by omega)
section JH
variable {i d mc ms k n pc : Nat} {L : List (Option Value)} {st : List Value} {w : j_Wd} {τ : j_St} {Q : j_Po}
theorem q_aload {j o : Nat} (hd : j_At i pc (.aload j) 2) (hl : L[j]? = some (some (.ref o))) (kk : j_W i d mc ms k n (pc + 2) L (.ref o :: st) w τ Q) : j_W i d mc ms k n pc L st w τ Q := by
  intro l g p e s m args below meth c C H locs ls hR hS hL
  have h1 := hL.at hl
  have h2 := kk l g p e s m args below meth c C H locs ls hR hS hL
  simp only [List.map_cons] at h2
  by_cases e1 : o = 1000098
  · have e2 : j_cv g (.ref o) = va_rf g.2.2.2.2 := if_pos e1
    rw [e2] at h1 h2
    cases hg : g.2.2.2.2 with
    | none => rw [hg] at h1 h2; exact lv_aloadN C.1 C.2.1 hd h1 h2
    | some q => rw [hg] at h1 h2; exact lv_aload C.1 C.2.1 hd h1 h2
  · have e2 : j_cv g (.ref o) = .ref (j_ad g o) := if_neg e1
    rw [e2] at h1 h2
    exact lv_aload C.1 C.2.1 hd h1 h2
theorem q_aload_n {j : Fin 4} {o : Nat} (hd : j_At i pc (.aload_n j) 1) (hl : L[(j : Nat)]? = some (some (.ref o))) (kk : j_W i d mc ms k n (pc + 1) L (.ref o :: st) w τ Q) : j_W i d mc ms k n pc L st w τ Q := by
  intro l g p e s m args below meth c C H locs ls hR hS hL
  have h1 := hL.at hl
  have h2 := kk l g p e s m args below meth c C H locs ls hR hS hL
  simp only [List.map_cons] at h2
  by_cases e1 : o = 1000098
  · have e2 : j_cv g (.ref o) = va_rf g.2.2.2.2 := if_pos e1
    rw [e2] at h1 h2
    cases hg : g.2.2.2.2 with
    | none => rw [hg] at h1 h2; exact lv_aload_nN C.1 C.2.1 hd rfl h1 h2
    | some q => rw [hg] at h1 h2; exact lv_aload_n C.1 C.2.1 hd rfl h1 h2
  · have e2 : j_cv g (.ref o) = .ref (j_ad g o) := if_neg e1
    rw [e2] at h1 h2
    exact lv_aload_n C.1 C.2.1 hd rfl h1 h2
theorem q_astore {j o : Nat} {L' : List (Option Value)} (hd : j_At i pc (.astore j) 2) (hj : j < L.length) (ho : o ≠ 1000098) (hl : j_s1 L j (.ref o) = L') (kk : j_W i d mc ms k n (pc + 2) L' st w τ Q) : j_W i d mc ms k n pc L (.ref o :: st) w τ Q := by
  intro l g p e s m args below meth c C H locs ls hR hS hL
  have e2 : j_cv g (.ref o) = .ref (j_ad g o) := if_neg ho
  simp only [List.map_cons]
  rw [e2]
  exact lv_astore C.1 C.2.1 hd hL.2 (by have := hL.1; omega) rfl (fun ls' hl' => kk l g p e s m args below meth c C H locs ls' hR hS (by subst hl; exact hL.s1 (v := .ref o) (by rw [e2]; exact hl')))
theorem q_astore_n {j : Fin 4} {o : Nat} {L' : List (Option Value)} (hd : j_At i pc (.astore_n j) 1) (hj : (j : Nat) < L.length) (ho : o ≠ 1000098) (hl : j_s1 L (j : Nat) (.ref o) = L') (kk : j_W i d mc ms k n (pc + 1) L' st w τ Q) : j_W i d mc ms k n pc L (.ref o :: st) w τ Q := by
  intro l g p e s m args below meth c C H locs ls hR hS hL
  have e2 : j_cv g (.ref o) = .ref (j_ad g o) := if_neg ho
  simp only [List.map_cons]
  rw [e2]
  exact lv_astore_n C.1 C.2.1 hd rfl hL.2 (by have := hL.1; omega) rfl (fun ls' hl' => kk l g p e s m args below meth c C H locs ls' hR hS (by subst hl; exact hL.s1 (v := .ref o) (by rw [e2]; exact hl')))
/-- a field's link -/
def j_FL (i idx c f : Nat) : Prop := Cond.fieldLink (j_own i) idx (j_fT c f).1 (j_fT c f).2.1 (j_fT c f).2.2.1 ∈ lw_tbl ∧ c < 11 ∧ f < j_nf c
theorem j_getf {idx c f o z : Nat} (hd : j_At i pc (.getfield idx) 3) (hf : j_FL i idx c f) (ho : o < w.1) (hs : w.2 o = (c, z))
    (kk : ∀ g : j_G, ∀ (l : Launch) (p : Program) (e : Env) (s : State) (m : MethodId) (args : Array Value) (below : List Frame) (meth : Method) (c0 : Code), j_C i g p s m args meth c0 → ∀ (H : Heap) (locs : List Loc) (ls : Array Slot), j_Rep g w τ H → va_S (j_A g) s.heap H locs → j_L g ls (j_ml i) L →
      W p l e (j_rm d mc ms) s m args below meth c0 H locs k n (MQ below (j_Q g Q) args s mc ms (j_A g)) (F0 m (pc + 3) ls (j_fv g (j_kd (j_fty c f)) τ o f :: st.map (j_cv g)))) : j_W i d mc ms k n pc L (.ref o :: st) w τ Q := by
  intro l g p e s m args below meth c0 C H locs ls hR hS hL
  obtain ⟨hlk, hc, hfn⟩ := hf
  obtain ⟨-, cell, q1, q2, q3, q4⟩ := hR.ob ho hs (by omega)
  obtain ⟨hSl, hfc, kC, hkC, hkind⟩ := C.2.2.2.2.2.2.2.2.1.1 c _ (j_cl hc)
  obtain ⟨cf, kf, fi, fd, hi, hsl⟩ := hSl f hfn
  simp only [List.map_cons]
  rw [j_cv_ref hR ho]
  refine W.getf C.1 C.2.1 C.own (C.wd hlk rfl) hi (u_facts hfc hkC (u_lays C.2.2.2.2.2.1 (j_uin hc) hfn) hi).1 q1 (by rw [q3]; exact fun h => by cases h) (v := j_fv g (j_kd (j_fty c f)) τ o f) ?_ rfl rfl hd (kk g l p e s m args below meth c0 C H locs ls hR hS hL)
  rw [hsl]
  exact q4 f hfn
theorem q_getI {idx c f o z : Nat} (hd : j_At i pc (.getfield idx) 3) (hf : j_FL i idx c f) (ht : j_kd (j_fty c f) = 0) (ho : o < w.1) (hs : w.2 o = (c, z)) (kk : j_W i d mc ms k n (pc + 3) L (.int (τ.1 o f) :: st) w τ Q) : j_W i d mc ms k n pc L (.ref o :: st) w τ Q :=
  j_getf hd hf ho hs (fun g l p e s m args below meth c0 C H locs ls hR hS hL => by rw [ht]; exact kk l g p e s m args below meth c0 C H locs ls hR hS hL)
theorem q_getD {idx c f o z : Nat} (hd : j_At i pc (.getfield idx) 3) (hf : j_FL i idx c f) (ht : j_kd (j_fty c f) = 1) (ho : o < w.1) (hs : w.2 o = (c, z)) (kk : j_W i d mc ms k n (pc + 3) L (.double (τ.2.1 o f) :: st) w τ Q) : j_W i d mc ms k n pc L (.ref o :: st) w τ Q :=
  j_getf hd hf ho hs (fun g l p e s m args below meth c0 C H locs ls hR hS hL => by rw [ht]; exact kk l g p e s m args below meth c0 C H locs ls hR hS hL)
theorem q_getR {idx c f o z x : Nat} (hd : j_At i pc (.getfield idx) 3) (hf : j_FL i idx c f) (ht : j_kd (j_fty c f) = 2) (ho : o < w.1) (hs : w.2 o = (c, z)) (hr : τ.2.2 o f = some x) (hx : x < 1000000) (kk : j_W i d mc ms k n (pc + 3) L (.ref x :: st) w τ Q) : j_W i d mc ms k n pc L (.ref o :: st) w τ Q :=
  j_getf hd hf ho hs (fun g l p e s m args below meth c0 C H locs ls hR hS hL => by
    have h := kk l g p e s m args below meth c0 C H locs ls hR hS hL
    have e1 : j_cv g (.ref x) = .ref (j_ad g x) := j_cv_r hx
    simp only [List.map_cons] at h
    rw [e1] at h
    rw [ht]
    unfold j_fv
    rw [hr]
    exact h)
/-- a field is written -/
theorem j_putf {idx c f o z : Nat} {v : Value} {τ' : j_St} (hd : j_At i pc (.putfield idx) 3) (hf : j_FL i idx c f) (hfin : (j_fT c f).2.2.2 = false ∨ ((j_y i).name = "<init>" ∧ (j_fT c f).1 = j_own i)) (hn : ∀ g : j_G, narrow (j_fty c f) (j_cv g v) = j_cv g v) (hfit : ∀ g : j_G, fits (j_fty c f) (j_cv g v) = true) (ho : o < w.1) (hs : w.2 o = (c, z))
    (hv : ∀ g : j_G, j_fv g (j_kd (j_fty c f)) τ' o f = j_cv g v) (ho1 : ∀ f', f' ≠ f → τ'.1 o f' = τ.1 o f' ∧ τ'.2.1 o f' = τ.2.1 o f' ∧ τ'.2.2 o f' = τ.2.2 o f') (ho2 : ∀ o', o' ≠ o → τ'.1 o' = τ.1 o' ∧ τ'.2.1 o' = τ.2.1 o' ∧ τ'.2.2 o' = τ.2.2 o')
    (kk : j_W i d mc ms k n (pc + 3) L st w τ' Q) : j_W i d mc ms k n pc L (v :: .ref o :: st) w τ Q := by
  intro l g p e s m args below meth c0 C H locs ls hR hS hL
  obtain ⟨hlk, hc, hfn⟩ := hf
  obtain ⟨-, cell, q1, q2, q3, q4⟩ := hR.ob ho hs (by omega)
  have hK := C.2.2.2.2.2.2.2.2.1
  obtain ⟨hSl, hfc, kC, hkC, hkind⟩ := hK.1 c _ (j_cl hc)
  obtain ⟨cf, kf, fi, fd, hi, hsl⟩ := hSl f hfn
  have hts := C.2.2.2.2.2.1
  have hap := va_apart (own := j_own i) hts (j_uin hc) (j_fty c) (j_tyo c hc) (j_nm c hc) hK (j_cl hc)
  have hlay := C.wd (j_lay c hc f hfn) (j_lay_good _ _ _)
  have hst := (u_facts hfc hkC (u_lays hts (j_uin hc) hfn) hi).1
  have key : ∀ H' : Heap, H'[g.1 + o]? = some (cell.setSlot fd.slot (j_cv g v)) → H'.size = H.size → (∀ q, q ≠ g.1 + o → H'[q]? = H[q]?) → W p l e (j_rm d mc ms) s m args below meth c0 H' (locs ++ [⟨g.1 + o, fd.slot⟩]) k n (MQ below (j_Q g Q) args s mc ms (j_A g)) (F0 m (pc + 3) ls (st.map (j_cv g))) := by
    intro H' e1 e2 e3
    rw [hsl] at e1 ⊢
    refine kk l g p e s m args below meth c0 C H' _ ls (hR.set e2 e3 ?_ ho2) (hS.put e2 e3 (Nat.le_add_right _ _)) hL
    rw [hs]
    refine Or.inl ⟨by omega, hc, t_OB.to (V := updV (fun k => j_fv g (j_kd (j_fty c k)) τ o k) f (j_cv g v)) ⟨_, e1, q2, q3, t_set q4 hap hfn (j_cv g v)⟩ (fun j _ => ?_)⟩
    by_cases hj : j = f
    · subst hj
      simp only [updV, if_pos]
      exact (hv g).symm
    · simp only [updV, if_neg hj]
      obtain ⟨a1, a2, a3⟩ := ho1 j hj
      exact j_fv_congr a1.symm a2.symm a3.symm
  simp only [List.map_cons]
  rw [j_cv_ref hR ho]
  rcases hfin with hfin | ⟨hin, hdecl⟩
  · unfold u_lay at hlay
    rw [if_neg (by rw [hfin]; decide)] at hlay
    have h6 := u_store hfc hkC hkind hlay hi (j_tyo c hc f hfn) (hn g) (hfit g)
    exact W.putK C.1 C.2.1 (f := fd) ⟨C.own, C.wd hlk rfl, ⟨_, _, _, hi⟩, hst⟩ (by rw [q2]; exact h6) q1 q3 (by rw [hsl]; exact k2_hasslot (q4 f hfn)) rfl rfl hd key
  · by_cases hfin : (j_fT c f).2.2.2 = true
    · unfold u_lay at hlay
      rw [if_pos hfin] at hlay
      have hcf : m.cls = cf := by
        obtain ⟨_, _, c', _, _, _, -, -, hf', -, -, -, hown2, -⟩ := Cond.laysFinal_spec hlay
        have e1 : c' = cf := by have := hi.symm.trans hf'; simp at this; exact this.1.symm
        rw [hdecl] at hown2
        rw [← e1]; exact Option.some.inj (C.own.symm.trans hown2)
      have h6 := u_fits hfc hkC hkind (Or.inr hlay) hi (j_tyo c hc f hfn) (hn g) (hfit g)
      exact W.putFinK C.1 C.2.1 C.own (C.wd hlk rfl) hi hst hcf (by rw [C.2.2.2.2.2.2.2.1]; exact hin) (by rw [q2]; exact h6) q1 q3 (by rw [hsl]; exact k2_hasslot (q4 f hfn)) rfl rfl hd key
    · unfold u_lay at hlay
      rw [if_neg hfin] at hlay
      have h6 := u_store hfc hkC hkind hlay hi (j_tyo c hc f hfn) (hn g) (hfit g)
      exact W.putK C.1 C.2.1 (f := fd) ⟨C.own, C.wd hlk rfl, ⟨_, _, _, hi⟩, hst⟩ (by rw [q2]; exact h6) q1 q3 (by rw [hsl]; exact k2_hasslot (q4 f hfn)) rfl rfl hd key
theorem j_u1 {α : Type} (f : Nat → Nat → α) (o k : Nat) (v : α) : ∀ k', k' ≠ k → j_u f o k v o k' = f o k' := fun _ h => j_u_k f v h
theorem j_u2 {α : Type} (f : Nat → Nat → α) (o k : Nat) (v : α) : ∀ o', o' ≠ o → j_u f o k v o' = f o' := fun _ h => funext fun k' => j_u_o f v k' h
theorem q_putI {idx c f o z : Nat} {x : Int32} (hd : j_At i pc (.putfield idx) 3) (hf : j_FL i idx c f) (hfin : (j_fT c f).2.2.2 = false ∨ ((j_y i).name = "<init>" ∧ (j_fT c f).1 = j_own i)) (ht : j_fty c f = .int) (ho : o < w.1) (hs : w.2 o = (c, z)) (kk : j_W i d mc ms k n (pc + 3) L st w (j_u τ.1 o f x, τ.2.1, τ.2.2) Q) : j_W i d mc ms k n pc L (.int x :: .ref o :: st) w τ Q :=
  j_putf (τ' := (j_u τ.1 o f x, τ.2.1, τ.2.2)) hd hf hfin (fun g => by rw [ht]; rfl) (fun g => by rw [ht]; rfl) ho hs (fun g => by rw [ht]; show Value.int (j_u τ.1 o f x o f) = _; rw [j_u_same]; rfl) (fun f' h => ⟨j_u1 _ _ _ _ f' h, rfl, rfl⟩) (fun o' h => ⟨j_u2 _ _ _ _ o' h, rfl, rfl⟩) kk
theorem q_putZ {idx c f o z : Nat} {x : Int32} (hd : j_At i pc (.putfield idx) 3) (hf : j_FL i idx c f) (hfin : (j_fT c f).2.2.2 = false ∨ ((j_y i).name = "<init>" ∧ (j_fT c f).1 = j_own i)) (ht : j_fty c f = .boolean) (hx : x = 0 ∨ x = 1) (ho : o < w.1) (hs : w.2 o = (c, z)) (kk : j_W i d mc ms k n (pc + 3) L st w (j_u τ.1 o f x, τ.2.1, τ.2.2) Q) : j_W i d mc ms k n pc L (.int x :: .ref o :: st) w τ Q :=
  j_putf (τ' := (j_u τ.1 o f x, τ.2.1, τ.2.2)) hd hf hfin (fun g => by rw [ht]; rcases hx with rfl | rfl <;> rfl) (fun g => by rw [ht]; rcases hx with rfl | rfl <;> rfl) ho hs (fun g => by rw [ht]; show Value.int (j_u τ.1 o f x o f) = _; rw [j_u_same]; rfl) (fun f' h => ⟨j_u1 _ _ _ _ f' h, rfl, rfl⟩) (fun o' h => ⟨j_u2 _ _ _ _ o' h, rfl, rfl⟩) kk
theorem q_putD {idx c f o z : Nat} {x : UInt64} (hd : j_At i pc (.putfield idx) 3) (hf : j_FL i idx c f) (hfin : (j_fT c f).2.2.2 = false ∨ ((j_y i).name = "<init>" ∧ (j_fT c f).1 = j_own i)) (ht : j_fty c f = .double) (ho : o < w.1) (hs : w.2 o = (c, z)) (kk : j_W i d mc ms k n (pc + 3) L st w (τ.1, j_u τ.2.1 o f x, τ.2.2) Q) : j_W i d mc ms k n pc L (.double x :: .ref o :: st) w τ Q :=
  j_putf (τ' := (τ.1, j_u τ.2.1 o f x, τ.2.2)) hd hf hfin (fun g => by rw [ht]; rfl) (fun g => by rw [ht]; rfl) ho hs (fun g => by rw [ht]; show Value.double (j_u τ.2.1 o f x o f) = _; rw [j_u_same]; rfl) (fun f' h => ⟨rfl, j_u1 _ _ _ _ f' h, rfl⟩) (fun o' h => ⟨rfl, j_u2 _ _ _ _ o' h, rfl⟩) kk
theorem q_putR {idx c f o z x : Nat} (hd : j_At i pc (.putfield idx) 3) (hf : j_FL i idx c f) (hfin : (j_fT c f).2.2.2 = false ∨ ((j_y i).name = "<init>" ∧ (j_fT c f).1 = j_own i)) (ht : (∃ C, j_fty c f = .object C) ∨ (∃ t, j_fty c f = .array t)) (hx : x < 1000000) (ho : o < w.1) (hs : w.2 o = (c, z)) (kk : j_W i d mc ms k n (pc + 3) L st w (τ.1, τ.2.1, j_u τ.2.2 o f (some x)) Q) : j_W i d mc ms k n pc L (.ref x :: .ref o :: st) w τ Q := by
  have e1 : ∀ g : j_G, j_cv g (.ref x) = .ref (j_ad g x) := fun g => j_cv_r hx
  refine j_putf (τ' := (τ.1, τ.2.1, j_u τ.2.2 o f (some x))) hd hf hfin (fun g => ?_) (fun g => ?_) ho hs (fun g => ?_) (fun f' h => ⟨rfl, rfl, j_u1 _ _ _ _ f' h⟩) (fun o' h => ⟨rfl, rfl, j_u2 _ _ _ _ o' h⟩) kk
  · rw [e1]; rcases ht with ⟨C, ht⟩ | ⟨t, ht⟩ <;> rw [ht] <;> rfl
  · rw [e1]; rcases ht with ⟨C, ht⟩ | ⟨t, ht⟩ <;> rw [ht] <;> rfl
  · have e2 : j_fv g (j_kd (j_fty c f)) (τ.1, τ.2.1, j_u τ.2.2 o f (some x)) o f = va_rf ((j_u τ.2.2 o f (some x) o f).map (j_ad g)) := by
      rcases ht with ⟨C, ht⟩ | ⟨t, ht⟩ <;> rw [ht] <;> rfl
    rw [e2, j_u_same, e1]
    rfl

theorem q_iaload {o z a : Nat} {j : Int32} (hd : j_At i pc .iaload 1) (ho : o < w.1) (hs : w.2 o = (100, z)) (hj : j = nI a) (ha : a < z) (kk : j_W i d mc ms k n (pc + 1) L (.int (τ.1 o a) :: st) w τ Q) : j_W i d mc ms k n pc L (.int j :: .ref o :: st) w τ Q := by
  intro l g p e s m args below meth c0 C H locs ls hR hS hL
  obtain ⟨hc, hz, hcell⟩ := hR.ar (c := 0) ho hs
  subst hj
  have hcl : (nI a).toNatClampNeg = a := nI_clamp (by omega)
  have harr := (C.2.2.2.2.2.2.2.2.arr hc).1 z (fun k => j_fv g (j_kd (j_aty 0)) τ o k)
  simp only [List.map_cons]
  rw [j_cv_ref hR ho]
  refine W.iald (v := .int (τ.1 o a)) C.1 C.2.1 hcell harr (fun q => by cases q) ?_ ?_ rfl rfl hd (kk l g p e s m args below meth c0 C H locs ls hR hS hL)
  · show ¬ (nI a < 0 ∨ (arrV _ _ _).slots.size ≤ _); rw [arrV_size]; exact vp_in_nI ha hz
  · show (arrV _ _ _).slots[_]? = _; rw [hcl, arrV_read _ _ ha]; rfl
theorem q_daload {o z a : Nat} {j : Int32} (hd : j_At i pc .daload 1) (ho : o < w.1) (hs : w.2 o = (101, z)) (hj : j = nI a) (ha : a < z) (kk : j_W i d mc ms k n (pc + 1) L (.double (τ.2.1 o a) :: st) w τ Q) : j_W i d mc ms k n pc L (.int j :: .ref o :: st) w τ Q := by
  intro l g p e s m args below meth c0 C H locs ls hR hS hL
  obtain ⟨hc, hz, hcell⟩ := hR.ar (c := 1) ho hs
  subst hj
  have hcl : (nI a).toNatClampNeg = a := nI_clamp (by omega)
  have harr := (C.2.2.2.2.2.2.2.2.arr hc).1 z (fun k => j_fv g (j_kd (j_aty 1)) τ o k)
  simp only [List.map_cons]
  rw [j_cv_ref hR ho]
  refine W.dald (v := .double (τ.2.1 o a)) C.1 C.2.1 hcell harr (fun q => by cases q) ?_ ?_ rfl rfl hd (kk l g p e s m args below meth c0 C H locs ls hR hS hL)
  · show ¬ (nI a < 0 ∨ (arrV _ _ _).slots.size ≤ _); rw [arrV_size]; exact vp_in_nI ha hz
  · show (arrV _ _ _).slots[_]? = _; rw [hcl, arrV_read _ _ ha]; rfl
theorem q_zaload {o z a : Nat} {j : Int32} (hd : j_At i pc .baload 1) (ho : o < w.1) (hs : w.2 o = (102, z)) (hj : j = nI a) (ha : a < z) (kk : j_W i d mc ms k n (pc + 1) L (.int (τ.1 o a) :: st) w τ Q) : j_W i d mc ms k n pc L (.int j :: .ref o :: st) w τ Q := by
  intro l g p e s m args below meth c0 C H locs ls hR hS hL
  obtain ⟨hc, hz, hcell⟩ := hR.ar (c := 2) ho hs
  subst hj
  have hcl : (nI a).toNatClampNeg = a := nI_clamp (by omega)
  have harr := (C.2.2.2.2.2.2.2.2.arr hc).1 z (fun k => j_fv g (j_kd (j_aty 2)) τ o k)
  simp only [List.map_cons]
  rw [j_cv_ref hR ho]
  refine W.zald (v := .int (τ.1 o a)) C.1 C.2.1 hcell harr (fun q => by cases q) ?_ ?_ rfl rfl hd (kk l g p e s m args below meth c0 C H locs ls hR hS hL)
  · show ¬ (nI a < 0 ∨ (arrV _ _ _).slots.size ≤ _); rw [arrV_size]; exact vp_in_nI ha hz
  · show (arrV _ _ _).slots[_]? = _; rw [hcl, arrV_read _ _ ha]; rfl
theorem q_aaload {o z a c x : Nat} {j : Int32} (hd : j_At i pc .aaload 1) (ho : o < w.1) (hs : w.2 o = (100 + c, z)) (hc3 : 3 ≤ c) (hj : j = nI a) (ha : a < z) (hr : τ.2.2 o a = some x) (hx : x < 1000000) (kk : j_W i d mc ms k n (pc + 1) L (.ref x :: st) w τ Q) : j_W i d mc ms k n pc L (.int j :: .ref o :: st) w τ Q := by
  intro l g p e s m args below meth c0 C H locs ls hR hS hL
  obtain ⟨hc, hz, hcell⟩ := hR.ar (c := c) ho hs
  subst hj
  have hcl : (nI a).toNatClampNeg = a := nI_clamp (by omega)
  have harr := (C.2.2.2.2.2.2.2.2.arr hc).1 z (fun k => j_fv g (j_kd (j_aty c)) τ o k)
  have hkd := j_rk c hc3 hc
  have h2 := kk l g p e s m args below meth c0 C H locs ls hR hS hL
  have e1 : j_cv g (.ref x) = .ref (j_ad g x) := j_cv_r hx
  simp only [List.map_cons] at h2 ⊢
  rw [e1] at h2
  rw [j_cv_ref hR ho]
  refine W.aald (v := .ref (j_ad g x)) (ty := j_aty c) C.1 C.2.1 hcell harr hkd.2 (fun q => by cases q) ?_ ?_ rfl rfl hd h2
  · show ¬ (nI a < 0 ∨ (arrV _ _ _).slots.size ≤ _); rw [arrV_size]; exact vp_in_nI ha hz
  · show (arrV _ _ _).slots[_]? = _
    rw [hcl, arrV_read _ _ ha, hkd.1]
    unfold j_fv
    rw [hr]
    rfl
theorem q_iastore {o z a : Nat} {j : Int32} {x : Int32} (hd : j_At i pc .iastore 1)  (ho : o < w.1) (hs : w.2 o = (100, z)) (hj : j = nI a) (ha : a < z) (kk : j_W i d mc ms k n (pc + 1) L st w (j_u τ.1 o a x, τ.2.1, τ.2.2) Q) : j_W i d mc ms k n pc L (.int x :: .int j :: .ref o :: st) w τ Q := by
  intro l g p e s m args below meth c0 C H locs ls hR hS hL
  obtain ⟨hc, hz, hcell⟩ := hR.ar (c := 0) ho hs
  subst hj
  have hcl : (nI a).toNatClampNeg = a := nI_clamp (by omega)
  have harr := (C.2.2.2.2.2.2.2.2.arr hc).1 z (fun k => j_fv g (j_kd (j_aty 0)) τ o k)
  simp only [List.map_cons]
  rw [j_cv_ref hR ho]
  refine W.iast C.1 C.2.1 hcell harr (fun q => by cases q) (by show ¬ (nI a < 0 ∨ (arrV _ _ _).slots.size ≤ _); rw [arrV_size]; exact vp_in_nI ha hz) rfl rfl hd fun H1 e1 z1 oq => ?_
  refine kk l g p e s m args below meth c0 C H1 _ ls (hR.set z1 oq ?_ ?_) (hS.put z1 oq (Nat.le_add_right _ _)) hL
  · rw [hs]
    refine Or.inr ⟨Nat.le_of_ble_eq_true rfl, Nat.le_of_ble_eq_true rfl, hz, ?_⟩
    rw [e1, hcl, arrV_store]
    congr 2
    funext q
    by_cases hq : q = a
    · subst hq
      simp only [updV, if_pos]
      show _ = Value.int (j_u _ o q x o q)
      rw [j_u_same]
      try rfl
    · simp only [updV, if_neg hq]
      show Value.int _ = Value.int (j_u _ o a x o q)
      rw [j_u_k _ _ hq]
  · intro o' ho'
    exact ⟨j_u2 _ _ _ _ o' ho', rfl, rfl⟩
theorem q_dastore {o z a : Nat} {j : Int32} {x : UInt64} (hd : j_At i pc .dastore 1)  (ho : o < w.1) (hs : w.2 o = (101, z)) (hj : j = nI a) (ha : a < z) (kk : j_W i d mc ms k n (pc + 1) L st w (τ.1, j_u τ.2.1 o a x, τ.2.2) Q) : j_W i d mc ms k n pc L (.double x :: .int j :: .ref o :: st) w τ Q := by
  intro l g p e s m args below meth c0 C H locs ls hR hS hL
  obtain ⟨hc, hz, hcell⟩ := hR.ar (c := 1) ho hs
  subst hj
  have hcl : (nI a).toNatClampNeg = a := nI_clamp (by omega)
  have harr := (C.2.2.2.2.2.2.2.2.arr hc).1 z (fun k => j_fv g (j_kd (j_aty 1)) τ o k)
  simp only [List.map_cons]
  rw [j_cv_ref hR ho]
  refine W.dast C.1 C.2.1 hcell harr (fun q => by cases q) (by show ¬ (nI a < 0 ∨ (arrV _ _ _).slots.size ≤ _); rw [arrV_size]; exact vp_in_nI ha hz) rfl rfl hd fun H1 e1 z1 oq => ?_
  refine kk l g p e s m args below meth c0 C H1 _ ls (hR.set z1 oq ?_ ?_) (hS.put z1 oq (Nat.le_add_right _ _)) hL
  · rw [hs]
    refine Or.inr ⟨Nat.le_of_ble_eq_true rfl, Nat.le_of_ble_eq_true rfl, hz, ?_⟩
    rw [e1, hcl, arrV_store]
    congr 2
    funext q
    by_cases hq : q = a
    · subst hq
      simp only [updV, if_pos]
      show _ = Value.double (j_u _ o q x o q)
      rw [j_u_same]
      try rfl
    · simp only [updV, if_neg hq]
      show Value.double _ = Value.double (j_u _ o a x o q)
      rw [j_u_k _ _ hq]
  · intro o' ho'
    exact ⟨rfl, j_u2 _ _ _ _ o' ho', rfl⟩
theorem q_zastore {o z a : Nat} {j : Int32} {x : Int32} (hd : j_At i pc .bastore 1) (hx : x = 0 ∨ x = 1) (ho : o < w.1) (hs : w.2 o = (102, z)) (hj : j = nI a) (ha : a < z) (kk : j_W i d mc ms k n (pc + 1) L st w (j_u τ.1 o a x, τ.2.1, τ.2.2) Q) : j_W i d mc ms k n pc L (.int x :: .int j :: .ref o :: st) w τ Q := by
  intro l g p e s m args below meth c0 C H locs ls hR hS hL
  obtain ⟨hc, hz, hcell⟩ := hR.ar (c := 2) ho hs
  subst hj
  have hcl : (nI a).toNatClampNeg = a := nI_clamp (by omega)
  have harr := (C.2.2.2.2.2.2.2.2.arr hc).1 z (fun k => j_fv g (j_kd (j_aty 2)) τ o k)
  simp only [List.map_cons]
  rw [j_cv_ref hR ho]
  refine W.zast C.1 C.2.1 hcell harr (fun q => by cases q) (by show ¬ (nI a < 0 ∨ (arrV _ _ _).slots.size ≤ _); rw [arrV_size]; exact vp_in_nI ha hz) rfl rfl hd fun H1 e1 z1 oq => ?_
  refine kk l g p e s m args below meth c0 C H1 _ ls (hR.set z1 oq ?_ ?_) (hS.put z1 oq (Nat.le_add_right _ _)) hL
  · rw [hs]
    refine Or.inr ⟨Nat.le_of_ble_eq_true rfl, Nat.le_of_ble_eq_true rfl, hz, ?_⟩
    rw [e1, hcl, arrV_store]
    congr 2
    funext q
    by_cases hq : q = a
    · subst hq
      simp only [updV, if_pos]
      show _ = Value.int (j_u _ o q x o q)
      rw [j_u_same]
      rcases hx with rfl | rfl <;> rfl
    · simp only [updV, if_neg hq]
      show Value.int _ = Value.int (j_u _ o a x o q)
      rw [j_u_k _ _ hq]
  · intro o' ho'
    exact ⟨j_u2 _ _ _ _ o' ho', rfl, rfl⟩
end JH
