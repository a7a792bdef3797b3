/-! new objects, statics, text constants, natives -/
section JNEW
variable {i d mc ms k n pc : Nat} {L : List (Option Value)} {st : List Value} {w : j_Wd} {τ : j_St} {Q : j_Po}
/-- nothing is held beyond the objects -/
def j_Fr (w : j_Wd) (τ : j_St) : Prop := ∀ o, w.1 ≤ o → ∀ f, τ.1 o f = 0 ∧ τ.2.1 o f = 0 ∧ τ.2.2 o f = none
def j_w1 (w : j_Wd) (sh : Nat × Nat) : j_Wd := (w.1 + 1, fun o => if o = w.1 then sh else w.2 o)
theorem j_Fr.new {sh : Nat × Nat} (h : j_Fr w τ) : j_Fr (j_w1 w sh) τ := fun o ho f => h o (by have : w.1 + 1 ≤ o := ho; omega) f
theorem j_fv_zero {g : j_G} {o f : Nat} (h : j_Fr w τ) (ho : w.1 ≤ o) (t : FieldType) (ht : t = .int ∨ t = .boolean ∨ t = .double ∨ t.isReference = true) : j_fv g (j_kd t) τ o f = defaultValue t := by
  obtain ⟨h1, h2, h3⟩ := h o ho f
  unfold j_fv
  rw [h1, h2, h3]
  rcases ht with rfl | rfl | rfl | ht
  · rfl
  · rfl
  · rfl
  · cases t <;> first | rfl | (cases ht)
theorem j_Rep.new {g : j_G} {sh : Nat × Nat} {H H' : Heap} (h : j_Rep g w τ H) (hw : w.1 + 1 < 1000000) (hz : H'.size = H.size + 1) (hk : ∀ q, q < H.size → H'[q]? = H[q]?) (ho : j_obj g sh τ w.1 H') : j_Rep g (j_w1 w sh) τ H' := by
  refine ⟨by rw [hz, h.1]; rfl, hw, fun o hlt => ?_⟩
  have hlt' : o < w.1 + 1 := hlt
  by_cases e : o = w.1
  · subst e
    have e2 : (j_w1 w sh).2 w.1 = sh := if_pos rfl
    rw [e2]; exact ho
  · have e2 : (j_w1 w sh).2 o = w.2 o := if_neg e
    rw [e2]
    exact (h.2.2 o (by omega)).kept (hk _ (by rw [h.1]; omega)) rfl rfl rfl
theorem va_S.new {A : Nat → Prop} {H0 H H' : Heap} {locs : List Loc} (h : va_S A H0 H locs) (hz : H.size ≤ H'.size) (hk : ∀ q, q < H.size → H'[q]? = H[q]?) : va_S A H0 H' locs :=
  ⟨Nat.le_trans h.1 hz, fun q h1 h2 => (hk q (Nat.lt_of_lt_of_le h1 h.1)).trans (h.2.1 q h1 h2), h.2.2⟩
theorem j_fty_ok : ∀ c, c < 11 → ∀ f, f < j_nf c → (j_fty c f = .int ∨ j_fty c f = .boolean ∨ j_fty c f = .double ∨ (j_fty c f).isReference = true) := by decide +kernel
theorem j_aty_ok : ∀ c, c < 10 → (j_aty c = .int ∨ j_aty c = .boolean ∨ j_aty c = .double ∨ (j_aty c).isReference = true) := by decide +kernel
theorem q_new {idx c : Nat} (hd : j_At i pc (.new idx) 3) (h1 : Cond.classLink (j_own i) idx (j_cn c) ∈ lw_tbl) (h2 : Cond.instantiable (j_cn c) (j_nf c) ∈ lw_tbl) (h3 : Cond.initialized (j_cn c) ∈ lw_tbl) (hc : c < 11) (hF : j_Fr w τ) (hw : w.1 + 1 < 1000000) (hk : k + 1 ≤ mc) (hn : n + j_nf c ≤ ms)
    (kk : j_W i d mc ms (k + 1) (n + j_nf c) (pc + 3) L (.ref w.1 :: st) (j_w1 w (c, 0)) τ Q) : j_W i d mc ms k n pc L st w τ Q := by
  intro l g p e s m args below meth c0 C H locs ls hR hS hL
  have hKn := C.2.2.2.2.2.2.2.2.1.1 c _ (j_cl hc)
  have hts := C.2.2.2.2.2.1
  refine W.newcK C.1 C.2.1 C.own (C.wd h1 rfl) (C.wd h2 rfl) (C.wd h3 rfl) (g := F0 m pc ls (st.map (j_cv g))) rfl hd hk hn hKn.2.1 rfl fun H1 kC hkC e1 z1 o1 => ?_
  have hob : j_obj g (c, 0) τ w.1 H1 := by
    refine Or.inl ⟨by show c < 100; omega, hc, ?_⟩
    rw [hR.1] at e1
    exact (u_born (j_fty c) hts (j_uin hc) hKn hkC e1 (j_tyo c hc)).to fun f hf => (j_fv_zero hF (Nat.le_refl _) _ (j_fty_ok c hc f hf)).symm
  have h9 := kk l g p e s m args below meth c0 C H1 locs ls (hR.new hw z1 o1 hob) (hS.new (by omega) o1) hL
  have e2 : j_cv g (.ref w.1) = .ref H.size := by rw [j_cv_r (by omega), j_ad_lt (by omega), hR.1]
  simp only [List.map_cons] at h9
  rw [e2] at h9
  exact h9
theorem q_newarr {at_ : ArrayType} {c z : Nat} {j : Int32} (hd : j_At i pc (.newarray at_) 2) (hty : newarray.typeOf at_ = j_aty c) (h1 : Cond.arrayClass (j_aty c) ∈ lw_tbl) (hc : c < 3) (hj : j = nI z) (hz : z < 100000) (hF : j_Fr w τ) (hw : w.1 + 1 < 1000000) (hk : k + 1 ≤ mc) (hn : n + z ≤ ms)
    (kk : j_W i d mc ms (k + 1) (n + z) (pc + 2) L (.ref w.1 :: st) (j_w1 w (100 + c, z)) τ Q) : j_W i d mc ms k n pc L (.int j :: st) w τ Q := by
  intro l g p e s m args below meth c0 C H locs ls hR hS hL
  subst hj
  have hcl : (nI z).toNatClampNeg = z := nI_clamp (by omega)
  have hby : z * componentBytes (newarray.typeOf at_) ≤ 536870912 := by
    have : componentBytes (newarray.typeOf at_) ≤ 8 := by cases at_ <;> decide
    exact Nat.le_trans (Nat.mul_le_mul_left z this) (by omega)
  refine va_newaK C.1 C.2.1 (by rw [hty]; exact C.wd h1 rfl) (g := F0 m pc ls (.int (nI z) :: st.map (j_cv g))) rfl hd rfl (nI_pos (by omega)) hcl hby hk hn rfl fun H1 cA e1 z1 o1 hA hf => ?_
  have hRA := (C.2.2.2.2.2.2.2.2.arr (c := c) (by omega)).2
  have hcA : cA = g.2.2.1 c := by
    rw [hty] at hf
    have h7 : s.vm.findClass ("[" ++ (j_aty c).toString) = some (g.2.2.1 c) := by
      match c, hc, hRA with
      | 0, _, h => exact h
      | 1, _, h => exact h
      | 2, _, h => exact h
    exact Option.some.inj (hf.symm.trans h7)
  have hob : j_obj g (100 + c, z) τ w.1 H1 := by
    refine Or.inr ⟨Nat.le_add_right _ _, by show 100 + c < 110; omega, by show z < 2 ^ 31; omega, ?_⟩
    rw [hR.1] at e1
    rw [e1, hcA, hty]
    have e9 : (100 + c, z).1 - 100 = c := by show 100 + c - 100 = c; omega
    rw [e9]
    congr 2
    exact funext fun f => (j_fv_zero hF (Nat.le_refl _) _ (j_aty_ok c (by omega))).symm
  have h9 := kk l g p e s m args below meth c0 C H1 locs ls (hR.new hw z1 o1 hob) (hS.new (by omega) o1) hL
  have e2 : j_cv g (.ref w.1) = .ref H.size := by rw [j_cv_r (by omega), j_ad_lt (by omega), hR.1]
  simp only [List.map_cons] at h9
  rw [e2] at h9
  exact h9
theorem q_anew {idx c z : Nat} {C1 : String} {j : Int32} (hd : j_At i pc (.anewarray idx) 3) (hty : j_aty c = .object C1) (h1 : Cond.classLink (j_own i) idx C1 ∈ lw_tbl) (hc : c < 10) (hc3 : 3 ≤ c) (hj : j = nI z) (hz : z < 100000) (hF : j_Fr w τ) (hw : w.1 + 1 < 1000000) (hk : k + 1 ≤ mc) (hn : n + z ≤ ms)
    (kk : j_W i d mc ms (k + 1) (n + z) (pc + 3) L (.ref w.1 :: st) (j_w1 w (100 + c, z)) τ Q) : j_W i d mc ms k n pc L (.int j :: st) w τ Q := by
  intro l g p e s m args below meth c0 C H locs ls hR hS hL
  subst hj
  have hcl : (nI z).toNatClampNeg = z := nI_clamp (by omega)
  have hao := C.2.2.2.2.2.2.2.2.2.2.2.2 c hc hc3
  rw [hty] at hao
  refine W.anew C.1 C.2.1 C.own (C.wd h1 rfl) (va_AO.use hao) (g := F0 m pc ls (.int (nI z) :: st.map (j_cv g))) rfl hd rfl (nI_pos (by omega)) (by rw [hcl]; omega) hk (by rw [hcl]; exact hn) fun cA kA comp f1 f2 f3 f4 => ?_
  rw [hcl]
  generalize hH1 : H.push ({ cls := cA, slots := Array.replicate z .null, vm := .none } : Cell) = H1
  have z1 : H1.size = H.size + 1 := by rw [← hH1, Array.size_push]
  have e1 : H1[H.size]? = some (arrV cA z (fun _ => .null)) := by rw [← hH1, Array.getElem?_push_size, ← arrV_new]
  have o1 : ∀ q : Nat, q < H.size → H1[q]? = H[q]? := fun q hq => by rw [← hH1, Array.getElem?_push, if_neg (Nat.ne_of_lt hq)]
  have hRA := (C.2.2.2.2.2.2.2.2.arr (c := c) hc).2
  have hcA : cA = g.2.2.1 c := by
    rw [hty] at hRA
    obtain ⟨_, _, _, _, _, h7⟩ := hRA
    exact Option.some.inj (f1.symm.trans h7)
  have hob : j_obj g (100 + c, z) τ w.1 H1 := by
    refine Or.inr ⟨Nat.le_add_right _ _, by show 100 + c < 110; omega, by show z < 2 ^ 31; omega, ?_⟩
    rw [hR.1] at e1
    rw [e1, hcA]
    have e9 : (100 + c, z).1 - 100 = c := by show 100 + c - 100 = c; omega
    rw [e9]
    congr 2
    exact funext fun f => by rw [j_fv_zero hF (Nat.le_refl _) _ (j_aty_ok c hc), hty]; rfl
  have h9 := kk l g p e s m args below meth c0 C H1 locs ls (hR.new hw z1 o1 hob) (hS.new (by omega) o1) hL
  have e2 : j_cv g (.ref w.1) = .ref H.size := by rw [j_cv_r (by omega), j_ad_lt (by omega), hR.1]
  simp only [List.map_cons] at h9
  rw [e2] at h9
  exact h9
end JNEW
