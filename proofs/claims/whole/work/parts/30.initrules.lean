/-! the constructors: worlds that grow along j_shp -/
def wn (n : Nat) : j_Wd := (n, j_shp)
section JI
variable {i d mc ms k n pc : Nat} {L : List (Option Value)} {st : List Value} {w : j_Wd} {τ : j_St} {Q : j_Po}
theorem j_Rep.cg {g : j_G} {w w' : j_Wd} {H : Heap} (h : j_Rep g w τ H) (h1 : w'.1 = w.1) (h2 : ∀ o, o < w.1 → w'.2 o = w.2 o) : j_Rep g w' τ H :=
  ⟨by rw [h1]; exact h.1, by rw [h1]; exact h.2.1, fun o ho => by rw [h1] at ho; rw [h2 o ho]; exact h.2.2 o ho⟩
theorem q_wcg {w' : j_Wd} (h1 : w'.1 = w.1) (h2 : ∀ o, o < w.1 → w'.2 o = w.2 o) (kk : j_W i d mc ms k n pc L st w' τ Q) : j_W i d mc ms k n pc L st w τ Q :=
  fun l g p e s m args below meth c C H locs ls hR hS hL => kk l g p e s m args below meth c C H locs ls (hR.cg h1 h2) hS hL
theorem j_Fr.up {N N' : Nat} (h : j_Fr (wn N) τ) (hN : N ≤ N') : j_Fr (wn N') τ := fun o ho f => h o (Nat.le_trans hN ho) f
theorem j_Fr.wI {o f : Nat} {v : Int32} (h : j_Fr w τ) (ho : o < w.1) : j_Fr w (j_u τ.1 o f v, τ.2.1, τ.2.2) := fun o' ho' f' => by
  obtain ⟨h1, h2, h3⟩ := h o' ho' f'
  exact ⟨(j_u_o _ _ _ (by omega)).trans h1, h2, h3⟩
theorem j_Fr.wD {o f : Nat} {v : UInt64} (h : j_Fr w τ) (ho : o < w.1) : j_Fr w (τ.1, j_u τ.2.1 o f v, τ.2.2) := fun o' ho' f' => by
  obtain ⟨h1, h2, h3⟩ := h o' ho' f'
  exact ⟨h1, (j_u_o _ _ _ (by omega)).trans h2, h3⟩
theorem j_Fr.wR {o f : Nat} {v : Option Nat} (h : j_Fr w τ) (ho : o < w.1) : j_Fr w (τ.1, τ.2.1, j_u τ.2.2 o f v) := fun o' ho' f' => by
  obtain ⟨h1, h2, h3⟩ := h o' ho' f'
  exact ⟨h1, h2, (j_u_o _ _ _ (by omega)).trans h3⟩
theorem j_Fr.wM {N z : Nat} (h : j_Fr (wn N) τ) : j_Fr (wn (N + (1 + z))) (τ.1, τ.2.1, j_rm2 τ.2.2 N z) := fun o' ho' f' => by
  have ho : N + (1 + z) ≤ o' := ho'
  obtain ⟨h1, h2, h3⟩ := h o' (show N ≤ o' by omega) f'
  exact ⟨h1, h2, by show j_rm2 τ.2.2 N z o' f' = none; unfold j_rm2; rw [if_neg (by omega)]; exact h3⟩
theorem r_new {idx c N N' : Nat} (hd : j_At i pc (.new idx) 3) (h1 : Cond.classLink (j_own i) idx (j_cn c) ∈ lw_tbl) (h2 : Cond.instantiable (j_cn c) (j_nf c) ∈ lw_tbl) (h3 : Cond.initialized (j_cn c) ∈ lw_tbl) (hc : c < 11) (hF : j_Fr (wn N) τ) (hN' : N' = N + 1) (hw : N' < 1000000) (hsh : j_shp N = (c, 0)) (hk : k + 1 ≤ mc) (hn : n + j_nf c ≤ ms)
    (kk : j_Fr (wn N') τ → j_W i d mc ms (k + 1) (n + j_nf c) (pc + 3) L (.ref N :: st) (wn N') τ Q) : j_W i d mc ms k n pc L st (wn N) τ Q := by
  subst hN'
  refine q_new hd h1 h2 h3 hc hF hw hk hn (q_wcg (w' := wn (N + 1)) rfl (fun o ho => ?_) (kk (hF.up (Nat.le_succ _))))
  show j_shp o = if o = N then (c, 0) else j_shp o
  by_cases e : o = N
  · rw [if_pos e, e, hsh]
  · rw [if_neg e]
theorem r_newarr {at_ : ArrayType} {c z N N' : Nat} {j : Int32} (hd : j_At i pc (.newarray at_) 2) (hty : newarray.typeOf at_ = j_aty c) (h1 : Cond.arrayClass (j_aty c) ∈ lw_tbl) (hc : c < 3) (hj : j = nI z) (hz : z < 100000) (hF : j_Fr (wn N) τ) (hN' : N' = N + 1) (hw : N' < 1000000) (hsh : j_shp N = (100 + c, z)) (hk : k + 1 ≤ mc) (hn : n + z ≤ ms)
    (kk : j_Fr (wn N') τ → j_W i d mc ms (k + 1) (n + z) (pc + 2) L (.ref N :: st) (wn N') τ Q) : j_W i d mc ms k n pc L (.int j :: st) (wn N) τ Q := by
  subst hN'
  refine q_newarr hd hty h1 hc hj hz hF hw hk hn (q_wcg (w' := wn (N + 1)) rfl (fun o ho => ?_) (kk (hF.up (Nat.le_succ _))))
  show j_shp o = if o = N then (100 + c, z) else j_shp o
  by_cases e : o = N
  · rw [if_pos e, e, hsh]
  · rw [if_neg e]
theorem r_anew {idx c z N N' : Nat} {C1 : String} {j : Int32} (hd : j_At i pc (.anewarray idx) 3) (hty : j_aty c = .object C1) (h1 : Cond.classLink (j_own i) idx C1 ∈ lw_tbl) (hc : c < 10) (hc3 : 3 ≤ c) (hj : j = nI z) (hz : z < 100000) (hF : j_Fr (wn N) τ) (hN' : N' = N + 1) (hw : N' < 1000000) (hsh : j_shp N = (100 + c, z)) (hk : k + 1 ≤ mc) (hn : n + z ≤ ms)
    (kk : j_Fr (wn N') τ → j_W i d mc ms (k + 1) (n + z) (pc + 3) L (.ref N :: st) (wn N') τ Q) : j_W i d mc ms k n pc L (.int j :: st) (wn N) τ Q := by
  subst hN'
  refine q_anew hd hty h1 hc hc3 hj hz hF hw hk hn (q_wcg (w' := wn (N + 1)) rfl (fun o ho => ?_) (kk (hF.up (Nat.le_succ _))))
  show j_shp o = if o = N then (100 + c, z) else j_shp o
  by_cases e : o = N
  · rw [if_pos e, e, hsh]
  · rw [if_neg e]
theorem r_multi {idx c c' z y N N' : Nat} {jz jy : Int32} (hd : j_At i pc (.multianewarray idx 2) 4) (hty : j_aty c = .array (j_aty c')) (hc' : c' < 3) (hc3 : 3 ≤ c) (hc : c < 6) (h1 : Cond.classLink (j_own i) idx ("[" ++ (j_aty c).toString) ∈ lw_tbl) (h2 : Cond.arrayClass (j_aty c') ∈ lw_tbl) (hjz : jz = nI z) (hjy : jy = nI y) (hz : z < 1000) (hy : y < 1000) (hF : j_Fr (wn N) τ) (hN' : N' = N + (1 + z)) (hw : N' < 1000000) (hsh : ∀ q, q < 1 + z → j_shp (N + q) = if q = 0 then (100 + c, z) else (100 + c', y)) (hk : k + (1 + z) ≤ mc) (hn : n + (z + z * y) ≤ ms)
    (kk : j_Fr (wn N') (τ.1, τ.2.1, j_rm2 τ.2.2 N z) → j_W i d mc ms (k + 1 + z) (n + z + z * y) (pc + 4) L (.ref N :: st) (wn N') (τ.1, τ.2.1, j_rm2 τ.2.2 N z) Q) : j_W i d mc ms k n pc L (.int jy :: .int jz :: st) (wn N) τ Q := by
  subst hN'
  refine q_multi hd hty hc' hc3 hc h1 h2 hjz hjy hz hy hF hw hk hn (q_wcg (w' := wn (N + (1 + z))) rfl (fun o ho => ?_) (kk hF.wM))
  have ho' : o < N + (1 + z) := ho
  show j_shp o = if o < N then j_shp o else if o = N then (100 + c, z) else (100 + c', y)
  by_cases e1 : o < N
  · rw [if_pos e1]
  · rw [if_neg e1]
    have h9 := hsh (o - N) (by omega)
    rw [show N + (o - N) = o by omega] at h9
    rw [h9]
    by_cases e2 : o = N
    · rw [if_pos e2, if_pos (by omega)]
    · rw [if_neg e2, if_neg (by omega)]
end JI
theorem j_rm2_ne {R : Nat → Nat → Option Nat} {o z o' f : Nat} (h : o' ≠ o) : j_rm2 R o z o' f = R o' f := if_neg h
