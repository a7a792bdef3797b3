/-! stores of references, arrays of arrays, statics, text constants, natives -/
section JNAT
variable {i d mc ms k n pc : Nat} {L : List (Option Value)} {st : List Value} {w : j_Wd} {τ : j_St} {Q : j_Po}
/-- the class whose objects an array of references holds -/
def j_ec (c : Nat) : Nat := match c with
  | 6 => 2 | 7 => 3 | 8 => 6 | _ => 7
theorem j_ec_ok : ∀ c, 6 ≤ c → c < 10 → j_aty c = .object (j_cn (j_ec c)) ∧ j_ec c < 11 ∧ j_kd (j_aty c) = 2
  | 6, _, _ => ⟨rfl, by decide, rfl⟩ | 7, _, _ => ⟨rfl, by decide, rfl⟩ | 8, _, _ => ⟨rfl, by decide, rfl⟩ | 9, _, _ => ⟨rfl, by decide, rfl⟩
  | 0, h, _ => absurd h (by omega) | 1, h, _ => absurd h (by omega) | 2, h, _ => absurd h (by omega) | 3, h, _ => absurd h (by omega) | 4, h, _ => absurd h (by omega) | 5, h, _ => absurd h (by omega)
  | q + 10, _, h => absurd h (by omega)
theorem q_aastore {o z a c v zv : Nat} {j : Int32} (hd : j_At i pc .aastore 1) (ho : o < w.1) (hs : w.2 o = (100 + c, z)) (hc6 : 6 ≤ c) (hj : j = nI a) (ha : a < z) (hv : v < w.1) (hsv : w.2 v = (j_ec c, zv)) (kk : j_W i d mc ms k n (pc + 1) L st w (τ.1, τ.2.1, j_u τ.2.2 o a (some v)) Q) : j_W i d mc ms k n pc L (.ref v :: .int j :: .ref o :: st) w τ Q := by
  intro l g p e s m args below meth c0 C H locs ls hR hS hL
  obtain ⟨hc, hz, hcell⟩ := hR.ar (c := c) ho hs
  obtain ⟨ht, he, hkd⟩ := j_ec_ok c hc6 hc
  obtain ⟨-, cellV, g1, g2, g3, -⟩ := hR.ob hv hsv (by omega)
  subst hj
  have hcl : (nI a).toNatClampNeg = a := nI_clamp (by omega)
  have hK := C.2.2.2.2.2.2.2.2
  have hcls := (hK.1.1 _ _ (j_cl he)).2
  have hRA := (hK.arr hc).2
  rw [ht] at hRA
  obtain ⟨kA, comp, k1, k2, k3, -⟩ := hRA
  have hcomp : comp = g.2.1.1 (j_ec c) := Option.some.inj (k3.symm.trans hcls.1)
  subst hcomp
  obtain ⟨kC, hkC, -⟩ := hcls.2
  simp only [List.map_cons]
  rw [j_cv_ref hR ho, j_cv_ref hR hv]
  refine W.aast C.1 C.2.1 hcell (fun q h => by cases h) (fun h => by cases h) k1 k2 rfl hkC ⟨nI_pos (by omega), by show _ < (arrV _ _ _).slots.size; rw [arrV_size, hcl]; exact ha⟩ g1 (fun q h => by rw [g3] at h; cases h) (by rw [g2]; exact hkC) (by rw [g2]; exact va_assign hcls) rfl rfl hd fun H1 e1 z1 oq => ?_
  refine kk l g p e s m args below meth c0 C H1 _ ls (hR.set z1 oq ?_ ?_) (hS.put z1 oq (Nat.le_add_right _ _)) hL
  · rw [hs]
    refine Or.inr ⟨Nat.le_add_right _ _, by show 100 + c < 110; omega, hz, ?_⟩
    have e9 : (100 + c, z).1 - 100 = c := by show 100 + c - 100 = c; omega
    rw [e1, hcl, arrV_store, e9]
    congr 2
    funext q
    by_cases hq : q = a
    · subst hq
      simp only [updV, if_pos]
      rw [hkd]
      show _ = va_rf ((j_u τ.2.2 o q (some v) o q).map (j_ad g))
      rw [j_u_same]
      show _ = Value.ref (j_ad g v)
      rw [j_ad_lt (by have := hR.2.1; omega)]
    · simp only [updV, if_neg hq]
      exact j_fv_congr rfl rfl (j_u_k _ _ hq).symm
  · intro o' ho'
    exact ⟨rfl, rfl, j_u2 _ _ _ _ o' ho'⟩
/-- new T[z][y] -/
def j_wm (w : j_Wd) (c c' z y : Nat) : j_Wd := (w.1 + (1 + z), fun o => if o < w.1 then w.2 o else if o = w.1 then (100 + c, z) else (100 + c', y))
def j_rm2 (R : Nat → Nat → Option Nat) (o z : Nat) : Nat → Nat → Option Nat := fun o' f => if o' = o then (if f < z then some (o + 1 + f) else none) else R o' f
def j_mt (c : Nat) : FieldType := match c with
  | 3 => .double | 4 => .int | _ => .boolean
theorem q_multi {idx c c' z y : Nat} {jz jy : Int32} (hd : j_At i pc (.multianewarray idx 2) 4) (hty : j_aty c = .array (j_aty c')) (hc' : c' < 3) (hc3 : 3 ≤ c) (hc : c < 6) (h1 : Cond.classLink (j_own i) idx ("[" ++ (j_aty c).toString) ∈ lw_tbl) (h2 : Cond.arrayClass (j_aty c') ∈ lw_tbl) (hjz : jz = nI z) (hjy : jy = nI y) (hz : z < 1000) (hy : y < 1000) (hF : j_Fr w τ) (hw : w.1 + (1 + z) < 1000000) (hk : k + (1 + z) ≤ mc) (hn : n + (z + z * y) ≤ ms)
    (kk : j_W i d mc ms (k + 1 + z) (n + z + z * y) (pc + 4) L (.ref w.1 :: st) (j_wm w c c' z y) (τ.1, τ.2.1, j_rm2 τ.2.2 w.1 z) Q) : j_W i d mc ms k n pc L (.int jy :: .int jz :: st) w τ Q := by
  intro l g p e s m args below meth c0 C H locs ls hR hS hL
  subst hjz
  subst hjy
  have hcz : (nI z).toNatClampNeg = z := nI_clamp (by omega)
  have hcy : (nI y).toNatClampNeg = y := nI_clamp (by omega)
  have hK := C.2.2.2.2.2.2.2.2
  have hao := hK.2.2.2.2 c (by omega) hc3
  rw [hty] at hao h1
  have hb2 : y * componentBytes (j_aty c') ≤ 536870912 := by
    have : componentBytes (j_aty c') ≤ 8 := by
      match c', hc' with
      | 0, _ => decide
      | 1, _ => decide
      | 2, _ => decide
    exact Nat.le_trans (Nat.mul_le_mul_left y this) (by omega)
  have hdf : fits (j_aty c') (defaultValue (j_aty c')) = true ∧ (defaultValue (j_aty c')).isDefault = true := by
    match c', hc' with
    | 0, _ => exact ⟨rfl, rfl⟩
    | 1, _ => exact ⟨by decide, by decide⟩
    | 2, _ => exact ⟨rfl, rfl⟩
  have hRA : s.vm.findClass ("[" ++ (FieldType.array (j_aty c')).toString) = some (g.2.2.1 c) := by
    have h := (hK.arr (c := c) (by omega)).2
    rw [hty] at h
    exact h
  have hRA' : s.vm.findClass (FieldType.array (j_aty c')).toString = some (g.2.2.1 c') := by
    have h := (hK.arr (c := c') (by omega)).2
    match c', hc', h with
    | 0, _, h => exact h
    | 1, _, h => exact h
    | 2, _, h => exact h
  intro T hT Xs
  obtain ⟨vm₁, cA, comp, -, fA, fC, hO, -, X', step⟩ := Jvm.Stand.multianewarray2F Xs C.1 C.own (C.wd h1 rfl) (show (Cond.arrayOver (.array (j_aty c'))).before args s = true from hao) (C.wd h2 rfl) (g := F0 m pc ls ((Value.int (nI y) :: .int (nI z) :: st).map (j_cv g))) rfl (by rw [C.2.1]; exact hd) rfl (nI_pos (by omega)) (nI_pos (by omega)) (by rw [hcz]; omega) (by rw [hcy]; exact hb2) (by rw [hcy]; omega) hdf.1 hdf.2 (by rw [hcz]; exact hk) (by rw [hcz, hcy]; exact hn)
  have ec : g.2.2.1 c' = comp := Option.some.inj (hRA'.symm.trans fC)
  have eA : g.2.2.1 c = cA := Option.some.inj (hRA.symm.trans fA)
  subst ec
  subst eA
  rw [hcz, hcy] at X' step
  generalize hF9 : Jvm.Free.Multi.fill (T.setVm vm₁) (g.2.2.1 c) (g.2.2.1 c') z y (defaultValue (j_aty c')) z = F at X' step
  have hTh : (T.setVm vm₁).heap = H := hT
  obtain ⟨f1, f2, -, -⟩ := Jvm.Free.Multi.fill_facts (T.setVm vm₁) (g.2.2.1 c) (g.2.2.1 c') z y (defaultValue (j_aty c')) z
  rw [hF9, hTh] at f1 f2
  have hold : ∀ x : Nat, x < H.size → F.heap[x]? = H[x]? := fun x hx => by
    have := Jvm.Free.Multi.fill_old (T.setVm vm₁) (g.2.2.1 c) (g.2.2.1 c') z y (defaultValue (j_aty c')) (a := x) (by rw [hTh]; exact hx) z
    rw [hF9, hTh] at this
    exact this
  have hrow : ∀ j : Nat, j < z → F.heap[H.size + 1 + j]? = some (Jvm.Free.Multi.innerC (g.2.2.1 c') y (defaultValue (j_aty c'))) := fun j hj => by
    have := Jvm.Free.Multi.fill_inner (T.setVm vm₁) (g.2.2.1 c) (g.2.2.1 c') z y (defaultValue (j_aty c')) z j hj
    rw [hF9, hTh] at this
    exact this
  have hout : ∀ (h0 N : Nat) (q : Nat), Jvm.Free.Multi.outerC (g.2.2.1 c) N h0 q = arrV (g.2.2.1 c) N (fun j => va_rf (if j < q then some (h0 + 1 + j) else none)) := by
    intro h0 N q
    induction q with
    | zero =>
      show ({ cls := g.2.2.1 c, slots := Array.replicate N .null, vm := .none } : Cell) = _
      rw [arrV_new]
      refine congrArg (arrV (g.2.2.1 c) N) (funext fun j => ?_)
      simp [va_rf]
    | succ q ih =>
      show (Jvm.Free.Multi.outerC (g.2.2.1 c) N h0 q).setSlot q (.ref (h0 + 1 + q)) = _
      rw [ih, arrV_store]
      refine congrArg (arrV (g.2.2.1 c) N) (funext fun j => ?_)
      by_cases e : j = q
      · subst e
        simp [updV, va_rf]
      · by_cases h : j < q
        · simp [updV, e, h, Nat.lt_succ_of_lt h]
        · simp [updV, e, h, show ¬ j < q + 1 by omega]
  rw [hout] at f2
  have hR' : j_Rep g (j_wm w c c' z y) (τ.1, τ.2.1, j_rm2 τ.2.2 w.1 z) F.heap := by
    refine ⟨by rw [f1, hR.1]; show _ = g.1 + (w.1 + (1 + z)); omega, hw, fun o ho => ?_⟩
    have ho' : o < w.1 + (1 + z) := ho
    by_cases o1 : o < w.1
    · have e2 : (j_wm w c c' z y).2 o = w.2 o := if_pos o1
      rw [e2]
      exact (hR.2.2 o o1).kept (hold _ (by rw [hR.1]; omega)) rfl rfl (funext fun f => if_neg (by omega))
    · by_cases o2 : o = w.1
      · subst o2
        have e2 : (j_wm w c c' z y).2 w.1 = (100 + c, z) := by show (if w.1 < w.1 then _ else if w.1 = w.1 then _ else _) = _; rw [if_neg (Nat.lt_irrefl _), if_pos rfl]
        rw [e2]
        refine Or.inr ⟨Nat.le_add_right _ _, by show 100 + c < 110; omega, by show z < 2 ^ 31; omega, ?_⟩
        have e9 : (100 + c, z).1 - 100 = c := by show 100 + c - 100 = c; omega
        rw [e9, ← hR.1, f2]
        congr 2
        funext f
        rw [(j_rk c hc3 (by omega)).1]
        show _ = va_rf ((j_rm2 τ.2.2 w.1 z w.1 f).map (j_ad g))
        unfold j_rm2
        rw [if_pos rfl]
        by_cases hf : f < z
        · rw [if_pos hf, if_pos hf]
          have hz9 : H.size = g.1 + w.1 := hR.1
          have e7 : j_ad g (w.1 + 1 + f) = g.1 + (w.1 + 1 + f) := j_ad_lt (by omega)
          have e10 : H.size + 1 + f = j_ad g (w.1 + 1 + f) := by rw [e7]; omega
          exact congrArg Value.ref e10
        · rw [if_neg hf, if_neg hf]
          rfl
      · have e2 : (j_wm w c c' z y).2 o = (100 + c', y) := by show (if o < w.1 then _ else if o = w.1 then _ else _) = _; rw [if_neg o1, if_neg o2]
        rw [e2]
        refine Or.inr ⟨Nat.le_add_right _ _, by show 100 + c' < 110; omega, by show y < 2 ^ 31; omega, ?_⟩
        have e9 : (100 + c', y).1 - 100 = c' := by show 100 + c' - 100 = c'; omega
        have h7 := hrow (o - w.1 - 1) (by omega)
        have e8 : H.size + 1 + (o - w.1 - 1) = g.1 + o := by rw [hR.1]; omega
        rw [e8] at h7
        rw [e9, h7]
        congr 1
        show ({ cls := g.2.2.1 c', slots := Array.replicate y (defaultValue (j_aty c')), vm := .none } : Cell) = _
        rw [arrV_new]
        refine congrArg (arrV (g.2.2.1 c') y) (funext fun f => ?_)
        have h6 := j_fv_zero (g := g) (f := f) hF (show w.1 ≤ o by omega) _ (j_aty_ok c' (by omega))
        rw [← h6]
        refine j_fv_congr rfl rfl ?_
        show _ = j_rm2 τ.2.2 w.1 z o f
        unfold j_rm2
        rw [if_neg o2]
  have h9 := kk l g p e s m args below meth c0 C F.heap locs ls hR' (hS.new (by rw [f1]; omega) hold) hL F rfl X'
  obtain ⟨t, a1, b1⟩ := h9
  refine ⟨t, step t ?_, b1⟩
  have e2 : j_cv g (.ref w.1) = .ref T.heap.size := by rw [j_cv_r (by omega), j_ad_lt (by omega), hT, hR.1]
  simp only [List.map_cons] at a1
  rw [e2] at a1
  exact a1
/-! statics and text constants -/
theorem q_under {idx : Nat} (hd : j_At i pc (.getstatic idx) 3) (h1 : Cond.fieldLink (j_own i) idx "WhatIfSheet" "UNDER" "[I" ∈ lw_tbl) (kk : j_W i d mc ms k n (pc + 3) L (.ref 1000099 :: st) w τ Q) : j_W i d mc ms k n pc L st w τ Q :=
  fun l g p e s m args below meth c C H locs ls hR hS hL => va_gets C.1 C.2.1 C.2.2.2.2.2.2.2.2.2.1.1 hS C.own (C.wd h1 rfl) (fun _ h => h) hd (kk l g p e s m args below meth c C H locs ls hR hS hL)
theorem q_underload {a : Nat} {j : Int32} (hd : j_At i pc .iaload 1) (hj : j = nI a) (ha : a < 6) (kk : j_W i d mc ms k n (pc + 1) L (.int (j_under a) :: st) w τ Q) : j_W i d mc ms k n pc L (.int j :: .ref 1000099 :: st) w τ Q := by
  intro l g p e s m args below meth c C H locs ls hR hS hL
  subst hj
  have hcl : (nI a).toNatClampNeg = a := nI_clamp (by omega)
  exact va_ti (i := nI a) C.1 C.2.1 C.2.2.2.2.2.2.2.2.2.1.2.1 hS (vp_in_nI ha (by decide)) (by rw [hcl]; rfl) hd (kk l g p e s m args below meth c C H locs ls hR hS hL)
theorem q_compact {idx : Nat} (hd : j_At i pc (.getstatic idx) 3) (h1 : Cond.fieldLink (j_own i) idx "java/lang/String" "COMPACT_STRINGS" "Z" ∈ lw_tbl) (kk : j_W i d mc ms k n (pc + 3) L (.int 1 :: st) w τ Q) : j_W i d mc ms k n pc L st w τ Q :=
  fun l g p e s m args below meth c C H locs ls hR hS hL => va_gets C.1 C.2.1 C.2.2.2.2.2.2.2.2.2.1.2.2.1 hS C.own (C.wd h1 rfl) (fun _ h => h) hd (kk l g p e s m args below meth c C H locs ls hR hS hL)
theorem q_fmter {idx : Nat} (hd : j_At i pc (.getstatic idx) 3) (h1 : Cond.fieldLink (j_own i) idx "jdk/internal/util/Preconditions" "SIOOBE_FORMATTER" "Ljava/util/function/BiFunction;" ∈ lw_tbl) (kk : j_W i d mc ms k n (pc + 3) L (.ref 1000098 :: st) w τ Q) : j_W i d mc ms k n pc L st w τ Q :=
  fun l g p e s m args below meth c C H locs ls hR hS hL => va_gets C.1 C.2.1 C.2.2.2.2.2.2.2.2.2.1.2.2.2.1 hS C.own (C.wd h1 rfl) (fun _ h => h) hd (kk l g p e s m args below meth c C H locs ls hR hS hL)
theorem j_cv_tx {g : j_G} {q : Nat} (h : q < 90) : j_cv g (.ref (1000000 + q)) = .ref (g.2.2.2.1 q) := by
  have e1 : j_cv g (.ref (1000000 + q)) = .ref (j_ad g (1000000 + q)) := if_neg (show ¬ 1000000 + q = 1000098 by omega)
  rw [e1]
  unfold j_ad
  rw [if_neg (by omega), show 1000000 + q - 1000000 = q by omega]
theorem q_ldcS {idx q : Nat} (hd : j_At i pc (.ldc idx) 2) (hq : q < 9) (hm : (j_own i, idx, q) ∈ j_strs) (kk : j_W i d mc ms k n (pc + 2) L (.ref (1000000 + 2 * q) :: st) w τ Q) : j_W i d mc ms k n pc L st w τ Q := by
  intro l g p e s m args below meth c C H locs ls hR hS hL
  have h := kk l g p e s m args below meth c C H locs ls hR hS hL
  simp only [List.map_cons] at h
  rw [j_cv_tx (by omega)] at h
  exact va_ldcS C.1 C.2.1 C.own (C.2.2.2.2.2.2.2.2.2.1.2.2.2.2.2 _ hm) hd h
theorem q_sval {idx q : Nat} (hd : j_At i pc (.getfield idx) 3) (hq : q < 9) (h1 : Cond.fieldLink (j_own i) idx "java/lang/String" "value" "[B" ∈ lw_tbl) (kk : j_W i d mc ms k n (pc + 3) L (.ref (1000000 + (2 * q + 1)) :: st) w τ Q) : j_W i d mc ms k n pc L (.ref (1000000 + 2 * q) :: st) w τ Q := by
  intro l g p e s m args below meth c C H locs ls hR hS hL
  have h := kk l g p e s m args below meth c C H locs ls hR hS hL
  simp only [List.map_cons] at h ⊢
  rw [j_cv_tx (by omega)] at h ⊢
  exact vk_getf C.1 C.2.1 ((C.2.2.2.2.2.2.2.2.2.1.2.2.2.2.1).1 q hq).2.2.1 hS C.own (C.wd h1 rfl) (fun _ h => h) hd h
theorem q_scoder {idx q : Nat} (hd : j_At i pc (.getfield idx) 3) (hq : q < 9) (h1 : Cond.fieldLink (j_own i) idx "java/lang/String" "coder" "B" ∈ lw_tbl) (kk : j_W i d mc ms k n (pc + 3) L (.int 0 :: st) w τ Q) : j_W i d mc ms k n pc L (.ref (1000000 + 2 * q) :: st) w τ Q := by
  intro l g p e s m args below meth c C H locs ls hR hS hL
  have h := kk l g p e s m args below meth c C H locs ls hR hS hL
  simp only [List.map_cons] at h ⊢
  rw [j_cv_tx (by omega)]
  exact vk_getf C.1 C.2.1 ((C.2.2.2.2.2.2.2.2.2.1.2.2.2.2.1).1 q hq).2.1 hS C.own (C.wd h1 rfl) (fun _ h => h) hd h
theorem q_sbaload {q a : Nat} {j : Int32} (hd : j_At i pc .baload 1) (hq : q < 9) (hj : j = nI a) (ha : a < j_len.getD q 0) (kk : j_W i d mc ms k n (pc + 1) L (.int ((j_byt.getD q []).getD a 0) :: st) w τ Q) : j_W i d mc ms k n pc L (.int j :: .ref (1000000 + (2 * q + 1)) :: st) w τ Q := by
  intro l g p e s m args below meth c C H locs ls hR hS hL
  have h := kk l g p e s m args below meth c C H locs ls hR hS hL
  have hN : j_len.getD q 0 < 2 ^ 31 := by
    have : ∀ q, q < 9 → j_len.getD q 0 < 2 ^ 31 := by decide
    exact this q hq
  subst hj
  have hcl : (nI a).toNatClampNeg = a := nI_clamp (by omega)
  simp only [List.map_cons] at h ⊢
  rw [j_cv_tx (by omega)]
  exact va_tb (i := nI a) C.1 C.2.1 ((C.2.2.2.2.2.2.2.2.2.1.2.2.2.2.1).1 q hq).2.2.2 hS (vp_in_nI ha hN) (by rw [hcl]; rfl) hd h
theorem q_sblen {q : Nat} (hd : j_At i pc .arraylength 1) (hq : q < 9) (kk : j_W i d mc ms k n (pc + 1) L (.int (Int32.ofNat (j_len.getD q 0)) :: st) w τ Q) : j_W i d mc ms k n pc L (.ref (1000000 + (2 * q + 1)) :: st) w τ Q := by
  intro l g p e s m args below meth c C H locs ls hR hS hL
  have h := kk l g p e s m args below meth c C H locs ls hR hS hL
  simp only [List.map_cons] at h ⊢
  rw [j_cv_tx (by omega)]
  exact va_tlen C.1 C.2.1 ((C.2.2.2.2.2.2.2.2.2.1.2.2.2.2.1).1 q hq).2.2.2 hS rfl hd h
/-- a call of a text constant's method -/
theorem q_invStr {idx j na d' q : Nat} {av rest : List Value} (hd : j_At i pc (.invokevirtual idx) 3) (hc : j_CV i idx j na) (hown : j_own j = "java/lang/String") (hq : q < 9) (hst : st = av.reverse ++ .ref (1000000 + 2 * q) :: rest) (hna : av.length = na) (hdp : d' + 1 ≤ d) (hml : j_ml j ≤ 45) (hrest : (rest.map fun v => v.category).sum ≤ 8) (hmc : k ≤ mc) (hms : n ≤ ms)
    (hM : j_Call d' j (.ref (1000000 + 2 * q) :: av) w τ 0 0 (fun r w' τ' => j_W i d mc ms (k + 0) (n + 0) (pc + 3) L (r.toList ++ rest) w' τ' Q)) : j_W i d mc ms k n pc L st w τ Q := by
  intro l g p e s m args below meth c C H locs ls hR hS hL
  obtain ⟨h1, h2, h3, h4, h5, h6⟩ := hc
  have cw : CallW (j_rm d mc ms) s args (j_own i) (j_own j) idx (j_y j) (j_b j) (j_ml j) (j_rt j) (j_ws j) (j_rm d' 0 0) 0 0 na :=
    ⟨callB_of na C.2.2.2.2.2.1 (j_good h5) rfl rfl rfl (C.wd h4 rfl) (C.wd h1 rfl) ⟨h5.2.2.1, h5.2.2.2, h6⟩ (j_rm_ok hdp hml), C.wd h2 rfl, C.wd h3 rfl⟩
  have hp := j_preS (av := .ref (1000000 + 2 * q) :: av) C hR hS
  have e1 : (Value.ref (1000000 + 2 * q) :: av).map (j_cv g) = .ref (g.2.2.2.1 (2 * q)) :: av.map (j_cv g) := by rw [List.map_cons, j_cv_tx (by omega)]
  rw [e1] at hp
  subst hst
  refine j_after C hR hS hL (rest := rest) (va_runV (As := av.map (j_cv g)) (b := g.2.2.2.1 (2 * q)) (j_fix C) (hM l g) cw ⟨hp.1, by rw [hown]; exact vk_recv (adK := fun i => g.2.2.2.1 (2 * i)) (i := q) (C.2.2.2.2.2.2.2.2.2.1.2.2.2.2.1) hq hS, hp.2⟩ rfl (by rw [List.length_map]; exact hna) hL.2.1 ?_ (j_sumc hrest) hd ⟨hmc, hms⟩)
  show List.map _ _ = _
  rw [List.map_append, List.map_cons, j_cv_tx (by omega), List.map_reverse]
/-! natives -/
theorem q_d2raw {idx : Nat} {x : UInt64} (hd : j_At i pc (.invokestatic idx) 3) (h1 : Cond.methodLink (j_own i) idx ⟨"java/lang/Double", "doubleToRawLongBits", "(D)J"⟩ ∈ lw_tbl) (h2 : Cond.native ⟨"java/lang/Double", "doubleToRawLongBits", "(D)J"⟩ ∈ lw_tbl) (h3 : Cond.static ⟨"java/lang/Double", "doubleToRawLongBits", "(D)J"⟩ ∈ lw_tbl) (h4 : Cond.initialized "java/lang/Double" ∈ lw_tbl) (hd1 : 1 ≤ d) (hst : (st.map fun v => v.category).sum ≤ 8) (kk : j_W i d mc ms k n (pc + 3) L (.long x.toInt64 :: st) w τ Q) : j_W i d mc ms k n pc L (.double x :: st) w τ Q :=
  fun l g p e s m args below meth c C H locs ls hR hS hL => vn_d2l C.1 C.2.1 (by rw [C.2.2.1]; exact hL.2.1.symm) C.own (C.wd h1 rfl) (C.wd h2 rfl) (C.wd h3 rfl) (C.wd h4 rfl) hd1 (by rw [j_cats]; show _ ≤ 64 * d; omega) hd (kk l g p e s m args below meth c C H locs ls hR hS hL)
theorem q_dabs {idx : Nat} {x : UInt64} {b0 : ByteArray} (hd : j_At i pc (.invokestatic idx) 3) (h1 : Cond.methodLink (j_own i) idx ⟨"java/lang/Math", "abs", "(D)D"⟩ ∈ lw_tbl) (h2 : Cond.code ⟨"java/lang/Math", "abs", "(D)D"⟩ b0 2 (some .double) ∈ lw_tbl) (h3 : Cond.static ⟨"java/lang/Math", "abs", "(D)D"⟩ ∈ lw_tbl) (h4 : Cond.initialized "java/lang/Math" ∈ lw_tbl) (hx : x &&& 0x7fffffffffffffff ≤ 0x7ff0000000000000) (hd1 : 1 ≤ d) (hst : (st.map fun v => v.category).sum ≤ 8) (kk : j_W i d mc ms k n (pc + 3) L (.double (x &&& 0x7fffffffffffffff) :: st) w τ Q) : j_W i d mc ms k n pc L (.double x :: st) w τ Q := by
  intro l g p e s m args below meth c C H locs ls hR hS hL T hT X
  have hK := Jvm.Free.NT.Abs64.pays (l := l) (R := j_rm d mc ms) (p := p) (e := e) (below := below) (s := s) (sargs := args) (len := 3) (W := 8) (C.wd h2 rfl) (C.wd h3 rfl) (show 1 ≤ d from hd1) (show 8 + (2 + 11) ≤ 64 * d by omega)
  obtain ⟨v, vm₁, B, hW₁, X', ⟨hB, hv⟩, st9⟩ := callS X C.1 (bytes := b0) (maxL := 2) (ret := some .double) C.own (C.wd h1 rfl) (C.wd h3 rfl) (C.wd h4 rfl) (C.wd h2 rfl) ⟨by decide, by decide⟩ hK (g := F0 m pc ls ((Value.double x :: st).map (j_cv g))) rfl (by rw [C.2.2.1]; exact hL.2.1) (argsL := [.double x]) (rest := st.map (j_cv g)) (fun sig h => by
      have h7 : (parseMethodDescriptor "(D)D").map (fun d => d.parameters.length) = some 1 := by decide +kernel
      have h8 : (parseMethodDescriptor "(D)D").map (fun d => d.parameters.length) = some sig.parameters.length := by rw [h]; rfl
      exact Option.some.inj (h7.symm.trans h8)) rfl (j_sumc hst) (by rw [C.2.1]; exact hd) (fun vm₁ hW₁ => ⟨x, rfl, hx⟩)
  subst hB
  have hv2 := hv x ⟨rfl, hx⟩
  subst hv2
  obtain ⟨t, a1, b1⟩ := kk l g p e s m args below meth c C H locs ls hR hS hL (T.setVm vm₁) hT X'
  exact ⟨t, st9 t a1, b1⟩
/-- System.arraycopy between arrays of one kind -/
theorem j_copy {idx c o0 o1 z0 z1 a b m0 : Nat} {ja jb jn : Int32} {τ' : j_St} (hd : j_At i pc (.invokestatic idx) 3) (h1 : Cond.methodLink (j_own i) idx arraycopyName ∈ lw_tbl) (h2 : Cond.native arraycopyName ∈ lw_tbl) (h3 : Cond.static arraycopyName ∈ lw_tbl) (h4 : Cond.initialized "java/lang/System" ∈ lw_tbl) (hc : c < 3) (ho0 : o0 < w.1) (hs0 : w.2 o0 = (100 + c, z0)) (ho1 : o1 < w.1) (hs1 : w.2 o1 = (100 + c, z1)) (hja : ja = nI a) (hjb : jb = nI b) (hjn : jn = nI m0) (ha : a + m0 ≤ z0) (hb : b + m0 ≤ z1)
    (hfit : ∀ (g : j_G) (q : Nat), q < m0 → fits (j_aty c) (j_fv g (j_kd (j_aty c)) τ o0 (a + q)) = true ∧ ∀ (U : State) (cm : ClassId), U.takes cm (j_fv g (j_kd (j_aty c)) τ o0 (a + q))) (hv : ∀ (g : j_G) (q : Nat), j_fv g (j_kd (j_aty c)) τ' o1 q = va_cpy (fun q => j_fv g (j_kd (j_aty c)) τ o0 q) (fun q => j_fv g (j_kd (j_aty c)) τ o1 q) a b m0 q) (ho2 : ∀ o', o' ≠ o1 → τ'.1 o' = τ.1 o' ∧ τ'.2.1 o' = τ.2.1 o' ∧ τ'.2.2 o' = τ.2.2 o')
    (hd1 : 1 ≤ d) (hst : (st.map fun v => v.category).sum ≤ 8) (kk : j_W i d mc ms k n (pc + 3) L st w τ' Q) : j_W i d mc ms k n pc L (.int jn :: .int jb :: .ref o1 :: .int ja :: .ref o0 :: st) w τ Q := by
  intro l g p e s m args below meth c0 C H locs ls hR hS hL T hT X
  obtain ⟨-, hz0, hcell0⟩ := hR.ar (c := c) ho0 hs0
  obtain ⟨-, hz1, hcell1⟩ := hR.ar (c := c) ho1 hs1
  subst hja
  subst hjb
  subst hjn
  have hA := (C.2.2.2.2.2.2.2.2.arr (c := c) (by omega)).1
  obtain ⟨-, k0, hk0, cm0, hkk0⟩ := hA z0 (fun q => j_fv g (j_kd (j_aty c)) τ o0 q)
  obtain ⟨-, k1, hk1, cm1, hkk1⟩ := hA z1 (fun q => j_fv g (j_kd (j_aty c)) τ o1 q)
  have ca : (nI a).toNatClampNeg = a := nI_clamp (by omega)
  have cb : (nI b).toNatClampNeg = b := nI_clamp (by omega)
  have cn : (nI m0).toNatClampNeg = m0 := nI_clamp (by omega)
  have hprim : refKind (j_aty c) = false := by
    match c, hc with
    | 0, _ => rfl
    | 1, _ => rfl
    | 2, _ => rfl
  obtain ⟨vm', X', step⟩ := X.arraycopy C.1 C.own (C.wd h1 rfl) (C.wd h2 rfl) (C.wd h3 rfl) (C.wd h4 rfl) (src := g.1 + o0) (dst := g.1 + o1) (srcPos := nI a) (destPos := nI b) (n := nI m0) (by rw [hT]; exact hcell0) (by rw [hT]; exact hcell1)
    (fun _ h => by cases h) (fun _ h => by cases h) (fun h => by cases h) (fun h => by cases h) hk0 hk1 hkk0 hkk1 (by simp [hprim]) (nI_pos (by omega)) (nI_pos (by omega)) (nI_pos (by omega))
    (by rw [nI_toInt (by omega), nI_toInt (by omega), arrV_size]; omega)
    (by rw [nI_toInt (by omega), nI_toInt (by omega), arrV_size]; omega)
    (fun vm₁ _ q hq => by
      rw [cn] at hq
      rw [ca, Array.getD_eq_getD_getElem?, arrV_read _ _ (by omega)]
      obtain ⟨f1, f2⟩ := hfit g q hq
      exact ⟨f1, f2 _ _⟩)
    (g := F0 m pc ls ((Value.int (nI m0) :: .int (nI b) :: .ref o1 :: .int (nI a) :: .ref o0 :: st).map (j_cv g))) rfl (by rw [C.2.2.1]; exact hL.2.1) (rest := st.map (j_cv g)) (by simp only [List.map_cons]; rw [j_cv_ref hR ho0, j_cv_ref hR ho1]; rfl) (by rw [C.2.1]; exact hd) hd1 (by rw [j_cats]; have hw : nativeFrameWords "java/lang/System" "arraycopy" 5 = 7 := (by decide); show 2 * 0 + _ + _ ≤ 64 * d; omega)
  have e1 : copied (arrV (g.2.2.1 c) z0 (fun q => j_fv g (j_kd (j_aty c)) τ o0 q)) (arrV (g.2.2.1 c) z1 (fun q => j_fv g (j_kd (j_aty c)) τ o1 q)) (nI a) (nI b) (nI m0) = arrV (g.2.2.1 c) z1 (fun q => j_fv g (j_kd (j_aty c)) τ' o1 q) := by
    have h := va_copied (fun z : Value => z) (g.2.2.1 c) (g.2.2.1 c) (n1 := z1) (dp := b) (fun q => j_fv g (j_kd (j_aty c)) τ o0 q) (fun q => j_fv g (j_kd (j_aty c)) τ o1 q) ha
    show (arrV (g.2.2.1 c) z1 _).storeRun (nI b).toNatClampNeg ((arrV (g.2.2.1 c) z0 _).stretch (nI a).toNatClampNeg (nI m0).toNatClampNeg) = _
    rw [ca, cb, cn]
    refine h.trans ?_
    exact congrArg (arrV (g.2.2.1 c) z1) (funext fun q => (hv g q).symm)
  rw [e1] at X' step
  have hl : g.1 + o1 < H.size := (Array.getElem?_eq_some_iff.mp hcell1).1
  generalize hB : arrV (g.2.2.1 c) z1 (fun q => j_fv g (j_kd (j_aty c)) τ' o1 q) = B at X' step
  have hheap : ((T.setVm vm').setCell (g.1 + o1) B).heap = H.setIfInBounds (g.1 + o1) B := by rw [← hT]; rfl
  have oq : ∀ q : Nat, q ≠ g.1 + o1 → (H.setIfInBounds (g.1 + o1) B)[q]? = H[q]? := fun q hq => by simp [Array.getElem?_setIfInBounds, Ne.symm hq]
  have hat : (H.setIfInBounds (g.1 + o1) B)[g.1 + o1]? = some B := by simp [Array.getElem?_setIfInBounds, hl]
  have hR' : j_Rep g w τ' (H.setIfInBounds (g.1 + o1) B) := by
    refine hR.set (by simp) oq ?_ ho2
    rw [hs1]
    have e9 : (100 + c, z1).1 - 100 = c := by show 100 + c - 100 = c; omega
    refine Or.inr ⟨Nat.le_add_right _ _, by show 100 + c < 110; omega, hz1, ?_⟩
    rw [e9, hat, ← hB]
  obtain ⟨t, a1, b1⟩ := kk l g p e s m args below meth c0 C _ _ ls hR' ⟨by simp; exact hS.1, fun q g1 g2 => by
      rw [oq q (fun e => g2 (by rw [e]; exact Nat.le_add_right _ _))]
      exact hS.2.1 q g1 g2, fun q hq => by
      rcases List.mem_append.mp hq with h | h
      · exact hS.2.2 q h
      · obtain ⟨z, -, hz⟩ := List.mem_map.mp h
        rw [← hz]
        exact Nat.le_add_right _ _⟩ hL _ hheap X'
  exact ⟨t, step t a1, b1⟩
end JNAT
