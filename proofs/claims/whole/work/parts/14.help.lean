/-! helpers of the printed walks -/
def bi (b : Bool) : Int32 := if b = true then 1 else 0
theorem bi_01 (b : Bool) : bi b = 0 ∨ bi b = 1 := by cases b <;> simp [bi]
theorem bi_0 {b : Bool} (h : bi b = 0) : b = false := by cases b <;> simp_all [bi]
theorem bi_1 {b : Bool} (h : ¬ bi b = 0) : b = true := by cases b <;> simp_all [bi]
theorem bd_0 {P : Prop} {inst : Decidable P} (h : bi (@decide P inst) = 0) : ¬ P := of_decide_eq_false (bi_0 h)
theorem bd_1 {P : Prop} {inst : Decidable P} (h : ¬ bi (@decide P inst) = 0) : P := of_decide_eq_true (bi_1 h)
/-- fewer known locals -/
def j_sub : List (Option Value) → List (Option Value) → Prop
  | [], [] => True
  | none :: L', _ :: L => j_sub L' L
  | some v :: L', a :: L => a = some v ∧ j_sub L' L
  | _, _ => False
theorem j_sub_len : ∀ {L' L : List (Option Value)}, j_sub L' L → L'.length = L.length
  | [], [], _ => rfl
  | none :: L', _ :: L, h => by rw [List.length_cons, List.length_cons, j_sub_len (show j_sub L' L from h)]
  | some v :: L', a :: L, h => by rw [List.length_cons, List.length_cons, j_sub_len (show j_sub L' L from h.2)]
  | [], _ :: _, h => h.elim
  | some _ :: _, [], h => h.elim
  | none :: _, [], h => h.elim
theorem j_sub_at : ∀ {L' L : List (Option Value)}, j_sub L' L → ∀ (j : Nat) (v : Value), L'[j]? = some (some v) → L[j]? = some (some v)
  | [], [], _, j, v, hj => by simp at hj
  | none :: L', a :: L, h, j, v, hj => by
    cases j with
    | zero => simp at hj
    | succ j => simpa using j_sub_at (show j_sub L' L from h) j v (by simpa using hj)
  | some u :: L', a :: L, h, j, v, hj => by
    cases j with
    | zero => simp at hj; subst hj; rw [h.1]; rfl
    | succ j => simpa using j_sub_at (show j_sub L' L from h.2) j v (by simpa using hj)
  | [], _ :: _, h, _, _, _ => h.elim
  | some _ :: _, [], h, _, _, _ => h.elim
  | none :: _, [], h, _, _, _ => h.elim
section RH
variable {i d mc ms k n pc : Nat} {L : List (Option Value)} {st : List Value} {w : j_Wd} {τ : j_St} {Q : j_Po} {I : Nat → Nat → Int32} {D : Nat → Nat → UInt64} {R : Nat → Nat → Option Nat}
theorem r_sub {L' : List (Option Value)} (h : j_sub L' L) (kk : j_W i d mc ms k n pc L' st w τ Q) : j_W i d mc ms k n pc L st w τ Q := q_sub (j_sub_len h) (j_sub_at h) kk
theorem r_int {x y : Int32} (h : x = y) (kk : j_W i d mc ms k n pc L (.int y :: st) w τ Q) : j_W i d mc ms k n pc L (.int x :: st) w τ Q := by rw [h]; exact kk
theorem r_putR {idx c f o z x : Nat} (hd : j_At i pc (.putfield idx) 3) (hf : j_FL i idx c f) (hfin : (j_fT c f).2.2.2 = false ∨ ((j_y i).name = "<init>" ∧ (j_fT c f).1 = j_own i)) (ht : (∃ C, j_fty c f = .object C) ∨ (∃ t, j_fty c f = .array t)) (hx : x < 1000000) (hn : j_rst o f = none) (ho : o < w.1) (hs : w.2 o = (c, z)) (kk : j_W i d mc ms k n (pc + 3) L st w (I, D, RR (j_u R o f (some x))) Q) : j_W i d mc ms k n pc L (.ref x :: .ref o :: st) w (I, D, RR R) Q :=
  q_putR hd hf hfin ht hx ho hs (by rw [show (I, D, RR R).2.2 = RR R from rfl, RR_u hn]; exact kk)
theorem r_aastore {o z a c v zv : Nat} {j : Int32} (hd : j_At i pc .aastore 1) (ho : o < w.1) (hs : w.2 o = (100 + c, z)) (hc6 : 6 ≤ c) (hj : j = nI a) (ha : a < z) (hv : v < w.1) (hsv : w.2 v = (j_ec c, zv)) (hn : j_rst o a = none) (kk : j_W i d mc ms k n (pc + 1) L st w (I, D, RR (j_u R o a (some v))) Q) : j_W i d mc ms k n pc L (.ref v :: .int j :: .ref o :: st) w (I, D, RR R) Q :=
  q_aastore hd ho hs hc6 hj ha hv hsv (by rw [show (I, D, RR R).2.2 = RR R from rfl, RR_u hn]; exact kk)
/-- System.arraycopy of ints, doubles, booleans -/
def j_uo {α : Type} (f : Nat → Nat → α) (o : Nat) (h : Nat → α) : Nat → Nat → α := fun o' => if o' = o then h else f o'
theorem j_uo_same {α : Type} (f : Nat → Nat → α) (o : Nat) (h : Nat → α) : j_uo f o h o = h := by simp [j_uo]
theorem j_uo_ne {α : Type} (f : Nat → Nat → α) {o o' : Nat} (h : Nat → α) (e : o' ≠ o) : j_uo f o h o' = f o' := by simp [j_uo, e]
theorem j_arc {idx : Nat} : Cond.native arraycopyName ∈ lw_tbl ∧ Cond.static arraycopyName ∈ lw_tbl ∧ Cond.initialized "java/lang/System" ∈ lw_tbl := ⟨j_i3 54 rfl, j_i3 53 rfl, j_i1 12 rfl⟩
theorem r_copyI {idx o0 o1 z0 z1 a b m0 : Nat} {ja jb jn : Int32} (hd : j_At i pc (.invokestatic idx) 3) (h1 : Cond.methodLink (j_own i) idx arraycopyName ∈ lw_tbl) (ho0 : o0 < w.1) (hs0 : w.2 o0 = (100, z0)) (ho1 : o1 < w.1) (hs1 : w.2 o1 = (100, z1)) (hja : ja = nI a) (hjb : jb = nI b) (hjn : jn = nI m0) (ha : a + m0 ≤ z0) (hb : b + m0 ≤ z1) (hd1 : 1 ≤ d) (hst : (st.map fun v => v.category).sum ≤ 8)
    (kk : j_W i d mc ms k n (pc + 3) L st w (j_uo τ.1 o1 (va_cpy (τ.1 o0) (τ.1 o1) a b m0), τ.2.1, τ.2.2) Q) : j_W i d mc ms k n pc L (.int jn :: .int jb :: .ref o1 :: .int ja :: .ref o0 :: st) w τ Q :=
  j_copy (c := 0) (τ' := (j_uo τ.1 o1 (va_cpy (τ.1 o0) (τ.1 o1) a b m0), τ.2.1, τ.2.2)) hd h1 (j_arc (idx := 0)).1 (j_arc (idx := 0)).2.1 (j_arc (idx := 0)).2.2 (by decide) ho0 hs0 ho1 hs1 hja hjb hjn ha hb (fun g q _ => ⟨rfl, fun _ _ => trivial⟩) (fun g q => by
    show Value.int (j_uo τ.1 o1 _ o1 q) = va_cpy (fun q => Value.int (τ.1 o0 q)) (fun q => Value.int (τ.1 o1 q)) a b m0 q
    rw [j_uo_same]
    unfold va_cpy
    split <;> rfl) (fun o' h => ⟨j_uo_ne _ _ h, rfl, rfl⟩) hd1 hst kk
theorem r_copyD {idx o0 o1 z0 z1 a b m0 : Nat} {ja jb jn : Int32} (hd : j_At i pc (.invokestatic idx) 3) (h1 : Cond.methodLink (j_own i) idx arraycopyName ∈ lw_tbl) (ho0 : o0 < w.1) (hs0 : w.2 o0 = (101, z0)) (ho1 : o1 < w.1) (hs1 : w.2 o1 = (101, z1)) (hja : ja = nI a) (hjb : jb = nI b) (hjn : jn = nI m0) (ha : a + m0 ≤ z0) (hb : b + m0 ≤ z1) (hd1 : 1 ≤ d) (hst : (st.map fun v => v.category).sum ≤ 8)
    (kk : j_W i d mc ms k n (pc + 3) L st w (τ.1, j_uo τ.2.1 o1 (va_cpy (τ.2.1 o0) (τ.2.1 o1) a b m0), τ.2.2) Q) : j_W i d mc ms k n pc L (.int jn :: .int jb :: .ref o1 :: .int ja :: .ref o0 :: st) w τ Q :=
  j_copy (c := 1) (τ' := (τ.1, j_uo τ.2.1 o1 (va_cpy (τ.2.1 o0) (τ.2.1 o1) a b m0), τ.2.2)) hd h1 (j_arc (idx := 0)).1 (j_arc (idx := 0)).2.1 (j_arc (idx := 0)).2.2 (by decide) ho0 hs0 ho1 hs1 hja hjb hjn ha hb (fun g q _ => ⟨rfl, fun _ _ => trivial⟩) (fun g q => by
    show Value.double (j_uo τ.2.1 o1 _ o1 q) = va_cpy (fun q => Value.double (τ.2.1 o0 q)) (fun q => Value.double (τ.2.1 o1 q)) a b m0 q
    rw [j_uo_same]
    unfold va_cpy
    split <;> rfl) (fun o' h => ⟨rfl, j_uo_ne _ _ h, rfl⟩) hd1 hst kk
theorem r_copyZ {idx o0 o1 z0 z1 a b m0 : Nat} {ja jb jn : Int32} (hd : j_At i pc (.invokestatic idx) 3) (h1 : Cond.methodLink (j_own i) idx arraycopyName ∈ lw_tbl) (ho0 : o0 < w.1) (hs0 : w.2 o0 = (102, z0)) (ho1 : o1 < w.1) (hs1 : w.2 o1 = (102, z1)) (hja : ja = nI a) (hjb : jb = nI b) (hjn : jn = nI m0) (ha : a + m0 ≤ z0) (hb : b + m0 ≤ z1) (hz : ∀ q, q < m0 → τ.1 o0 (a + q) = 0 ∨ τ.1 o0 (a + q) = 1) (hd1 : 1 ≤ d) (hst : (st.map fun v => v.category).sum ≤ 8)
    (kk : j_W i d mc ms k n (pc + 3) L st w (j_uo τ.1 o1 (va_cpy (τ.1 o0) (τ.1 o1) a b m0), τ.2.1, τ.2.2) Q) : j_W i d mc ms k n pc L (.int jn :: .int jb :: .ref o1 :: .int ja :: .ref o0 :: st) w τ Q :=
  j_copy (c := 2) (τ' := (j_uo τ.1 o1 (va_cpy (τ.1 o0) (τ.1 o1) a b m0), τ.2.1, τ.2.2)) hd h1 (j_arc (idx := 0)).1 (j_arc (idx := 0)).2.1 (j_arc (idx := 0)).2.2 (by decide) ho0 hs0 ho1 hs1 hja hjb hjn ha hb (fun g q hq => ⟨by
      show fits .boolean (.int (τ.1 o0 (a + q))) = true
      rcases hz q hq with h | h <;> rw [h] <;> rfl, fun _ _ => trivial⟩) (fun g q => by
    show Value.int (j_uo τ.1 o1 _ o1 q) = va_cpy (fun q => Value.int (τ.1 o0 q)) (fun q => Value.int (τ.1 o1 q)) a b m0 q
    rw [j_uo_same]
    unfold va_cpy
    split <;> rfl) (fun o' h => ⟨j_uo_ne _ _ h, rfl, rfl⟩) hd1 hst kk
end RH
theorem nI_inc (a : Nat) : nI a + Int32.ofInt 1 = nI (a + 1) := nI_1 a
theorem nI_eqN {a b : Nat} (ha : a < 2 ^ 31) (hb : b < 2 ^ 31) : nI a = nI b ↔ a = b := nI_eq ha hb
/-- an index that is in its bounds is a number -/
theorem ix_of {x : Int32} {N : Nat} (h : vp_in x N) (hN : N < 2 ^ 31) : x = nI x.toNatClampNeg ∧ x.toNatClampNeg < N := by
  obtain ⟨j, hj, rfl⟩ := vp_in_of h hN
  rw [nI_clamp (by omega)]
  exact ⟨rfl, hj⟩
theorem tsw_out {x : Int32} : ∀ (n : Nat), n < 2 ^ 31 → (∀ c, c < n → x ≠ nI c) → x.toInt < 0 ∨ (n : Int) - 1 < x.toInt := by
  intro n hn h
  rcases Int.lt_or_le x.toInt 0 with h1 | h1
  · exact Or.inl h1
  · rcases Int.lt_or_le ((n : Int) - 1) x.toInt with h2 | h2
    · exact Or.inr h2
    · obtain ⟨m, hm⟩ : ∃ m : Nat, x.toInt = m := ⟨x.toInt.toNat, by omega⟩
      refine absurd (Int32.toInt_inj.mp ?_) (h m (by omega))
      rw [hm, nI_toInt (by omega)]
theorem r_dbl {i d mc ms k n pc : Nat} {L : List (Option Value)} {st : List Value} {w : j_Wd} {τ : j_St} {Q : j_Po} {x y : UInt64} (h : x = y) (kk : j_W i d mc ms k n pc L (.double y :: st) w τ Q) : j_W i d mc ms k n pc L (.double x :: st) w τ Q := by rw [h]; exact kk
theorem tsw_out2 {x : Int32} (lo : Int) (n : Nat) {hi : Int} (h9 : lo = 0 ∧ hi = (n : Int) - 1 ∧ n < 2 ^ 31) (h : ∀ c, c < n → ¬ x = nI c) : x.toInt < lo ∨ hi < x.toInt := by
  obtain ⟨rfl, rfl, h3⟩ := h9
  exact tsw_out n h3 h
def dlt (x y : UInt64) : Bool := FP.dcmp x y == some .lt
def dgt (x y : UInt64) : Bool := FP.dcmp x y == some .gt
def deq (x y : UInt64) : Bool := FP.dcmp x y == some .eq
def dle (x y : UInt64) : Bool := FP.dcmp x y == some .lt || FP.dcmp x y == some .eq
def dge (x y : UInt64) : Bool := FP.dcmp x y == some .gt || FP.dcmp x y == some .eq
theorem dc_g_ge_t {x y : UInt64} (h : 0 ≤ (Op.cmpValue (FP.dcmp x y) .g)) : dlt x y = false := by
  unfold dlt; revert h; cases FP.dcmp x y with
  | none => decide
  | some o => cases o <;> decide
theorem dc_g_ge_f {x y : UInt64} (h : ¬ 0 ≤ (Op.cmpValue (FP.dcmp x y) .g)) : dlt x y = true := by
  unfold dlt; revert h; cases FP.dcmp x y with
  | none => decide
  | some o => cases o <;> decide
theorem dc_g_lt_t {x y : UInt64} (h : (Op.cmpValue (FP.dcmp x y) .g) < 0) : dlt x y = true := by
  unfold dlt; revert h; cases FP.dcmp x y with
  | none => decide
  | some o => cases o <;> decide
theorem dc_g_lt_f {x y : UInt64} (h : ¬ (Op.cmpValue (FP.dcmp x y) .g) < 0) : dlt x y = false := by
  unfold dlt; revert h; cases FP.dcmp x y with
  | none => decide
  | some o => cases o <;> decide
theorem dc_l_le_t {x y : UInt64} (h : (Op.cmpValue (FP.dcmp x y) .l) ≤ 0) : dgt x y = false := by
  unfold dgt; revert h; cases FP.dcmp x y with
  | none => decide
  | some o => cases o <;> decide
theorem dc_l_le_f {x y : UInt64} (h : ¬ (Op.cmpValue (FP.dcmp x y) .l) ≤ 0) : dgt x y = true := by
  unfold dgt; revert h; cases FP.dcmp x y with
  | none => decide
  | some o => cases o <;> decide
theorem dc_l_gt_t {x y : UInt64} (h : 0 < (Op.cmpValue (FP.dcmp x y) .l)) : dgt x y = true := by
  unfold dgt; revert h; cases FP.dcmp x y with
  | none => decide
  | some o => cases o <;> decide
theorem dc_l_gt_f {x y : UInt64} (h : ¬ 0 < (Op.cmpValue (FP.dcmp x y) .l)) : dgt x y = false := by
  unfold dgt; revert h; cases FP.dcmp x y with
  | none => decide
  | some o => cases o <;> decide
theorem dc_l_ne_t {x y : UInt64} (h : ¬ (Op.cmpValue (FP.dcmp x y) .l) = 0) : deq x y = false := by
  unfold deq; revert h; cases FP.dcmp x y with
  | none => decide
  | some o => cases o <;> decide
theorem dc_l_ne_f {x y : UInt64} (h : (Op.cmpValue (FP.dcmp x y) .l) = 0) : deq x y = true := by
  unfold deq; revert h; cases FP.dcmp x y with
  | none => decide
  | some o => cases o <;> decide
theorem dc_l_eq_t {x y : UInt64} (h : (Op.cmpValue (FP.dcmp x y) .l) = 0) : deq x y = true := by
  unfold deq; revert h; cases FP.dcmp x y with
  | none => decide
  | some o => cases o <;> decide
theorem dc_l_eq_f {x y : UInt64} (h : ¬ (Op.cmpValue (FP.dcmp x y) .l) = 0) : deq x y = false := by
  unfold deq; revert h; cases FP.dcmp x y with
  | none => decide
  | some o => cases o <;> decide
theorem dc_l_lt_t {x y : UInt64} (h : (Op.cmpValue (FP.dcmp x y) .l) < 0) : dge x y = false := by
  unfold dge; revert h; cases FP.dcmp x y with
  | none => decide
  | some o => cases o <;> decide
theorem dc_l_lt_f {x y : UInt64} (h : ¬ (Op.cmpValue (FP.dcmp x y) .l) < 0) : dge x y = true := by
  unfold dge; revert h; cases FP.dcmp x y with
  | none => decide
  | some o => cases o <;> decide
theorem dc_l_ge_t {x y : UInt64} (h : 0 ≤ (Op.cmpValue (FP.dcmp x y) .l)) : dge x y = true := by
  unfold dge; revert h; cases FP.dcmp x y with
  | none => decide
  | some o => cases o <;> decide
theorem dc_l_ge_f {x y : UInt64} (h : ¬ 0 ≤ (Op.cmpValue (FP.dcmp x y) .l)) : dge x y = false := by
  unfold dge; revert h; cases FP.dcmp x y with
  | none => decide
  | some o => cases o <;> decide
theorem dc_g_gt_t {x y : UInt64} (h : 0 < (Op.cmpValue (FP.dcmp x y) .g)) : dle x y = false := by
  unfold dle; revert h; cases FP.dcmp x y with
  | none => decide
  | some o => cases o <;> decide
theorem dc_g_gt_f {x y : UInt64} (h : ¬ 0 < (Op.cmpValue (FP.dcmp x y) .g)) : dle x y = true := by
  unfold dle; revert h; cases FP.dcmp x y with
  | none => decide
  | some o => cases o <;> decide
theorem dc_g_le_t {x y : UInt64} (h : (Op.cmpValue (FP.dcmp x y) .g) ≤ 0) : dle x y = true := by
  unfold dle; revert h; cases FP.dcmp x y with
  | none => decide
  | some o => cases o <;> decide
theorem dc_g_le_f {x y : UInt64} (h : ¬ (Op.cmpValue (FP.dcmp x y) .g) ≤ 0) : dle x y = false := by
  unfold dle; revert h; cases FP.dcmp x y with
  | none => decide
  | some o => cases o <;> decide
theorem dc_g_ne_t {x y : UInt64} (h : ¬ (Op.cmpValue (FP.dcmp x y) .g) = 0) : deq x y = false := by
  unfold deq; revert h; cases FP.dcmp x y with
  | none => decide
  | some o => cases o <;> decide
theorem dc_g_ne_f {x y : UInt64} (h : (Op.cmpValue (FP.dcmp x y) .g) = 0) : deq x y = true := by
  unfold deq; revert h; cases FP.dcmp x y with
  | none => decide
  | some o => cases o <;> decide
theorem dc_g_eq_t {x y : UInt64} (h : (Op.cmpValue (FP.dcmp x y) .g) = 0) : deq x y = true := by
  unfold deq; revert h; cases FP.dcmp x y with
  | none => decide
  | some o => cases o <;> decide
theorem dc_g_eq_f {x y : UInt64} (h : ¬ (Op.cmpValue (FP.dcmp x y) .g) = 0) : deq x y = false := by
  unfold deq; revert h; cases FP.dcmp x y with
  | none => decide
  | some o => cases o <;> decide
