/-! the law's loop -/
abbrev j_I3 : Type := (Nat → Nat → Int32) × (Nat → Nat → UInt64) × (Nat → Nat → Option Nat)
def e3 (σ : j_I3) : j_St := (σ.1, σ.2.1, RR σ.2.2)
def lD : Nat := 400
/-- both sides answer alike, and what holds of both still holds -/
def BothI (Inv : j_I3 → Prop) (i j : Nat) (av : List Value) : Prop := ∀ σ, Inv σ → j_Call lD i (.ref 0 :: av) w1 (e3 σ) 0 0 (fun r w τ => ∃ (v : Int32) (σ1 : j_I3), r = some (.int v) ∧ w = w1 ∧ τ = e3 σ1 ∧ j_Call lD j (.ref 260 :: av) w1 (e3 σ1) 0 0 (fun r w τ => ∃ σ2 : j_I3, r = some (.int v) ∧ w = w1 ∧ τ = e3 σ2 ∧ Inv σ2))
def BothL (Inv : j_I3 → Prop) (i j : Nat) (av : List Value) : Prop := ∀ σ, Inv σ → j_Call lD i (.ref 0 :: av) w1 (e3 σ) 0 0 (fun r w τ => ∃ (v : Int64) (σ1 : j_I3), r = some (.long v) ∧ w = w1 ∧ τ = e3 σ1 ∧ j_Call lD j (.ref 260 :: av) w1 (e3 σ1) 0 0 (fun r w τ => ∃ σ2 : j_I3, r = some (.long v) ∧ w = w1 ∧ τ = e3 σ2 ∧ Inv σ2))
def j_LV (idx j na : Nat) : Prop := Cond.methodLink RL idx (j_y j) ∈ lw_tbl ∧ Cond.instanceMethod (j_y j) ∈ lw_tbl ∧ Cond.selects (j_own j) (j_y j) (j_y j) ∈ lw_tbl ∧ Cond.initialized (j_own j) ∈ lw_tbl ∧ j_MM j ∧ (parseMethodDescriptor (j_y j).desc).map (fun d => d.parameters.length) = some na
theorem lw_good {j : Nat} (h : j_MM j) : GoodIn lw_tbl (j_ws j) := fun w hw => by
  rcases List.mem_cons.mp hw with rfl | hw
  · exact ⟨h.1, Or.inl rfl⟩
  · exact ⟨(List.mem_filter.mp hw).1, good_of_word (List.mem_filter.mp hw).2⟩
section LW
variable {p : Program} {l : Launch} {e : Env} {s : State} {m : MethodId} {below : List Frame} {meth : Method} {c : Code} {H : Heap} {locs : List Loc} {cells slots : Nat} {Q : State → Prop} {args : Array Value} {g : j_G} {ls : Array Slot} {pc : Nat}
theorem lw_after {w : j_Wd} {τ : j_St} {mc' ms' : Nat} {st0 rest : List Value} {a : Array Value} {Q' : j_Po}
    (hR : j_Rep g w τ H) (hS : va_S (j_A g) s.heap H locs)
    (hr : va_Run p l e room_1 s m args below meth c H locs cells slots mc' ms' (F0 m pc ls st0) rest (j_Q g Q' a) (j_A g))
    (kk : ∀ (r : Option Value) (w' : j_Wd) (τ' : j_St) (H1 : Heap) (locs1 : List Loc), Q' r w' τ' → j_Rep g w' τ' H1 → va_S (j_A g) s.heap H1 locs1 → W p l e room_1 s m args below meth c H1 locs1 (cells + mc') (slots + ms') Q (F0 m (pc + 3) ls ((r.map (j_cv g)).toList ++ rest))) :
    W p l e room_1 s m args below meth c H locs cells slots Q (F0 m pc ls st0) := by
  intro T hT X
  obtain ⟨v, st₀, t, T', L1, h0, X', hL1, e1, e2, ⟨r, w', τ', hv, hq, ⟨hR', hK'⟩, hz, hk⟩, st⟩ := hr T hT X
  have hv' : v = r.map (j_cv g) := Outcome.returned.inj hv
  subst hv'
  rw [h0] at hz hk
  have hS' : va_S (j_A g) s.heap t.heap (locs ++ L1) := ⟨Nat.le_trans hS.1 hz, fun q h1 h2 => by rw [hk q (Nat.lt_of_lt_of_le h1 hS.1) h2]; exact hS.2.1 q h1 h2, fun q hq => by
      rcases List.mem_append.mp hq with h | h
      · exact hS.2.2 q h
      · exact hL1 q h⟩
  obtain ⟨t2, a1, b1⟩ := kk r w' τ' t.heap (locs ++ L1) hq hR' hS' T' e1 X'
  exact ⟨t2, st t2 a1, b1⟩
theorem lw_call {idx j na d' o z ci : Nat} {av rest : List Value} {τ : j_St} {Q' : j_Po} (hx : p.tables.exec = Jvm.exec) (hb : c.code = code) (hml : c.maxLocals = 4) (hown : s.vm.findClass RL = some m.cls) (hts : ∀ w ∈ lw_tbl, w.before args s = true) (hK : j_K g s) (hR : j_Rep g w1 τ H) (hS : va_S (j_A g) s.heap H locs) (hls : ls.size = 4)
    (hd : decode code pc = .ok (.invokevirtual idx, 3)) (hc : j_LV idx j na) (hci : j_own j = j_cn ci) (hci2 : ci < 11) (hna : av.length = na) (hav : av.map (j_cv g) = av) (hdp : d' ≤ 1000) (hml2 : j_ml j ≤ 45) (hrest : (rest.map fun v => v.category).sum ≤ 8) (ho : o < w1.1) (hs : w1.2 o = (ci, z)) (hcl : cells ≤ 600000) (hsl : slots ≤ 7302250)
    (hM : j_Call d' j (.ref o :: av) w1 τ 0 0 Q')
    (kk : ∀ (r : Option Value) (w' : j_Wd) (τ' : j_St) (H1 : Heap) (locs1 : List Loc), Q' r w' τ' → j_Rep g w' τ' H1 → va_S (j_A g) s.heap H1 locs1 → W p l e room_1 s m args below meth c H1 locs1 cells slots Q (F0 m (pc + 3) ls ((r.map (j_cv g)).toList ++ rest))) :
    W p l e room_1 s m args below meth c H locs cells slots Q (F0 m pc ls (av.reverse ++ .ref (g.1 + o) :: rest)) := by
  obtain ⟨h1, h2, h3, h4, h5, h6⟩ := hc
  have cw : CallW room_1 s args RL (j_own j) idx (j_y j) (j_b j) (j_ml j) (j_rt j) (j_ws j) (j_rm d' 0 0) 0 0 na :=
    ⟨callB_of na hts (lw_good h5) rfl rfl rfl (hts _ h4) (hts _ h1) ⟨h5.2.2.1, h5.2.2.2, h6⟩ ⟨by show d' + 1 ≤ 2048; omega, by show 8 + (j_ml j + 11) + 64 * d' ≤ 84000; omega⟩, hts _ h2, hts _ h3⟩
  have e1 : (Value.ref o :: av).map (j_cv g) = .ref (g.1 + o) :: av := by rw [List.map_cons, j_cv_ref hR ho, hav]
  obtain ⟨-, cell, q1, q2, q3, -⟩ := hR.ob ho hs (by omega)
  have hp : ∀ U : State, U.heap = H → s.WarmedH U.vm → j_P g (.ref o :: av) w1 τ (Value.ref (g.1 + o) :: av).toArray U := fun U hU hW => ⟨by rw [e1], by rw [hU]; exact hR, hK.to hW (by rw [hU]; exact hS)⟩
  exact lw_after hR hS (va_runV (As := av) (b := g.1 + o) (rest := rest) ⟨hx, hb, hml, hown, hts⟩ (hM l g) cw ⟨j_P_blind g _ w1 τ, by rw [hci]; exact ⟨cell, q1, by rw [q3]; rfl, by rw [q2]; exact (hK.1.1 ci _ (j_cl hci2)).2.1⟩, hp⟩ rfl hna hls rfl (lv_room hrest) hd ⟨hcl, hsl⟩) kk
/-- one int of the script is read -/
theorem lw_rd {b L i : Nat} {xs : Nat → Int32} {z : Int} {k : Nat} {rest : List Value} (hx : p.tables.exec = Jvm.exec) (hb : c.code = code) (hX : va_X b L xs s s.heap) (hbl : b < s.heap.size) (hbA : ¬ j_A g b) (hS : va_S (j_A g) s.heap H locs) {lv : List (Nat × Value)} (hl : lv_has ls 4 lv) (h0 : ls[0]? = some (.val (.ref b))) (h3 : ls[3]? = some (.val (.int (nI i))))
    (d0 : decode code pc = .ok (.aload_n 0, 1)) (d1 : decode code (pc + 1) = .ok (.iload_n 3, 1)) (d2 : decode code (pc + 2) = .ok (.iconst z, 1)) (hz : Int32.ofInt z = nI k) (d3 : decode code (pc + 3) = .ok (.iadd, 1)) (d4 : decode code (pc + 4) = .ok (.iaload, 1)) (hi : i + k < L) (hL : L < 2 ^ 31)
    (kk : W p l e room_1 s m args below meth c H locs cells slots Q (F0 m (pc + 5) ls (.int (xs (i + k)) :: rest))) : W p l e room_1 s m args below meth c H locs cells slots Q (F0 m pc ls rest) := by
  refine lv_aload_n hx hb d0 rfl h0 ?_
  refine lv_iload_n hx hb d1 rfl h3 ?_
  refine lv_iconst hx hb d2 hz ?_
  refine lv_iadd hx hb d3 ?_
  refine lv_topi (fun x ex => ?_)
  rw [nI_add] at ex
  subst ex
  refine va_sld hx hb hX hbl hbA hS (vp_in_nI hi hL) d4 ?_
  rw [nI_clamp (by omega)]
  exact kk
theorem lw_rd6 {b L i : Nat} {xs : Nat → Int32} {z : Int} {k : Nat} {rest : List Value} (hx : p.tables.exec = Jvm.exec) (hb : c.code = code) (hX : va_X b L xs s s.heap) (hbl : b < s.heap.size) (hbA : ¬ j_A g b) (hS : va_S (j_A g) s.heap H locs) {lv : List (Nat × Value)} (hl : lv_has ls 4 lv) (h0 : ls[0]? = some (.val (.ref b))) (h3 : ls[3]? = some (.val (.int (nI i))))
    (d0 : decode code pc = .ok (.aload_n 0, 1)) (d1 : decode code (pc + 1) = .ok (.iload_n 3, 1)) (d2 : decode code (pc + 2) = .ok (.bipush z, 2)) (hz : (Int8.ofInt z).toInt32 = nI k) (d3 : decode code (pc + 4) = .ok (.iadd, 1)) (d4 : decode code (pc + 5) = .ok (.iaload, 1)) (hi : i + k < L) (hL : L < 2 ^ 31)
    (kk : W p l e room_1 s m args below meth c H locs cells slots Q (F0 m (pc + 6) ls (.int (xs (i + k)) :: rest))) : W p l e room_1 s m args below meth c H locs cells slots Q (F0 m pc ls rest) := by
  refine lv_aload_n hx hb d0 rfl h0 ?_
  refine lv_iload_n hx hb d1 rfl h3 ?_
  refine lv_bipush hx hb d2 hz ?_
  refine lv_iadd hx hb d3 ?_
  refine lv_topi (fun x ex => ?_)
  rw [nI_add] at ex
  subst ex
  refine va_sld hx hb hX hbl hbA hS (vp_in_nI hi hL) d4 ?_
  rw [nI_clamp (by omega)]
  exact kk
end LW
/-- what the law has at hand -/
def lw_C (p : Program) (s : State) (m : MethodId) (meth : Method) (c : Code) (b L : Nat) (xs : Nat → Int32) (g : j_G) : Prop :=
  p.tables.exec = Jvm.exec ∧ c.code = code ∧ meth.sig.returnType = ret ∧ c.maxLocals = 4 ∧ s.vm.findClass RL = some m.cls ∧ (∀ w ∈ lw_tbl, w.before #[Value.ref b] s = true) ∧ va_X b L xs s s.heap ∧ b < s.heap.size ∧ meth.locks = false ∧ j_K g s ∧ g.1 = s.heap.size
/-- the walk from a place, whatever the store -/
def lw_At2 (Inv : j_I3 → Prop) (p : Program) (l : Launch) (e : Env) (s : State) (m : MethodId) (below : List Frame) (meth : Method) (c : Code) (b : Nat) (g : j_G) (i pc : Nat) : Prop :=
  ∀ (σ : j_I3) (H : Heap) (locs : List Loc) (ls : Array Slot), Inv σ → j_Rep g w1 (e3 σ) H → va_S (j_A g) s.heap H locs → lv_has ls 4 [(0, .ref b), (1, .ref g.1), (2, .ref (g.1 + 260)), (3, .int (nI i))] →
    W p l e room_1 s m #[Value.ref b] below meth c H locs 600000 7302250 (lw_Z below #[Value.ref b] s) (F0 m pc ls [])
section LWC
variable {Inv : j_I3 → Prop} {p : Program} {l : Launch} {e : Env} {s : State} {m : MethodId} {below : List Frame} {meth : Method} {c : Code} {b L : Nat} {xs : Nat → Int32} {g : j_G} {i : Nat}
theorem lv9_13 : j_LV 13 11 2 := ⟨j_i2 156 rfl, j_i2 157 rfl, j_i2 158 rfl, j_i1 1 rfl, j_m11, by decide +kernel⟩
theorem lv9_18 : j_LV 18 17 1 := ⟨j_i2 182 rfl, j_i2 183 rfl, j_i2 184 rfl, j_i1 1 rfl, j_m17, by decide +kernel⟩
theorem lv9_23 : j_LV 23 30 2 := ⟨j_i2 233 rfl, j_i2 234 rfl, j_i2 235 rfl, j_i1 1 rfl, j_m30, by decide +kernel⟩
theorem lv9_27 : j_LV 27 32 2 := ⟨j_i3 0 rfl, j_i3 1 rfl, j_i3 2 rfl, j_i1 1 rfl, j_m32, by decide +kernel⟩
theorem lv9_31 : j_LV 31 55 1 := ⟨j_i3 104 rfl, j_i3 105 rfl, j_i3 106 rfl, j_i1 1 rfl, j_m55, by decide +kernel⟩
theorem lv9_36 : j_LV 36 58 3 := ⟨j_i3 117 rfl, j_i3 118 rfl, j_i3 119 rfl, j_i1 1 rfl, j_m58, by decide +kernel⟩
theorem lv9_41 : j_LV 41 61 2 := ⟨j_i3 130 rfl, j_i3 131 rfl, j_i3 132 rfl, j_i1 1 rfl, j_m61, by decide +kernel⟩
theorem lv9_45 : j_LV 45 62 6 := ⟨j_i3 136 rfl, j_i3 137 rfl, j_i3 138 rfl, j_i1 1 rfl, j_m62, by decide +kernel⟩
theorem lv9_50 : j_LV 50 65 1 := ⟨j_i3 147 rfl, j_i3 148 rfl, j_i3 149 rfl, j_i1 1 rfl, j_m65, by decide +kernel⟩
theorem lv9_54 : j_LV 54 104 4 := ⟨j_i4 74 rfl, j_i4 75 rfl, j_i4 76 rfl, j_i1 1 rfl, j_m104, by decide +kernel⟩
theorem lv9_59 : j_LV 59 107 5 := ⟨j_i4 87 rfl, j_i4 88 rfl, j_i4 89 rfl, j_i1 1 rfl, j_m107, by decide +kernel⟩
theorem lv9_64 : j_LV 64 112 5 := ⟨j_i4 110 rfl, j_i4 111 rfl, j_i4 112 rfl, j_i1 1 rfl, j_m112, by decide +kernel⟩
theorem lv9_68 : j_LV 68 116 1 := ⟨j_i4 125 rfl, j_i4 126 rfl, j_i4 127 rfl, j_i1 1 rfl, j_m116, by decide +kernel⟩
theorem lv9_72 : j_LV 72 117 3 := ⟨j_i4 129 rfl, j_i4 130 rfl, j_i4 131 rfl, j_i1 1 rfl, j_m117, by decide +kernel⟩
theorem lv9_76 : j_LV 76 120 3 := ⟨j_i4 144 rfl, j_i4 145 rfl, j_i4 146 rfl, j_i1 1 rfl, j_m120, by decide +kernel⟩
theorem lv9_81 : j_LV 81 121 2 := ⟨j_i4 148 rfl, j_i4 149 rfl, j_i4 150 rfl, j_i1 1 rfl, j_m121, by decide +kernel⟩
theorem lv9_86 : j_LV 86 123 2 := ⟨j_i4 159 rfl, j_i4 160 rfl, j_i4 161 rfl, j_i1 1 rfl, j_m123, by decide +kernel⟩
theorem lv9_90 : j_LV 90 130 6 := ⟨j_i4 190 rfl, j_i4 191 rfl, j_i4 192 rfl, j_i1 1 rfl, j_m130, by decide +kernel⟩
theorem lv9_95 : j_LV 95 140 3 := ⟨j_i4 234 rfl, j_i4 235 rfl, j_i4 236 rfl, j_i1 1 rfl, j_m140, by decide +kernel⟩
theorem lv9_99 : j_LV 99 142 5 := ⟨j_i5 4 rfl, j_i5 5 rfl, j_i5 6 rfl, j_i1 1 rfl, j_m142, by decide +kernel⟩
theorem lv9_103 : j_LV 103 145 2 := ⟨j_i5 17 rfl, j_i5 18 rfl, j_i5 19 rfl, j_i1 1 rfl, j_m145, by decide +kernel⟩
theorem lv9_107 : j_LV 107 148 4 := ⟨j_i5 29 rfl, j_i5 30 rfl, j_i5 31 rfl, j_i1 1 rfl, j_m148, by decide +kernel⟩
theorem lv9_111 : j_LV 111 152 0 := ⟨j_i5 45 rfl, j_i5 46 rfl, j_i5 47 rfl, j_i1 1 rfl, j_m152, by decide +kernel⟩
theorem lv9_116 : j_LV 116 156 0 := ⟨j_i5 65 rfl, j_i5 66 rfl, j_i5 67 rfl, j_i1 1 rfl, j_m156, by decide +kernel⟩
theorem lv9_120 : j_LV 120 157 1 := ⟨j_i5 69 rfl, j_i5 70 rfl, j_i5 71 rfl, j_i1 1 rfl, j_m157, by decide +kernel⟩
theorem lv9_124 : j_LV 124 160 3 := ⟨j_i5 81 rfl, j_i5 82 rfl, j_i5 83 rfl, j_i1 1 rfl, j_m160, by decide +kernel⟩
theorem lv9_128 : j_LV 128 161 3 := ⟨j_i5 86 rfl, j_i5 87 rfl, j_i5 88 rfl, j_i1 1 rfl, j_m161, by decide +kernel⟩
theorem lv9_132 : j_LV 132 163 2 := ⟨j_i5 93 rfl, j_i5 94 rfl, j_i5 95 rfl, j_i1 1 rfl, j_m163, by decide +kernel⟩
theorem lv9_136 : j_LV 136 164 5 := ⟨j_i5 99 rfl, j_i5 100 rfl, j_i5 101 rfl, j_i1 1 rfl, j_m164, by decide +kernel⟩
theorem lv9_17 : j_LV 17 166 2 := ⟨j_i6 103 rfl, j_i6 104 rfl, j_i6 105 rfl, j_i1 11 rfl, j_m166, by decide +kernel⟩
theorem lv9_22 : j_LV 22 173 1 := ⟨j_i6 132 rfl, j_i6 133 rfl, j_i6 134 rfl, j_i1 11 rfl, j_m173, by decide +kernel⟩
theorem lv9_26 : j_LV 26 175 2 := ⟨j_i6 140 rfl, j_i6 141 rfl, j_i6 142 rfl, j_i1 11 rfl, j_m175, by decide +kernel⟩
theorem lv9_30 : j_LV 30 176 2 := ⟨j_i6 144 rfl, j_i6 145 rfl, j_i6 146 rfl, j_i1 11 rfl, j_m176, by decide +kernel⟩
theorem lv9_35 : j_LV 35 198 1 := ⟨j_i6 234 rfl, j_i6 235 rfl, j_i6 236 rfl, j_i1 11 rfl, j_m198, by decide +kernel⟩
theorem lv9_40 : j_LV 40 205 3 := ⟨j_i7 24 rfl, j_i7 25 rfl, j_i7 26 rfl, j_i1 11 rfl, j_m205, by decide +kernel⟩
theorem lv9_44 : j_LV 44 207 2 := ⟨j_i7 33 rfl, j_i7 34 rfl, j_i7 35 rfl, j_i1 11 rfl, j_m207, by decide +kernel⟩
theorem lv9_49 : j_LV 49 208 6 := ⟨j_i7 37 rfl, j_i7 38 rfl, j_i7 39 rfl, j_i1 11 rfl, j_m208, by decide +kernel⟩
theorem lv9_53 : j_LV 53 210 1 := ⟨j_i7 44 rfl, j_i7 45 rfl, j_i7 46 rfl, j_i1 11 rfl, j_m210, by decide +kernel⟩
theorem lv9_58 : j_LV 58 248 4 := ⟨j_i7 203 rfl, j_i7 204 rfl, j_i7 205 rfl, j_i1 11 rfl, j_m248, by decide +kernel⟩
theorem lv9_63 : j_LV 63 250 5 := ⟨j_i7 210 rfl, j_i7 211 rfl, j_i7 212 rfl, j_i1 11 rfl, j_m250, by decide +kernel⟩
theorem lv9_67 : j_LV 67 252 5 := ⟨j_i7 220 rfl, j_i7 221 rfl, j_i7 222 rfl, j_i1 11 rfl, j_m252, by decide +kernel⟩
theorem lv9_71 : j_LV 71 254 1 := ⟨j_i7 227 rfl, j_i7 228 rfl, j_i7 229 rfl, j_i1 11 rfl, j_m254, by decide +kernel⟩
theorem lv9_75 : j_LV 75 255 3 := ⟨j_i7 231 rfl, j_i7 232 rfl, j_i7 233 rfl, j_i1 11 rfl, j_m255, by decide +kernel⟩
theorem lv9_80 : j_LV 80 258 3 := ⟨j_i8 3 rfl, j_i8 4 rfl, j_i8 5 rfl, j_i1 11 rfl, j_m258, by decide +kernel⟩
theorem lv9_85 : j_LV 85 259 2 := ⟨j_i8 7 rfl, j_i8 8 rfl, j_i8 9 rfl, j_i1 11 rfl, j_m259, by decide +kernel⟩
theorem lv9_89 : j_LV 89 260 2 := ⟨j_i8 11 rfl, j_i8 12 rfl, j_i8 13 rfl, j_i1 11 rfl, j_m260, by decide +kernel⟩
theorem lv9_94 : j_LV 94 265 6 := ⟨j_i8 31 rfl, j_i8 32 rfl, j_i8 33 rfl, j_i1 11 rfl, j_m265, by decide +kernel⟩
theorem lv9_98 : j_LV 98 271 3 := ⟨j_i8 60 rfl, j_i8 61 rfl, j_i8 62 rfl, j_i1 11 rfl, j_m271, by decide +kernel⟩
theorem lv9_102 : j_LV 102 272 5 := ⟨j_i8 64 rfl, j_i8 65 rfl, j_i8 66 rfl, j_i1 11 rfl, j_m272, by decide +kernel⟩
theorem lv9_106 : j_LV 106 275 2 := ⟨j_i8 76 rfl, j_i8 77 rfl, j_i8 78 rfl, j_i1 11 rfl, j_m275, by decide +kernel⟩
theorem lv9_110 : j_LV 110 276 4 := ⟨j_i8 80 rfl, j_i8 81 rfl, j_i8 82 rfl, j_i1 11 rfl, j_m276, by decide +kernel⟩
theorem lv9_115 : j_LV 115 280 0 := ⟨j_i8 96 rfl, j_i8 97 rfl, j_i8 98 rfl, j_i1 11 rfl, j_m280, by decide +kernel⟩
theorem lv9_119 : j_LV 119 282 0 := ⟨j_i8 104 rfl, j_i8 105 rfl, j_i8 106 rfl, j_i1 11 rfl, j_m282, by decide +kernel⟩
theorem lv9_123 : j_LV 123 283 1 := ⟨j_i8 108 rfl, j_i8 109 rfl, j_i8 110 rfl, j_i1 11 rfl, j_m283, by decide +kernel⟩
theorem lv9_127 : j_LV 127 284 3 := ⟨j_i8 112 rfl, j_i8 113 rfl, j_i8 114 rfl, j_i1 11 rfl, j_m284, by decide +kernel⟩
theorem lv9_131 : j_LV 131 285 3 := ⟨j_i8 116 rfl, j_i8 117 rfl, j_i8 118 rfl, j_i1 11 rfl, j_m285, by decide +kernel⟩
theorem lv9_135 : j_LV 135 287 2 := ⟨j_i8 124 rfl, j_i8 125 rfl, j_i8 126 rfl, j_i1 11 rfl, j_m287, by decide +kernel⟩
theorem lv9_139 : j_LV 139 288 5 := ⟨j_i8 128 rfl, j_i8 129 rfl, j_i8 130 rfl, j_i1 11 rfl, j_m288, by decide +kernel⟩
theorem lw_k0 (C : lw_C p s m meth c b L xs g) (hi : i + 7 ≤ L) (hL : L ≤ 3584) (B : BothI Inv 11 166 [.int (xs (i + 1)), .int (xs (i + 2))]) (K : lw_At2 Inv p l e s m below meth c b g i 1342) : lw_At2 Inv p l e s m below meth c b g i 164 := by
  obtain ⟨hx, hb, hr, hml, hown, hts, hX, hbl, hlk, hK, hg⟩ := C
  have hbA : ¬ j_A g b := by unfold j_A; omega
  intro σ H locs ls hI hR hS hl
  refine lv_aload_n hx hb dl_164 rfl (lv_at hl 1 rfl) ?_
  refine lw_rd (i := i) (k := 1) hx hb hX hbl hbA hS hl (lv_at hl 0 rfl) (lv_at hl 3 rfl) dl_165 dl_166 dl_167 rfl dl_168 dl_169 (by omega) (by omega) ?_
  refine lw_rd (i := i) (k := 2) hx hb hX hbl hbA hS hl (lv_at hl 0 rfl) (lv_at hl 3 rfl) dl_170 dl_171 dl_172 rfl dl_173 dl_174 (by omega) (by omega) ?_
  refine lw_call (o := 0) (ci := 9) (z := 0) (av := [.int (xs (i + 1)), .int (xs (i + 2))]) (rest := []) (g := g) (d' := lD) hx hb hml hown hts hK hR hS hl.1 dl_175 lv9_13 rfl (by decide) rfl rfl (by decide) (Nat.le_of_ble_eq_true rfl) (Nat.le_of_ble_eq_true rfl) (lt_w1 rfl) sh0 (Nat.le_refl _) (Nat.le_refl _) (B σ hI) (fun r w' τ' H1 locs1 q hR hS => ?_)
  obtain ⟨v, σ1, rfl, rfl, rfl, hM⟩ := q
  show W p l e room_1 s m #[Value.ref b] below meth c H1 locs1 600000 7302250 (lw_Z below #[Value.ref b] s) (F0 m 178 ls [.int v])
  refine lv_aload_n hx hb dl_178 rfl (lv_at hl 2 rfl) ?_
  refine lw_rd (i := i) (k := 1) hx hb hX hbl hbA hS hl (lv_at hl 0 rfl) (lv_at hl 3 rfl) dl_179 dl_180 dl_181 rfl dl_182 dl_183 (by omega) (by omega) ?_
  refine lw_rd (i := i) (k := 2) hx hb hX hbl hbA hS hl (lv_at hl 0 rfl) (lv_at hl 3 rfl) dl_184 dl_185 dl_186 rfl dl_187 dl_188 (by omega) (by omega) ?_
  refine lw_call (o := 260) (ci := 10) (z := 0) (av := [.int (xs (i + 1)), .int (xs (i + 2))]) (rest := [.int v]) (g := g) (d' := lD) hx hb hml hown hts hK hR hS hl.1 dl_189 lv9_17 rfl (by decide) rfl rfl (by decide) (Nat.le_of_ble_eq_true rfl) (Nat.le_of_ble_eq_true rfl) (lt_w1 rfl) sh260 (Nat.le_refl _) (Nat.le_refl _) hM (fun r w' τ' H1 locs1 q hR hS => ?_)
  obtain ⟨σ2, rfl, rfl, rfl, hI2⟩ := q
  show W p l e room_1 s m #[Value.ref b] below meth c H1 locs1 600000 7302250 (lw_Z below #[Value.ref b] s) (F0 m 192 ls [.int v, .int v])
  refine lv_icmp_eq (tgt := 1342) hx hb dl_192 rfl (fun _ => ?_) (fun h => absurd rfl h)
  exact K σ2 H1 locs1 ls hI2 hR hS hl
theorem lw_k1 (C : lw_C p s m meth c b L xs g) (hi : i + 7 ≤ L) (hL : L ≤ 3584) (B : BothI Inv 17 173 [.int (xs (i + 1))]) (K : lw_At2 Inv p l e s m below meth c b g i 1342) : lw_At2 Inv p l e s m below meth c b g i 197 := by
  obtain ⟨hx, hb, hr, hml, hown, hts, hX, hbl, hlk, hK, hg⟩ := C
  have hbA : ¬ j_A g b := by unfold j_A; omega
  intro σ H locs ls hI hR hS hl
  refine lv_aload_n hx hb dl_197 rfl (lv_at hl 1 rfl) ?_
  refine lw_rd (i := i) (k := 1) hx hb hX hbl hbA hS hl (lv_at hl 0 rfl) (lv_at hl 3 rfl) dl_198 dl_199 dl_200 rfl dl_201 dl_202 (by omega) (by omega) ?_
  refine lw_call (o := 0) (ci := 9) (z := 0) (av := [.int (xs (i + 1))]) (rest := []) (g := g) (d' := lD) hx hb hml hown hts hK hR hS hl.1 dl_203 lv9_18 rfl (by decide) rfl rfl (by decide) (Nat.le_of_ble_eq_true rfl) (Nat.le_of_ble_eq_true rfl) (lt_w1 rfl) sh0 (Nat.le_refl _) (Nat.le_refl _) (B σ hI) (fun r w' τ' H1 locs1 q hR hS => ?_)
  obtain ⟨v, σ1, rfl, rfl, rfl, hM⟩ := q
  show W p l e room_1 s m #[Value.ref b] below meth c H1 locs1 600000 7302250 (lw_Z below #[Value.ref b] s) (F0 m 206 ls [.int v])
  refine lv_aload_n hx hb dl_206 rfl (lv_at hl 2 rfl) ?_
  refine lw_rd (i := i) (k := 1) hx hb hX hbl hbA hS hl (lv_at hl 0 rfl) (lv_at hl 3 rfl) dl_207 dl_208 dl_209 rfl dl_210 dl_211 (by omega) (by omega) ?_
  refine lw_call (o := 260) (ci := 10) (z := 0) (av := [.int (xs (i + 1))]) (rest := [.int v]) (g := g) (d' := lD) hx hb hml hown hts hK hR hS hl.1 dl_212 lv9_22 rfl (by decide) rfl rfl (by decide) (Nat.le_of_ble_eq_true rfl) (Nat.le_of_ble_eq_true rfl) (lt_w1 rfl) sh260 (Nat.le_refl _) (Nat.le_refl _) hM (fun r w' τ' H1 locs1 q hR hS => ?_)
  obtain ⟨σ2, rfl, rfl, rfl, hI2⟩ := q
  show W p l e room_1 s m #[Value.ref b] below meth c H1 locs1 600000 7302250 (lw_Z below #[Value.ref b] s) (F0 m 215 ls [.int v, .int v])
  refine lv_icmp_eq (tgt := 1342) hx hb dl_215 rfl (fun _ => ?_) (fun h => absurd rfl h)
  exact K σ2 H1 locs1 ls hI2 hR hS hl
theorem lw_k2 (C : lw_C p s m meth c b L xs g) (hi : i + 7 ≤ L) (hL : L ≤ 3584) (B : BothI Inv 30 175 [.int (xs (i + 1)), .int (xs (i + 2))]) (K : lw_At2 Inv p l e s m below meth c b g i 1342) : lw_At2 Inv p l e s m below meth c b g i 220 := by
  obtain ⟨hx, hb, hr, hml, hown, hts, hX, hbl, hlk, hK, hg⟩ := C
  have hbA : ¬ j_A g b := by unfold j_A; omega
  intro σ H locs ls hI hR hS hl
  refine lv_aload_n hx hb dl_220 rfl (lv_at hl 1 rfl) ?_
  refine lw_rd (i := i) (k := 1) hx hb hX hbl hbA hS hl (lv_at hl 0 rfl) (lv_at hl 3 rfl) dl_221 dl_222 dl_223 rfl dl_224 dl_225 (by omega) (by omega) ?_
  refine lw_rd (i := i) (k := 2) hx hb hX hbl hbA hS hl (lv_at hl 0 rfl) (lv_at hl 3 rfl) dl_226 dl_227 dl_228 rfl dl_229 dl_230 (by omega) (by omega) ?_
  refine lw_call (o := 0) (ci := 9) (z := 0) (av := [.int (xs (i + 1)), .int (xs (i + 2))]) (rest := []) (g := g) (d' := lD) hx hb hml hown hts hK hR hS hl.1 dl_231 lv9_23 rfl (by decide) rfl rfl (by decide) (Nat.le_of_ble_eq_true rfl) (Nat.le_of_ble_eq_true rfl) (lt_w1 rfl) sh0 (Nat.le_refl _) (Nat.le_refl _) (B σ hI) (fun r w' τ' H1 locs1 q hR hS => ?_)
  obtain ⟨v, σ1, rfl, rfl, rfl, hM⟩ := q
  show W p l e room_1 s m #[Value.ref b] below meth c H1 locs1 600000 7302250 (lw_Z below #[Value.ref b] s) (F0 m 234 ls [.int v])
  refine lv_aload_n hx hb dl_234 rfl (lv_at hl 2 rfl) ?_
  refine lw_rd (i := i) (k := 1) hx hb hX hbl hbA hS hl (lv_at hl 0 rfl) (lv_at hl 3 rfl) dl_235 dl_236 dl_237 rfl dl_238 dl_239 (by omega) (by omega) ?_
  refine lw_rd (i := i) (k := 2) hx hb hX hbl hbA hS hl (lv_at hl 0 rfl) (lv_at hl 3 rfl) dl_240 dl_241 dl_242 rfl dl_243 dl_244 (by omega) (by omega) ?_
  refine lw_call (o := 260) (ci := 10) (z := 0) (av := [.int (xs (i + 1)), .int (xs (i + 2))]) (rest := [.int v]) (g := g) (d' := lD) hx hb hml hown hts hK hR hS hl.1 dl_245 lv9_26 rfl (by decide) rfl rfl (by decide) (Nat.le_of_ble_eq_true rfl) (Nat.le_of_ble_eq_true rfl) (lt_w1 rfl) sh260 (Nat.le_refl _) (Nat.le_refl _) hM (fun r w' τ' H1 locs1 q hR hS => ?_)
  obtain ⟨σ2, rfl, rfl, rfl, hI2⟩ := q
  show W p l e room_1 s m #[Value.ref b] below meth c H1 locs1 600000 7302250 (lw_Z below #[Value.ref b] s) (F0 m 248 ls [.int v, .int v])
  refine lv_icmp_eq (tgt := 1342) hx hb dl_248 rfl (fun _ => ?_) (fun h => absurd rfl h)
  exact K σ2 H1 locs1 ls hI2 hR hS hl
theorem lw_k3 (C : lw_C p s m meth c b L xs g) (hi : i + 7 ≤ L) (hL : L ≤ 3584) (B : BothI Inv 32 176 [.int (xs (i + 1)), .int (xs (i + 2))]) (K : lw_At2 Inv p l e s m below meth c b g i 1342) : lw_At2 Inv p l e s m below meth c b g i 253 := by
  obtain ⟨hx, hb, hr, hml, hown, hts, hX, hbl, hlk, hK, hg⟩ := C
  have hbA : ¬ j_A g b := by unfold j_A; omega
  intro σ H locs ls hI hR hS hl
  refine lv_aload_n hx hb dl_253 rfl (lv_at hl 1 rfl) ?_
  refine lw_rd (i := i) (k := 1) hx hb hX hbl hbA hS hl (lv_at hl 0 rfl) (lv_at hl 3 rfl) dl_254 dl_255 dl_256 rfl dl_257 dl_258 (by omega) (by omega) ?_
  refine lw_rd (i := i) (k := 2) hx hb hX hbl hbA hS hl (lv_at hl 0 rfl) (lv_at hl 3 rfl) dl_259 dl_260 dl_261 rfl dl_262 dl_263 (by omega) (by omega) ?_
  refine lw_call (o := 0) (ci := 9) (z := 0) (av := [.int (xs (i + 1)), .int (xs (i + 2))]) (rest := []) (g := g) (d' := lD) hx hb hml hown hts hK hR hS hl.1 dl_264 lv9_27 rfl (by decide) rfl rfl (by decide) (Nat.le_of_ble_eq_true rfl) (Nat.le_of_ble_eq_true rfl) (lt_w1 rfl) sh0 (Nat.le_refl _) (Nat.le_refl _) (B σ hI) (fun r w' τ' H1 locs1 q hR hS => ?_)
  obtain ⟨v, σ1, rfl, rfl, rfl, hM⟩ := q
  show W p l e room_1 s m #[Value.ref b] below meth c H1 locs1 600000 7302250 (lw_Z below #[Value.ref b] s) (F0 m 267 ls [.int v])
  refine lv_aload_n hx hb dl_267 rfl (lv_at hl 2 rfl) ?_
  refine lw_rd (i := i) (k := 1) hx hb hX hbl hbA hS hl (lv_at hl 0 rfl) (lv_at hl 3 rfl) dl_268 dl_269 dl_270 rfl dl_271 dl_272 (by omega) (by omega) ?_
  refine lw_rd (i := i) (k := 2) hx hb hX hbl hbA hS hl (lv_at hl 0 rfl) (lv_at hl 3 rfl) dl_273 dl_274 dl_275 rfl dl_276 dl_277 (by omega) (by omega) ?_
  refine lw_call (o := 260) (ci := 10) (z := 0) (av := [.int (xs (i + 1)), .int (xs (i + 2))]) (rest := [.int v]) (g := g) (d' := lD) hx hb hml hown hts hK hR hS hl.1 dl_278 lv9_30 rfl (by decide) rfl rfl (by decide) (Nat.le_of_ble_eq_true rfl) (Nat.le_of_ble_eq_true rfl) (lt_w1 rfl) sh260 (Nat.le_refl _) (Nat.le_refl _) hM (fun r w' τ' H1 locs1 q hR hS => ?_)
  obtain ⟨σ2, rfl, rfl, rfl, hI2⟩ := q
  show W p l e room_1 s m #[Value.ref b] below meth c H1 locs1 600000 7302250 (lw_Z below #[Value.ref b] s) (F0 m 281 ls [.int v, .int v])
  refine lv_icmp_eq (tgt := 1342) hx hb dl_281 rfl (fun _ => ?_) (fun h => absurd rfl h)
  exact K σ2 H1 locs1 ls hI2 hR hS hl
theorem lw_k4 (C : lw_C p s m meth c b L xs g) (hi : i + 7 ≤ L) (hL : L ≤ 3584) (B : BothL Inv 55 198 [.int (xs (i + 1))]) (K : lw_At2 Inv p l e s m below meth c b g i 1342) : lw_At2 Inv p l e s m below meth c b g i 286 := by
  obtain ⟨hx, hb, hr, hml, hown, hts, hX, hbl, hlk, hK, hg⟩ := C
  have hbA : ¬ j_A g b := by unfold j_A; omega
  intro σ H locs ls hI hR hS hl
  refine lv_aload_n hx hb dl_286 rfl (lv_at hl 1 rfl) ?_
  refine lw_rd (i := i) (k := 1) hx hb hX hbl hbA hS hl (lv_at hl 0 rfl) (lv_at hl 3 rfl) dl_287 dl_288 dl_289 rfl dl_290 dl_291 (by omega) (by omega) ?_
  refine lw_call (o := 0) (ci := 9) (z := 0) (av := [.int (xs (i + 1))]) (rest := []) (g := g) (d' := lD) hx hb hml hown hts hK hR hS hl.1 dl_292 lv9_31 rfl (by decide) rfl rfl (by decide) (Nat.le_of_ble_eq_true rfl) (Nat.le_of_ble_eq_true rfl) (lt_w1 rfl) sh0 (Nat.le_refl _) (Nat.le_refl _) (B σ hI) (fun r w' τ' H1 locs1 q hR hS => ?_)
  obtain ⟨v, σ1, rfl, rfl, rfl, hM⟩ := q
  show W p l e room_1 s m #[Value.ref b] below meth c H1 locs1 600000 7302250 (lw_Z below #[Value.ref b] s) (F0 m 295 ls [.long v])
  refine lv_aload_n hx hb dl_295 rfl (lv_at hl 2 rfl) ?_
  refine lw_rd (i := i) (k := 1) hx hb hX hbl hbA hS hl (lv_at hl 0 rfl) (lv_at hl 3 rfl) dl_296 dl_297 dl_298 rfl dl_299 dl_300 (by omega) (by omega) ?_
  refine lw_call (o := 260) (ci := 10) (z := 0) (av := [.int (xs (i + 1))]) (rest := [.long v]) (g := g) (d' := lD) hx hb hml hown hts hK hR hS hl.1 dl_301 lv9_35 rfl (by decide) rfl rfl (by decide) (Nat.le_of_ble_eq_true rfl) (Nat.le_of_ble_eq_true rfl) (lt_w1 rfl) sh260 (Nat.le_refl _) (Nat.le_refl _) hM (fun r w' τ' H1 locs1 q hR hS => ?_)
  obtain ⟨σ2, rfl, rfl, rfl, hI2⟩ := q
  show W p l e room_1 s m #[Value.ref b] below meth c H1 locs1 600000 7302250 (lw_Z below #[Value.ref b] s) (F0 m 304 ls [.long v, .long v])
  refine W.lcmp hx hb dl_304 ?_
  refine lv_if_eq (tgt := 1342) hx hb dl_305 rfl (fun _ => ?_) (fun h => absurd (by simp [lg_cmp]) h)
  exact K σ2 H1 locs1 ls hI2 hR hS hl
theorem lw_k5 (C : lw_C p s m meth c b L xs g) (hi : i + 7 ≤ L) (hL : L ≤ 3584) (B : BothL Inv 58 205 [.int (xs (i + 1)), .int (xs (i + 2)), .int (xs (i + 3))]) (K : lw_At2 Inv p l e s m below meth c b g i 1342) : lw_At2 Inv p l e s m below meth c b g i 310 := by
  obtain ⟨hx, hb, hr, hml, hown, hts, hX, hbl, hlk, hK, hg⟩ := C
  have hbA : ¬ j_A g b := by unfold j_A; omega
  intro σ H locs ls hI hR hS hl
  refine lv_aload_n hx hb dl_310 rfl (lv_at hl 1 rfl) ?_
  refine lw_rd (i := i) (k := 1) hx hb hX hbl hbA hS hl (lv_at hl 0 rfl) (lv_at hl 3 rfl) dl_311 dl_312 dl_313 rfl dl_314 dl_315 (by omega) (by omega) ?_
  refine lw_rd (i := i) (k := 2) hx hb hX hbl hbA hS hl (lv_at hl 0 rfl) (lv_at hl 3 rfl) dl_316 dl_317 dl_318 rfl dl_319 dl_320 (by omega) (by omega) ?_
  refine lw_rd (i := i) (k := 3) hx hb hX hbl hbA hS hl (lv_at hl 0 rfl) (lv_at hl 3 rfl) dl_321 dl_322 dl_323 rfl dl_324 dl_325 (by omega) (by omega) ?_
  refine lw_call (o := 0) (ci := 9) (z := 0) (av := [.int (xs (i + 1)), .int (xs (i + 2)), .int (xs (i + 3))]) (rest := []) (g := g) (d' := lD) hx hb hml hown hts hK hR hS hl.1 dl_326 lv9_36 rfl (by decide) rfl rfl (by decide) (Nat.le_of_ble_eq_true rfl) (Nat.le_of_ble_eq_true rfl) (lt_w1 rfl) sh0 (Nat.le_refl _) (Nat.le_refl _) (B σ hI) (fun r w' τ' H1 locs1 q hR hS => ?_)
  obtain ⟨v, σ1, rfl, rfl, rfl, hM⟩ := q
  show W p l e room_1 s m #[Value.ref b] below meth c H1 locs1 600000 7302250 (lw_Z below #[Value.ref b] s) (F0 m 329 ls [.long v])
  refine lv_aload_n hx hb dl_329 rfl (lv_at hl 2 rfl) ?_
  refine lw_rd (i := i) (k := 1) hx hb hX hbl hbA hS hl (lv_at hl 0 rfl) (lv_at hl 3 rfl) dl_330 dl_331 dl_332 rfl dl_333 dl_334 (by omega) (by omega) ?_
  refine lw_rd (i := i) (k := 2) hx hb hX hbl hbA hS hl (lv_at hl 0 rfl) (lv_at hl 3 rfl) dl_335 dl_336 dl_337 rfl dl_338 dl_339 (by omega) (by omega) ?_
  refine lw_rd (i := i) (k := 3) hx hb hX hbl hbA hS hl (lv_at hl 0 rfl) (lv_at hl 3 rfl) dl_340 dl_341 dl_342 rfl dl_343 dl_344 (by omega) (by omega) ?_
  refine lw_call (o := 260) (ci := 10) (z := 0) (av := [.int (xs (i + 1)), .int (xs (i + 2)), .int (xs (i + 3))]) (rest := [.long v]) (g := g) (d' := lD) hx hb hml hown hts hK hR hS hl.1 dl_345 lv9_40 rfl (by decide) rfl rfl (by decide) (Nat.le_of_ble_eq_true rfl) (Nat.le_of_ble_eq_true rfl) (lt_w1 rfl) sh260 (Nat.le_refl _) (Nat.le_refl _) hM (fun r w' τ' H1 locs1 q hR hS => ?_)
  obtain ⟨σ2, rfl, rfl, rfl, hI2⟩ := q
  show W p l e room_1 s m #[Value.ref b] below meth c H1 locs1 600000 7302250 (lw_Z below #[Value.ref b] s) (F0 m 348 ls [.long v, .long v])
  refine W.lcmp hx hb dl_348 ?_
  refine lv_if_eq (tgt := 1342) hx hb dl_349 rfl (fun _ => ?_) (fun h => absurd (by simp [lg_cmp]) h)
  exact K σ2 H1 locs1 ls hI2 hR hS hl
theorem lw_k6 (C : lw_C p s m meth c b L xs g) (hi : i + 7 ≤ L) (hL : L ≤ 3584) (B : BothI Inv 61 207 [.int (xs (i + 1)), .int (xs (i + 2))]) (K : lw_At2 Inv p l e s m below meth c b g i 1342) : lw_At2 Inv p l e s m below meth c b g i 354 := by
  obtain ⟨hx, hb, hr, hml, hown, hts, hX, hbl, hlk, hK, hg⟩ := C
  have hbA : ¬ j_A g b := by unfold j_A; omega
  intro σ H locs ls hI hR hS hl
  refine lv_aload_n hx hb dl_354 rfl (lv_at hl 1 rfl) ?_
  refine lw_rd (i := i) (k := 1) hx hb hX hbl hbA hS hl (lv_at hl 0 rfl) (lv_at hl 3 rfl) dl_355 dl_356 dl_357 rfl dl_358 dl_359 (by omega) (by omega) ?_
  refine lw_rd (i := i) (k := 2) hx hb hX hbl hbA hS hl (lv_at hl 0 rfl) (lv_at hl 3 rfl) dl_360 dl_361 dl_362 rfl dl_363 dl_364 (by omega) (by omega) ?_
  refine lw_call (o := 0) (ci := 9) (z := 0) (av := [.int (xs (i + 1)), .int (xs (i + 2))]) (rest := []) (g := g) (d' := lD) hx hb hml hown hts hK hR hS hl.1 dl_365 lv9_41 rfl (by decide) rfl rfl (by decide) (Nat.le_of_ble_eq_true rfl) (Nat.le_of_ble_eq_true rfl) (lt_w1 rfl) sh0 (Nat.le_refl _) (Nat.le_refl _) (B σ hI) (fun r w' τ' H1 locs1 q hR hS => ?_)
  obtain ⟨v, σ1, rfl, rfl, rfl, hM⟩ := q
  show W p l e room_1 s m #[Value.ref b] below meth c H1 locs1 600000 7302250 (lw_Z below #[Value.ref b] s) (F0 m 368 ls [.int v])
  refine lv_aload_n hx hb dl_368 rfl (lv_at hl 2 rfl) ?_
  refine lw_rd (i := i) (k := 1) hx hb hX hbl hbA hS hl (lv_at hl 0 rfl) (lv_at hl 3 rfl) dl_369 dl_370 dl_371 rfl dl_372 dl_373 (by omega) (by omega) ?_
  refine lw_rd (i := i) (k := 2) hx hb hX hbl hbA hS hl (lv_at hl 0 rfl) (lv_at hl 3 rfl) dl_374 dl_375 dl_376 rfl dl_377 dl_378 (by omega) (by omega) ?_
  refine lw_call (o := 260) (ci := 10) (z := 0) (av := [.int (xs (i + 1)), .int (xs (i + 2))]) (rest := [.int v]) (g := g) (d' := lD) hx hb hml hown hts hK hR hS hl.1 dl_379 lv9_44 rfl (by decide) rfl rfl (by decide) (Nat.le_of_ble_eq_true rfl) (Nat.le_of_ble_eq_true rfl) (lt_w1 rfl) sh260 (Nat.le_refl _) (Nat.le_refl _) hM (fun r w' τ' H1 locs1 q hR hS => ?_)
  obtain ⟨σ2, rfl, rfl, rfl, hI2⟩ := q
  show W p l e room_1 s m #[Value.ref b] below meth c H1 locs1 600000 7302250 (lw_Z below #[Value.ref b] s) (F0 m 382 ls [.int v, .int v])
  refine lv_icmp_eq (tgt := 1342) hx hb dl_382 rfl (fun _ => ?_) (fun h => absurd rfl h)
  exact K σ2 H1 locs1 ls hI2 hR hS hl
theorem lw_k7 (C : lw_C p s m meth c b L xs g) (hi : i + 7 ≤ L) (hL : L ≤ 3584) (B : BothI Inv 62 208 [.int (xs (i + 1)), .int (xs (i + 2)), .int (xs (i + 3)), .int (xs (i + 4)), .int (xs (i + 5)), .int (xs (i + 6))]) (K : lw_At2 Inv p l e s m below meth c b g i 1342) : lw_At2 Inv p l e s m below meth c b g i 387 := by
  obtain ⟨hx, hb, hr, hml, hown, hts, hX, hbl, hlk, hK, hg⟩ := C
  have hbA : ¬ j_A g b := by unfold j_A; omega
  intro σ H locs ls hI hR hS hl
  refine lv_aload_n hx hb dl_387 rfl (lv_at hl 1 rfl) ?_
  refine lw_rd (i := i) (k := 1) hx hb hX hbl hbA hS hl (lv_at hl 0 rfl) (lv_at hl 3 rfl) dl_388 dl_389 dl_390 rfl dl_391 dl_392 (by omega) (by omega) ?_
  refine lw_rd (i := i) (k := 2) hx hb hX hbl hbA hS hl (lv_at hl 0 rfl) (lv_at hl 3 rfl) dl_393 dl_394 dl_395 rfl dl_396 dl_397 (by omega) (by omega) ?_
  refine lw_rd (i := i) (k := 3) hx hb hX hbl hbA hS hl (lv_at hl 0 rfl) (lv_at hl 3 rfl) dl_398 dl_399 dl_400 rfl dl_401 dl_402 (by omega) (by omega) ?_
  refine lw_rd (i := i) (k := 4) hx hb hX hbl hbA hS hl (lv_at hl 0 rfl) (lv_at hl 3 rfl) dl_403 dl_404 dl_405 rfl dl_406 dl_407 (by omega) (by omega) ?_
  refine lw_rd (i := i) (k := 5) hx hb hX hbl hbA hS hl (lv_at hl 0 rfl) (lv_at hl 3 rfl) dl_408 dl_409 dl_410 rfl dl_411 dl_412 (by omega) (by omega) ?_
  refine lw_rd6 (i := i) (k := 6) hx hb hX hbl hbA hS hl (lv_at hl 0 rfl) (lv_at hl 3 rfl) dl_413 dl_414 dl_415 rfl dl_417 dl_418 (by omega) (by omega) ?_
  refine lw_call (o := 0) (ci := 9) (z := 0) (av := [.int (xs (i + 1)), .int (xs (i + 2)), .int (xs (i + 3)), .int (xs (i + 4)), .int (xs (i + 5)), .int (xs (i + 6))]) (rest := []) (g := g) (d' := lD) hx hb hml hown hts hK hR hS hl.1 dl_419 lv9_45 rfl (by decide) rfl rfl (by decide) (Nat.le_of_ble_eq_true rfl) (Nat.le_of_ble_eq_true rfl) (lt_w1 rfl) sh0 (Nat.le_refl _) (Nat.le_refl _) (B σ hI) (fun r w' τ' H1 locs1 q hR hS => ?_)
  obtain ⟨v, σ1, rfl, rfl, rfl, hM⟩ := q
  show W p l e room_1 s m #[Value.ref b] below meth c H1 locs1 600000 7302250 (lw_Z below #[Value.ref b] s) (F0 m 422 ls [.int v])
  refine lv_aload_n hx hb dl_422 rfl (lv_at hl 2 rfl) ?_
  refine lw_rd (i := i) (k := 1) hx hb hX hbl hbA hS hl (lv_at hl 0 rfl) (lv_at hl 3 rfl) dl_423 dl_424 dl_425 rfl dl_426 dl_427 (by omega) (by omega) ?_
  refine lw_rd (i := i) (k := 2) hx hb hX hbl hbA hS hl (lv_at hl 0 rfl) (lv_at hl 3 rfl) dl_428 dl_429 dl_430 rfl dl_431 dl_432 (by omega) (by omega) ?_
  refine lw_rd (i := i) (k := 3) hx hb hX hbl hbA hS hl (lv_at hl 0 rfl) (lv_at hl 3 rfl) dl_433 dl_434 dl_435 rfl dl_436 dl_437 (by omega) (by omega) ?_
  refine lw_rd (i := i) (k := 4) hx hb hX hbl hbA hS hl (lv_at hl 0 rfl) (lv_at hl 3 rfl) dl_438 dl_439 dl_440 rfl dl_441 dl_442 (by omega) (by omega) ?_
  refine lw_rd (i := i) (k := 5) hx hb hX hbl hbA hS hl (lv_at hl 0 rfl) (lv_at hl 3 rfl) dl_443 dl_444 dl_445 rfl dl_446 dl_447 (by omega) (by omega) ?_
  refine lw_rd6 (i := i) (k := 6) hx hb hX hbl hbA hS hl (lv_at hl 0 rfl) (lv_at hl 3 rfl) dl_448 dl_449 dl_450 rfl dl_452 dl_453 (by omega) (by omega) ?_
  refine lw_call (o := 260) (ci := 10) (z := 0) (av := [.int (xs (i + 1)), .int (xs (i + 2)), .int (xs (i + 3)), .int (xs (i + 4)), .int (xs (i + 5)), .int (xs (i + 6))]) (rest := [.int v]) (g := g) (d' := lD) hx hb hml hown hts hK hR hS hl.1 dl_454 lv9_49 rfl (by decide) rfl rfl (by decide) (Nat.le_of_ble_eq_true rfl) (Nat.le_of_ble_eq_true rfl) (lt_w1 rfl) sh260 (Nat.le_refl _) (Nat.le_refl _) hM (fun r w' τ' H1 locs1 q hR hS => ?_)
  obtain ⟨σ2, rfl, rfl, rfl, hI2⟩ := q
  show W p l e room_1 s m #[Value.ref b] below meth c H1 locs1 600000 7302250 (lw_Z below #[Value.ref b] s) (F0 m 457 ls [.int v, .int v])
  refine lv_icmp_eq (tgt := 1342) hx hb dl_457 rfl (fun _ => ?_) (fun h => absurd rfl h)
  exact K σ2 H1 locs1 ls hI2 hR hS hl
theorem lw_k8 (C : lw_C p s m meth c b L xs g) (hi : i + 7 ≤ L) (hL : L ≤ 3584) (B : BothI Inv 65 210 [.int (xs (i + 1))]) (K : lw_At2 Inv p l e s m below meth c b g i 1342) : lw_At2 Inv p l e s m below meth c b g i 462 := by
  obtain ⟨hx, hb, hr, hml, hown, hts, hX, hbl, hlk, hK, hg⟩ := C
  have hbA : ¬ j_A g b := by unfold j_A; omega
  intro σ H locs ls hI hR hS hl
  refine lv_aload_n hx hb dl_462 rfl (lv_at hl 1 rfl) ?_
  refine lw_rd (i := i) (k := 1) hx hb hX hbl hbA hS hl (lv_at hl 0 rfl) (lv_at hl 3 rfl) dl_463 dl_464 dl_465 rfl dl_466 dl_467 (by omega) (by omega) ?_
  refine lw_call (o := 0) (ci := 9) (z := 0) (av := [.int (xs (i + 1))]) (rest := []) (g := g) (d' := lD) hx hb hml hown hts hK hR hS hl.1 dl_468 lv9_50 rfl (by decide) rfl rfl (by decide) (Nat.le_of_ble_eq_true rfl) (Nat.le_of_ble_eq_true rfl) (lt_w1 rfl) sh0 (Nat.le_refl _) (Nat.le_refl _) (B σ hI) (fun r w' τ' H1 locs1 q hR hS => ?_)
  obtain ⟨v, σ1, rfl, rfl, rfl, hM⟩ := q
  show W p l e room_1 s m #[Value.ref b] below meth c H1 locs1 600000 7302250 (lw_Z below #[Value.ref b] s) (F0 m 471 ls [.int v])
  refine lv_aload_n hx hb dl_471 rfl (lv_at hl 2 rfl) ?_
  refine lw_rd (i := i) (k := 1) hx hb hX hbl hbA hS hl (lv_at hl 0 rfl) (lv_at hl 3 rfl) dl_472 dl_473 dl_474 rfl dl_475 dl_476 (by omega) (by omega) ?_
  refine lw_call (o := 260) (ci := 10) (z := 0) (av := [.int (xs (i + 1))]) (rest := [.int v]) (g := g) (d' := lD) hx hb hml hown hts hK hR hS hl.1 dl_477 lv9_53 rfl (by decide) rfl rfl (by decide) (Nat.le_of_ble_eq_true rfl) (Nat.le_of_ble_eq_true rfl) (lt_w1 rfl) sh260 (Nat.le_refl _) (Nat.le_refl _) hM (fun r w' τ' H1 locs1 q hR hS => ?_)
  obtain ⟨σ2, rfl, rfl, rfl, hI2⟩ := q
  show W p l e room_1 s m #[Value.ref b] below meth c H1 locs1 600000 7302250 (lw_Z below #[Value.ref b] s) (F0 m 480 ls [.int v, .int v])
  refine lv_icmp_eq (tgt := 1342) hx hb dl_480 rfl (fun _ => ?_) (fun h => absurd rfl h)
  exact K σ2 H1 locs1 ls hI2 hR hS hl
theorem lw_k9 (C : lw_C p s m meth c b L xs g) (hi : i + 7 ≤ L) (hL : L ≤ 3584) (B : BothI Inv 104 248 [.int (xs (i + 1)), .int (xs (i + 2)), .int (xs (i + 3)), .int (xs (i + 4))]) (K : lw_At2 Inv p l e s m below meth c b g i 1342) : lw_At2 Inv p l e s m below meth c b g i 485 := by
  obtain ⟨hx, hb, hr, hml, hown, hts, hX, hbl, hlk, hK, hg⟩ := C
  have hbA : ¬ j_A g b := by unfold j_A; omega
  intro σ H locs ls hI hR hS hl
  refine lv_aload_n hx hb dl_485 rfl (lv_at hl 1 rfl) ?_
  refine lw_rd (i := i) (k := 1) hx hb hX hbl hbA hS hl (lv_at hl 0 rfl) (lv_at hl 3 rfl) dl_486 dl_487 dl_488 rfl dl_489 dl_490 (by omega) (by omega) ?_
  refine lw_rd (i := i) (k := 2) hx hb hX hbl hbA hS hl (lv_at hl 0 rfl) (lv_at hl 3 rfl) dl_491 dl_492 dl_493 rfl dl_494 dl_495 (by omega) (by omega) ?_
  refine lw_rd (i := i) (k := 3) hx hb hX hbl hbA hS hl (lv_at hl 0 rfl) (lv_at hl 3 rfl) dl_496 dl_497 dl_498 rfl dl_499 dl_500 (by omega) (by omega) ?_
  refine lw_rd (i := i) (k := 4) hx hb hX hbl hbA hS hl (lv_at hl 0 rfl) (lv_at hl 3 rfl) dl_501 dl_502 dl_503 rfl dl_504 dl_505 (by omega) (by omega) ?_
  refine lw_call (o := 0) (ci := 9) (z := 0) (av := [.int (xs (i + 1)), .int (xs (i + 2)), .int (xs (i + 3)), .int (xs (i + 4))]) (rest := []) (g := g) (d' := lD) hx hb hml hown hts hK hR hS hl.1 dl_506 lv9_54 rfl (by decide) rfl rfl (by decide) (Nat.le_of_ble_eq_true rfl) (Nat.le_of_ble_eq_true rfl) (lt_w1 rfl) sh0 (Nat.le_refl _) (Nat.le_refl _) (B σ hI) (fun r w' τ' H1 locs1 q hR hS => ?_)
  obtain ⟨v, σ1, rfl, rfl, rfl, hM⟩ := q
  show W p l e room_1 s m #[Value.ref b] below meth c H1 locs1 600000 7302250 (lw_Z below #[Value.ref b] s) (F0 m 509 ls [.int v])
  refine lv_aload_n hx hb dl_509 rfl (lv_at hl 2 rfl) ?_
  refine lw_rd (i := i) (k := 1) hx hb hX hbl hbA hS hl (lv_at hl 0 rfl) (lv_at hl 3 rfl) dl_510 dl_511 dl_512 rfl dl_513 dl_514 (by omega) (by omega) ?_
  refine lw_rd (i := i) (k := 2) hx hb hX hbl hbA hS hl (lv_at hl 0 rfl) (lv_at hl 3 rfl) dl_515 dl_516 dl_517 rfl dl_518 dl_519 (by omega) (by omega) ?_
  refine lw_rd (i := i) (k := 3) hx hb hX hbl hbA hS hl (lv_at hl 0 rfl) (lv_at hl 3 rfl) dl_520 dl_521 dl_522 rfl dl_523 dl_524 (by omega) (by omega) ?_
  refine lw_rd (i := i) (k := 4) hx hb hX hbl hbA hS hl (lv_at hl 0 rfl) (lv_at hl 3 rfl) dl_525 dl_526 dl_527 rfl dl_528 dl_529 (by omega) (by omega) ?_
  refine lw_call (o := 260) (ci := 10) (z := 0) (av := [.int (xs (i + 1)), .int (xs (i + 2)), .int (xs (i + 3)), .int (xs (i + 4))]) (rest := [.int v]) (g := g) (d' := lD) hx hb hml hown hts hK hR hS hl.1 dl_530 lv9_58 rfl (by decide) rfl rfl (by decide) (Nat.le_of_ble_eq_true rfl) (Nat.le_of_ble_eq_true rfl) (lt_w1 rfl) sh260 (Nat.le_refl _) (Nat.le_refl _) hM (fun r w' τ' H1 locs1 q hR hS => ?_)
  obtain ⟨σ2, rfl, rfl, rfl, hI2⟩ := q
  show W p l e room_1 s m #[Value.ref b] below meth c H1 locs1 600000 7302250 (lw_Z below #[Value.ref b] s) (F0 m 533 ls [.int v, .int v])
  refine lv_icmp_eq (tgt := 1342) hx hb dl_533 rfl (fun _ => ?_) (fun h => absurd rfl h)
  exact K σ2 H1 locs1 ls hI2 hR hS hl
theorem lw_k10 (C : lw_C p s m meth c b L xs g) (hi : i + 7 ≤ L) (hL : L ≤ 3584) (B : BothI Inv 107 250 [.int (xs (i + 1)), .int (xs (i + 2)), .int (xs (i + 3)), .int (xs (i + 4)), .int (xs (i + 5))]) (K : lw_At2 Inv p l e s m below meth c b g i 1342) : lw_At2 Inv p l e s m below meth c b g i 538 := by
  obtain ⟨hx, hb, hr, hml, hown, hts, hX, hbl, hlk, hK, hg⟩ := C
  have hbA : ¬ j_A g b := by unfold j_A; omega
  intro σ H locs ls hI hR hS hl
  refine lv_aload_n hx hb dl_538 rfl (lv_at hl 1 rfl) ?_
  refine lw_rd (i := i) (k := 1) hx hb hX hbl hbA hS hl (lv_at hl 0 rfl) (lv_at hl 3 rfl) dl_539 dl_540 dl_541 rfl dl_542 dl_543 (by omega) (by omega) ?_
  refine lw_rd (i := i) (k := 2) hx hb hX hbl hbA hS hl (lv_at hl 0 rfl) (lv_at hl 3 rfl) dl_544 dl_545 dl_546 rfl dl_547 dl_548 (by omega) (by omega) ?_
  refine lw_rd (i := i) (k := 3) hx hb hX hbl hbA hS hl (lv_at hl 0 rfl) (lv_at hl 3 rfl) dl_549 dl_550 dl_551 rfl dl_552 dl_553 (by omega) (by omega) ?_
  refine lw_rd (i := i) (k := 4) hx hb hX hbl hbA hS hl (lv_at hl 0 rfl) (lv_at hl 3 rfl) dl_554 dl_555 dl_556 rfl dl_557 dl_558 (by omega) (by omega) ?_
  refine lw_rd (i := i) (k := 5) hx hb hX hbl hbA hS hl (lv_at hl 0 rfl) (lv_at hl 3 rfl) dl_559 dl_560 dl_561 rfl dl_562 dl_563 (by omega) (by omega) ?_
  refine lw_call (o := 0) (ci := 9) (z := 0) (av := [.int (xs (i + 1)), .int (xs (i + 2)), .int (xs (i + 3)), .int (xs (i + 4)), .int (xs (i + 5))]) (rest := []) (g := g) (d' := lD) hx hb hml hown hts hK hR hS hl.1 dl_564 lv9_59 rfl (by decide) rfl rfl (by decide) (Nat.le_of_ble_eq_true rfl) (Nat.le_of_ble_eq_true rfl) (lt_w1 rfl) sh0 (Nat.le_refl _) (Nat.le_refl _) (B σ hI) (fun r w' τ' H1 locs1 q hR hS => ?_)
  obtain ⟨v, σ1, rfl, rfl, rfl, hM⟩ := q
  show W p l e room_1 s m #[Value.ref b] below meth c H1 locs1 600000 7302250 (lw_Z below #[Value.ref b] s) (F0 m 567 ls [.int v])
  refine lv_aload_n hx hb dl_567 rfl (lv_at hl 2 rfl) ?_
  refine lw_rd (i := i) (k := 1) hx hb hX hbl hbA hS hl (lv_at hl 0 rfl) (lv_at hl 3 rfl) dl_568 dl_569 dl_570 rfl dl_571 dl_572 (by omega) (by omega) ?_
  refine lw_rd (i := i) (k := 2) hx hb hX hbl hbA hS hl (lv_at hl 0 rfl) (lv_at hl 3 rfl) dl_573 dl_574 dl_575 rfl dl_576 dl_577 (by omega) (by omega) ?_
  refine lw_rd (i := i) (k := 3) hx hb hX hbl hbA hS hl (lv_at hl 0 rfl) (lv_at hl 3 rfl) dl_578 dl_579 dl_580 rfl dl_581 dl_582 (by omega) (by omega) ?_
  refine lw_rd (i := i) (k := 4) hx hb hX hbl hbA hS hl (lv_at hl 0 rfl) (lv_at hl 3 rfl) dl_583 dl_584 dl_585 rfl dl_586 dl_587 (by omega) (by omega) ?_
  refine lw_rd (i := i) (k := 5) hx hb hX hbl hbA hS hl (lv_at hl 0 rfl) (lv_at hl 3 rfl) dl_588 dl_589 dl_590 rfl dl_591 dl_592 (by omega) (by omega) ?_
  refine lw_call (o := 260) (ci := 10) (z := 0) (av := [.int (xs (i + 1)), .int (xs (i + 2)), .int (xs (i + 3)), .int (xs (i + 4)), .int (xs (i + 5))]) (rest := [.int v]) (g := g) (d' := lD) hx hb hml hown hts hK hR hS hl.1 dl_593 lv9_63 rfl (by decide) rfl rfl (by decide) (Nat.le_of_ble_eq_true rfl) (Nat.le_of_ble_eq_true rfl) (lt_w1 rfl) sh260 (Nat.le_refl _) (Nat.le_refl _) hM (fun r w' τ' H1 locs1 q hR hS => ?_)
  obtain ⟨σ2, rfl, rfl, rfl, hI2⟩ := q
  show W p l e room_1 s m #[Value.ref b] below meth c H1 locs1 600000 7302250 (lw_Z below #[Value.ref b] s) (F0 m 596 ls [.int v, .int v])
  refine lv_icmp_eq (tgt := 1342) hx hb dl_596 rfl (fun _ => ?_) (fun h => absurd rfl h)
  exact K σ2 H1 locs1 ls hI2 hR hS hl
theorem lw_k11 (C : lw_C p s m meth c b L xs g) (hi : i + 7 ≤ L) (hL : L ≤ 3584) (B : BothI Inv 112 252 [.int (xs (i + 1)), .int (xs (i + 2)), .int (xs (i + 3)), .int (xs (i + 4)), .int (xs (i + 5))]) (K : lw_At2 Inv p l e s m below meth c b g i 1342) : lw_At2 Inv p l e s m below meth c b g i 601 := by
  obtain ⟨hx, hb, hr, hml, hown, hts, hX, hbl, hlk, hK, hg⟩ := C
  have hbA : ¬ j_A g b := by unfold j_A; omega
  intro σ H locs ls hI hR hS hl
  refine lv_aload_n hx hb dl_601 rfl (lv_at hl 1 rfl) ?_
  refine lw_rd (i := i) (k := 1) hx hb hX hbl hbA hS hl (lv_at hl 0 rfl) (lv_at hl 3 rfl) dl_602 dl_603 dl_604 rfl dl_605 dl_606 (by omega) (by omega) ?_
  refine lw_rd (i := i) (k := 2) hx hb hX hbl hbA hS hl (lv_at hl 0 rfl) (lv_at hl 3 rfl) dl_607 dl_608 dl_609 rfl dl_610 dl_611 (by omega) (by omega) ?_
  refine lw_rd (i := i) (k := 3) hx hb hX hbl hbA hS hl (lv_at hl 0 rfl) (lv_at hl 3 rfl) dl_612 dl_613 dl_614 rfl dl_615 dl_616 (by omega) (by omega) ?_
  refine lw_rd (i := i) (k := 4) hx hb hX hbl hbA hS hl (lv_at hl 0 rfl) (lv_at hl 3 rfl) dl_617 dl_618 dl_619 rfl dl_620 dl_621 (by omega) (by omega) ?_
  refine lw_rd (i := i) (k := 5) hx hb hX hbl hbA hS hl (lv_at hl 0 rfl) (lv_at hl 3 rfl) dl_622 dl_623 dl_624 rfl dl_625 dl_626 (by omega) (by omega) ?_
  refine lw_call (o := 0) (ci := 9) (z := 0) (av := [.int (xs (i + 1)), .int (xs (i + 2)), .int (xs (i + 3)), .int (xs (i + 4)), .int (xs (i + 5))]) (rest := []) (g := g) (d' := lD) hx hb hml hown hts hK hR hS hl.1 dl_627 lv9_64 rfl (by decide) rfl rfl (by decide) (Nat.le_of_ble_eq_true rfl) (Nat.le_of_ble_eq_true rfl) (lt_w1 rfl) sh0 (Nat.le_refl _) (Nat.le_refl _) (B σ hI) (fun r w' τ' H1 locs1 q hR hS => ?_)
  obtain ⟨v, σ1, rfl, rfl, rfl, hM⟩ := q
  show W p l e room_1 s m #[Value.ref b] below meth c H1 locs1 600000 7302250 (lw_Z below #[Value.ref b] s) (F0 m 630 ls [.int v])
  refine lv_aload_n hx hb dl_630 rfl (lv_at hl 2 rfl) ?_
  refine lw_rd (i := i) (k := 1) hx hb hX hbl hbA hS hl (lv_at hl 0 rfl) (lv_at hl 3 rfl) dl_631 dl_632 dl_633 rfl dl_634 dl_635 (by omega) (by omega) ?_
  refine lw_rd (i := i) (k := 2) hx hb hX hbl hbA hS hl (lv_at hl 0 rfl) (lv_at hl 3 rfl) dl_636 dl_637 dl_638 rfl dl_639 dl_640 (by omega) (by omega) ?_
  refine lw_rd (i := i) (k := 3) hx hb hX hbl hbA hS hl (lv_at hl 0 rfl) (lv_at hl 3 rfl) dl_641 dl_642 dl_643 rfl dl_644 dl_645 (by omega) (by omega) ?_
  refine lw_rd (i := i) (k := 4) hx hb hX hbl hbA hS hl (lv_at hl 0 rfl) (lv_at hl 3 rfl) dl_646 dl_647 dl_648 rfl dl_649 dl_650 (by omega) (by omega) ?_
  refine lw_rd (i := i) (k := 5) hx hb hX hbl hbA hS hl (lv_at hl 0 rfl) (lv_at hl 3 rfl) dl_651 dl_652 dl_653 rfl dl_654 dl_655 (by omega) (by omega) ?_
  refine lw_call (o := 260) (ci := 10) (z := 0) (av := [.int (xs (i + 1)), .int (xs (i + 2)), .int (xs (i + 3)), .int (xs (i + 4)), .int (xs (i + 5))]) (rest := [.int v]) (g := g) (d' := lD) hx hb hml hown hts hK hR hS hl.1 dl_656 lv9_67 rfl (by decide) rfl rfl (by decide) (Nat.le_of_ble_eq_true rfl) (Nat.le_of_ble_eq_true rfl) (lt_w1 rfl) sh260 (Nat.le_refl _) (Nat.le_refl _) hM (fun r w' τ' H1 locs1 q hR hS => ?_)
  obtain ⟨σ2, rfl, rfl, rfl, hI2⟩ := q
  show W p l e room_1 s m #[Value.ref b] below meth c H1 locs1 600000 7302250 (lw_Z below #[Value.ref b] s) (F0 m 659 ls [.int v, .int v])
  refine lv_icmp_eq (tgt := 1342) hx hb dl_659 rfl (fun _ => ?_) (fun h => absurd rfl h)
  exact K σ2 H1 locs1 ls hI2 hR hS hl
theorem lw_k12 (C : lw_C p s m meth c b L xs g) (hi : i + 7 ≤ L) (hL : L ≤ 3584) (B : BothI Inv 116 254 [.int (xs (i + 1))]) (K : lw_At2 Inv p l e s m below meth c b g i 1342) : lw_At2 Inv p l e s m below meth c b g i 664 := by
  obtain ⟨hx, hb, hr, hml, hown, hts, hX, hbl, hlk, hK, hg⟩ := C
  have hbA : ¬ j_A g b := by unfold j_A; omega
  intro σ H locs ls hI hR hS hl
  refine lv_aload_n hx hb dl_664 rfl (lv_at hl 1 rfl) ?_
  refine lw_rd (i := i) (k := 1) hx hb hX hbl hbA hS hl (lv_at hl 0 rfl) (lv_at hl 3 rfl) dl_665 dl_666 dl_667 rfl dl_668 dl_669 (by omega) (by omega) ?_
  refine lw_call (o := 0) (ci := 9) (z := 0) (av := [.int (xs (i + 1))]) (rest := []) (g := g) (d' := lD) hx hb hml hown hts hK hR hS hl.1 dl_670 lv9_68 rfl (by decide) rfl rfl (by decide) (Nat.le_of_ble_eq_true rfl) (Nat.le_of_ble_eq_true rfl) (lt_w1 rfl) sh0 (Nat.le_refl _) (Nat.le_refl _) (B σ hI) (fun r w' τ' H1 locs1 q hR hS => ?_)
  obtain ⟨v, σ1, rfl, rfl, rfl, hM⟩ := q
  show W p l e room_1 s m #[Value.ref b] below meth c H1 locs1 600000 7302250 (lw_Z below #[Value.ref b] s) (F0 m 673 ls [.int v])
  refine lv_aload_n hx hb dl_673 rfl (lv_at hl 2 rfl) ?_
  refine lw_rd (i := i) (k := 1) hx hb hX hbl hbA hS hl (lv_at hl 0 rfl) (lv_at hl 3 rfl) dl_674 dl_675 dl_676 rfl dl_677 dl_678 (by omega) (by omega) ?_
  refine lw_call (o := 260) (ci := 10) (z := 0) (av := [.int (xs (i + 1))]) (rest := [.int v]) (g := g) (d' := lD) hx hb hml hown hts hK hR hS hl.1 dl_679 lv9_71 rfl (by decide) rfl rfl (by decide) (Nat.le_of_ble_eq_true rfl) (Nat.le_of_ble_eq_true rfl) (lt_w1 rfl) sh260 (Nat.le_refl _) (Nat.le_refl _) hM (fun r w' τ' H1 locs1 q hR hS => ?_)
  obtain ⟨σ2, rfl, rfl, rfl, hI2⟩ := q
  show W p l e room_1 s m #[Value.ref b] below meth c H1 locs1 600000 7302250 (lw_Z below #[Value.ref b] s) (F0 m 682 ls [.int v, .int v])
  refine lv_icmp_eq (tgt := 1342) hx hb dl_682 rfl (fun _ => ?_) (fun h => absurd rfl h)
  exact K σ2 H1 locs1 ls hI2 hR hS hl
theorem lw_k13 (C : lw_C p s m meth c b L xs g) (hi : i + 7 ≤ L) (hL : L ≤ 3584) (B : BothL Inv 117 255 [.int (xs (i + 1)), .int (xs (i + 2)), .int (xs (i + 3))]) (K : lw_At2 Inv p l e s m below meth c b g i 1342) : lw_At2 Inv p l e s m below meth c b g i 687 := by
  obtain ⟨hx, hb, hr, hml, hown, hts, hX, hbl, hlk, hK, hg⟩ := C
  have hbA : ¬ j_A g b := by unfold j_A; omega
  intro σ H locs ls hI hR hS hl
  refine lv_aload_n hx hb dl_687 rfl (lv_at hl 1 rfl) ?_
  refine lw_rd (i := i) (k := 1) hx hb hX hbl hbA hS hl (lv_at hl 0 rfl) (lv_at hl 3 rfl) dl_688 dl_689 dl_690 rfl dl_691 dl_692 (by omega) (by omega) ?_
  refine lw_rd (i := i) (k := 2) hx hb hX hbl hbA hS hl (lv_at hl 0 rfl) (lv_at hl 3 rfl) dl_693 dl_694 dl_695 rfl dl_696 dl_697 (by omega) (by omega) ?_
  refine lw_rd (i := i) (k := 3) hx hb hX hbl hbA hS hl (lv_at hl 0 rfl) (lv_at hl 3 rfl) dl_698 dl_699 dl_700 rfl dl_701 dl_702 (by omega) (by omega) ?_
  refine lw_call (o := 0) (ci := 9) (z := 0) (av := [.int (xs (i + 1)), .int (xs (i + 2)), .int (xs (i + 3))]) (rest := []) (g := g) (d' := lD) hx hb hml hown hts hK hR hS hl.1 dl_703 lv9_72 rfl (by decide) rfl rfl (by decide) (Nat.le_of_ble_eq_true rfl) (Nat.le_of_ble_eq_true rfl) (lt_w1 rfl) sh0 (Nat.le_refl _) (Nat.le_refl _) (B σ hI) (fun r w' τ' H1 locs1 q hR hS => ?_)
  obtain ⟨v, σ1, rfl, rfl, rfl, hM⟩ := q
  show W p l e room_1 s m #[Value.ref b] below meth c H1 locs1 600000 7302250 (lw_Z below #[Value.ref b] s) (F0 m 706 ls [.long v])
  refine lv_aload_n hx hb dl_706 rfl (lv_at hl 2 rfl) ?_
  refine lw_rd (i := i) (k := 1) hx hb hX hbl hbA hS hl (lv_at hl 0 rfl) (lv_at hl 3 rfl) dl_707 dl_708 dl_709 rfl dl_710 dl_711 (by omega) (by omega) ?_
  refine lw_rd (i := i) (k := 2) hx hb hX hbl hbA hS hl (lv_at hl 0 rfl) (lv_at hl 3 rfl) dl_712 dl_713 dl_714 rfl dl_715 dl_716 (by omega) (by omega) ?_
  refine lw_rd (i := i) (k := 3) hx hb hX hbl hbA hS hl (lv_at hl 0 rfl) (lv_at hl 3 rfl) dl_717 dl_718 dl_719 rfl dl_720 dl_721 (by omega) (by omega) ?_
  refine lw_call (o := 260) (ci := 10) (z := 0) (av := [.int (xs (i + 1)), .int (xs (i + 2)), .int (xs (i + 3))]) (rest := [.long v]) (g := g) (d' := lD) hx hb hml hown hts hK hR hS hl.1 dl_722 lv9_75 rfl (by decide) rfl rfl (by decide) (Nat.le_of_ble_eq_true rfl) (Nat.le_of_ble_eq_true rfl) (lt_w1 rfl) sh260 (Nat.le_refl _) (Nat.le_refl _) hM (fun r w' τ' H1 locs1 q hR hS => ?_)
  obtain ⟨σ2, rfl, rfl, rfl, hI2⟩ := q
  show W p l e room_1 s m #[Value.ref b] below meth c H1 locs1 600000 7302250 (lw_Z below #[Value.ref b] s) (F0 m 725 ls [.long v, .long v])
  refine W.lcmp hx hb dl_725 ?_
  refine lv_if_eq (tgt := 1342) hx hb dl_726 rfl (fun _ => ?_) (fun h => absurd (by simp [lg_cmp]) h)
  exact K σ2 H1 locs1 ls hI2 hR hS hl
theorem lw_k14 (C : lw_C p s m meth c b L xs g) (hi : i + 7 ≤ L) (hL : L ≤ 3584) (B : BothI Inv 120 258 [.int (xs (i + 1)), .int (xs (i + 2)), .int (xs (i + 3))]) (K : lw_At2 Inv p l e s m below meth c b g i 1342) : lw_At2 Inv p l e s m below meth c b g i 731 := by
  obtain ⟨hx, hb, hr, hml, hown, hts, hX, hbl, hlk, hK, hg⟩ := C
  have hbA : ¬ j_A g b := by unfold j_A; omega
  intro σ H locs ls hI hR hS hl
  refine lv_aload_n hx hb dl_731 rfl (lv_at hl 1 rfl) ?_
  refine lw_rd (i := i) (k := 1) hx hb hX hbl hbA hS hl (lv_at hl 0 rfl) (lv_at hl 3 rfl) dl_732 dl_733 dl_734 rfl dl_735 dl_736 (by omega) (by omega) ?_
  refine lw_rd (i := i) (k := 2) hx hb hX hbl hbA hS hl (lv_at hl 0 rfl) (lv_at hl 3 rfl) dl_737 dl_738 dl_739 rfl dl_740 dl_741 (by omega) (by omega) ?_
  refine lw_rd (i := i) (k := 3) hx hb hX hbl hbA hS hl (lv_at hl 0 rfl) (lv_at hl 3 rfl) dl_742 dl_743 dl_744 rfl dl_745 dl_746 (by omega) (by omega) ?_
  refine lw_call (o := 0) (ci := 9) (z := 0) (av := [.int (xs (i + 1)), .int (xs (i + 2)), .int (xs (i + 3))]) (rest := []) (g := g) (d' := lD) hx hb hml hown hts hK hR hS hl.1 dl_747 lv9_76 rfl (by decide) rfl rfl (by decide) (Nat.le_of_ble_eq_true rfl) (Nat.le_of_ble_eq_true rfl) (lt_w1 rfl) sh0 (Nat.le_refl _) (Nat.le_refl _) (B σ hI) (fun r w' τ' H1 locs1 q hR hS => ?_)
  obtain ⟨v, σ1, rfl, rfl, rfl, hM⟩ := q
  show W p l e room_1 s m #[Value.ref b] below meth c H1 locs1 600000 7302250 (lw_Z below #[Value.ref b] s) (F0 m 750 ls [.int v])
  refine lv_aload_n hx hb dl_750 rfl (lv_at hl 2 rfl) ?_
  refine lw_rd (i := i) (k := 1) hx hb hX hbl hbA hS hl (lv_at hl 0 rfl) (lv_at hl 3 rfl) dl_751 dl_752 dl_753 rfl dl_754 dl_755 (by omega) (by omega) ?_
  refine lw_rd (i := i) (k := 2) hx hb hX hbl hbA hS hl (lv_at hl 0 rfl) (lv_at hl 3 rfl) dl_756 dl_757 dl_758 rfl dl_759 dl_760 (by omega) (by omega) ?_
  refine lw_rd (i := i) (k := 3) hx hb hX hbl hbA hS hl (lv_at hl 0 rfl) (lv_at hl 3 rfl) dl_761 dl_762 dl_763 rfl dl_764 dl_765 (by omega) (by omega) ?_
  refine lw_call (o := 260) (ci := 10) (z := 0) (av := [.int (xs (i + 1)), .int (xs (i + 2)), .int (xs (i + 3))]) (rest := [.int v]) (g := g) (d' := lD) hx hb hml hown hts hK hR hS hl.1 dl_766 lv9_80 rfl (by decide) rfl rfl (by decide) (Nat.le_of_ble_eq_true rfl) (Nat.le_of_ble_eq_true rfl) (lt_w1 rfl) sh260 (Nat.le_refl _) (Nat.le_refl _) hM (fun r w' τ' H1 locs1 q hR hS => ?_)
  obtain ⟨σ2, rfl, rfl, rfl, hI2⟩ := q
  show W p l e room_1 s m #[Value.ref b] below meth c H1 locs1 600000 7302250 (lw_Z below #[Value.ref b] s) (F0 m 769 ls [.int v, .int v])
  refine lv_icmp_eq (tgt := 1342) hx hb dl_769 rfl (fun _ => ?_) (fun h => absurd rfl h)
  exact K σ2 H1 locs1 ls hI2 hR hS hl
theorem lw_k15 (C : lw_C p s m meth c b L xs g) (hi : i + 7 ≤ L) (hL : L ≤ 3584) (B : BothL Inv 121 259 [.int (xs (i + 1)), .int (xs (i + 2))]) (K : lw_At2 Inv p l e s m below meth c b g i 1342) : lw_At2 Inv p l e s m below meth c b g i 774 := by
  obtain ⟨hx, hb, hr, hml, hown, hts, hX, hbl, hlk, hK, hg⟩ := C
  have hbA : ¬ j_A g b := by unfold j_A; omega
  intro σ H locs ls hI hR hS hl
  refine lv_aload_n hx hb dl_774 rfl (lv_at hl 1 rfl) ?_
  refine lw_rd (i := i) (k := 1) hx hb hX hbl hbA hS hl (lv_at hl 0 rfl) (lv_at hl 3 rfl) dl_775 dl_776 dl_777 rfl dl_778 dl_779 (by omega) (by omega) ?_
  refine lw_rd (i := i) (k := 2) hx hb hX hbl hbA hS hl (lv_at hl 0 rfl) (lv_at hl 3 rfl) dl_780 dl_781 dl_782 rfl dl_783 dl_784 (by omega) (by omega) ?_
  refine lw_call (o := 0) (ci := 9) (z := 0) (av := [.int (xs (i + 1)), .int (xs (i + 2))]) (rest := []) (g := g) (d' := lD) hx hb hml hown hts hK hR hS hl.1 dl_785 lv9_81 rfl (by decide) rfl rfl (by decide) (Nat.le_of_ble_eq_true rfl) (Nat.le_of_ble_eq_true rfl) (lt_w1 rfl) sh0 (Nat.le_refl _) (Nat.le_refl _) (B σ hI) (fun r w' τ' H1 locs1 q hR hS => ?_)
  obtain ⟨v, σ1, rfl, rfl, rfl, hM⟩ := q
  show W p l e room_1 s m #[Value.ref b] below meth c H1 locs1 600000 7302250 (lw_Z below #[Value.ref b] s) (F0 m 788 ls [.long v])
  refine lv_aload_n hx hb dl_788 rfl (lv_at hl 2 rfl) ?_
  refine lw_rd (i := i) (k := 1) hx hb hX hbl hbA hS hl (lv_at hl 0 rfl) (lv_at hl 3 rfl) dl_789 dl_790 dl_791 rfl dl_792 dl_793 (by omega) (by omega) ?_
  refine lw_rd (i := i) (k := 2) hx hb hX hbl hbA hS hl (lv_at hl 0 rfl) (lv_at hl 3 rfl) dl_794 dl_795 dl_796 rfl dl_797 dl_798 (by omega) (by omega) ?_
  refine lw_call (o := 260) (ci := 10) (z := 0) (av := [.int (xs (i + 1)), .int (xs (i + 2))]) (rest := [.long v]) (g := g) (d' := lD) hx hb hml hown hts hK hR hS hl.1 dl_799 lv9_85 rfl (by decide) rfl rfl (by decide) (Nat.le_of_ble_eq_true rfl) (Nat.le_of_ble_eq_true rfl) (lt_w1 rfl) sh260 (Nat.le_refl _) (Nat.le_refl _) hM (fun r w' τ' H1 locs1 q hR hS => ?_)
  obtain ⟨σ2, rfl, rfl, rfl, hI2⟩ := q
  show W p l e room_1 s m #[Value.ref b] below meth c H1 locs1 600000 7302250 (lw_Z below #[Value.ref b] s) (F0 m 802 ls [.long v, .long v])
  refine W.lcmp hx hb dl_802 ?_
  refine lv_if_eq (tgt := 1342) hx hb dl_803 rfl (fun _ => ?_) (fun h => absurd (by simp [lg_cmp]) h)
  exact K σ2 H1 locs1 ls hI2 hR hS hl
theorem lw_k16 (C : lw_C p s m meth c b L xs g) (hi : i + 7 ≤ L) (hL : L ≤ 3584) (B : BothI Inv 123 260 [.int (xs (i + 1)), .int (xs (i + 2))]) (K : lw_At2 Inv p l e s m below meth c b g i 1342) : lw_At2 Inv p l e s m below meth c b g i 808 := by
  obtain ⟨hx, hb, hr, hml, hown, hts, hX, hbl, hlk, hK, hg⟩ := C
  have hbA : ¬ j_A g b := by unfold j_A; omega
  intro σ H locs ls hI hR hS hl
  refine lv_aload_n hx hb dl_808 rfl (lv_at hl 1 rfl) ?_
  refine lw_rd (i := i) (k := 1) hx hb hX hbl hbA hS hl (lv_at hl 0 rfl) (lv_at hl 3 rfl) dl_809 dl_810 dl_811 rfl dl_812 dl_813 (by omega) (by omega) ?_
  refine lw_rd (i := i) (k := 2) hx hb hX hbl hbA hS hl (lv_at hl 0 rfl) (lv_at hl 3 rfl) dl_814 dl_815 dl_816 rfl dl_817 dl_818 (by omega) (by omega) ?_
  refine lw_call (o := 0) (ci := 9) (z := 0) (av := [.int (xs (i + 1)), .int (xs (i + 2))]) (rest := []) (g := g) (d' := lD) hx hb hml hown hts hK hR hS hl.1 dl_819 lv9_86 rfl (by decide) rfl rfl (by decide) (Nat.le_of_ble_eq_true rfl) (Nat.le_of_ble_eq_true rfl) (lt_w1 rfl) sh0 (Nat.le_refl _) (Nat.le_refl _) (B σ hI) (fun r w' τ' H1 locs1 q hR hS => ?_)
  obtain ⟨v, σ1, rfl, rfl, rfl, hM⟩ := q
  show W p l e room_1 s m #[Value.ref b] below meth c H1 locs1 600000 7302250 (lw_Z below #[Value.ref b] s) (F0 m 822 ls [.int v])
  refine lv_aload_n hx hb dl_822 rfl (lv_at hl 2 rfl) ?_
  refine lw_rd (i := i) (k := 1) hx hb hX hbl hbA hS hl (lv_at hl 0 rfl) (lv_at hl 3 rfl) dl_823 dl_824 dl_825 rfl dl_826 dl_827 (by omega) (by omega) ?_
  refine lw_rd (i := i) (k := 2) hx hb hX hbl hbA hS hl (lv_at hl 0 rfl) (lv_at hl 3 rfl) dl_828 dl_829 dl_830 rfl dl_831 dl_832 (by omega) (by omega) ?_
  refine lw_call (o := 260) (ci := 10) (z := 0) (av := [.int (xs (i + 1)), .int (xs (i + 2))]) (rest := [.int v]) (g := g) (d' := lD) hx hb hml hown hts hK hR hS hl.1 dl_833 lv9_89 rfl (by decide) rfl rfl (by decide) (Nat.le_of_ble_eq_true rfl) (Nat.le_of_ble_eq_true rfl) (lt_w1 rfl) sh260 (Nat.le_refl _) (Nat.le_refl _) hM (fun r w' τ' H1 locs1 q hR hS => ?_)
  obtain ⟨σ2, rfl, rfl, rfl, hI2⟩ := q
  show W p l e room_1 s m #[Value.ref b] below meth c H1 locs1 600000 7302250 (lw_Z below #[Value.ref b] s) (F0 m 836 ls [.int v, .int v])
  refine lv_icmp_eq (tgt := 1342) hx hb dl_836 rfl (fun _ => ?_) (fun h => absurd rfl h)
  exact K σ2 H1 locs1 ls hI2 hR hS hl
theorem lw_k17 (C : lw_C p s m meth c b L xs g) (hi : i + 7 ≤ L) (hL : L ≤ 3584) (B : BothL Inv 130 265 [.int (xs (i + 1)), .int (xs (i + 2)), .int (xs (i + 3)), .int (xs (i + 4)), .int (xs (i + 5)), .int (xs (i + 6))]) (K : lw_At2 Inv p l e s m below meth c b g i 1342) : lw_At2 Inv p l e s m below meth c b g i 841 := by
  obtain ⟨hx, hb, hr, hml, hown, hts, hX, hbl, hlk, hK, hg⟩ := C
  have hbA : ¬ j_A g b := by unfold j_A; omega
  intro σ H locs ls hI hR hS hl
  refine lv_aload_n hx hb dl_841 rfl (lv_at hl 1 rfl) ?_
  refine lw_rd (i := i) (k := 1) hx hb hX hbl hbA hS hl (lv_at hl 0 rfl) (lv_at hl 3 rfl) dl_842 dl_843 dl_844 rfl dl_845 dl_846 (by omega) (by omega) ?_
  refine lw_rd (i := i) (k := 2) hx hb hX hbl hbA hS hl (lv_at hl 0 rfl) (lv_at hl 3 rfl) dl_847 dl_848 dl_849 rfl dl_850 dl_851 (by omega) (by omega) ?_
  refine lw_rd (i := i) (k := 3) hx hb hX hbl hbA hS hl (lv_at hl 0 rfl) (lv_at hl 3 rfl) dl_852 dl_853 dl_854 rfl dl_855 dl_856 (by omega) (by omega) ?_
  refine lw_rd (i := i) (k := 4) hx hb hX hbl hbA hS hl (lv_at hl 0 rfl) (lv_at hl 3 rfl) dl_857 dl_858 dl_859 rfl dl_860 dl_861 (by omega) (by omega) ?_
  refine lw_rd (i := i) (k := 5) hx hb hX hbl hbA hS hl (lv_at hl 0 rfl) (lv_at hl 3 rfl) dl_862 dl_863 dl_864 rfl dl_865 dl_866 (by omega) (by omega) ?_
  refine lw_rd6 (i := i) (k := 6) hx hb hX hbl hbA hS hl (lv_at hl 0 rfl) (lv_at hl 3 rfl) dl_867 dl_868 dl_869 rfl dl_871 dl_872 (by omega) (by omega) ?_
  refine lw_call (o := 0) (ci := 9) (z := 0) (av := [.int (xs (i + 1)), .int (xs (i + 2)), .int (xs (i + 3)), .int (xs (i + 4)), .int (xs (i + 5)), .int (xs (i + 6))]) (rest := []) (g := g) (d' := lD) hx hb hml hown hts hK hR hS hl.1 dl_873 lv9_90 rfl (by decide) rfl rfl (by decide) (Nat.le_of_ble_eq_true rfl) (Nat.le_of_ble_eq_true rfl) (lt_w1 rfl) sh0 (Nat.le_refl _) (Nat.le_refl _) (B σ hI) (fun r w' τ' H1 locs1 q hR hS => ?_)
  obtain ⟨v, σ1, rfl, rfl, rfl, hM⟩ := q
  show W p l e room_1 s m #[Value.ref b] below meth c H1 locs1 600000 7302250 (lw_Z below #[Value.ref b] s) (F0 m 876 ls [.long v])
  refine lv_aload_n hx hb dl_876 rfl (lv_at hl 2 rfl) ?_
  refine lw_rd (i := i) (k := 1) hx hb hX hbl hbA hS hl (lv_at hl 0 rfl) (lv_at hl 3 rfl) dl_877 dl_878 dl_879 rfl dl_880 dl_881 (by omega) (by omega) ?_
  refine lw_rd (i := i) (k := 2) hx hb hX hbl hbA hS hl (lv_at hl 0 rfl) (lv_at hl 3 rfl) dl_882 dl_883 dl_884 rfl dl_885 dl_886 (by omega) (by omega) ?_
  refine lw_rd (i := i) (k := 3) hx hb hX hbl hbA hS hl (lv_at hl 0 rfl) (lv_at hl 3 rfl) dl_887 dl_888 dl_889 rfl dl_890 dl_891 (by omega) (by omega) ?_
  refine lw_rd (i := i) (k := 4) hx hb hX hbl hbA hS hl (lv_at hl 0 rfl) (lv_at hl 3 rfl) dl_892 dl_893 dl_894 rfl dl_895 dl_896 (by omega) (by omega) ?_
  refine lw_rd (i := i) (k := 5) hx hb hX hbl hbA hS hl (lv_at hl 0 rfl) (lv_at hl 3 rfl) dl_897 dl_898 dl_899 rfl dl_900 dl_901 (by omega) (by omega) ?_
  refine lw_rd6 (i := i) (k := 6) hx hb hX hbl hbA hS hl (lv_at hl 0 rfl) (lv_at hl 3 rfl) dl_902 dl_903 dl_904 rfl dl_906 dl_907 (by omega) (by omega) ?_
  refine lw_call (o := 260) (ci := 10) (z := 0) (av := [.int (xs (i + 1)), .int (xs (i + 2)), .int (xs (i + 3)), .int (xs (i + 4)), .int (xs (i + 5)), .int (xs (i + 6))]) (rest := [.long v]) (g := g) (d' := lD) hx hb hml hown hts hK hR hS hl.1 dl_908 lv9_94 rfl (by decide) rfl rfl (by decide) (Nat.le_of_ble_eq_true rfl) (Nat.le_of_ble_eq_true rfl) (lt_w1 rfl) sh260 (Nat.le_refl _) (Nat.le_refl _) hM (fun r w' τ' H1 locs1 q hR hS => ?_)
  obtain ⟨σ2, rfl, rfl, rfl, hI2⟩ := q
  show W p l e room_1 s m #[Value.ref b] below meth c H1 locs1 600000 7302250 (lw_Z below #[Value.ref b] s) (F0 m 911 ls [.long v, .long v])
  refine W.lcmp hx hb dl_911 ?_
  refine lv_if_eq (tgt := 1342) hx hb dl_912 rfl (fun _ => ?_) (fun h => absurd (by simp [lg_cmp]) h)
  exact K σ2 H1 locs1 ls hI2 hR hS hl
theorem lw_k18 (C : lw_C p s m meth c b L xs g) (hi : i + 7 ≤ L) (hL : L ≤ 3584) (B : BothL Inv 140 271 [.int (xs (i + 1)), .int (xs (i + 2)), .int (xs (i + 3))]) (K : lw_At2 Inv p l e s m below meth c b g i 1342) : lw_At2 Inv p l e s m below meth c b g i 917 := by
  obtain ⟨hx, hb, hr, hml, hown, hts, hX, hbl, hlk, hK, hg⟩ := C
  have hbA : ¬ j_A g b := by unfold j_A; omega
  intro σ H locs ls hI hR hS hl
  refine lv_aload_n hx hb dl_917 rfl (lv_at hl 1 rfl) ?_
  refine lw_rd (i := i) (k := 1) hx hb hX hbl hbA hS hl (lv_at hl 0 rfl) (lv_at hl 3 rfl) dl_918 dl_919 dl_920 rfl dl_921 dl_922 (by omega) (by omega) ?_
  refine lw_rd (i := i) (k := 2) hx hb hX hbl hbA hS hl (lv_at hl 0 rfl) (lv_at hl 3 rfl) dl_923 dl_924 dl_925 rfl dl_926 dl_927 (by omega) (by omega) ?_
  refine lw_rd (i := i) (k := 3) hx hb hX hbl hbA hS hl (lv_at hl 0 rfl) (lv_at hl 3 rfl) dl_928 dl_929 dl_930 rfl dl_931 dl_932 (by omega) (by omega) ?_
  refine lw_call (o := 0) (ci := 9) (z := 0) (av := [.int (xs (i + 1)), .int (xs (i + 2)), .int (xs (i + 3))]) (rest := []) (g := g) (d' := lD) hx hb hml hown hts hK hR hS hl.1 dl_933 lv9_95 rfl (by decide) rfl rfl (by decide) (Nat.le_of_ble_eq_true rfl) (Nat.le_of_ble_eq_true rfl) (lt_w1 rfl) sh0 (Nat.le_refl _) (Nat.le_refl _) (B σ hI) (fun r w' τ' H1 locs1 q hR hS => ?_)
  obtain ⟨v, σ1, rfl, rfl, rfl, hM⟩ := q
  show W p l e room_1 s m #[Value.ref b] below meth c H1 locs1 600000 7302250 (lw_Z below #[Value.ref b] s) (F0 m 936 ls [.long v])
  refine lv_aload_n hx hb dl_936 rfl (lv_at hl 2 rfl) ?_
  refine lw_rd (i := i) (k := 1) hx hb hX hbl hbA hS hl (lv_at hl 0 rfl) (lv_at hl 3 rfl) dl_937 dl_938 dl_939 rfl dl_940 dl_941 (by omega) (by omega) ?_
  refine lw_rd (i := i) (k := 2) hx hb hX hbl hbA hS hl (lv_at hl 0 rfl) (lv_at hl 3 rfl) dl_942 dl_943 dl_944 rfl dl_945 dl_946 (by omega) (by omega) ?_
  refine lw_rd (i := i) (k := 3) hx hb hX hbl hbA hS hl (lv_at hl 0 rfl) (lv_at hl 3 rfl) dl_947 dl_948 dl_949 rfl dl_950 dl_951 (by omega) (by omega) ?_
  refine lw_call (o := 260) (ci := 10) (z := 0) (av := [.int (xs (i + 1)), .int (xs (i + 2)), .int (xs (i + 3))]) (rest := [.long v]) (g := g) (d' := lD) hx hb hml hown hts hK hR hS hl.1 dl_952 lv9_98 rfl (by decide) rfl rfl (by decide) (Nat.le_of_ble_eq_true rfl) (Nat.le_of_ble_eq_true rfl) (lt_w1 rfl) sh260 (Nat.le_refl _) (Nat.le_refl _) hM (fun r w' τ' H1 locs1 q hR hS => ?_)
  obtain ⟨σ2, rfl, rfl, rfl, hI2⟩ := q
  show W p l e room_1 s m #[Value.ref b] below meth c H1 locs1 600000 7302250 (lw_Z below #[Value.ref b] s) (F0 m 955 ls [.long v, .long v])
  refine W.lcmp hx hb dl_955 ?_
  refine lv_if_eq (tgt := 1342) hx hb dl_956 rfl (fun _ => ?_) (fun h => absurd (by simp [lg_cmp]) h)
  exact K σ2 H1 locs1 ls hI2 hR hS hl
theorem lw_k19 (C : lw_C p s m meth c b L xs g) (hi : i + 7 ≤ L) (hL : L ≤ 3584) (B : BothI Inv 142 272 [.int (xs (i + 1)), .int (xs (i + 2)), .int (xs (i + 3)), .int (xs (i + 4)), .int (xs (i + 5))]) (K : lw_At2 Inv p l e s m below meth c b g i 1342) : lw_At2 Inv p l e s m below meth c b g i 961 := by
  obtain ⟨hx, hb, hr, hml, hown, hts, hX, hbl, hlk, hK, hg⟩ := C
  have hbA : ¬ j_A g b := by unfold j_A; omega
  intro σ H locs ls hI hR hS hl
  refine lv_aload_n hx hb dl_961 rfl (lv_at hl 1 rfl) ?_
  refine lw_rd (i := i) (k := 1) hx hb hX hbl hbA hS hl (lv_at hl 0 rfl) (lv_at hl 3 rfl) dl_962 dl_963 dl_964 rfl dl_965 dl_966 (by omega) (by omega) ?_
  refine lw_rd (i := i) (k := 2) hx hb hX hbl hbA hS hl (lv_at hl 0 rfl) (lv_at hl 3 rfl) dl_967 dl_968 dl_969 rfl dl_970 dl_971 (by omega) (by omega) ?_
  refine lw_rd (i := i) (k := 3) hx hb hX hbl hbA hS hl (lv_at hl 0 rfl) (lv_at hl 3 rfl) dl_972 dl_973 dl_974 rfl dl_975 dl_976 (by omega) (by omega) ?_
  refine lw_rd (i := i) (k := 4) hx hb hX hbl hbA hS hl (lv_at hl 0 rfl) (lv_at hl 3 rfl) dl_977 dl_978 dl_979 rfl dl_980 dl_981 (by omega) (by omega) ?_
  refine lw_rd (i := i) (k := 5) hx hb hX hbl hbA hS hl (lv_at hl 0 rfl) (lv_at hl 3 rfl) dl_982 dl_983 dl_984 rfl dl_985 dl_986 (by omega) (by omega) ?_
  refine lw_call (o := 0) (ci := 9) (z := 0) (av := [.int (xs (i + 1)), .int (xs (i + 2)), .int (xs (i + 3)), .int (xs (i + 4)), .int (xs (i + 5))]) (rest := []) (g := g) (d' := lD) hx hb hml hown hts hK hR hS hl.1 dl_987 lv9_99 rfl (by decide) rfl rfl (by decide) (Nat.le_of_ble_eq_true rfl) (Nat.le_of_ble_eq_true rfl) (lt_w1 rfl) sh0 (Nat.le_refl _) (Nat.le_refl _) (B σ hI) (fun r w' τ' H1 locs1 q hR hS => ?_)
  obtain ⟨v, σ1, rfl, rfl, rfl, hM⟩ := q
  show W p l e room_1 s m #[Value.ref b] below meth c H1 locs1 600000 7302250 (lw_Z below #[Value.ref b] s) (F0 m 990 ls [.int v])
  refine lv_aload_n hx hb dl_990 rfl (lv_at hl 2 rfl) ?_
  refine lw_rd (i := i) (k := 1) hx hb hX hbl hbA hS hl (lv_at hl 0 rfl) (lv_at hl 3 rfl) dl_991 dl_992 dl_993 rfl dl_994 dl_995 (by omega) (by omega) ?_
  refine lw_rd (i := i) (k := 2) hx hb hX hbl hbA hS hl (lv_at hl 0 rfl) (lv_at hl 3 rfl) dl_996 dl_997 dl_998 rfl dl_999 dl_1000 (by omega) (by omega) ?_
  refine lw_rd (i := i) (k := 3) hx hb hX hbl hbA hS hl (lv_at hl 0 rfl) (lv_at hl 3 rfl) dl_1001 dl_1002 dl_1003 rfl dl_1004 dl_1005 (by omega) (by omega) ?_
  refine lw_rd (i := i) (k := 4) hx hb hX hbl hbA hS hl (lv_at hl 0 rfl) (lv_at hl 3 rfl) dl_1006 dl_1007 dl_1008 rfl dl_1009 dl_1010 (by omega) (by omega) ?_
  refine lw_rd (i := i) (k := 5) hx hb hX hbl hbA hS hl (lv_at hl 0 rfl) (lv_at hl 3 rfl) dl_1011 dl_1012 dl_1013 rfl dl_1014 dl_1015 (by omega) (by omega) ?_
  refine lw_call (o := 260) (ci := 10) (z := 0) (av := [.int (xs (i + 1)), .int (xs (i + 2)), .int (xs (i + 3)), .int (xs (i + 4)), .int (xs (i + 5))]) (rest := [.int v]) (g := g) (d' := lD) hx hb hml hown hts hK hR hS hl.1 dl_1016 lv9_102 rfl (by decide) rfl rfl (by decide) (Nat.le_of_ble_eq_true rfl) (Nat.le_of_ble_eq_true rfl) (lt_w1 rfl) sh260 (Nat.le_refl _) (Nat.le_refl _) hM (fun r w' τ' H1 locs1 q hR hS => ?_)
  obtain ⟨σ2, rfl, rfl, rfl, hI2⟩ := q
  show W p l e room_1 s m #[Value.ref b] below meth c H1 locs1 600000 7302250 (lw_Z below #[Value.ref b] s) (F0 m 1019 ls [.int v, .int v])
  refine lv_icmp_eq (tgt := 1342) hx hb dl_1019 rfl (fun _ => ?_) (fun h => absurd rfl h)
  exact K σ2 H1 locs1 ls hI2 hR hS hl
theorem lw_k20 (C : lw_C p s m meth c b L xs g) (hi : i + 7 ≤ L) (hL : L ≤ 3584) (B : BothI Inv 145 275 [.int (xs (i + 1)), .int (xs (i + 2))]) (K : lw_At2 Inv p l e s m below meth c b g i 1342) : lw_At2 Inv p l e s m below meth c b g i 1024 := by
  obtain ⟨hx, hb, hr, hml, hown, hts, hX, hbl, hlk, hK, hg⟩ := C
  have hbA : ¬ j_A g b := by unfold j_A; omega
  intro σ H locs ls hI hR hS hl
  refine lv_aload_n hx hb dl_1024 rfl (lv_at hl 1 rfl) ?_
  refine lw_rd (i := i) (k := 1) hx hb hX hbl hbA hS hl (lv_at hl 0 rfl) (lv_at hl 3 rfl) dl_1025 dl_1026 dl_1027 rfl dl_1028 dl_1029 (by omega) (by omega) ?_
  refine lw_rd (i := i) (k := 2) hx hb hX hbl hbA hS hl (lv_at hl 0 rfl) (lv_at hl 3 rfl) dl_1030 dl_1031 dl_1032 rfl dl_1033 dl_1034 (by omega) (by omega) ?_
  refine lw_call (o := 0) (ci := 9) (z := 0) (av := [.int (xs (i + 1)), .int (xs (i + 2))]) (rest := []) (g := g) (d' := lD) hx hb hml hown hts hK hR hS hl.1 dl_1035 lv9_103 rfl (by decide) rfl rfl (by decide) (Nat.le_of_ble_eq_true rfl) (Nat.le_of_ble_eq_true rfl) (lt_w1 rfl) sh0 (Nat.le_refl _) (Nat.le_refl _) (B σ hI) (fun r w' τ' H1 locs1 q hR hS => ?_)
  obtain ⟨v, σ1, rfl, rfl, rfl, hM⟩ := q
  show W p l e room_1 s m #[Value.ref b] below meth c H1 locs1 600000 7302250 (lw_Z below #[Value.ref b] s) (F0 m 1038 ls [.int v])
  refine lv_aload_n hx hb dl_1038 rfl (lv_at hl 2 rfl) ?_
  refine lw_rd (i := i) (k := 1) hx hb hX hbl hbA hS hl (lv_at hl 0 rfl) (lv_at hl 3 rfl) dl_1039 dl_1040 dl_1041 rfl dl_1042 dl_1043 (by omega) (by omega) ?_
  refine lw_rd (i := i) (k := 2) hx hb hX hbl hbA hS hl (lv_at hl 0 rfl) (lv_at hl 3 rfl) dl_1044 dl_1045 dl_1046 rfl dl_1047 dl_1048 (by omega) (by omega) ?_
  refine lw_call (o := 260) (ci := 10) (z := 0) (av := [.int (xs (i + 1)), .int (xs (i + 2))]) (rest := [.int v]) (g := g) (d' := lD) hx hb hml hown hts hK hR hS hl.1 dl_1049 lv9_106 rfl (by decide) rfl rfl (by decide) (Nat.le_of_ble_eq_true rfl) (Nat.le_of_ble_eq_true rfl) (lt_w1 rfl) sh260 (Nat.le_refl _) (Nat.le_refl _) hM (fun r w' τ' H1 locs1 q hR hS => ?_)
  obtain ⟨σ2, rfl, rfl, rfl, hI2⟩ := q
  show W p l e room_1 s m #[Value.ref b] below meth c H1 locs1 600000 7302250 (lw_Z below #[Value.ref b] s) (F0 m 1052 ls [.int v, .int v])
  refine lv_icmp_eq (tgt := 1342) hx hb dl_1052 rfl (fun _ => ?_) (fun h => absurd rfl h)
  exact K σ2 H1 locs1 ls hI2 hR hS hl
theorem lw_k21 (C : lw_C p s m meth c b L xs g) (hi : i + 7 ≤ L) (hL : L ≤ 3584) (B : BothI Inv 148 276 [.int (xs (i + 1)), .int (xs (i + 2)), .int (xs (i + 3)), .int (xs (i + 4))]) (K : lw_At2 Inv p l e s m below meth c b g i 1342) : lw_At2 Inv p l e s m below meth c b g i 1057 := by
  obtain ⟨hx, hb, hr, hml, hown, hts, hX, hbl, hlk, hK, hg⟩ := C
  have hbA : ¬ j_A g b := by unfold j_A; omega
  intro σ H locs ls hI hR hS hl
  refine lv_aload_n hx hb dl_1057 rfl (lv_at hl 1 rfl) ?_
  refine lw_rd (i := i) (k := 1) hx hb hX hbl hbA hS hl (lv_at hl 0 rfl) (lv_at hl 3 rfl) dl_1058 dl_1059 dl_1060 rfl dl_1061 dl_1062 (by omega) (by omega) ?_
  refine lw_rd (i := i) (k := 2) hx hb hX hbl hbA hS hl (lv_at hl 0 rfl) (lv_at hl 3 rfl) dl_1063 dl_1064 dl_1065 rfl dl_1066 dl_1067 (by omega) (by omega) ?_
  refine lw_rd (i := i) (k := 3) hx hb hX hbl hbA hS hl (lv_at hl 0 rfl) (lv_at hl 3 rfl) dl_1068 dl_1069 dl_1070 rfl dl_1071 dl_1072 (by omega) (by omega) ?_
  refine lw_rd (i := i) (k := 4) hx hb hX hbl hbA hS hl (lv_at hl 0 rfl) (lv_at hl 3 rfl) dl_1073 dl_1074 dl_1075 rfl dl_1076 dl_1077 (by omega) (by omega) ?_
  refine lw_call (o := 0) (ci := 9) (z := 0) (av := [.int (xs (i + 1)), .int (xs (i + 2)), .int (xs (i + 3)), .int (xs (i + 4))]) (rest := []) (g := g) (d' := lD) hx hb hml hown hts hK hR hS hl.1 dl_1078 lv9_107 rfl (by decide) rfl rfl (by decide) (Nat.le_of_ble_eq_true rfl) (Nat.le_of_ble_eq_true rfl) (lt_w1 rfl) sh0 (Nat.le_refl _) (Nat.le_refl _) (B σ hI) (fun r w' τ' H1 locs1 q hR hS => ?_)
  obtain ⟨v, σ1, rfl, rfl, rfl, hM⟩ := q
  show W p l e room_1 s m #[Value.ref b] below meth c H1 locs1 600000 7302250 (lw_Z below #[Value.ref b] s) (F0 m 1081 ls [.int v])
  refine lv_aload_n hx hb dl_1081 rfl (lv_at hl 2 rfl) ?_
  refine lw_rd (i := i) (k := 1) hx hb hX hbl hbA hS hl (lv_at hl 0 rfl) (lv_at hl 3 rfl) dl_1082 dl_1083 dl_1084 rfl dl_1085 dl_1086 (by omega) (by omega) ?_
  refine lw_rd (i := i) (k := 2) hx hb hX hbl hbA hS hl (lv_at hl 0 rfl) (lv_at hl 3 rfl) dl_1087 dl_1088 dl_1089 rfl dl_1090 dl_1091 (by omega) (by omega) ?_
  refine lw_rd (i := i) (k := 3) hx hb hX hbl hbA hS hl (lv_at hl 0 rfl) (lv_at hl 3 rfl) dl_1092 dl_1093 dl_1094 rfl dl_1095 dl_1096 (by omega) (by omega) ?_
  refine lw_rd (i := i) (k := 4) hx hb hX hbl hbA hS hl (lv_at hl 0 rfl) (lv_at hl 3 rfl) dl_1097 dl_1098 dl_1099 rfl dl_1100 dl_1101 (by omega) (by omega) ?_
  refine lw_call (o := 260) (ci := 10) (z := 0) (av := [.int (xs (i + 1)), .int (xs (i + 2)), .int (xs (i + 3)), .int (xs (i + 4))]) (rest := [.int v]) (g := g) (d' := lD) hx hb hml hown hts hK hR hS hl.1 dl_1102 lv9_110 rfl (by decide) rfl rfl (by decide) (Nat.le_of_ble_eq_true rfl) (Nat.le_of_ble_eq_true rfl) (lt_w1 rfl) sh260 (Nat.le_refl _) (Nat.le_refl _) hM (fun r w' τ' H1 locs1 q hR hS => ?_)
  obtain ⟨σ2, rfl, rfl, rfl, hI2⟩ := q
  show W p l e room_1 s m #[Value.ref b] below meth c H1 locs1 600000 7302250 (lw_Z below #[Value.ref b] s) (F0 m 1105 ls [.int v, .int v])
  refine lv_icmp_eq (tgt := 1342) hx hb dl_1105 rfl (fun _ => ?_) (fun h => absurd rfl h)
  exact K σ2 H1 locs1 ls hI2 hR hS hl
theorem lw_k22 (C : lw_C p s m meth c b L xs g) (hi : i + 7 ≤ L) (hL : L ≤ 3584) (B : BothI Inv 152 280 []) (K : lw_At2 Inv p l e s m below meth c b g i 1342) : lw_At2 Inv p l e s m below meth c b g i 1110 := by
  obtain ⟨hx, hb, hr, hml, hown, hts, hX, hbl, hlk, hK, hg⟩ := C
  have hbA : ¬ j_A g b := by unfold j_A; omega
  intro σ H locs ls hI hR hS hl
  refine lv_aload_n hx hb dl_1110 rfl (lv_at hl 1 rfl) ?_
  refine lw_call (o := 0) (ci := 9) (z := 0) (av := []) (rest := []) (g := g) (d' := lD) hx hb hml hown hts hK hR hS hl.1 dl_1111 lv9_111 rfl (by decide) rfl rfl (by decide) (Nat.le_of_ble_eq_true rfl) (Nat.le_of_ble_eq_true rfl) (lt_w1 rfl) sh0 (Nat.le_refl _) (Nat.le_refl _) (B σ hI) (fun r w' τ' H1 locs1 q hR hS => ?_)
  obtain ⟨v, σ1, rfl, rfl, rfl, hM⟩ := q
  show W p l e room_1 s m #[Value.ref b] below meth c H1 locs1 600000 7302250 (lw_Z below #[Value.ref b] s) (F0 m 1114 ls [.int v])
  refine lv_aload_n hx hb dl_1114 rfl (lv_at hl 2 rfl) ?_
  refine lw_call (o := 260) (ci := 10) (z := 0) (av := []) (rest := [.int v]) (g := g) (d' := lD) hx hb hml hown hts hK hR hS hl.1 dl_1115 lv9_115 rfl (by decide) rfl rfl (by decide) (Nat.le_of_ble_eq_true rfl) (Nat.le_of_ble_eq_true rfl) (lt_w1 rfl) sh260 (Nat.le_refl _) (Nat.le_refl _) hM (fun r w' τ' H1 locs1 q hR hS => ?_)
  obtain ⟨σ2, rfl, rfl, rfl, hI2⟩ := q
  show W p l e room_1 s m #[Value.ref b] below meth c H1 locs1 600000 7302250 (lw_Z below #[Value.ref b] s) (F0 m 1118 ls [.int v, .int v])
  refine lv_icmp_eq (tgt := 1342) hx hb dl_1118 rfl (fun _ => ?_) (fun h => absurd rfl h)
  exact K σ2 H1 locs1 ls hI2 hR hS hl
theorem lw_k23 (C : lw_C p s m meth c b L xs g) (hi : i + 7 ≤ L) (hL : L ≤ 3584) (B : BothI Inv 156 282 []) (K : lw_At2 Inv p l e s m below meth c b g i 1342) : lw_At2 Inv p l e s m below meth c b g i 1123 := by
  obtain ⟨hx, hb, hr, hml, hown, hts, hX, hbl, hlk, hK, hg⟩ := C
  have hbA : ¬ j_A g b := by unfold j_A; omega
  intro σ H locs ls hI hR hS hl
  refine lv_aload_n hx hb dl_1123 rfl (lv_at hl 1 rfl) ?_
  refine lw_call (o := 0) (ci := 9) (z := 0) (av := []) (rest := []) (g := g) (d' := lD) hx hb hml hown hts hK hR hS hl.1 dl_1124 lv9_116 rfl (by decide) rfl rfl (by decide) (Nat.le_of_ble_eq_true rfl) (Nat.le_of_ble_eq_true rfl) (lt_w1 rfl) sh0 (Nat.le_refl _) (Nat.le_refl _) (B σ hI) (fun r w' τ' H1 locs1 q hR hS => ?_)
  obtain ⟨v, σ1, rfl, rfl, rfl, hM⟩ := q
  show W p l e room_1 s m #[Value.ref b] below meth c H1 locs1 600000 7302250 (lw_Z below #[Value.ref b] s) (F0 m 1127 ls [.int v])
  refine lv_aload_n hx hb dl_1127 rfl (lv_at hl 2 rfl) ?_
  refine lw_call (o := 260) (ci := 10) (z := 0) (av := []) (rest := [.int v]) (g := g) (d' := lD) hx hb hml hown hts hK hR hS hl.1 dl_1128 lv9_119 rfl (by decide) rfl rfl (by decide) (Nat.le_of_ble_eq_true rfl) (Nat.le_of_ble_eq_true rfl) (lt_w1 rfl) sh260 (Nat.le_refl _) (Nat.le_refl _) hM (fun r w' τ' H1 locs1 q hR hS => ?_)
  obtain ⟨σ2, rfl, rfl, rfl, hI2⟩ := q
  show W p l e room_1 s m #[Value.ref b] below meth c H1 locs1 600000 7302250 (lw_Z below #[Value.ref b] s) (F0 m 1131 ls [.int v, .int v])
  refine lv_icmp_eq (tgt := 1342) hx hb dl_1131 rfl (fun _ => ?_) (fun h => absurd rfl h)
  exact K σ2 H1 locs1 ls hI2 hR hS hl
theorem lw_k24 (C : lw_C p s m meth c b L xs g) (hi : i + 7 ≤ L) (hL : L ≤ 3584) (B : BothI Inv 157 283 [.int (xs (i + 1))]) (K : lw_At2 Inv p l e s m below meth c b g i 1342) : lw_At2 Inv p l e s m below meth c b g i 1136 := by
  obtain ⟨hx, hb, hr, hml, hown, hts, hX, hbl, hlk, hK, hg⟩ := C
  have hbA : ¬ j_A g b := by unfold j_A; omega
  intro σ H locs ls hI hR hS hl
  refine lv_aload_n hx hb dl_1136 rfl (lv_at hl 1 rfl) ?_
  refine lw_rd (i := i) (k := 1) hx hb hX hbl hbA hS hl (lv_at hl 0 rfl) (lv_at hl 3 rfl) dl_1137 dl_1138 dl_1139 rfl dl_1140 dl_1141 (by omega) (by omega) ?_
  refine lw_call (o := 0) (ci := 9) (z := 0) (av := [.int (xs (i + 1))]) (rest := []) (g := g) (d' := lD) hx hb hml hown hts hK hR hS hl.1 dl_1142 lv9_120 rfl (by decide) rfl rfl (by decide) (Nat.le_of_ble_eq_true rfl) (Nat.le_of_ble_eq_true rfl) (lt_w1 rfl) sh0 (Nat.le_refl _) (Nat.le_refl _) (B σ hI) (fun r w' τ' H1 locs1 q hR hS => ?_)
  obtain ⟨v, σ1, rfl, rfl, rfl, hM⟩ := q
  show W p l e room_1 s m #[Value.ref b] below meth c H1 locs1 600000 7302250 (lw_Z below #[Value.ref b] s) (F0 m 1145 ls [.int v])
  refine lv_aload_n hx hb dl_1145 rfl (lv_at hl 2 rfl) ?_
  refine lw_rd (i := i) (k := 1) hx hb hX hbl hbA hS hl (lv_at hl 0 rfl) (lv_at hl 3 rfl) dl_1146 dl_1147 dl_1148 rfl dl_1149 dl_1150 (by omega) (by omega) ?_
  refine lw_call (o := 260) (ci := 10) (z := 0) (av := [.int (xs (i + 1))]) (rest := [.int v]) (g := g) (d' := lD) hx hb hml hown hts hK hR hS hl.1 dl_1151 lv9_123 rfl (by decide) rfl rfl (by decide) (Nat.le_of_ble_eq_true rfl) (Nat.le_of_ble_eq_true rfl) (lt_w1 rfl) sh260 (Nat.le_refl _) (Nat.le_refl _) hM (fun r w' τ' H1 locs1 q hR hS => ?_)
  obtain ⟨σ2, rfl, rfl, rfl, hI2⟩ := q
  show W p l e room_1 s m #[Value.ref b] below meth c H1 locs1 600000 7302250 (lw_Z below #[Value.ref b] s) (F0 m 1154 ls [.int v, .int v])
  refine lv_icmp_eq (tgt := 1342) hx hb dl_1154 rfl (fun _ => ?_) (fun h => absurd rfl h)
  exact K σ2 H1 locs1 ls hI2 hR hS hl
theorem lw_k25 (C : lw_C p s m meth c b L xs g) (hi : i + 7 ≤ L) (hL : L ≤ 3584) (B : BothI Inv 160 284 [.int (xs (i + 1)), .int (xs (i + 2)), .int (xs (i + 3))]) (K : lw_At2 Inv p l e s m below meth c b g i 1342) : lw_At2 Inv p l e s m below meth c b g i 1159 := by
  obtain ⟨hx, hb, hr, hml, hown, hts, hX, hbl, hlk, hK, hg⟩ := C
  have hbA : ¬ j_A g b := by unfold j_A; omega
  intro σ H locs ls hI hR hS hl
  refine lv_aload_n hx hb dl_1159 rfl (lv_at hl 1 rfl) ?_
  refine lw_rd (i := i) (k := 1) hx hb hX hbl hbA hS hl (lv_at hl 0 rfl) (lv_at hl 3 rfl) dl_1160 dl_1161 dl_1162 rfl dl_1163 dl_1164 (by omega) (by omega) ?_
  refine lw_rd (i := i) (k := 2) hx hb hX hbl hbA hS hl (lv_at hl 0 rfl) (lv_at hl 3 rfl) dl_1165 dl_1166 dl_1167 rfl dl_1168 dl_1169 (by omega) (by omega) ?_
  refine lw_rd (i := i) (k := 3) hx hb hX hbl hbA hS hl (lv_at hl 0 rfl) (lv_at hl 3 rfl) dl_1170 dl_1171 dl_1172 rfl dl_1173 dl_1174 (by omega) (by omega) ?_
  refine lw_call (o := 0) (ci := 9) (z := 0) (av := [.int (xs (i + 1)), .int (xs (i + 2)), .int (xs (i + 3))]) (rest := []) (g := g) (d' := lD) hx hb hml hown hts hK hR hS hl.1 dl_1175 lv9_124 rfl (by decide) rfl rfl (by decide) (Nat.le_of_ble_eq_true rfl) (Nat.le_of_ble_eq_true rfl) (lt_w1 rfl) sh0 (Nat.le_refl _) (Nat.le_refl _) (B σ hI) (fun r w' τ' H1 locs1 q hR hS => ?_)
  obtain ⟨v, σ1, rfl, rfl, rfl, hM⟩ := q
  show W p l e room_1 s m #[Value.ref b] below meth c H1 locs1 600000 7302250 (lw_Z below #[Value.ref b] s) (F0 m 1178 ls [.int v])
  refine lv_aload_n hx hb dl_1178 rfl (lv_at hl 2 rfl) ?_
  refine lw_rd (i := i) (k := 1) hx hb hX hbl hbA hS hl (lv_at hl 0 rfl) (lv_at hl 3 rfl) dl_1179 dl_1180 dl_1181 rfl dl_1182 dl_1183 (by omega) (by omega) ?_
  refine lw_rd (i := i) (k := 2) hx hb hX hbl hbA hS hl (lv_at hl 0 rfl) (lv_at hl 3 rfl) dl_1184 dl_1185 dl_1186 rfl dl_1187 dl_1188 (by omega) (by omega) ?_
  refine lw_rd (i := i) (k := 3) hx hb hX hbl hbA hS hl (lv_at hl 0 rfl) (lv_at hl 3 rfl) dl_1189 dl_1190 dl_1191 rfl dl_1192 dl_1193 (by omega) (by omega) ?_
  refine lw_call (o := 260) (ci := 10) (z := 0) (av := [.int (xs (i + 1)), .int (xs (i + 2)), .int (xs (i + 3))]) (rest := [.int v]) (g := g) (d' := lD) hx hb hml hown hts hK hR hS hl.1 dl_1194 lv9_127 rfl (by decide) rfl rfl (by decide) (Nat.le_of_ble_eq_true rfl) (Nat.le_of_ble_eq_true rfl) (lt_w1 rfl) sh260 (Nat.le_refl _) (Nat.le_refl _) hM (fun r w' τ' H1 locs1 q hR hS => ?_)
  obtain ⟨σ2, rfl, rfl, rfl, hI2⟩ := q
  show W p l e room_1 s m #[Value.ref b] below meth c H1 locs1 600000 7302250 (lw_Z below #[Value.ref b] s) (F0 m 1197 ls [.int v, .int v])
  refine lv_icmp_eq (tgt := 1342) hx hb dl_1197 rfl (fun _ => ?_) (fun h => absurd rfl h)
  exact K σ2 H1 locs1 ls hI2 hR hS hl
theorem lw_k26 (C : lw_C p s m meth c b L xs g) (hi : i + 7 ≤ L) (hL : L ≤ 3584) (B : BothI Inv 161 285 [.int (xs (i + 1)), .int (xs (i + 2)), .int (xs (i + 3))]) (K : lw_At2 Inv p l e s m below meth c b g i 1342) : lw_At2 Inv p l e s m below meth c b g i 1202 := by
  obtain ⟨hx, hb, hr, hml, hown, hts, hX, hbl, hlk, hK, hg⟩ := C
  have hbA : ¬ j_A g b := by unfold j_A; omega
  intro σ H locs ls hI hR hS hl
  refine lv_aload_n hx hb dl_1202 rfl (lv_at hl 1 rfl) ?_
  refine lw_rd (i := i) (k := 1) hx hb hX hbl hbA hS hl (lv_at hl 0 rfl) (lv_at hl 3 rfl) dl_1203 dl_1204 dl_1205 rfl dl_1206 dl_1207 (by omega) (by omega) ?_
  refine lw_rd (i := i) (k := 2) hx hb hX hbl hbA hS hl (lv_at hl 0 rfl) (lv_at hl 3 rfl) dl_1208 dl_1209 dl_1210 rfl dl_1211 dl_1212 (by omega) (by omega) ?_
  refine lw_rd (i := i) (k := 3) hx hb hX hbl hbA hS hl (lv_at hl 0 rfl) (lv_at hl 3 rfl) dl_1213 dl_1214 dl_1215 rfl dl_1216 dl_1217 (by omega) (by omega) ?_
  refine lw_call (o := 0) (ci := 9) (z := 0) (av := [.int (xs (i + 1)), .int (xs (i + 2)), .int (xs (i + 3))]) (rest := []) (g := g) (d' := lD) hx hb hml hown hts hK hR hS hl.1 dl_1218 lv9_128 rfl (by decide) rfl rfl (by decide) (Nat.le_of_ble_eq_true rfl) (Nat.le_of_ble_eq_true rfl) (lt_w1 rfl) sh0 (Nat.le_refl _) (Nat.le_refl _) (B σ hI) (fun r w' τ' H1 locs1 q hR hS => ?_)
  obtain ⟨v, σ1, rfl, rfl, rfl, hM⟩ := q
  show W p l e room_1 s m #[Value.ref b] below meth c H1 locs1 600000 7302250 (lw_Z below #[Value.ref b] s) (F0 m 1221 ls [.int v])
  refine lv_aload_n hx hb dl_1221 rfl (lv_at hl 2 rfl) ?_
  refine lw_rd (i := i) (k := 1) hx hb hX hbl hbA hS hl (lv_at hl 0 rfl) (lv_at hl 3 rfl) dl_1222 dl_1223 dl_1224 rfl dl_1225 dl_1226 (by omega) (by omega) ?_
  refine lw_rd (i := i) (k := 2) hx hb hX hbl hbA hS hl (lv_at hl 0 rfl) (lv_at hl 3 rfl) dl_1227 dl_1228 dl_1229 rfl dl_1230 dl_1231 (by omega) (by omega) ?_
  refine lw_rd (i := i) (k := 3) hx hb hX hbl hbA hS hl (lv_at hl 0 rfl) (lv_at hl 3 rfl) dl_1232 dl_1233 dl_1234 rfl dl_1235 dl_1236 (by omega) (by omega) ?_
  refine lw_call (o := 260) (ci := 10) (z := 0) (av := [.int (xs (i + 1)), .int (xs (i + 2)), .int (xs (i + 3))]) (rest := [.int v]) (g := g) (d' := lD) hx hb hml hown hts hK hR hS hl.1 dl_1237 lv9_131 rfl (by decide) rfl rfl (by decide) (Nat.le_of_ble_eq_true rfl) (Nat.le_of_ble_eq_true rfl) (lt_w1 rfl) sh260 (Nat.le_refl _) (Nat.le_refl _) hM (fun r w' τ' H1 locs1 q hR hS => ?_)
  obtain ⟨σ2, rfl, rfl, rfl, hI2⟩ := q
  show W p l e room_1 s m #[Value.ref b] below meth c H1 locs1 600000 7302250 (lw_Z below #[Value.ref b] s) (F0 m 1240 ls [.int v, .int v])
  refine lv_icmp_eq (tgt := 1342) hx hb dl_1240 rfl (fun _ => ?_) (fun h => absurd rfl h)
  exact K σ2 H1 locs1 ls hI2 hR hS hl
theorem lw_k27 (C : lw_C p s m meth c b L xs g) (hi : i + 7 ≤ L) (hL : L ≤ 3584) (B : BothL Inv 163 287 [.int (xs (i + 1)), .int (xs (i + 2))]) (K : lw_At2 Inv p l e s m below meth c b g i 1342) : lw_At2 Inv p l e s m below meth c b g i 1245 := by
  obtain ⟨hx, hb, hr, hml, hown, hts, hX, hbl, hlk, hK, hg⟩ := C
  have hbA : ¬ j_A g b := by unfold j_A; omega
  intro σ H locs ls hI hR hS hl
  refine lv_aload_n hx hb dl_1245 rfl (lv_at hl 1 rfl) ?_
  refine lw_rd (i := i) (k := 1) hx hb hX hbl hbA hS hl (lv_at hl 0 rfl) (lv_at hl 3 rfl) dl_1246 dl_1247 dl_1248 rfl dl_1249 dl_1250 (by omega) (by omega) ?_
  refine lw_rd (i := i) (k := 2) hx hb hX hbl hbA hS hl (lv_at hl 0 rfl) (lv_at hl 3 rfl) dl_1251 dl_1252 dl_1253 rfl dl_1254 dl_1255 (by omega) (by omega) ?_
  refine lw_call (o := 0) (ci := 9) (z := 0) (av := [.int (xs (i + 1)), .int (xs (i + 2))]) (rest := []) (g := g) (d' := lD) hx hb hml hown hts hK hR hS hl.1 dl_1256 lv9_132 rfl (by decide) rfl rfl (by decide) (Nat.le_of_ble_eq_true rfl) (Nat.le_of_ble_eq_true rfl) (lt_w1 rfl) sh0 (Nat.le_refl _) (Nat.le_refl _) (B σ hI) (fun r w' τ' H1 locs1 q hR hS => ?_)
  obtain ⟨v, σ1, rfl, rfl, rfl, hM⟩ := q
  show W p l e room_1 s m #[Value.ref b] below meth c H1 locs1 600000 7302250 (lw_Z below #[Value.ref b] s) (F0 m 1259 ls [.long v])
  refine lv_aload_n hx hb dl_1259 rfl (lv_at hl 2 rfl) ?_
  refine lw_rd (i := i) (k := 1) hx hb hX hbl hbA hS hl (lv_at hl 0 rfl) (lv_at hl 3 rfl) dl_1260 dl_1261 dl_1262 rfl dl_1263 dl_1264 (by omega) (by omega) ?_
  refine lw_rd (i := i) (k := 2) hx hb hX hbl hbA hS hl (lv_at hl 0 rfl) (lv_at hl 3 rfl) dl_1265 dl_1266 dl_1267 rfl dl_1268 dl_1269 (by omega) (by omega) ?_
  refine lw_call (o := 260) (ci := 10) (z := 0) (av := [.int (xs (i + 1)), .int (xs (i + 2))]) (rest := [.long v]) (g := g) (d' := lD) hx hb hml hown hts hK hR hS hl.1 dl_1270 lv9_135 rfl (by decide) rfl rfl (by decide) (Nat.le_of_ble_eq_true rfl) (Nat.le_of_ble_eq_true rfl) (lt_w1 rfl) sh260 (Nat.le_refl _) (Nat.le_refl _) hM (fun r w' τ' H1 locs1 q hR hS => ?_)
  obtain ⟨σ2, rfl, rfl, rfl, hI2⟩ := q
  show W p l e room_1 s m #[Value.ref b] below meth c H1 locs1 600000 7302250 (lw_Z below #[Value.ref b] s) (F0 m 1273 ls [.long v, .long v])
  refine W.lcmp hx hb dl_1273 ?_
  refine lv_if_eq (tgt := 1342) hx hb dl_1274 rfl (fun _ => ?_) (fun h => absurd (by simp [lg_cmp]) h)
  exact K σ2 H1 locs1 ls hI2 hR hS hl
theorem lw_k28 (C : lw_C p s m meth c b L xs g) (hi : i + 7 ≤ L) (hL : L ≤ 3584) (B : BothI Inv 164 288 [.int (xs (i + 1)), .int (xs (i + 2)), .int (xs (i + 3)), .int (xs (i + 4)), .int (xs (i + 5))]) (K : lw_At2 Inv p l e s m below meth c b g i 1342) : lw_At2 Inv p l e s m below meth c b g i 1279 := by
  obtain ⟨hx, hb, hr, hml, hown, hts, hX, hbl, hlk, hK, hg⟩ := C
  have hbA : ¬ j_A g b := by unfold j_A; omega
  intro σ H locs ls hI hR hS hl
  refine lv_aload_n hx hb dl_1279 rfl (lv_at hl 1 rfl) ?_
  refine lw_rd (i := i) (k := 1) hx hb hX hbl hbA hS hl (lv_at hl 0 rfl) (lv_at hl 3 rfl) dl_1280 dl_1281 dl_1282 rfl dl_1283 dl_1284 (by omega) (by omega) ?_
  refine lw_rd (i := i) (k := 2) hx hb hX hbl hbA hS hl (lv_at hl 0 rfl) (lv_at hl 3 rfl) dl_1285 dl_1286 dl_1287 rfl dl_1288 dl_1289 (by omega) (by omega) ?_
  refine lw_rd (i := i) (k := 3) hx hb hX hbl hbA hS hl (lv_at hl 0 rfl) (lv_at hl 3 rfl) dl_1290 dl_1291 dl_1292 rfl dl_1293 dl_1294 (by omega) (by omega) ?_
  refine lw_rd (i := i) (k := 4) hx hb hX hbl hbA hS hl (lv_at hl 0 rfl) (lv_at hl 3 rfl) dl_1295 dl_1296 dl_1297 rfl dl_1298 dl_1299 (by omega) (by omega) ?_
  refine lw_rd (i := i) (k := 5) hx hb hX hbl hbA hS hl (lv_at hl 0 rfl) (lv_at hl 3 rfl) dl_1300 dl_1301 dl_1302 rfl dl_1303 dl_1304 (by omega) (by omega) ?_
  refine lw_call (o := 0) (ci := 9) (z := 0) (av := [.int (xs (i + 1)), .int (xs (i + 2)), .int (xs (i + 3)), .int (xs (i + 4)), .int (xs (i + 5))]) (rest := []) (g := g) (d' := lD) hx hb hml hown hts hK hR hS hl.1 dl_1305 lv9_136 rfl (by decide) rfl rfl (by decide) (Nat.le_of_ble_eq_true rfl) (Nat.le_of_ble_eq_true rfl) (lt_w1 rfl) sh0 (Nat.le_refl _) (Nat.le_refl _) (B σ hI) (fun r w' τ' H1 locs1 q hR hS => ?_)
  obtain ⟨v, σ1, rfl, rfl, rfl, hM⟩ := q
  show W p l e room_1 s m #[Value.ref b] below meth c H1 locs1 600000 7302250 (lw_Z below #[Value.ref b] s) (F0 m 1308 ls [.int v])
  refine lv_aload_n hx hb dl_1308 rfl (lv_at hl 2 rfl) ?_
  refine lw_rd (i := i) (k := 1) hx hb hX hbl hbA hS hl (lv_at hl 0 rfl) (lv_at hl 3 rfl) dl_1309 dl_1310 dl_1311 rfl dl_1312 dl_1313 (by omega) (by omega) ?_
  refine lw_rd (i := i) (k := 2) hx hb hX hbl hbA hS hl (lv_at hl 0 rfl) (lv_at hl 3 rfl) dl_1314 dl_1315 dl_1316 rfl dl_1317 dl_1318 (by omega) (by omega) ?_
  refine lw_rd (i := i) (k := 3) hx hb hX hbl hbA hS hl (lv_at hl 0 rfl) (lv_at hl 3 rfl) dl_1319 dl_1320 dl_1321 rfl dl_1322 dl_1323 (by omega) (by omega) ?_
  refine lw_rd (i := i) (k := 4) hx hb hX hbl hbA hS hl (lv_at hl 0 rfl) (lv_at hl 3 rfl) dl_1324 dl_1325 dl_1326 rfl dl_1327 dl_1328 (by omega) (by omega) ?_
  refine lw_rd (i := i) (k := 5) hx hb hX hbl hbA hS hl (lv_at hl 0 rfl) (lv_at hl 3 rfl) dl_1329 dl_1330 dl_1331 rfl dl_1332 dl_1333 (by omega) (by omega) ?_
  refine lw_call (o := 260) (ci := 10) (z := 0) (av := [.int (xs (i + 1)), .int (xs (i + 2)), .int (xs (i + 3)), .int (xs (i + 4)), .int (xs (i + 5))]) (rest := [.int v]) (g := g) (d' := lD) hx hb hml hown hts hK hR hS hl.1 dl_1334 lv9_139 rfl (by decide) rfl rfl (by decide) (Nat.le_of_ble_eq_true rfl) (Nat.le_of_ble_eq_true rfl) (lt_w1 rfl) sh260 (Nat.le_refl _) (Nat.le_refl _) hM (fun r w' τ' H1 locs1 q hR hS => ?_)
  obtain ⟨σ2, rfl, rfl, rfl, hI2⟩ := q
  show W p l e room_1 s m #[Value.ref b] below meth c H1 locs1 600000 7302250 (lw_Z below #[Value.ref b] s) (F0 m 1337 ls [.int v, .int v])
  refine lv_icmp_eq (tgt := 1342) hx hb dl_1337 rfl (fun _ => ?_) (fun h => absurd rfl h)
  exact K σ2 H1 locs1 ls hI2 hR hS hl
end LWC
