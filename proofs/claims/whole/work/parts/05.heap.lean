theorem j_lay0 : ∀ k, k < 5 → u_lay RX0 TX0 k ∈ lw_tbl := fun k hk => match k, hk with
  | 0, _ => j_i1 135 rfl
  | 1, _ => j_i1 137 rfl
  | 2, _ => j_i1 139 rfl
  | 3, _ => j_i1 141 rfl
  | 4, _ => j_i1 143 rfl
  | n + 5, h => absurd h (by omega)
theorem j_lay1 : ∀ k, k < 9 → u_lay RX1 TX1 k ∈ lw_tbl := fun k hk => match k, hk with
  | 0, _ => j_i1 209 rfl
  | 1, _ => j_i1 211 rfl
  | 2, _ => j_i1 213 rfl
  | 3, _ => j_i1 215 rfl
  | 4, _ => j_i1 217 rfl
  | 5, _ => j_i1 219 rfl
  | 6, _ => j_i1 221 rfl
  | 7, _ => j_i1 223 rfl
  | 8, _ => j_i1 225 rfl
  | n + 9, h => absurd h (by omega)
theorem j_lay2 : ∀ k, k < 4 → u_lay RX2 TX2 k ∈ lw_tbl := fun k hk => match k, hk with
  | 0, _ => j_i1 53 rfl
  | 1, _ => j_i1 55 rfl
  | 2, _ => j_i1 57 rfl
  | 3, _ => j_i1 59 rfl
  | n + 4, h => absurd h (by omega)
theorem j_lay3 : ∀ k, k < 8 → u_lay RX3 TX3 k ∈ lw_tbl := fun k hk => match k, hk with
  | 0, _ => j_i1 101 rfl
  | 1, _ => j_i1 103 rfl
  | 2, _ => j_i1 105 rfl
  | 3, _ => j_i1 107 rfl
  | 4, _ => j_i1 109 rfl
  | 5, _ => j_i1 111 rfl
  | 6, _ => j_i1 113 rfl
  | 7, _ => j_i1 115 rfl
  | n + 8, h => absurd h (by omega)
theorem j_lay4 : ∀ k, k < 6 → u_lay RX4 TX4 k ∈ lw_tbl := fun k hk => match k, hk with
  | 0, _ => j_i2 14 rfl
  | 1, _ => j_i2 16 rfl
  | 2, _ => j_i2 18 rfl
  | 3, _ => j_i2 20 rfl
  | 4, _ => j_i2 22 rfl
  | 5, _ => j_i2 24 rfl
  | n + 6, h => absurd h (by omega)
theorem j_lay5 : ∀ k, k < 8 → u_lay RX5 TX5 k ∈ lw_tbl := fun k hk => match k, hk with
  | 0, _ => j_i1 164 rfl
  | 1, _ => j_i1 166 rfl
  | 2, _ => j_i1 168 rfl
  | 3, _ => j_i1 170 rfl
  | 4, _ => j_i1 172 rfl
  | 5, _ => j_i1 174 rfl
  | 6, _ => j_i1 176 rfl
  | 7, _ => j_i1 178 rfl
  | n + 8, h => absurd h (by omega)
theorem j_lay6 : ∀ k, k < 4 → u_lay RX6 TX6 k ∈ lw_tbl := fun k hk => match k, hk with
  | 0, _ => j_i2 119 rfl
  | 1, _ => j_i2 121 rfl
  | 2, _ => j_i2 123 rfl
  | 3, _ => j_i2 125 rfl
  | n + 4, h => absurd h (by omega)
theorem j_lay7 : ∀ k, k < 10 → u_lay RX7 TX7 k ∈ lw_tbl := fun k hk => match k, hk with
  | 0, _ => j_i2 55 rfl
  | 1, _ => j_i2 57 rfl
  | 2, _ => j_i2 59 rfl
  | 3, _ => j_i2 61 rfl
  | 4, _ => j_i2 63 rfl
  | 5, _ => j_i2 65 rfl
  | 6, _ => j_i2 67 rfl
  | 7, _ => j_i2 69 rfl
  | 8, _ => j_i2 71 rfl
  | 9, _ => j_i2 73 rfl
  | n + 10, h => absurd h (by omega)
theorem j_lay8 : ∀ k, k < 8 → u_lay RX8 TX8 k ∈ lw_tbl := fun k hk => match k, hk with
  | 0, _ => j_i2 89 rfl
  | 1, _ => j_i2 91 rfl
  | 2, _ => j_i2 93 rfl
  | 3, _ => j_i2 95 rfl
  | 4, _ => j_i2 97 rfl
  | 5, _ => j_i2 99 rfl
  | 6, _ => j_i2 101 rfl
  | 7, _ => j_i2 103 rfl
  | n + 8, h => absurd h (by omega)
theorem j_lay9 : ∀ k, k < 9 → u_lay RX9 TX9 k ∈ lw_tbl := fun k hk => match k, hk with
  | 0, _ => j_i2 137 rfl
  | 1, _ => j_i2 139 rfl
  | 2, _ => j_i2 141 rfl
  | 3, _ => j_i2 143 rfl
  | 4, _ => j_i2 145 rfl
  | 5, _ => j_i2 147 rfl
  | 6, _ => j_i2 149 rfl
  | 7, _ => j_i2 151 rfl
  | 8, _ => j_i2 153 rfl
  | n + 9, h => absurd h (by omega)
theorem j_lay10 : ∀ k, k < 76 → u_lay RX10 TX10 k ∈ lw_tbl := fun k hk => match k, hk with
  | 0, _ => j_i5 190 rfl
  | 1, _ => j_i5 192 rfl
  | 2, _ => j_i5 194 rfl
  | 3, _ => j_i5 196 rfl
  | 4, _ => j_i5 198 rfl
  | 5, _ => j_i5 200 rfl
  | 6, _ => j_i5 202 rfl
  | 7, _ => j_i5 204 rfl
  | 8, _ => j_i5 206 rfl
  | 9, _ => j_i5 208 rfl
  | 10, _ => j_i5 210 rfl
  | 11, _ => j_i5 212 rfl
  | 12, _ => j_i5 214 rfl
  | 13, _ => j_i5 216 rfl
  | 14, _ => j_i5 218 rfl
  | 15, _ => j_i5 220 rfl
  | 16, _ => j_i5 222 rfl
  | 17, _ => j_i5 224 rfl
  | 18, _ => j_i5 226 rfl
  | 19, _ => j_i5 228 rfl
  | 20, _ => j_i5 230 rfl
  | 21, _ => j_i5 232 rfl
  | 22, _ => j_i5 234 rfl
  | 23, _ => j_i5 236 rfl
  | 24, _ => j_i5 238 rfl
  | 25, _ => j_i6 0 rfl
  | 26, _ => j_i6 2 rfl
  | 27, _ => j_i6 4 rfl
  | 28, _ => j_i6 6 rfl
  | 29, _ => j_i6 8 rfl
  | 30, _ => j_i6 10 rfl
  | 31, _ => j_i6 12 rfl
  | 32, _ => j_i6 14 rfl
  | 33, _ => j_i6 16 rfl
  | 34, _ => j_i6 18 rfl
  | 35, _ => j_i6 20 rfl
  | 36, _ => j_i6 22 rfl
  | 37, _ => j_i6 24 rfl
  | 38, _ => j_i6 26 rfl
  | 39, _ => j_i6 28 rfl
  | 40, _ => j_i6 30 rfl
  | 41, _ => j_i6 32 rfl
  | 42, _ => j_i6 34 rfl
  | 43, _ => j_i6 36 rfl
  | 44, _ => j_i6 38 rfl
  | 45, _ => j_i6 40 rfl
  | 46, _ => j_i6 42 rfl
  | 47, _ => j_i6 44 rfl
  | 48, _ => j_i6 46 rfl
  | 49, _ => j_i6 48 rfl
  | 50, _ => j_i6 50 rfl
  | 51, _ => j_i6 52 rfl
  | 52, _ => j_i6 54 rfl
  | 53, _ => j_i6 56 rfl
  | 54, _ => j_i6 58 rfl
  | 55, _ => j_i6 60 rfl
  | 56, _ => j_i6 62 rfl
  | 57, _ => j_i6 64 rfl
  | 58, _ => j_i6 66 rfl
  | 59, _ => j_i6 68 rfl
  | 60, _ => j_i6 70 rfl
  | 61, _ => j_i6 72 rfl
  | 62, _ => j_i6 74 rfl
  | 63, _ => j_i6 76 rfl
  | 64, _ => j_i6 78 rfl
  | 65, _ => j_i6 80 rfl
  | 66, _ => j_i6 82 rfl
  | 67, _ => j_i6 84 rfl
  | 68, _ => j_i6 86 rfl
  | 69, _ => j_i6 88 rfl
  | 70, _ => j_i6 90 rfl
  | 71, _ => j_i6 92 rfl
  | 72, _ => j_i6 94 rfl
  | 73, _ => j_i6 96 rfl
  | 74, _ => j_i6 98 rfl
  | 75, _ => j_i6 100 rfl
  | n + 76, h => absurd h (by omega)
theorem j_lay : ∀ c, c < 11 → ∀ k, k < j_nf c → u_lay (j_cn c) (j_fT c) k ∈ lw_tbl := fun c hc => match c, hc with
  | 0, _ => j_lay0
  | 1, _ => j_lay1
  | 2, _ => j_lay2
  | 3, _ => j_lay3
  | 4, _ => j_lay4
  | 5, _ => j_lay5
  | 6, _ => j_lay6
  | 7, _ => j_lay7
  | 8, _ => j_lay8
  | 9, _ => j_lay9
  | 10, _ => j_lay10
  | n + 11, h => absurd h (by omega)
theorem j_tyo : ∀ c, c < 11 → ∀ k, k < j_nf c → parseFieldDescriptor (j_fT c k).2.2.1 = some (j_fty c k) := fun c hc => match c, hc with
  | 0, _ => tyX0_ok
  | 1, _ => tyX1_ok
  | 2, _ => tyX2_ok
  | 3, _ => tyX3_ok
  | 4, _ => tyX4_ok
  | 5, _ => tyX5_ok
  | 6, _ => tyX6_ok
  | 7, _ => tyX7_ok
  | 8, _ => tyX8_ok
  | 9, _ => tyX9_ok
  | 10, _ => tyX10_ok
  | n + 11, h => absurd h (by omega)
theorem j_nm : ∀ c, c < 11 → ∀ a, a < j_nf c → ∀ b, b < j_nf c → a ≠ b → (j_fT c a).2.1 ≠ (j_fT c b).2.1 := fun c hc => match c, hc with
  | 0, _ => nmX0
  | 1, _ => nmX1
  | 2, _ => nmX2
  | 3, _ => nmX3
  | 4, _ => nmX4
  | 5, _ => nmX5
  | 6, _ => nmX6
  | 7, _ => nmX7
  | 8, _ => nmX8
  | 9, _ => nmX9
  | 10, _ => nmX10
  | n + 11, h => absurd h (by omega)
theorem j_lay_good (C : String) (T : u_T) (k : Nat) : goodWord (u_lay C T k) = true := by unfold u_lay; split <;> rfl
theorem j_uin {i c : Nat} (hc : c < 11) : ∀ w ∈ u_ws (j_cn c) (j_fT c) (j_nf c), w ∈ j_ws i := fun w hw => by
  obtain ⟨k, hk, rfl⟩ := List.mem_map.mp hw
  exact List.mem_cons_of_mem _ (j_gw_of (j_lay c hc k (List.mem_range.mp hk)) (j_lay_good _ _ _))
/-! the knowledge moves -/
theorem j_Lit.to {g : j_G} {s t : State} (h : j_Lit g s) (hW : s.WarmedH t.vm) (hq : ∀ a : Nat, a < s.heap.size → ¬ j_A g a → t.heap[a]? = s.heap[a]?) : j_Lit g t := by
  obtain ⟨h1, h2, h3, h4, h5, h6⟩ := h
  exact ⟨va_Z.moved hW.alike (h1.kept hq), va_T.moved hW.alike (h2.kept hq), va_Z.moved hW.alike (h3.kept hq), va_Z.moved hW.alike (h4.kept hq), vk_S.moved hW.alike (h5.kept hq), fun q hq => vk_R.warm hW (h6 q hq)⟩
theorem j_nw_warm {s t : State} (hW : s.WarmedH t.vm) (h : ∀ w ∈ j_nw, va_Nw w s) : ∀ w ∈ j_nw, va_Nw w t := by
  intro w hw
  have h1 := h w hw
  simp only [j_nw, List.mem_cons, List.not_mem_nil, or_false] at hw
  rcases hw with rfl | rfl | rfl | rfl | rfl | rfl | rfl | rfl | rfl | rfl | rfl | rfl | rfl | rfl | rfl | rfl | rfl | rfl <;> exact va_Nw.warmM hW h1
theorem j_AO : ∀ {c : Nat} {u U : State} (hvm : u.vm.Alike U.vm) (hc : c < 10) (h3 : 3 ≤ c) (h : (Cond.arrayOver (j_aty c)).before #[] u = true), (Cond.arrayOver (j_aty c)).before #[] U = true
  | 3, _, _, hvm, _, _, h => Jvm.Stand.arrayOver_alikeB hvm h
  | 4, _, _, hvm, _, _, h => Jvm.Stand.arrayOver_alikeB hvm h
  | 5, _, _, hvm, _, _, h => Jvm.Stand.arrayOver_alikeB hvm h
  | 6, _, _, hvm, _, _, h => va_AO.moved hvm h
  | 7, _, _, hvm, _, _, h => va_AO.moved hvm h
  | 8, _, _, hvm, _, _, h => va_AO.moved hvm h
  | 9, _, _, hvm, _, _, h => va_AO.moved hvm h
  | 0, _, _, _, _, h, _ => absurd h (by omega) | 1, _, _, _, _, h, _ => absurd h (by omega) | 2, _, _, _, _, h, _ => absurd h (by omega)
  | q + 10, _, _, _, h, _, _ => absurd h (by omega)
theorem j_K.to {g : j_G} {s t : State} {locs : List Loc} (h : j_K g s) (hW : s.WarmedH t.vm) (hS : va_S (j_A g) s.heap t.heap locs) : j_K g t :=
  ⟨va_K.moved hW.alike h.1, h.2.1.to hW hS.2.1, j_nw_warm hW h.2.2.1, Nat.le_trans h.2.2.2.1 hS.1, fun c hc h3 => j_AO hW.alike hc h3 (h.2.2.2.2 c hc h3)⟩
theorem j_K.calling {g : j_G} {U : State} {f : JFrame} {mk : MethodId} {a : Array Value} (h : j_K g U) : j_K g (U.calling f mk a) := by
  obtain ⟨hk, ⟨h1, h2, h3, h4, h5, h6⟩, hn, hz, hao⟩ := h
  refine ⟨va_K.moved (u := U) (U := U.calling f mk a) (Vm.Alike.refl U.vm) hk, ⟨va_Z.moved (u := U) (U := U.calling f mk a) (Vm.Alike.refl U.vm) h1, va_T.moved (u := U) (U := U.calling f mk a) (Vm.Alike.refl U.vm) h2, va_Z.moved (u := U) (U := U.calling f mk a) (Vm.Alike.refl U.vm) h3, va_Z.moved (u := U) (U := U.calling f mk a) (Vm.Alike.refl U.vm) h4, vk_S.moved (u := U) (U := U.calling f mk a) (Vm.Alike.refl U.vm) h5, fun q hq => vk_R.same (u := U) (U := U.calling f mk a) rfl (h6 q hq)⟩, ?_, hz, fun c hc h3 => j_AO (u := U) (U := U.calling f mk a) (Vm.Alike.refl U.vm) hc h3 (hao c hc h3)⟩
  intro w hw
  have h1 := hn w hw
  simp only [j_nw, List.mem_cons, List.not_mem_nil, or_false] at hw
  rcases hw with rfl | rfl | rfl | rfl | rfl | rfl | rfl | rfl | rfl | rfl | rfl | rfl | rfl | rfl | rfl | rfl | rfl | rfl <;> exact va_Nw.same (u := U) (U := U.calling f mk a) rfl rfl h1
theorem j_P_blind (g : j_G) (av : List Value) (w : j_Wd) (τ : j_St) : FrameBlind (j_P g av w τ) := fun a U f mk h => ⟨h.1, h.2.1, h.2.2.calling⟩
