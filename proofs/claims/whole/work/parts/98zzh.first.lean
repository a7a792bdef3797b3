/-! the first store holds what all calls keep -/
def st_β : Bd := (fun _ => 0, fun _ => 0, fun _ => false, fun _ => 0, fun _ _ => (0, 0), fun _ => false, fun _ => 0, fun _ => 0, fun _ => none, fun _ => 0, fun _ => 0, fun _ _ => 0)
set_option maxRecDepth 20000 in
theorem st_r112 : ∀ c, c < 24 → st_R2 112 c = some (114 + 3 * c) := by decide +kernel
set_option maxRecDepth 20000 in
theorem st_r113 : ∀ t, t < 6 → st_R2 113 t = some (186 + 3 * t) := by decide +kernel
set_option maxRecDepth 20000 in
theorem st_r97 : st_R2 97 2 = some 99 ∧ st_R2 0 6 = some 102 := by decide +kernel
set_option maxRecDepth 20000 in
theorem st_z1 : ∀ c, c < 24 → st_I2 109 c = 0 ∧ st_I2 111 c = 0 ∧ st_I2 261 c = 0 ∧ st_I2 262 c = 0 ∧ st_I2 264 c = 0 ∧ st_I2 333 c = 0 ∧ st_I2 209 c = 0 := by decide +kernel
set_option maxRecDepth 20000 in
theorem st_z2 : ∀ c, c < 24 → st_I2 (114 + 3 * c) 1 = 0 ∧ st_I2 (114 + 3 * c) 2 = 0 ∧ ∀ t, t < 6 → st_I2 (114 + 3 * c + 2) t = 0 ∧ st_I2 (335 + c) t = 0 := by decide +kernel
set_option maxRecDepth 20000 in
theorem st_z3 : ∀ t, t < 6 → st_I2 (186 + 3 * t) 0 = 0 ∧ st_I2 315 t = 0 := by decide +kernel
set_option maxRecDepth 20000 in
theorem st_z4 : ∀ v, v < 30 → st_I2 208 v = 0 := by decide +kernel
set_option maxRecDepth 20000 in
theorem st_z5 : st_I2 97 1 = 0 ∧ st_I2 260 34 = 0 ∧ st_I2 260 57 = 0 ∧ st_I2 0 4 = 0 := by decide +kernel
set_option maxRecDepth 20000 in
theorem st_ord : ∀ k, k < 30 → st_I2 205 k = nI k := by decide +kernel
set_option maxRecDepth 20000 in
theorem st_rc : ∀ c, c < 24 → st_I2 206 c = 1 <<< (nI c &&& 31) ∧ st_I2 207 c = 1 <<< (nI c &&& 31) := by decide +kernel
set_option maxRecDepth 20000 in
theorem st_row : ∀ r, r < 4 → st_I2 503 r = -1 ∧ st_I2 (248 + 3 * r) 0 = -1 ∧ st_I2 (248 + 3 * r) 1 = 0 ∧ st_I2 504 r = 0 := by decide +kernel
section STI
variable {I : Nat → Nat → Int32} {D : Nat → Nat → UInt64} {R : Nat → Nat → Option Nat}
theorem st_fo (h : ∀ c, c < 24 → R 112 c = some (114 + 3 * c)) {c : Nat} (hc : c < 24) : fo R c = 114 + 3 * c := by unfold fo; rw [h c hc]; rfl
theorem st_go (h : ∀ t, t < 6 → R 113 t = some (186 + 3 * t)) {t : Nat} (ht : t < 6) : go R t = 186 + 3 * t := by unfold go; rw [h t ht]; rfl
theorem st_fm (h : R 97 2 = some 99 ∧ R 0 6 = some 102) : fm R = 99 := by unfold fm; rw [h.1]; rfl
theorem st_gs (h : R 97 2 = some 99 ∧ R 0 6 = some 102) : gs R = 102 := by unfold gs; rw [h.2]; rfl
theorem st_WFR (h1 : ∀ c, c < 24 → R 112 c = some (114 + 3 * c)) (h2 : ∀ t, t < 6 → R 113 t = some (186 + 3 * t)) (h3 : R 97 2 = some 99 ∧ R 0 6 = some 102) : WFR R := by
  refine ⟨fun c hc => ?_, fun t ht => ?_, ?_, ?_⟩
  · rw [st_fo h1 hc]; exact ⟨h1 c hc, Or.inr ⟨c, hc, rfl⟩⟩
  · rw [st_go h2 ht]; exact ⟨h2 t ht, Or.inr ⟨t, ht, rfl⟩⟩
  · rw [st_fm h3]; exact ⟨h3.1, Or.inl rfl⟩
  · rw [st_gs h3]; exact ⟨h3.2, Or.inl rfl⟩
theorem st_WFD (h1 : ∀ c, c < 24 → R 112 c = some (114 + 3 * c)) (h2 : ∀ t, t < 6 → R 113 t = some (186 + 3 * t)) (h3 : R 97 2 = some 99 ∧ R 0 6 = some 102) : WFD R := by
  refine ⟨fun c c' hc hc' h => ?_, fun c hc h => ?_, fun t t' ht ht' h => ?_, fun t ht h => ?_⟩
  · rw [st_fo h1 hc, st_fo h1 hc'] at h; omega
  · rw [st_fo h1 hc, st_fm h3] at h; omega
  · rw [st_go h2 ht, st_go h2 ht'] at h; omega
  · rw [st_go h2 ht, st_gs h3] at h; omega
theorem st_any : ∀ (n : Nat), (anyB n fun _ => false) = false
  | 0 => rfl
  | n + 1 => by rw [anyB, st_any n]; rfl
theorem st_ed (u v : Nat) : ed st_β u v = false := by
  unfold ed
  by_cases hc : u < 24
  · rw [if_pos hc]; rfl
  · rw [if_neg hc]; rfl
theorem st_BV : BV st_β := ⟨fun c hc => ⟨(by decide : 0 < 6), (by decide : 0 ≤ 96), fun _ => rfl, fun h => (by cases h), ⟨fun k hk => absurd hk (Nat.not_lt_zero k), fun h => absurd h (Nat.lt_irrefl 0)⟩⟩, fun t ht h => (by cases h), ⟨fun _ => 0, fun u v hu hv h => by rw [st_ed] at h; cases h⟩⟩
theorem st_gen (r1 : ∀ c, c < 24 → R 112 c = some (114 + 3 * c)) (r2 : ∀ t, t < 6 → R 113 t = some (186 + 3 * t)) (r3 : R 97 2 = some 99 ∧ R 0 6 = some 102) (hD : ∀ o k, D o k = 0) (hord : ∀ k, k < 30 → I 205 k = nI k) (hrc : ∀ c, c < 24 → I 206 c = 1 <<< (nI c &&& 31) ∧ I 207 c = 1 <<< (nI c &&& 31)) (hrow : ∀ r, r < 4 → I 503 r = -1 ∧ I (248 + 3 * r) 0 = -1 ∧ I (248 + 3 * r) 1 = 0 ∧ I 504 r = 0)
    (z1 : ∀ c, c < 24 → I 109 c = 0 ∧ I 111 c = 0 ∧ I 261 c = 0 ∧ I 262 c = 0 ∧ I 264 c = 0 ∧ I 333 c = 0 ∧ I 209 c = 0) (z2 : ∀ c, c < 24 → I (114 + 3 * c) 1 = 0 ∧ I (114 + 3 * c) 2 = 0 ∧ ∀ t, t < 6 → I (114 + 3 * c + 2) t = 0 ∧ I (335 + c) t = 0) (z3 : ∀ t, t < 6 → I (186 + 3 * t) 0 = 0 ∧ I 315 t = 0) (z4 : ∀ v, v < 30 → I 208 v = 0) (z5 : I 97 1 = 0 ∧ I 260 34 = 0 ∧ I 260 57 = 0 ∧ I 0 4 = 0) : Inv (I, D, R) := by
  have sm : ∀ o k, Sm (D o k) := fun o k => by rw [hD]; exact sm_0
  have hNM : NM st_β I := by
    refine ⟨fun c hc => ⟨fun v hv => ?_, fun v hv => ?_, ?_, ?_⟩, fun t ht => ?_⟩
    · rw [(hrc c hc).1, bt_one (by omega) hv]
      show _ = (decide (v = c) || anyB 24 fun _ => false)
      rw [st_any, Bool.or_false]
    · rw [(hrc c hc).2, bt_one (by omega) hv]
      show _ = ((true && decide (v = c) || anyB 24 fun _ => false) || anyB 6 fun _ => false)
      rw [st_any, st_any, Bool.or_false, Bool.or_false, Bool.true_and]
    · rw [(z1 c hc).2.2.2.2.2.2]; rfl
    · rw [z4 c (by omega)]; rfl
    · unfold NMt
      rw [z4 (24 + t) (by omega)]; rfl
  refine ⟨⟨st_WFR r1 r2 r3, st_WFD r1 r2 r3⟩, ⟨st_β, ⟨fun c hc => ?_, fun t ht => ?_⟩, ⟨fun c hc => ?_, fun t ht => ?_⟩, fun c hc => ⟨fun v hv => ?_, fun t ht => ?_⟩, st_BV, hNM, ⟨fun k => k, ⟨fun k hk => ⟨hord k hk, hk⟩, fun k hk v hv h => ?_, fun i j _ _ h => h⟩, fun v hv => ⟨v, hv, rfl⟩⟩, fun v hv => ?_⟩, fun r hr => ?_, ⟨0, by decide, z5.1, z5.2.1, fun k hk => absurd hk (Nat.not_lt_zero k)⟩, ?_, Or.inl z5.2.2.2, fun h => absurd z5.2.2.2 h⟩
  · show I 109 c = 0 ∧ _ ∧ Sm (D 110 c) ∧ I 111 c = 0 ∧ FR 0 _ I (fo R c)
    rw [st_fo r1 hc]
    obtain ⟨a1, a2, -⟩ := z1 c hc
    obtain ⟨b1, b2, b3⟩ := z2 c hc
    refine ⟨a1, fun h => (by cases h), sm _ _, a2, b1, fun k hk => absurd hk (Nat.not_lt_zero k), fun v hv => ?_, fun t ht => (b3 t ht).1⟩
    rw [b2, b_0]; rfl
  · show GR st_β t I D (go R t)
    rw [st_go r2 ht]
    exact ⟨(z3 t ht).1, fun h => (by cases h)⟩
  · obtain ⟨-, -, a3, a4, a5, -⟩ := z1 c hc
    exact ⟨a3, a4, fun h => (by cases h), sm _ _, a5, fun j hj => absurd hj (Nat.not_lt_zero j)⟩
  · exact ⟨(z3 t ht).2, fun h => (by cases h)⟩
  · show bt (I 333 c) v = (decide (v < 24) && false)
    rw [(z1 c hc).2.2.2.2.2.1, b_0, Bool.and_false]
  · exact ((z2 c hc).2.2 t ht).2
  · rw [st_ed] at h; cases h
  · unfold bu
    show (I 208 v).toNatClampNeg ≤ 2000
    rw [z4 v hv]; decide
  · obtain ⟨q1, q2, q3, q4⟩ := hrow r hr
    refine ⟨0, by decide, ?_, ?_, ?_, q3, q4, fun k hk => absurd hk (Nat.not_lt_zero k)⟩
    · show ¬ I 503 r < -1
      rw [q1]; decide
    · show I 503 r ≤ 3
      rw [q1]; decide
    · show I (248 + 3 * r) 0 = I 503 r
      rw [q1, q2]
  · show I 0 4 = I 260 57
    rw [z5.2.2.2, z5.2.2.1]
end STI
theorem st_Inv : Inv st_σ := st_gen (I := st_I2) (D := st_D) (R := st_R2) st_r112 st_r113 st_r97 (fun _ _ => rfl) st_ord st_rc st_row st_z1 st_z2 st_z3 st_z4 st_z5
theorem st_B : lw_B Inv := ⟨both_set, both_clear, both_kind, both_told, both_value, both_would, both_taken, both_feed, both_formula, both_table, both_axis, both_axisBy, both_drop, both_at, both_blame, both_adds, both_asks, both_seek, both_swing, both_chance, both_film, both_tells, both_image, both_back, both_count, both_row, both_put, both_item, both_copy⟩
