/-! item on both sides -/
theorem deq_self {x : UInt64} (h : vf_n64 x) : deq x x = true := by
  have h1 := Jvm.Free.Fl.dcmp_of_noNaN64 h
  unfold deq
  cases e : FP.dcmp x x with
  | none => rw [e] at h1; exact absurd h1 (by decide)
  | some o =>
    rw [e] at h1
    cases o with
    | eq => rfl
    | lt => exact absurd h1 (by decide)
    | gt => exact absurd h1 (by decide)
theorem okD.n {x : UInt64} (h : okD x) : vf_n64 x := fi_nn h.1.1
theorem pair_item (hB : fp_bits) {σ : j_I3} {a b : Int32} (h : rowsR σ) (hR : WFR σ.2.2) : PairL 163 287 [.int a, .int b] σ (fun σ2 => rowsR σ2 ∧ same rowsP σ σ2) := by
  show j_Call lD 163 [.ref 0, .int a, .int b] w1 (σ.1, σ.2.1, RR σ.2.2) 0 0 (PEndL 287 [.int a, .int b] _)
  have hT : rowsR σ ∧ same rowsP σ σ := ⟨h, same.rf⟩
  by_cases ha : ∃ k : Nat, k < 4 ∧ a = nI k
  · obtain ⟨r, hr, rfl⟩ := ha
    obtain ⟨n, hn, hs1, hs3, hs, hz, hz2, hit⟩ := h r hr
    have er : ∀ u, u < 4 → nI r = nI u → u = r := fun u hu h => ((nI_eqN (by omega) (by omega)).mp h).symm
    by_cases hm : σ.1 503 r = -1
    · have hc : ∀ {P : Prop} u, u < 4 → nI r = nI u → ¬ σ.1 (248 + 3 * u) 0 = -1 → P := fun u h1 h2 h3 => by
        obtain rfl := er u h1 h2
        exact absurd (hs.trans hm) h3
      have hd : ∀ {P : Prop} u, u < 4 → nI r = nI u → 0 ≤ σ.1 503 u → P := fun u h1 h2 h3 => by
        obtain rfl := er u h1 h2
        exact absurd h3 ((sort_neg hs1).mp hm)
      exact s163 hB hR lD1 (fun u h1 h2 h3 h4 => hc u h1 h2 h3) (fun u h1 h2 h3 h4 h5 => hc u h1 h2 h3) (fun u h1 h2 h3 h4 h5 h6 => hc u h1 h2 h3) (fun u h1 h2 h3 h4 h5 h6 => hc u h1 h2 h3) (fun u h1 h2 h3 h4 h5 h6 h7 => hc u h1 h2 h3) (fun u h1 h2 h3 h4 h5 h6 h7 => hc u h1 h2 h3) (fun u h1 h2 h3 h4 h5 h6 h7 => hc u h1 h2 h3)
        (fun u h1 h2 h3 => pend_sameL hT (s287 lD3 (fun u h1 h2 h3 h4 => hd u h1 h2 h3) (fun u h1 h2 h3 h4 h5 h6 => hd u h1 h2 h3) (fun u h1 h2 h3 h4 h5 h6 => hd u h1 h2 h3) (fun u h1 h2 h3 h4 h5 => hd u h1 h2 h3) (fun u h1 h2 h3 h4 => hd u h1 h2 h3) (fun u h1 h2 h3 => ⟨rfl, rfl, rfl⟩) (fun h => absurd ⟨r, hr, rfl⟩ h))) (fun h => absurd ⟨r, hr, rfl⟩ h)
    · have h0 : 0 ≤ σ.1 503 r := Classical.not_not.mp (mt (sort_neg hs1).mpr hm)
      have hno : ∀ {P : Prop} u, u < 4 → nI r = nI u → ¬ 0 ≤ σ.1 503 u → P := fun u h1 h2 h3 => by
        obtain rfl := er u h1 h2
        exact absurd h0 h3
      have hno2 : ∀ {P : Prop} u, u < 4 → nI r = nI u → σ.1 (248 + 3 * u) 0 = -1 → P := fun u h1 h2 h3 => by
        obtain rfl := er u h1 h2
        exact absurd (hs.symm.trans h3) hm
      by_cases hb : ∃ i, i < n ∧ b = nI i
      · obtain ⟨i, hi, rfl⟩ := hb
        have hin : vp_in (nI i) 64 := vp_in_nI (by omega) (by omega)
        have hc : (nI i).toNatClampNeg = i := nI_clamp (by omega)
        obtain ⟨hb1, hb2⟩ := (i_out (b := nI i) hn).mpr ⟨i, hi, rfl⟩
        have hb3 := And.intro hb1 hb2
        rw [← hz] at hb2
        rw [← hz2] at hb3
        obtain ⟨f1, f2, f3⟩ := hit i hi
        have hout : ∀ {P : Prop} u, u < 4 → nI r = nI u → ¬ (¬ nI i < 0 ∧ ¬ (σ.1 504 u - 1) < nI i) → P := fun u h1 h2 h3 => by
          obtain rfl := er u h1 h2
          exact absurd hb3 h3
        by_cases hf : σ.1 (511 + r) i = 0
        · obtain ⟨f4, f5⟩ := f3 hf
          have out : PEndL 287 [.int (nI r), .int (nI i)] (fun σ2 => rowsR σ2 ∧ same rowsP σ σ2) (some (.long (σ.2.1 (506 + r) i).toInt64)) w1 (σ.1, σ.2.1, RR σ.2.2) := by
            refine pend_sameL hT (s287 lD3 (fun u h1 h2 h3 h4 => hin) (fun u h1 h2 h3 h4 h5 h6 => ?_) (fun u h1 h2 h3 h4 h5 h6 => ?_) (fun u h1 h2 h3 h4 h5 => ?_) (fun u h1 h2 h3 h4 => hout u h1 h2 h4) (fun u h1 h2 h3 => hno u h1 h2 h3) (fun h => absurd ⟨r, hr, rfl⟩ h))
            · obtain rfl := er u h1 h2
              rw [hc]
              exact ⟨rfl, rfl, rfl⟩
            · obtain rfl := er u h1 h2
              rw [hc, deq_self f5.n] at h6
              cases h6
            · obtain rfl := er u h1 h2
              rw [hc] at h5
              exact absurd hf h5
          refine s163 hB hR lD1 (fun u h1 h2 h3 h4 => ?_) (fun u h1 h2 h3 h4 h5 => absurd h5 hb1) (fun u h1 h2 h3 h4 h5 h6 => ?_) (fun u h1 h2 h3 h4 h5 h6 => hin) (fun u h1 h2 h3 h4 h5 h6 h7 => ?_) (fun u h1 h2 h3 h4 h5 h6 h7 => ?_) (fun u h1 h2 h3 h4 h5 h6 h7 => ?_) (fun u h1 h2 h3 => hno2 u h1 h2 h3) (fun h => absurd ⟨r, hr, rfl⟩ h)
          · obtain rfl := er u h1 h2
            rw [hz] at h4
            exact absurd ((nI_ltI (b := 1) (by omega) (by omega)).mp h4) (by omega)
          · obtain rfl := er u h1 h2
            exact absurd h6 hb2
          · obtain rfl := er u h1 h2
            rw [hc, f4]
            exact f5
          · obtain rfl := er u h1 h2
            rw [hc, f4]
            exact out
          · obtain rfl := er u h1 h2
            rw [hc, f1] at h7
            exact absurd hf h7
        · have out : PEndL 287 [.int (nI r), .int (nI i)] (fun σ2 => rowsR σ2 ∧ same rowsP σ σ2) (some (.long (-1))) w1 (σ.1, σ.2.1, RR σ.2.2) := by
            refine pend_sameL hT (s287 lD3 (fun u h1 h2 h3 h4 => hin) (fun u h1 h2 h3 h4 h5 h6 => ?_) (fun u h1 h2 h3 h4 h5 h6 => ?_) (fun u h1 h2 h3 h4 h5 => ⟨rfl, rfl, rfl⟩) (fun u h1 h2 h3 h4 => hout u h1 h2 h4) (fun u h1 h2 h3 => hno u h1 h2 h3) (fun h => absurd ⟨r, hr, rfl⟩ h))
            · obtain rfl := er u h1 h2
              rw [hc] at h5
              exact absurd h5 hf
            · obtain rfl := er u h1 h2
              rw [hc] at h5
              exact absurd h5 hf
          refine s163 hB hR lD1 (fun u h1 h2 h3 h4 => ?_) (fun u h1 h2 h3 h4 h5 => absurd h5 hb1) (fun u h1 h2 h3 h4 h5 h6 => ?_) (fun u h1 h2 h3 h4 h5 h6 => hin) (fun u h1 h2 h3 h4 h5 h6 h7 => ?_) (fun u h1 h2 h3 h4 h5 h6 h7 => ?_) (fun u h1 h2 h3 h4 h5 h6 h7 => out) (fun u h1 h2 h3 => hno2 u h1 h2 h3) (fun h => absurd ⟨r, hr, rfl⟩ h)
          · obtain rfl := er u h1 h2
            rw [hz] at h4
            exact absurd ((nI_ltI (b := 1) (by omega) (by omega)).mp h4) (by omega)
          · obtain rfl := er u h1 h2
            exact absurd h6 hb2
          · obtain rfl := er u h1 h2
            rw [hc, f1] at h7
            exact absurd h7 hf
          · obtain rfl := er u h1 h2
            rw [hc, f1] at h7
            exact absurd h7 hf
      · have hb2 := mt (i_out (b := b) hn).mp hb
        have hb3 := hb2
        rw [← hz] at hb2
        rw [← hz2] at hb3
        have hd : ∀ {P : Prop} u, u < 4 → nI r = nI u → (¬ b < 0 ∧ ¬ (σ.1 504 u - 1) < b) → P := fun u h1 h2 h3 => by
          obtain rfl := er u h1 h2
          exact absurd h3 hb3
        have out : PEndL 287 [.int (nI r), .int b] (fun σ2 => rowsR σ2 ∧ same rowsP σ σ2) (some (.long (-12))) w1 (σ.1, σ.2.1, RR σ.2.2) := pend_sameL hT (s287 lD3 (fun u h1 h2 h3 h4 => hd u h1 h2 h4) (fun u h1 h2 h3 h4 h5 h6 => hd u h1 h2 h4) (fun u h1 h2 h3 h4 h5 h6 => hd u h1 h2 h4) (fun u h1 h2 h3 h4 h5 => hd u h1 h2 h4) (fun u h1 h2 h3 h4 => ⟨rfl, rfl, rfl⟩) (fun u h1 h2 h3 => hno u h1 h2 h3) (fun h => absurd ⟨r, hr, rfl⟩ h))
        have no : ∀ {P : Prop} u, u < 4 → nI r = nI u → ¬ b < 0 → ¬ (σ.1 (248 + 3 * u) 1 - 1) < b → P := fun u h1 h2 h3 h4 => by
          obtain rfl := er u h1 h2
          exact absurd ⟨h3, h4⟩ hb2
        exact s163 hB hR lD1 (fun u h1 h2 h3 h4 => out) (fun u h1 h2 h3 h4 h5 => out) (fun u h1 h2 h3 h4 h5 h6 => out) (fun u h1 h2 h3 h4 h5 h6 => no u h1 h2 h5 h6) (fun u h1 h2 h3 h4 h5 h6 h7 => no u h1 h2 h5 h6) (fun u h1 h2 h3 h4 h5 h6 h7 => no u h1 h2 h5 h6) (fun u h1 h2 h3 h4 h5 h6 h7 => no u h1 h2 h5 h6) (fun u h1 h2 h3 => hno2 u h1 h2 h3) (fun h => absurd ⟨r, hr, rfl⟩ h)
  · have no : ∀ {P : Prop} u, u < 4 → a = nI u → P := fun u h1 h2 => absurd ⟨u, h1, h2⟩ ha
    exact s163 hB hR lD1 (fun u h1 h2 h3 h4 => no u h1 h2) (fun u h1 h2 h3 h4 h5 => no u h1 h2) (fun u h1 h2 h3 h4 h5 h6 => no u h1 h2) (fun u h1 h2 h3 h4 h5 h6 => no u h1 h2) (fun u h1 h2 h3 h4 h5 h6 h7 => no u h1 h2) (fun u h1 h2 h3 h4 h5 h6 h7 => no u h1 h2) (fun u h1 h2 h3 h4 h5 h6 h7 => no u h1 h2) (fun u h1 h2 h3 => no u h1 h2)
      (fun h9 => pend_sameL hT (s287 lD3 (fun u h1 h2 h3 h4 => no u h1 h2) (fun u h1 h2 h3 h4 h5 h6 => no u h1 h2) (fun u h1 h2 h3 h4 h5 h6 => no u h1 h2) (fun u h1 h2 h3 h4 h5 => no u h1 h2) (fun u h1 h2 h3 h4 => no u h1 h2) (fun u h1 h2 h3 => no u h1 h2) (fun h => ⟨rfl, rfl, rfl⟩)))
