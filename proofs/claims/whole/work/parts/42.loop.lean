/-! the law, from its loop's head, over what both sides say of each call -/
def lw_B (Inv : j_I3 → Prop) : Prop := (∀ a0 a1 : Int32, BothI Inv 11 166 [.int a0, .int a1]) ∧ (∀ a0 : Int32, BothI Inv 17 173 [.int a0]) ∧ (∀ a0 a1 : Int32, BothI Inv 30 175 [.int a0, .int a1]) ∧ (∀ a0 a1 : Int32, BothI Inv 32 176 [.int a0, .int a1]) ∧ (∀ a0 : Int32, BothL Inv 55 198 [.int a0]) ∧ (∀ a0 a1 a2 : Int32, BothL Inv 58 205 [.int a0, .int a1, .int a2]) ∧ (∀ a0 a1 : Int32, BothI Inv 61 207 [.int a0, .int a1]) ∧ (∀ a0 a1 a2 a3 a4 a5 : Int32, BothI Inv 62 208 [.int a0, .int a1, .int a2, .int a3, .int a4, .int a5]) ∧ (∀ a0 : Int32, BothI Inv 65 210 [.int a0]) ∧ (∀ a0 a1 a2 a3 : Int32, BothI Inv 104 248 [.int a0, .int a1, .int a2, .int a3]) ∧ (∀ a0 a1 a2 a3 a4 : Int32, BothI Inv 107 250 [.int a0, .int a1, .int a2, .int a3, .int a4]) ∧ (∀ a0 a1 a2 a3 a4 : Int32, BothI Inv 112 252 [.int a0, .int a1, .int a2, .int a3, .int a4]) ∧ (∀ a0 : Int32, BothI Inv 116 254 [.int a0]) ∧ (∀ a0 a1 a2 : Int32, BothL Inv 117 255 [.int a0, .int a1, .int a2]) ∧ (∀ a0 a1 a2 : Int32, BothI Inv 120 258 [.int a0, .int a1, .int a2]) ∧ (∀ a0 a1 : Int32, BothL Inv 121 259 [.int a0, .int a1]) ∧ (∀ a0 a1 : Int32, BothI Inv 123 260 [.int a0, .int a1]) ∧ (∀ a0 a1 a2 a3 a4 a5 : Int32, BothL Inv 130 265 [.int a0, .int a1, .int a2, .int a3, .int a4, .int a5]) ∧ (∀ a0 a1 a2 : Int32, BothL Inv 140 271 [.int a0, .int a1, .int a2]) ∧ (∀ a0 a1 a2 a3 a4 : Int32, BothI Inv 142 272 [.int a0, .int a1, .int a2, .int a3, .int a4]) ∧ (∀ a0 a1 : Int32, BothI Inv 145 275 [.int a0, .int a1]) ∧ (∀ a0 a1 a2 a3 : Int32, BothI Inv 148 276 [.int a0, .int a1, .int a2, .int a3]) ∧ (BothI Inv 152 280 []) ∧ (BothI Inv 156 282 []) ∧ (∀ a0 : Int32, BothI Inv 157 283 [.int a0]) ∧ (∀ a0 a1 a2 : Int32, BothI Inv 160 284 [.int a0, .int a1, .int a2]) ∧ (∀ a0 a1 a2 : Int32, BothI Inv 161 285 [.int a0, .int a1, .int a2]) ∧ (∀ a0 a1 : Int32, BothL Inv 163 287 [.int a0, .int a1]) ∧ (∀ a0 a1 a2 a3 a4 : Int32, BothI Inv 164 288 [.int a0, .int a1, .int a2, .int a3, .int a4])
theorem lw_leI {i L : Nat} (hi : i < 2 ^ 30) (hL : L ≤ 3584) : (nI L - 7 < nI i) ↔ L < i + 7 := by
  have e : (7 : Int32) = nI 7 := rfl
  rw [Int32.lt_iff_toInt_lt, e, pk_sub_toInt (by omega) (by omega), nI_toInt (by omega)]
  omega
theorem lw_next {Inv : j_I3 → Prop} {p : Program} {l : Launch} {e : Env} {s : State} {m : MethodId} {below : List Frame} {meth : Method} {c : Code} {b L : Nat} {xs : Nat → Int32} {g : j_G} {i : Nat} (C : lw_C p s m meth c b L xs g) (K : lw_At2 Inv p l e s m below meth c b g (i + 7) 18) : lw_At2 Inv p l e s m below meth c b g i 1342 := by
  obtain ⟨hx, hb, hr, hml, hown, hts, hX, hbl, hlk, hK, hg⟩ := C
  intro σ H locs ls hI hR hS hl
  refine lv_iinc (k := 3) (v := nI (i + 7)) (lv' := [(3, .int (nI (i + 7))), (0, .ref b), (1, .ref g.1), (2, .ref (g.1 + 260))]) hx hb dl_1342 hl rfl (nI_add i 7) (by decide) rfl (fun ls hl => ?_)
  refine lv_goto (tgt := 18) hx hb dl_1345 rfl ?_
  exact K σ H locs ls hI hR hS (lv_sub hl [1, 2, 3, 0] rfl)
theorem lw_body {Inv : j_I3 → Prop} {p : Program} {l : Launch} {e : Env} {s : State} {m : MethodId} {below : List Frame} {meth : Method} {c : Code} {b L : Nat} {xs : Nat → Int32} {g : j_G} {i : Nat} (C : lw_C p s m meth c b L xs g) (hL : L ≤ 3584) (hi9 : i ≤ L + 7) (B : lw_B Inv) (K : i + 7 ≤ L → lw_At2 Inv p l e s m below meth c b g i 1342) : lw_At2 Inv p l e s m below meth c b g i 18 := by
  have C0 := C
  obtain ⟨hx, hb, hr, hml, hown, hts, hX, hbl, hlk, hK, hg⟩ := C
  have hbA : ¬ j_A g b := by unfold j_A; omega
  intro σ H locs ls hI hR hS hl
  refine lv_iload_n hx hb dl_18 rfl (lv_at hl 3 rfl) ?_
  refine lv_aload_n hx hb dl_19 rfl (lv_at hl 0 rfl) ?_
  refine va_slen hx hb hX hbl hbA hS dl_20 ?_
  refine lv_bipush (v := 7) hx hb dl_21 (by decide) ?_
  refine lv_isub hx hb dl_23 ?_
  refine lv_icmp_gt (tgt := 1348) hx hb dl_24 rfl (fun _ => ?_) (fun hgt => ?_)
  · refine lv_iconst (v := 1) hx hb dl_1348 (by decide) ?_
    refine va_forget (fun q hq => by have h9 : g.1 ≤ q.base := hS.2.2 q hq; omega) ?_
    exact lw_ret (d0 := s.drawn) (Drawn.sameBut.refl s.drawn lw_cs) hx hb hr hlk dl_1349
  have hi7 : i + 7 ≤ L := by
    have h9 := mt (lw_leI (i := i) (L := L) (by omega) hL).mpr hgt
    omega
  have K := K hi7
  refine lv_aload_n hx hb dl_27 rfl (lv_at hl 0 rfl) ?_
  refine lv_iload_n hx hb dl_28 rfl (lv_at hl 3 rfl) ?_
  refine va_sld hx hb hX hbl hbA hS (vp_in_nI (by omega) (by omega)) dl_29 ?_
  refine lv_bipush (v := 31) hx hb dl_30 (by decide) ?_
  refine lv_iand hx hb dl_32 ?_
  obtain ⟨j, hj, ej⟩ := pk_andE (xs (nI i).toNatClampNeg) (m := 31) 5 (by decide)
  rw [ej]
  have hj : j < 32 := hj
  have key : ∀ (j tgt : Nat) (off : Int), j < 29 → ([164, 197, 220, 253, 286, 310, 354, 387, 462, 485, 538, 601, 664, 687, 731, 774, 808, 841, 917, 961, 1024, 1057, 1110, 1123, 1136, 1159, 1202, 1245, 1279] : List Nat)[j]? = some tgt → lw_At2 Inv p l e s m below meth c b g i tgt → W p l e room_1 s m #[Value.ref b] below meth c H locs 600000 7302250 (lw_Z below #[Value.ref b] s) (F0 m 33 ls [.int (nI j)]) := by
    intro j tgt off hj ht hat
    have hall : ∀ j, j < 29 → ¬ (nI j).toInt < 0 ∧ ¬ 28 < (nI j).toInt ∧ ∃ (off : Int) (t : Nat), (#[131, 164, 187, 220, 253, 277, 321, 354, 429, 452, 505, 568, 631, 654, 698, 741, 775, 808, 884, 928, 991, 1024, 1077, 1090, 1103, 1126, 1169, 1212, 1246] : Array Int)[((nI j).toInt - 0).toNat]? = some off ∧ (33 : Int) + off = (t : Int) ∧ ([164, 197, 220, 253, 286, 310, 354, 387, 462, 485, 538, 601, 664, 687, 731, 774, 808, 841, 917, 961, 1024, 1057, 1110, 1123, 1136, 1159, 1202, 1245, 1279] : List Nat)[j]? = some t := by
      intro j hj
      rcases (show j = 0 ∨ j = 1 ∨ j = 2 ∨ j = 3 ∨ j = 4 ∨ j = 5 ∨ j = 6 ∨ j = 7 ∨ j = 8 ∨ j = 9 ∨ j = 10 ∨ j = 11 ∨ j = 12 ∨ j = 13 ∨ j = 14 ∨ j = 15 ∨ j = 16 ∨ j = 17 ∨ j = 18 ∨ j = 19 ∨ j = 20 ∨ j = 21 ∨ j = 22 ∨ j = 23 ∨ j = 24 ∨ j = 25 ∨ j = 26 ∨ j = 27 ∨ j = 28 by omega) with rfl | rfl | rfl | rfl | rfl | rfl | rfl | rfl | rfl | rfl | rfl | rfl | rfl | rfl | rfl | rfl | rfl | rfl | rfl | rfl | rfl | rfl | rfl | rfl | rfl | rfl | rfl | rfl | rfl <;> exact ⟨by decide, by decide, _, _, rfl, rfl, rfl⟩
    obtain ⟨h1, h2, off, t, h3, h4, h5⟩ := hall j hj
    rw [ht] at h5
    cases h5
    exact lv_tableIn hx hb dl_33 h1 h2 h3 h4 (hat σ H locs ls hI hR hS hl)
  obtain ⟨B0, B1, B2, B3, B4, B5, B6, B7, B8, B9, B10, B11, B12, B13, B14, B15, B16, B17, B18, B19, B20, B21, B22, B23, B24, B25, B26, B27, B28⟩ := B
  rcases (show j = 0 ∨ j = 1 ∨ j = 2 ∨ j = 3 ∨ j = 4 ∨ j = 5 ∨ j = 6 ∨ j = 7 ∨ j = 8 ∨ j = 9 ∨ j = 10 ∨ j = 11 ∨ j = 12 ∨ j = 13 ∨ j = 14 ∨ j = 15 ∨ j = 16 ∨ j = 17 ∨ j = 18 ∨ j = 19 ∨ j = 20 ∨ j = 21 ∨ j = 22 ∨ j = 23 ∨ j = 24 ∨ j = 25 ∨ j = 26 ∨ j = 27 ∨ j = 28 ∨ j = 29 ∨ j = 30 ∨ j = 31 by omega) with rfl | rfl | rfl | rfl | rfl | rfl | rfl | rfl | rfl | rfl | rfl | rfl | rfl | rfl | rfl | rfl | rfl | rfl | rfl | rfl | rfl | rfl | rfl | rfl | rfl | rfl | rfl | rfl | rfl | rfl | rfl | rfl
  · exact key 0 164 0 (by decide) rfl (lw_k0 C0 hi7 hL (B0 (xs (i + 1)) (xs (i + 2))) K)
  · exact key 1 197 0 (by decide) rfl (lw_k1 C0 hi7 hL (B1 (xs (i + 1))) K)
  · exact key 2 220 0 (by decide) rfl (lw_k2 C0 hi7 hL (B2 (xs (i + 1)) (xs (i + 2))) K)
  · exact key 3 253 0 (by decide) rfl (lw_k3 C0 hi7 hL (B3 (xs (i + 1)) (xs (i + 2))) K)
  · exact key 4 286 0 (by decide) rfl (lw_k4 C0 hi7 hL (B4 (xs (i + 1))) K)
  · exact key 5 310 0 (by decide) rfl (lw_k5 C0 hi7 hL (B5 (xs (i + 1)) (xs (i + 2)) (xs (i + 3))) K)
  · exact key 6 354 0 (by decide) rfl (lw_k6 C0 hi7 hL (B6 (xs (i + 1)) (xs (i + 2))) K)
  · exact key 7 387 0 (by decide) rfl (lw_k7 C0 hi7 hL (B7 (xs (i + 1)) (xs (i + 2)) (xs (i + 3)) (xs (i + 4)) (xs (i + 5)) (xs (i + 6))) K)
  · exact key 8 462 0 (by decide) rfl (lw_k8 C0 hi7 hL (B8 (xs (i + 1))) K)
  · exact key 9 485 0 (by decide) rfl (lw_k9 C0 hi7 hL (B9 (xs (i + 1)) (xs (i + 2)) (xs (i + 3)) (xs (i + 4))) K)
  · exact key 10 538 0 (by decide) rfl (lw_k10 C0 hi7 hL (B10 (xs (i + 1)) (xs (i + 2)) (xs (i + 3)) (xs (i + 4)) (xs (i + 5))) K)
  · exact key 11 601 0 (by decide) rfl (lw_k11 C0 hi7 hL (B11 (xs (i + 1)) (xs (i + 2)) (xs (i + 3)) (xs (i + 4)) (xs (i + 5))) K)
  · exact key 12 664 0 (by decide) rfl (lw_k12 C0 hi7 hL (B12 (xs (i + 1))) K)
  · exact key 13 687 0 (by decide) rfl (lw_k13 C0 hi7 hL (B13 (xs (i + 1)) (xs (i + 2)) (xs (i + 3))) K)
  · exact key 14 731 0 (by decide) rfl (lw_k14 C0 hi7 hL (B14 (xs (i + 1)) (xs (i + 2)) (xs (i + 3))) K)
  · exact key 15 774 0 (by decide) rfl (lw_k15 C0 hi7 hL (B15 (xs (i + 1)) (xs (i + 2))) K)
  · exact key 16 808 0 (by decide) rfl (lw_k16 C0 hi7 hL (B16 (xs (i + 1)) (xs (i + 2))) K)
  · exact key 17 841 0 (by decide) rfl (lw_k17 C0 hi7 hL (B17 (xs (i + 1)) (xs (i + 2)) (xs (i + 3)) (xs (i + 4)) (xs (i + 5)) (xs (i + 6))) K)
  · exact key 18 917 0 (by decide) rfl (lw_k18 C0 hi7 hL (B18 (xs (i + 1)) (xs (i + 2)) (xs (i + 3))) K)
  · exact key 19 961 0 (by decide) rfl (lw_k19 C0 hi7 hL (B19 (xs (i + 1)) (xs (i + 2)) (xs (i + 3)) (xs (i + 4)) (xs (i + 5))) K)
  · exact key 20 1024 0 (by decide) rfl (lw_k20 C0 hi7 hL (B20 (xs (i + 1)) (xs (i + 2))) K)
  · exact key 21 1057 0 (by decide) rfl (lw_k21 C0 hi7 hL (B21 (xs (i + 1)) (xs (i + 2)) (xs (i + 3)) (xs (i + 4))) K)
  · exact key 22 1110 0 (by decide) rfl (lw_k22 C0 hi7 hL (B22) K)
  · exact key 23 1123 0 (by decide) rfl (lw_k23 C0 hi7 hL (B23) K)
  · exact key 24 1136 0 (by decide) rfl (lw_k24 C0 hi7 hL (B24 (xs (i + 1))) K)
  · exact key 25 1159 0 (by decide) rfl (lw_k25 C0 hi7 hL (B25 (xs (i + 1)) (xs (i + 2)) (xs (i + 3))) K)
  · exact key 26 1202 0 (by decide) rfl (lw_k26 C0 hi7 hL (B26 (xs (i + 1)) (xs (i + 2)) (xs (i + 3))) K)
  · exact key 27 1245 0 (by decide) rfl (lw_k27 C0 hi7 hL (B27 (xs (i + 1)) (xs (i + 2))) K)
  · exact key 28 1279 0 (by decide) rfl (lw_k28 C0 hi7 hL (B28 (xs (i + 1)) (xs (i + 2)) (xs (i + 3)) (xs (i + 4)) (xs (i + 5))) K)
  · exact lv_tableOut (tgt := 1342) hx hb dl_33 (Or.inr (by decide)) rfl (K σ H locs ls hI hR hS hl)
  · exact lv_tableOut (tgt := 1342) hx hb dl_33 (Or.inr (by decide)) rfl (K σ H locs ls hI hR hS hl)
  · exact lv_tableOut (tgt := 1342) hx hb dl_33 (Or.inr (by decide)) rfl (K σ H locs ls hI hR hS hl)
theorem lw_loop {Inv : j_I3 → Prop} {p : Program} {l : Launch} {e : Env} {s : State} {m : MethodId} {below : List Frame} {meth : Method} {c : Code} {b L : Nat} {xs : Nat → Int32} {g : j_G} (C : lw_C p s m meth c b L xs g) (hL : L ≤ 3584) (B : lw_B Inv) : ∀ (n i : Nat), i ≤ L + 7 → L + 8 ≤ i + 7 * n → lw_At2 Inv p l e s m below meth c b g i 18 := by
  intro n
  induction n with
  | zero => intro i h1 h2; exact absurd h2 (by omega)
  | succ n ih =>
    intro i h1 h2
    exact lw_body C hL h1 B (fun h7 => lw_next C (ih (i + 7) (by omega) (by omega)))
