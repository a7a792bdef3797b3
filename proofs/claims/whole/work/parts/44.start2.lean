/-! the law's first steps: both sides are made -/
def st_I0 : Nat → Nat → Int32 := fun _ _ => 0
def st_D : Nat → Nat → UInt64 := fun _ _ => 0
def st_R0 : Nat → Nat → Option Nat := fun _ _ => none
set_option maxRecDepth 20000 in
def st_I1 : Nat → Nat → Int32 := (j_u (j_u (j_u (j_u (j_u (j_u (j_u (j_u (j_u (j_u (j_u (j_u (j_u (j_u (j_u (j_u (j_u (j_u (j_u (j_u (j_u (j_u (j_u (j_u (j_u (j_u (j_u (j_u (j_u (j_u (j_u (j_u (j_u (j_u (j_u (j_u (j_u (j_u (j_u (j_u (j_u (j_u (j_u (j_u (j_u (j_u (j_u (j_u (j_u (j_u (j_u (j_u (j_u (j_u (j_u (j_u (j_u (j_u (j_u (j_u (j_u (j_u (j_u (j_u (j_u (j_u (j_u (j_u (j_u (j_u (j_u (j_u (j_u (j_u (j_u (j_u (j_u (j_u (j_u (j_u (j_u (j_u st_I0 205 0 0) 205 1 1) 205 2 2) 205 3 3) 205 4 4) 205 5 5) 205 6 6) 205 7 7) 205 8 8) 205 9 9) 205 10 10) 205 11 11) 205 12 12) 205 13 13) 205 14 14) 205 15 15) 205 16 16) 205 17 17) 205 18 18) 205 19 19) 205 20 20) 205 21 21) 205 22 22) 205 23 23) 205 24 24) 205 25 25) 205 26 26) 205 27 27) 205 28 28) 205 29 29) 206 0 1) 207 0 1) 206 1 2) 207 1 2) 206 2 4) 207 2 4) 206 3 8) 207 3 8) 206 4 16) 207 4 16) 206 5 32) 207 5 32) 206 6 64) 207 6 64) 206 7 128) 207 7 128) 206 8 256) 207 8 256) 206 9 512) 207 9 512) 206 10 1024) 207 10 1024) 206 11 2048) 207 11 2048) 206 12 4096) 207 12 4096) 206 13 8192) 207 13 8192) 206 14 16384) 207 14 16384) 206 15 32768) 207 15 32768) 206 16 65536) 207 16 65536) 206 17 131072) 207 17 131072) 206 18 262144) 207 18 262144) 206 19 524288) 207 19 524288) 206 20 1048576) 207 20 1048576) 206 21 2097152) 207 21 2097152) 206 22 4194304) 207 22 4194304) 206 23 8388608) 207 23 8388608) 248 0 (-1)) 251 0 (-1)) 254 0 (-1)) 257 0 (-1))
set_option maxRecDepth 20000 in
def st_R1 : Nat → Nat → Option Nat := (j_u (j_u (j_u (j_u (j_u (j_u (j_u (j_u (j_u (j_u (j_u (j_u (j_u (j_u (j_u (j_u (j_u (j_u (j_u (j_u (j_u (j_u (j_u (j_u (j_u (j_u (j_u (j_u (j_u (j_u (j_u (j_u (j_u (j_u (j_u (j_u (j_rm2 (j_u (j_rm2 (j_u (j_u (j_u (j_u (j_u (j_u (j_u (j_u (j_u (j_u (j_u (j_u (j_u (j_u (j_u (j_u (j_u (j_u (j_u (j_u (j_u (j_u (j_u (j_u (j_u (j_u (j_u (j_u (j_u (j_u (j_u (j_u (j_u (j_u (j_u (j_u (j_u (j_u (j_u (j_u (j_u (j_u (j_u (j_u (j_u (j_u (j_u (j_u (j_u (j_u (j_u (j_u (j_u (j_u (j_u (j_u (j_u (j_u (j_u (j_u (j_u (j_u (j_u (j_u (j_u (j_u (j_u (j_u (j_u (j_u (j_u (j_u (j_u (j_u (j_u (j_u (j_u (j_u (j_u (j_u (j_u (j_u (j_u (j_u (j_u (j_u (j_u (j_u (j_u (j_u (j_u (j_u (j_u (j_u (j_u (j_u (j_u (j_u (j_u (j_u (j_u (j_u (j_u (j_u (j_u (j_u (j_u (j_u (j_u (j_u (j_u (j_u (j_u (j_u (j_u (j_u (j_u (j_u (j_u (j_u (j_u (j_u (j_u (j_u (j_u (j_u (j_u (j_u (j_u (j_u (j_u (j_u (j_u (j_u (j_u (j_u (j_u (j_u (j_u (j_u (j_u (j_u (j_u (j_u (j_u (j_u (j_u (j_u (j_u (j_u (j_u (j_u (j_u (j_u (j_u (j_u (j_u (j_u (j_u (j_u (j_u (j_u (j_u (j_u (j_u (j_u (j_u (j_u (j_u (j_u (j_u (j_u (j_u (j_u (j_u (j_u (j_u (j_u (j_u (j_u (j_u (j_u (j_u (j_u (j_u (j_u (j_u (j_u (j_u (j_u (j_u (j_u (j_u (j_u (j_u (j_u (j_u (j_u (j_u (j_u (j_u (j_u (j_u (j_u (j_u (j_u (j_u (j_u (j_u (j_u st_R0 1 0 (some 2)) 1 1 (some 3)) 1 2 (some 4)) 1 3 (some 5)) 1 4 (some 6)) 7 0 (some 8)) 7 3 (some 9)) 5 0 (some 7)) 10 0 (some 11)) 10 3 (some 12)) 5 1 (some 10)) 13 0 (some 14)) 13 3 (some 15)) 5 2 (some 13)) 16 0 (some 17)) 16 3 (some 18)) 5 3 (some 16)) 19 0 (some 20)) 19 3 (some 21)) 5 4 (some 19)) 22 0 (some 23)) 22 3 (some 24)) 5 5 (some 22)) 25 0 (some 26)) 25 3 (some 27)) 5 6 (some 25)) 28 0 (some 29)) 28 3 (some 30)) 5 7 (some 28)) 31 0 (some 32)) 31 3 (some 33)) 5 8 (some 31)) 34 0 (some 35)) 34 3 (some 36)) 5 9 (some 34)) 37 0 (some 38)) 37 3 (some 39)) 5 10 (some 37)) 40 0 (some 41)) 40 3 (some 42)) 5 11 (some 40)) 43 0 (some 44)) 43 3 (some 45)) 5 12 (some 43)) 46 0 (some 47)) 46 3 (some 48)) 5 13 (some 46)) 49 0 (some 50)) 49 3 (some 51)) 5 14 (some 49)) 52 0 (some 53)) 52 3 (some 54)) 5 15 (some 52)) 55 0 (some 56)) 55 3 (some 57)) 5 16 (some 55)) 58 0 (some 59)) 58 3 (some 60)) 5 17 (some 58)) 61 0 (some 62)) 61 3 (some 63)) 5 18 (some 61)) 64 0 (some 65)) 64 3 (some 66)) 5 19 (some 64)) 67 0 (some 68)) 67 3 (some 69)) 5 20 (some 67)) 70 0 (some 71)) 70 3 (some 72)) 5 21 (some 70)) 73 0 (some 74)) 73 3 (some 75)) 5 22 (some 73)) 76 0 (some 77)) 76 3 (some 78)) 5 23 (some 76)) 79 6 (some 80)) 79 7 (some 81)) 6 0 (some 79)) 82 6 (some 83)) 82 7 (some 84)) 6 1 (some 82)) 85 6 (some 86)) 85 7 (some 87)) 6 2 (some 85)) 88 6 (some 89)) 88 7 (some 90)) 6 3 (some 88)) 91 6 (some 92)) 91 7 (some 93)) 6 4 (some 91)) 94 6 (some 95)) 94 7 (some 96)) 6 5 (some 94)) 0 3 (some 1)) 97 0 (some 98)) 99 0 (some 100)) 99 3 (some 101)) 97 2 (some 99)) 0 5 (some 97)) 102 6 (some 103)) 102 7 (some 104)) 0 6 (some 102)) 0 7 (some 105)) 0 8 (some 106)) 108 0 (some 109)) 108 1 (some 110)) 108 2 (some 111)) 108 3 (some 112)) 108 4 (some 113)) 114 0 (some 115)) 114 3 (some 116)) 112 0 (some 114)) 117 0 (some 118)) 117 3 (some 119)) 112 1 (some 117)) 120 0 (some 121)) 120 3 (some 122)) 112 2 (some 120)) 123 0 (some 124)) 123 3 (some 125)) 112 3 (some 123)) 126 0 (some 127)) 126 3 (some 128)) 112 4 (some 126)) 129 0 (some 130)) 129 3 (some 131)) 112 5 (some 129)) 132 0 (some 133)) 132 3 (some 134)) 112 6 (some 132)) 135 0 (some 136)) 135 3 (some 137)) 112 7 (some 135)) 138 0 (some 139)) 138 3 (some 140)) 112 8 (some 138)) 141 0 (some 142)) 141 3 (some 143)) 112 9 (some 141)) 144 0 (some 145)) 144 3 (some 146)) 112 10 (some 144)) 147 0 (some 148)) 147 3 (some 149)) 112 11 (some 147)) 150 0 (some 151)) 150 3 (some 152)) 112 12 (some 150)) 153 0 (some 154)) 153 3 (some 155)) 112 13 (some 153)) 156 0 (some 157)) 156 3 (some 158)) 112 14 (some 156)) 159 0 (some 160)) 159 3 (some 161)) 112 15 (some 159)) 162 0 (some 163)) 162 3 (some 164)) 112 16 (some 162)) 165 0 (some 166)) 165 3 (some 167)) 112 17 (some 165)) 168 0 (some 169)) 168 3 (some 170)) 112 18 (some 168)) 171 0 (some 172)) 171 3 (some 173)) 112 19 (some 171)) 174 0 (some 175)) 174 3 (some 176)) 112 20 (some 174)) 177 0 (some 178)) 177 3 (some 179)) 112 21 (some 177)) 180 0 (some 181)) 180 3 (some 182)) 112 22 (some 180)) 183 0 (some 184)) 183 3 (some 185)) 112 23 (some 183)) 186 6 (some 187)) 186 7 (some 188)) 113 0 (some 186)) 189 6 (some 190)) 189 7 (some 191)) 113 1 (some 189)) 192 6 (some 193)) 192 7 (some 194)) 113 2 (some 192)) 195 6 (some 196)) 195 7 (some 197)) 113 3 (some 195)) 198 6 (some 199)) 198 7 (some 200)) 113 4 (some 198)) 201 6 (some 202)) 201 7 (some 203)) 113 5 (some 201)) 107 0 (some 108)) 204 0 (some 205)) 204 1 (some 206)) 204 2 (some 207)) 204 3 (some 208)) 204 4 (some 209)) 204 5 (some 210)) 107 1 (some 204)) 107 2 (some 211)) 212 7) 107 3 (some 212)) 220 7) 107 4 (some 220)) 107 5 (some 228)) 107 6 (some 229)) 230 1 (some 231)) 230 2 (some 232)) 211 0 (some 230)) 233 1 (some 234)) 233 2 (some 235)) 211 1 (some 233)) 236 1 (some 237)) 236 2 (some 238)) 211 2 (some 236)) 239 1 (some 240)) 239 2 (some 241)) 211 3 (some 239)) 242 1 (some 243)) 242 2 (some 244)) 211 4 (some 242)) 245 1 (some 246)) 245 2 (some 247)) 211 5 (some 245)) 0 0 (some 107)) 0 1 (some 108)) 0 2 (some 204)) 248 2 (some 249)) 248 3 (some 250)) 105 0 (some 248)) 251 2 (some 252)) 251 3 (some 253)) 105 1 (some 251)) 254 2 (some 255)) 254 3 (some 256)) 105 2 (some 254)) 257 2 (some 258)) 257 3 (some 259)) 105 3 (some 257))
set_option maxRecDepth 20000 in
def st_I2 : Nat → Nat → Int32 := (j_u (j_u (j_u (j_u st_I1 503 0 (-1)) 503 1 (-1)) 503 2 (-1)) 503 3 (-1))
set_option maxRecDepth 20000 in
def st_R2 : Nat → Nat → Option Nat := (j_u (j_u (j_u (j_rm2 (j_u (j_rm2 (j_u (j_u (j_u (j_rm2 (j_u (j_u (j_u (j_u (j_u (j_rm2 (j_u (j_rm2 (j_u (j_u (j_u (j_u (j_u (j_u (j_u (j_u (j_u (j_u (j_u (j_u (j_u (j_u (j_u (j_u (j_u (j_u (j_rm2 (j_u (j_rm2 (j_u (j_rm2 (j_u (j_rm2 (j_u (j_rm2 (j_u (j_rm2 (j_u (j_rm2 (j_u (j_u (j_u (j_u (j_u (j_rm2 (j_u (j_u (j_rm2 (j_u (j_u (j_u (j_u (j_u (j_u (j_rm2 (j_u (j_rm2 (j_u (j_u (j_u (j_u st_R1 260 0 (some 261)) 260 1 (some 262)) 260 2 (some 263)) 260 3 (some 264)) 265 24) 260 4 (some 265)) 290 24) 260 5 (some 290)) 260 6 (some 315)) 260 7 (some 316)) 260 8 (some 317)) 260 9 (some 318)) 260 10 (some 319)) 320 12) 260 11 (some 320)) 260 12 (some 333)) 334 24) 260 13 (some 334)) 260 14 (some 359)) 260 15 (some 360)) 260 16 (some 361)) 260 17 (some 362)) 363 7) 260 19 (some 363)) 371 7) 260 20 (some 371)) 379 7) 260 21 (some 379)) 387 7) 260 22 (some 387)) 395 7) 260 23 (some 395)) 403 7) 260 24 (some 403)) 411 7) 260 25 (some 411)) 260 27 (some 419)) 260 28 (some 420)) 260 29 (some 421)) 260 33 (some 422)) 260 35 (some 423)) 260 36 (some 424)) 260 47 (some 425)) 260 48 (some 426)) 260 49 (some 427)) 260 50 (some 428)) 260 55 (some 429)) 260 56 (some 430)) 260 58 (some 431)) 260 59 (some 432)) 260 60 (some 433)) 260 61 (some 434)) 260 62 (some 435)) 436 24) 260 63 (some 436)) 461 24) 260 64 (some 461)) 260 65 (some 486)) 260 66 (some 487)) 260 67 (some 488)) 260 68 (some 489)) 490 12) 260 69 (some 490)) 260 70 (some 503)) 260 71 (some 504)) 505 4) 260 72 (some 505)) 510 4) 260 73 (some 510)) 260 74 (some 515)) 260 75 (some 516))
set_option maxRecDepth 20000 in
theorem st_c1 {d : Nat} (hd : 4 ≤ d) : j_Call d 0 [.ref 0] (wn 1) (st_I0, st_D, st_R0) 259 8213 (fun r w τ => r = none ∧ w = wn 260 ∧ τ = (st_I1, st_D, st_R1) ∧ j_Fr (wn 260) (st_I1, st_D, st_R1)) :=
  ini0 hd (fun o _ f => ⟨rfl, rfl, rfl⟩) (fun h => ⟨rfl, rfl, rfl, h⟩)
set_option maxRecDepth 20000 in
theorem st_c2 {d : Nat} (hd : 1 ≤ d) (hF : j_Fr (wn 261) (st_I1, st_D, st_R1)) : j_Call d 165 [.ref 260] (wn 261) (st_I1, st_D, st_R1) 256 26859 (fun r w τ => r = none ∧ w = wn 517 ∧ τ = (st_I2, st_D, st_R2)) :=
  ini165 hd hF (fun h => ⟨rfl, rfl, rfl⟩)
def st_ok (o f : Nat) : Bool := match j_rst o f with | none => true | some x => st_R2 o f == some x
set_option maxRecDepth 20000 in
theorem st_all : ∀ o, o < 517 → ∀ f, f < 100 → st_ok o f = true := by decide +kernel
theorem rst_sz : ∀ o, o < 517 → ((j_shp o).1 = 103 ∨ (j_shp o).1 = 104 ∨ (j_shp o).1 = 105) → (j_shp o).2 ≤ 100 := by decide +kernel
theorem sl3_len : j_sl3.length = 127 := by decide +kernel
theorem shp_big {o : Nat} (h : 517 ≤ o) : j_shp o = (0, 0) := by
  unfold j_shp
  rw [if_neg (by omega), if_neg (by omega), if_neg (by omega)]
  rw [List.getD_eq_getElem?_getD, List.getElem?_eq_none (show j_sl3.length ≤ o - 390 by rw [sl3_len]; omega)]
  rfl
theorem rst_big {o f : Nat} (h : 517 ≤ o) : j_rst o f = none := by
  unfold j_rst
  rw [shp_big h]
  simp only
  repeat rw [if_neg (by omega)]
theorem rst_f {o f : Nat} (ho : o < 517) (h : 100 ≤ f) : j_rst o f = none := by
  obtain ⟨k, rfl⟩ : ∃ k, f = k + 100 := ⟨f - 100, by omega⟩
  have hz := rst_sz o ho
  unfold j_rst
  split
  · rw [if_neg (by omega), if_neg (by omega)]
  · rw [if_neg (by omega), if_neg (by omega)]
  · rw [if_neg (by omega), if_neg (by omega)]
  · rw [if_neg (by omega), if_neg (by omega)]
  · rename_i e; rw [if_neg (by have := hz (by omega); omega)]
  · rename_i e; rw [if_neg (by have := hz (by omega); omega)]
  · rename_i e; rw [if_neg (by have := hz (by omega); omega)]
  · repeat' split
    all_goals first | rfl | (exfalso; omega)
theorem st_RR : RR st_R2 = st_R2 := by
  funext o f
  unfold RR
  cases e : j_rst o f with
  | none => rfl
  | some x =>
    have ho : o < 517 := Nat.not_le.mp fun h => by rw [rst_big h] at e; cases e
    have hf : f < 100 := Nat.not_le.mp fun h => by rw [rst_f ho h] at e; cases e
    have := st_all o ho f hf
    unfold st_ok at this
    rw [e] at this
    exact (eq_of_beq this).symm
def st_σ : j_I3 := (st_I2, st_D, st_R2)
theorem st_e3 : e3 st_σ = (st_I2, st_D, st_R2) := by
  show (st_I2, st_D, RR st_R2) = _
  rw [st_RR]
section STW
variable {p : Program} {l : Launch} {e : Env} {s : State} {m : MethodId} {below : List Frame} {meth : Method} {c : Code} {H : Heap} {locs : List Loc} {cells slots : Nat} {Q : State → Prop} {args : Array Value} {g : j_G} {ls : Array Slot} {pc : Nat} {st : List Value} {τ : j_St}
theorem lw_new {idx ci N : Nat} (hx : p.tables.exec = Jvm.exec) (hb : c.code = code) (hown : s.vm.findClass RL = some m.cls) (hts : ∀ w ∈ lw_tbl, w.before args s = true) (hK : j_K g s) (hR : j_Rep g (wn N) τ H) (hS : va_S (j_A g) s.heap H locs) (hF : j_Fr (wn N) τ) (hd : decode code pc = .ok (.new idx, 3)) (h1 : Cond.classLink RL idx (j_cn ci) ∈ lw_tbl) (h2 : Cond.instantiable (j_cn ci) (j_nf ci) ∈ lw_tbl) (h3 : Cond.initialized (j_cn ci) ∈ lw_tbl) (hc : ci < 11) (hsh : j_shp N = (ci, 0)) (hw : N + 1 < 1000000) (hk : cells + 1 ≤ 600000) (hn : slots + j_nf ci ≤ 7302250)
    (kk : ∀ H1 : Heap, j_Rep g (wn (N + 1)) τ H1 → va_S (j_A g) s.heap H1 locs → j_Fr (wn (N + 1)) τ → W p l e room_1 s m args below meth c H1 locs (cells + 1) (slots + j_nf ci) Q (F0 m (pc + 3) ls (.ref (g.1 + N) :: st))) : W p l e room_1 s m args below meth c H locs cells slots Q (F0 m pc ls st) := by
  have hKn := hK.1.1 ci _ (j_cl hc)
  refine W.newcK hx hb hown (hts _ h1) (hts _ h2) (hts _ h3) (g := F0 m pc ls st) rfl hd hk hn hKn.2.1 rfl fun H1 kC hkC e1 z1 o1 => ?_
  have hz : H.size = g.1 + N := hR.1
  have hob : j_obj g (ci, 0) τ N H1 := by
    refine Or.inl ⟨by show ci < 100; omega, hc, ?_⟩
    rw [hz] at e1
    exact (u_born (j_fty ci) hts (fun w hw => ((lw_good j_m11) w (j_uin hc w hw)).1) hKn hkC e1 (j_tyo ci hc)).to fun f hf => (j_fv_zero hF (Nat.le_refl _) _ (j_fty_ok ci hc f hf)).symm
  have h9 := kk H1 ((hR.new hw z1 o1 hob).cg (w' := wn (N + 1)) rfl (fun o ho => by
    show j_shp o = if o = N then (ci, 0) else j_shp o
    by_cases e : o = N
    · rw [if_pos e, e, hsh]
    · rw [if_neg e])) (hS.new (by omega) o1) (hF.up (Nat.le_succ _))
  rw [hz]
  exact h9
theorem lw_init {idx j d' o mc' ms' : Nat} {rest : List Value} {w : j_Wd} {Q' : j_Po} (hx : p.tables.exec = Jvm.exec) (hb : c.code = code) (hml : c.maxLocals = 4) (hown : s.vm.findClass RL = some m.cls) (hts : ∀ w ∈ lw_tbl, w.before args s = true) (hK : j_K g s) (hR : j_Rep g w τ H) (hS : va_S (j_A g) s.heap H locs) (hls : ls.size = 4)
    (hd : decode code pc = .ok (.invokespecial idx, 3)) (h1 : Cond.methodLink RL idx (j_y j) ∈ lw_tbl) (h2 : Cond.instanceMethod (j_y j) ∈ lw_tbl) (h4 : Cond.initialized (j_own j) ∈ lw_tbl) (h5 : j_MM j) (h6 : (parseMethodDescriptor (j_y j).desc).map (fun d => d.parameters.length) = some 0) (h7 : (j_y j).name = "<init>") (h8 : j_rt j = none) (hdp : d' ≤ 1000) (hml2 : j_ml j ≤ 45) (hrest : (rest.map fun v => v.category).sum ≤ 8) (ho : o < w.1) (hcl : cells + mc' ≤ 600000) (hsl : slots + ms' ≤ 7302250)
    (hM : j_Call d' j [.ref o] w τ mc' ms' Q')
    (kk : ∀ (r : Option Value) (w' : j_Wd) (τ' : j_St) (H1 : Heap) (locs1 : List Loc), Q' r w' τ' → j_Rep g w' τ' H1 → va_S (j_A g) s.heap H1 locs1 → W p l e room_1 s m args below meth c H1 locs1 (cells + mc') (slots + ms') Q (F0 m (pc + 3) ls ((r.map (j_cv g)).toList ++ rest))) :
    W p l e room_1 s m args below meth c H locs cells slots Q (F0 m pc ls (.ref (g.1 + o) :: rest)) := by
  have cw : CallB room_1 s args RL idx (j_y j) (j_b j) (j_ml j) (j_rt j) (j_ws j) (j_rm d' mc' ms') mc' ms' 0 :=
    callB_of 0 hts (lw_good h5) rfl rfl rfl (hts _ h4) (hts _ h1) ⟨h5.2.2.1, h5.2.2.2, h6⟩ ⟨by show d' + 1 ≤ 2048; omega, by show 8 + (j_ml j + 11) + 64 * d' ≤ 84000; omega⟩
  rw [h8] at cw
  have e1 : ([Value.ref o] : List Value).map (j_cv g) = [.ref (g.1 + o)] := by rw [List.map_cons, j_cv_ref hR ho]; rfl
  have hp : ∀ U : State, U.heap = H → s.WarmedH U.vm → j_P g [.ref o] w τ ([Value.ref (g.1 + o)] : List Value).toArray U := fun U hU hW => ⟨by rw [e1], by rw [hU]; exact hR, hK.to hW (by rw [hU]; exact hS)⟩
  exact lw_after hR hS (va_runI (As := []) (b := g.1 + o) (rest := rest) ⟨hx, hb, hml, hown, hts⟩ (hM l g) ⟨cw, h7, hts _ h2⟩ ⟨j_P_blind g _ w τ, hp⟩ rfl rfl hls rfl (lv_room hrest) hd ⟨hcl, hsl⟩) kk
end STW
theorem lw_start0 {Inv : j_I3 → Prop} (B : lw_B Inv) (h0 : Inv st_σ) {p : Program} {e : Env} {s : State} {m : MethodId} {below : List Frame} {meth : Method} {c : Code} {b L : Nat} {xs : Nat → Int32} (l : Launch) (_ : l.flags = flags0) (hL : L ≤ 3584) (h : lw_At p s m meth c b L xs) :
    W p l e room_1 s m #[Value.ref b] below meth c s.heap [] 0 0 (lw_Z below #[Value.ref b] s) (entryFrame m ([Value.ref b] : List Value).toArray 4) := by
  obtain ⟨hx, hb, hr, hml, hown, hts, hX, hbl, hlk, hgv⟩ := h
  obtain ⟨g, hg, hK⟩ := lw_g hts hgv
  have C : lw_C p s m meth c b L xs g := ⟨hx, hb, hr, hml, hown, hts, hX, hbl, hlk, hK, hg⟩
  rw [lg_entry_eq]
  have hl : lv_has _ 4 [(0, .ref b)] := lv_entry [Value.ref b] (n := 4) (Nat.le_of_ble_eq_true rfl)
  have hR0 : j_Rep g (wn 0) (st_I0, st_D, st_R0) s.heap := ⟨hg.symm, by decide, fun o ho => absurd ho (Nat.not_lt_zero o)⟩
  refine lw_new (ci := 9) (N := 0) hx hb hown hts hK hR0 va_S.rf (fun o _ f => ⟨rfl, rfl, rfl⟩) dl_0 (by decide +kernel) (g_inst 9 (by decide)) (by decide +kernel) (by decide) rfl (by decide) (by decide) (by decide) fun H1 hR1 hS1 hF1 => ?_
  refine lv_dup hx hb dl_3 rfl ?_
  refine lw_init (j := 0) (d' := 4) (o := 0) hx hb hml hown hts hK hR1 hS1 hl.1 dl_4 (by decide +kernel) (by decide +kernel) (by decide +kernel) j_m0 (by decide +kernel) rfl rfl (by decide) (Nat.le_of_ble_eq_true rfl) (Nat.le_of_ble_eq_true rfl) (by decide) (by decide) (by decide) (st_c1 (Nat.le_refl _)) ?_
  rintro r w τ H2 locs2 ⟨rfl, rfl, rfl, hF2⟩ hR2 hS2
  refine lv_astore_n (i := 1) (lv' := [(1, .ref (g.1 + 0)), (0, .ref b)]) hx hb dl_7 rfl hl (by decide) rfl fun ls2 hl2 => ?_
  refine lw_new (ci := 10) (N := 260) hx hb hown hts hK hR2 hS2 hF2 dl_8 (by decide +kernel) (g_inst 10 (by decide)) (by decide +kernel) (by decide) rfl (by decide) (by decide) (by decide) fun H3 hR3 hS3 hF3 => ?_
  refine lv_dup hx hb dl_11 rfl ?_
  refine lw_init (j := 165) (d' := 1) (o := 260) hx hb hml hown hts hK hR3 hS3 hl2.1 dl_12 (by decide +kernel) (by decide +kernel) (by decide +kernel) j_m165 (by decide +kernel) rfl rfl (by decide) (Nat.le_of_ble_eq_true rfl) (Nat.le_of_ble_eq_true rfl) (by decide) (by decide) (by decide) (st_c2 (Nat.le_refl _) hF3) ?_
  rintro r w τ H4 locs4 ⟨rfl, rfl, rfl⟩ hR4 hS4
  refine lv_astore_n (i := 2) (lv' := [(2, .ref (g.1 + 260)), (1, .ref (g.1 + 0)), (0, .ref b)]) hx hb dl_15 rfl hl2 (by decide) rfl fun ls3 hl3 => ?_
  refine lv_iconst (v := 0) hx hb dl_16 (by decide) ?_
  refine lv_istore_n (i := 3) (lv' := [(3, .int 0), (2, .ref (g.1 + 260)), (1, .ref (g.1 + 0)), (0, .ref b)]) hx hb dl_17 rfl hl3 (by decide) rfl fun ls4 hl4 => ?_
  refine W.widen (k := 600000) (n := 7302250) (by decide) (by decide) ?_
  refine lw_loop C hL B (L + 8) 0 (Nat.zero_le _) (by omega) st_σ H4 locs4 ls4 h0 ?_ hS4 (lv_sub hl4 [3, 2, 1, 0] rfl)
  rw [st_e3]
  exact hR4
