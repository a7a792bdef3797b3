/-! the world behind the constructors: shapes, references that stay, links -/
def j_sl0 : List (Nat × Nat) := [(9, 0), (0, 0), (100, 24), (101, 24), (102, 24), (106, 24), (107, 6), (2, 0), (100, 96), (100, 6), (2, 0), (100, 96), (100, 6), (2, 0), (100, 96), (100, 6), (2, 0), (100, 96), (100, 6), (2, 0), (100, 96), (100, 6), (2, 0), (100, 96), (100, 6), (2, 0), (100, 96), (100, 6), (2, 0), (100, 96), (100, 6), (2, 0), (100, 96), (100, 6), (2, 0), (100, 96), (100, 6), (2, 0), (100, 96), (100, 6), (2, 0), (100, 96), (100, 6), (2, 0), (100, 96), (100, 6), (2, 0), (100, 96), (100, 6), (2, 0), (100, 96), (100, 6), (2, 0), (100, 96), (100, 6), (2, 0), (100, 96), (100, 6), (2, 0), (100, 96), (100, 6), (2, 0), (100, 96), (100, 6), (2, 0), (100, 96), (100, 6), (2, 0), (100, 96), (100, 6), (2, 0), (100, 96), (100, 6), (2, 0), (100, 96), (100, 6), (2, 0), (100, 96), (100, 6), (3, 0), (101, 8), (101, 8), (3, 0), (101, 8), (101, 8), (3, 0), (101, 8), (101, 8), (3, 0), (101, 8), (101, 8), (3, 0), (101, 8), (101, 8), (3, 0), (101, 8), (101, 8), (5, 0), (100, 96), (2, 0), (100, 96), (100, 6), (3, 0), (101, 8), (101, 8), (108, 4), (1, 0), (8, 0), (0, 0), (100, 24), (101, 24), (102, 24), (106, 24), (107, 6), (2, 0), (100, 96), (100, 6), (2, 0), (100, 96), (100, 6), (2, 0), (100, 96), (100, 6), (2, 0), (100, 96), (100, 6), (2, 0), (100, 96), (100, 6), (2, 0)]
def j_sl1 : List (Nat × Nat) := [(100, 96), (100, 6), (2, 0), (100, 96), (100, 6), (2, 0), (100, 96), (100, 6), (2, 0), (100, 96), (100, 6), (2, 0), (100, 96), (100, 6), (2, 0), (100, 96), (100, 6), (2, 0), (100, 96), (100, 6), (2, 0), (100, 96), (100, 6), (2, 0), (100, 96), (100, 6), (2, 0), (100, 96), (100, 6), (2, 0), (100, 96), (100, 6), (2, 0), (100, 96), (100, 6), (2, 0), (100, 96), (100, 6), (2, 0), (100, 96), (100, 6), (2, 0), (100, 96), (100, 6), (2, 0), (100, 96), (100, 6), (2, 0), (100, 96), (100, 6), (2, 0), (100, 96), (100, 6), (2, 0), (100, 96), (100, 6), (3, 0), (101, 8), (101, 8), (3, 0), (101, 8), (101, 8), (3, 0), (101, 8), (101, 8), (3, 0), (101, 8), (101, 8), (3, 0), (101, 8), (101, 8), (3, 0), (101, 8), (101, 8), (4, 0), (100, 30), (100, 24), (100, 24), (100, 30), (100, 24), (100, 6), (109, 6), (103, 7), (101, 24), (101, 24), (101, 24), (101, 24), (101, 24), (101, 24), (101, 24), (104, 7), (100, 24), (100, 24), (100, 24), (100, 24), (100, 24), (100, 24), (100, 24), (101, 256), (100, 256), (7, 0), (101, 64), (100, 64), (7, 0), (101, 64), (100, 64), (7, 0), (101, 64), (100, 64), (7, 0), (101, 64), (100, 64), (7, 0), (101, 64), (100, 64), (7, 0), (101, 64), (100, 64), (6, 0), (101, 64), (102, 64), (6, 0), (101, 64), (102, 64), (6, 0), (101, 64), (102, 64), (6, 0), (101, 64), (102, 64)]
def j_sl2 : List (Nat × Nat) := [(10, 0), (100, 24), (102, 24), (101, 24), (100, 24), (104, 24), (100, 96), (100, 96), (100, 96), (100, 96), (100, 96), (100, 96), (100, 96), (100, 96), (100, 96), (100, 96), (100, 96), (100, 96), (100, 96), (100, 96), (100, 96), (100, 96), (100, 96), (100, 96), (100, 96), (100, 96), (100, 96), (100, 96), (100, 96), (100, 96), (103, 24), (101, 96), (101, 96), (101, 96), (101, 96), (101, 96), (101, 96), (101, 96), (101, 96), (101, 96), (101, 96), (101, 96), (101, 96), (101, 96), (101, 96), (101, 96), (101, 96), (101, 96), (101, 96), (101, 96), (101, 96), (101, 96), (101, 96), (101, 96), (101, 96), (102, 6), (100, 6), (100, 6), (100, 6), (100, 12), (103, 12), (101, 8), (101, 8), (101, 8), (101, 8), (101, 8), (101, 8), (101, 8), (101, 8), (101, 8), (101, 8), (101, 8), (101, 8), (100, 24), (104, 24), (100, 6), (100, 6), (100, 6), (100, 6), (100, 6), (100, 6), (100, 6), (100, 6), (100, 6), (100, 6), (100, 6), (100, 6), (100, 6), (100, 6), (100, 6), (100, 6), (100, 6), (100, 6), (100, 6), (100, 6), (100, 6), (100, 6), (100, 6), (100, 6), (102, 24), (100, 24), (102, 24), (100, 24), (105, 7), (102, 24), (102, 24), (102, 24), (102, 24), (102, 24), (102, 24), (102, 24), (103, 7), (101, 24), (101, 24), (101, 24), (101, 24), (101, 24), (101, 24), (101, 24), (104, 7), (100, 24), (100, 24), (100, 24), (100, 24), (100, 24), (100, 24), (100, 24), (104, 7), (100, 24), (100, 24)]
def j_sl3 : List (Nat × Nat) := [(100, 24), (100, 24), (100, 24), (100, 24), (100, 24), (105, 7), (102, 6), (102, 6), (102, 6), (102, 6), (102, 6), (102, 6), (102, 6), (103, 7), (101, 30), (101, 30), (101, 30), (101, 30), (101, 30), (101, 30), (101, 30), (104, 7), (100, 30), (100, 30), (100, 30), (100, 30), (100, 30), (100, 30), (100, 30), (101, 4800), (100, 4800), (100, 4800), (100, 96), (100, 96), (101, 96), (100, 96), (101, 96), (102, 6), (100, 6), (101, 24), (102, 24), (100, 24), (100, 24), (102, 24), (102, 6), (101, 24), (104, 24), (100, 96), (100, 96), (100, 96), (100, 96), (100, 96), (100, 96), (100, 96), (100, 96), (100, 96), (100, 96), (100, 96), (100, 96), (100, 96), (100, 96), (100, 96), (100, 96), (100, 96), (100, 96), (100, 96), (100, 96), (100, 96), (100, 96), (100, 96), (100, 96), (103, 24), (101, 96), (101, 96), (101, 96), (101, 96), (101, 96), (101, 96), (101, 96), (101, 96), (101, 96), (101, 96), (101, 96), (101, 96), (101, 96), (101, 96), (101, 96), (101, 96), (101, 96), (101, 96), (101, 96), (101, 96), (101, 96), (101, 96), (101, 96), (101, 96), (100, 6), (100, 6), (100, 6), (100, 12), (103, 12), (101, 8), (101, 8), (101, 8), (101, 8), (101, 8), (101, 8), (101, 8), (101, 8), (101, 8), (101, 8), (101, 8), (101, 8), (100, 4), (100, 4), (103, 4), (101, 64), (101, 64), (101, 64), (101, 64), (105, 4), (102, 64), (102, 64), (102, 64), (102, 64), (101, 64), (102, 64)]
def j_shp (o : Nat) : Nat × Nat := if o < 130 then j_sl0.getD o (0, 0) else if o < 260 then j_sl1.getD (o - 130) (0, 0) else if o < 390 then j_sl2.getD (o - 260) (0, 0) else j_sl3.getD (o - 390) (0, 0)
def w1 : j_Wd := (517, j_shp)
def j_FLs : List Nat := [7, 10, 13, 16, 19, 22, 25, 28, 31, 34, 37, 40, 43, 46, 49, 52, 55, 58, 61, 64, 67, 70, 73, 76, 99, 114, 117, 120, 123, 126, 129, 132, 135, 138, 141, 144, 147, 150, 153, 156, 159, 162, 165, 168, 171, 174, 177, 180, 183]
def j_GLs : List Nat := [79, 82, 85, 88, 91, 94, 102, 186, 189, 192, 195, 198, 201]
def j_r1 (f : Nat) : Option Nat := match f with | 0 => some 2 | 1 => some 3 | 2 => some 4 | 3 => some 5 | 4 => some 6 | _ => none
def j_r0 (f : Nat) : Option Nat := match f with | 0 => some 107 | 1 => some 108 | 2 => some 204 | 3 => some 1 | 5 => some 97 | 7 => some 105 | 8 => some 106 | _ => none
def j_r97 (f : Nat) : Option Nat := match f with | 0 => some 98 | _ => none
def j_r108 (f : Nat) : Option Nat := match f with | 0 => some 109 | 1 => some 110 | 2 => some 111 | 3 => some 112 | 4 => some 113 | _ => none
def j_r107 (f : Nat) : Option Nat := match f with | 0 => some 108 | 1 => some 204 | 2 => some 211 | 3 => some 212 | 4 => some 220 | 5 => some 228 | 6 => some 229 | _ => none
def j_r204 (f : Nat) : Option Nat := match f with | 0 => some 205 | 1 => some 206 | 2 => some 207 | 3 => some 208 | 4 => some 209 | 5 => some 210 | _ => none
def j_r260 (f : Nat) : Option Nat := match f with | 0 => some 261 | 1 => some 262 | 2 => some 263 | 3 => some 264 | 4 => some 265 | 5 => some 290 | 6 => some 315 | 7 => some 316 | 8 => some 317 | 9 => some 318 | 10 => some 319 | 11 => some 320 | 12 => some 333 | 13 => some 334 | 14 => some 359 | 15 => some 360 | 16 => some 361 | 17 => some 362 | 19 => some 363 | 20 => some 371 | 21 => some 379 | 22 => some 387 | 23 => some 395 | 24 => some 403 | 25 => some 411 | 27 => some 419 | 28 => some 420 | 29 => some 421 | 33 => some 422 | 35 => some 423 | 36 => some 424 | 47 => some 425 | 48 => some 426 | 49 => some 427 | 50 => some 428 | 55 => some 429 | 56 => some 430 | 58 => some 431 | 59 => some 432 | 60 => some 433 | 61 => some 434 | 62 => some 435 | 63 => some 436 | 64 => some 461 | 65 => some 486 | 66 => some 487 | 67 => some 488 | 68 => some 489 | 69 => some 490 | 70 => some 503 | 71 => some 504 | 72 => some 505 | 73 => some 510 | 74 => some 515 | 75 => some 516 | _ => none
/-- the references that nothing writes behind the constructors -/
def j_rst (o f : Nat) : Option Nat := match (j_shp o).1 with
  | 2 => if f = 0 then some (o + 1) else if f = 3 then some (o + 2) else none
  | 3 => if f = 6 then some (o + 1) else if f = 7 then some (o + 2) else none
  | 6 => if f = 2 then some (o + 1) else if f = 3 then some (o + 2) else none
  | 7 => if f = 1 then some (o + 1) else if f = 2 then some (o + 2) else none
  | 103 => if f < (j_shp o).2 then some (o + 1 + f) else none
  | 104 => if f < (j_shp o).2 then some (o + 1 + f) else none
  | 105 => if f < (j_shp o).2 then some (o + 1 + f) else none
  | _ => if o = 5 then (if f < 24 then some (7 + 3 * f) else none) else if o = 6 then (if f < 6 then some (79 + 3 * f) else none) else if o = 105 then (if f < 4 then some (248 + 3 * f) else none) else if o = 211 then (if f < 6 then some (230 + 3 * f) else none) else if o = 1 then j_r1 f else if o = 0 then j_r0 f else if o = 97 then j_r97 f else if o = 108 then j_r108 f else if o = 107 then j_r107 f else if o = 204 then j_r204 f else if o = 260 then j_r260 f else none
def RR (R : Nat → Nat → Option Nat) (o f : Nat) : Option Nat := match j_rst o f with
  | some x => some x
  | none => R o f
theorem RR_s {R : Nat → Nat → Option Nat} {o f x : Nat} (h : j_rst o f = some x) : RR R o f = some x := by unfold RR; rw [h]
theorem RR_d {R : Nat → Nat → Option Nat} {o f : Nat} (h : j_rst o f = none) : RR R o f = R o f := by unfold RR; rw [h]
theorem RR_u {R : Nat → Nat → Option Nat} {o f : Nat} {x : Option Nat} (h : j_rst o f = none) : j_u (RR R) o f x = RR (j_u R o f x) := by
  funext o' f'
  by_cases h1 : o' = o
  · subst h1
    by_cases h2 : f' = f
    · subst h2
      rw [j_u_same, RR_d h, j_u_same]
    · rw [j_u_k _ _ h2]
      unfold RR
      rw [j_u_k _ _ h2]
  · rw [j_u_o _ _ _ h1]
    unfold RR
    rw [j_u_o _ _ _ h1]
theorem sh0 : w1.2 0 = (9, 0) := rfl
theorem sh1 : w1.2 1 = (0, 0) := rfl
theorem sh2 : w1.2 2 = (100, 24) := rfl
theorem sh3 : w1.2 3 = (101, 24) := rfl
theorem sh4 : w1.2 4 = (102, 24) := rfl
theorem sh5 : w1.2 5 = (106, 24) := rfl
theorem sh6 : w1.2 6 = (107, 6) := rfl
theorem sh8 : w1.2 8 = (100, 96) := rfl
theorem sh9 : w1.2 9 = (100, 6) := rfl
theorem sh11 : w1.2 11 = (100, 96) := rfl
theorem sh12 : w1.2 12 = (100, 6) := rfl
theorem sh14 : w1.2 14 = (100, 96) := rfl
theorem sh15 : w1.2 15 = (100, 6) := rfl
theorem sh17 : w1.2 17 = (100, 96) := rfl
theorem sh18 : w1.2 18 = (100, 6) := rfl
theorem sh20 : w1.2 20 = (100, 96) := rfl
theorem sh21 : w1.2 21 = (100, 6) := rfl
theorem sh23 : w1.2 23 = (100, 96) := rfl
theorem sh24 : w1.2 24 = (100, 6) := rfl
theorem sh26 : w1.2 26 = (100, 96) := rfl
theorem sh27 : w1.2 27 = (100, 6) := rfl
theorem sh29 : w1.2 29 = (100, 96) := rfl
theorem sh30 : w1.2 30 = (100, 6) := rfl
theorem sh32 : w1.2 32 = (100, 96) := rfl
theorem sh33 : w1.2 33 = (100, 6) := rfl
theorem sh35 : w1.2 35 = (100, 96) := rfl
theorem sh36 : w1.2 36 = (100, 6) := rfl
theorem sh38 : w1.2 38 = (100, 96) := rfl
theorem sh39 : w1.2 39 = (100, 6) := rfl
theorem sh41 : w1.2 41 = (100, 96) := rfl
theorem sh42 : w1.2 42 = (100, 6) := rfl
theorem sh44 : w1.2 44 = (100, 96) := rfl
theorem sh45 : w1.2 45 = (100, 6) := rfl
theorem sh47 : w1.2 47 = (100, 96) := rfl
theorem sh48 : w1.2 48 = (100, 6) := rfl
theorem sh50 : w1.2 50 = (100, 96) := rfl
theorem sh51 : w1.2 51 = (100, 6) := rfl
theorem sh53 : w1.2 53 = (100, 96) := rfl
theorem sh54 : w1.2 54 = (100, 6) := rfl
theorem sh56 : w1.2 56 = (100, 96) := rfl
theorem sh57 : w1.2 57 = (100, 6) := rfl
theorem sh59 : w1.2 59 = (100, 96) := rfl
theorem sh60 : w1.2 60 = (100, 6) := rfl
theorem sh62 : w1.2 62 = (100, 96) := rfl
theorem sh63 : w1.2 63 = (100, 6) := rfl
theorem sh65 : w1.2 65 = (100, 96) := rfl
theorem sh66 : w1.2 66 = (100, 6) := rfl
theorem sh68 : w1.2 68 = (100, 96) := rfl
theorem sh69 : w1.2 69 = (100, 6) := rfl
theorem sh71 : w1.2 71 = (100, 96) := rfl
theorem sh72 : w1.2 72 = (100, 6) := rfl
theorem sh74 : w1.2 74 = (100, 96) := rfl
theorem sh75 : w1.2 75 = (100, 6) := rfl
theorem sh77 : w1.2 77 = (100, 96) := rfl
theorem sh78 : w1.2 78 = (100, 6) := rfl
theorem sh80 : w1.2 80 = (101, 8) := rfl
theorem sh81 : w1.2 81 = (101, 8) := rfl
theorem sh83 : w1.2 83 = (101, 8) := rfl
theorem sh84 : w1.2 84 = (101, 8) := rfl
theorem sh86 : w1.2 86 = (101, 8) := rfl
theorem sh87 : w1.2 87 = (101, 8) := rfl
theorem sh89 : w1.2 89 = (101, 8) := rfl
theorem sh90 : w1.2 90 = (101, 8) := rfl
theorem sh92 : w1.2 92 = (101, 8) := rfl
theorem sh93 : w1.2 93 = (101, 8) := rfl
theorem sh95 : w1.2 95 = (101, 8) := rfl
theorem sh96 : w1.2 96 = (101, 8) := rfl
theorem sh97 : w1.2 97 = (5, 0) := rfl
theorem sh98 : w1.2 98 = (100, 96) := rfl
theorem sh100 : w1.2 100 = (100, 96) := rfl
theorem sh101 : w1.2 101 = (100, 6) := rfl
theorem sh103 : w1.2 103 = (101, 8) := rfl
theorem sh104 : w1.2 104 = (101, 8) := rfl
theorem sh105 : w1.2 105 = (108, 4) := rfl
theorem sh106 : w1.2 106 = (1, 0) := rfl
theorem sh107 : w1.2 107 = (8, 0) := rfl
theorem sh108 : w1.2 108 = (0, 0) := rfl
theorem sh109 : w1.2 109 = (100, 24) := rfl
theorem sh110 : w1.2 110 = (101, 24) := rfl
theorem sh111 : w1.2 111 = (102, 24) := rfl
theorem sh112 : w1.2 112 = (106, 24) := rfl
theorem sh113 : w1.2 113 = (107, 6) := rfl
theorem sh115 : w1.2 115 = (100, 96) := rfl
theorem sh116 : w1.2 116 = (100, 6) := rfl
theorem sh118 : w1.2 118 = (100, 96) := rfl
theorem sh119 : w1.2 119 = (100, 6) := rfl
theorem sh121 : w1.2 121 = (100, 96) := rfl
theorem sh122 : w1.2 122 = (100, 6) := rfl
theorem sh124 : w1.2 124 = (100, 96) := rfl
theorem sh125 : w1.2 125 = (100, 6) := rfl
theorem sh127 : w1.2 127 = (100, 96) := rfl
theorem sh128 : w1.2 128 = (100, 6) := rfl
theorem sh130 : w1.2 130 = (100, 96) := rfl
theorem sh131 : w1.2 131 = (100, 6) := rfl
theorem sh133 : w1.2 133 = (100, 96) := rfl
theorem sh134 : w1.2 134 = (100, 6) := rfl
theorem sh136 : w1.2 136 = (100, 96) := rfl
theorem sh137 : w1.2 137 = (100, 6) := rfl
theorem sh139 : w1.2 139 = (100, 96) := rfl
theorem sh140 : w1.2 140 = (100, 6) := rfl
theorem sh142 : w1.2 142 = (100, 96) := rfl
theorem sh143 : w1.2 143 = (100, 6) := rfl
theorem sh145 : w1.2 145 = (100, 96) := rfl
theorem sh146 : w1.2 146 = (100, 6) := rfl
theorem sh148 : w1.2 148 = (100, 96) := rfl
theorem sh149 : w1.2 149 = (100, 6) := rfl
theorem sh151 : w1.2 151 = (100, 96) := rfl
theorem sh152 : w1.2 152 = (100, 6) := rfl
theorem sh154 : w1.2 154 = (100, 96) := rfl
theorem sh155 : w1.2 155 = (100, 6) := rfl
theorem sh157 : w1.2 157 = (100, 96) := rfl
theorem sh158 : w1.2 158 = (100, 6) := rfl
theorem sh160 : w1.2 160 = (100, 96) := rfl
theorem sh161 : w1.2 161 = (100, 6) := rfl
theorem sh163 : w1.2 163 = (100, 96) := rfl
theorem sh164 : w1.2 164 = (100, 6) := rfl
theorem sh166 : w1.2 166 = (100, 96) := rfl
theorem sh167 : w1.2 167 = (100, 6) := rfl
theorem sh169 : w1.2 169 = (100, 96) := rfl
theorem sh170 : w1.2 170 = (100, 6) := rfl
theorem sh172 : w1.2 172 = (100, 96) := rfl
theorem sh173 : w1.2 173 = (100, 6) := rfl
theorem sh175 : w1.2 175 = (100, 96) := rfl
theorem sh176 : w1.2 176 = (100, 6) := rfl
theorem sh178 : w1.2 178 = (100, 96) := rfl
theorem sh179 : w1.2 179 = (100, 6) := rfl
theorem sh181 : w1.2 181 = (100, 96) := rfl
theorem sh182 : w1.2 182 = (100, 6) := rfl
theorem sh184 : w1.2 184 = (100, 96) := rfl
theorem sh185 : w1.2 185 = (100, 6) := rfl
theorem sh187 : w1.2 187 = (101, 8) := rfl
theorem sh188 : w1.2 188 = (101, 8) := rfl
theorem sh190 : w1.2 190 = (101, 8) := rfl
theorem sh191 : w1.2 191 = (101, 8) := rfl
theorem sh193 : w1.2 193 = (101, 8) := rfl
theorem sh194 : w1.2 194 = (101, 8) := rfl
theorem sh196 : w1.2 196 = (101, 8) := rfl
theorem sh197 : w1.2 197 = (101, 8) := rfl
theorem sh199 : w1.2 199 = (101, 8) := rfl
theorem sh200 : w1.2 200 = (101, 8) := rfl
theorem sh202 : w1.2 202 = (101, 8) := rfl
theorem sh203 : w1.2 203 = (101, 8) := rfl
theorem sh204 : w1.2 204 = (4, 0) := rfl
theorem sh205 : w1.2 205 = (100, 30) := rfl
theorem sh206 : w1.2 206 = (100, 24) := rfl
theorem sh207 : w1.2 207 = (100, 24) := rfl
theorem sh208 : w1.2 208 = (100, 30) := rfl
theorem sh209 : w1.2 209 = (100, 24) := rfl
theorem sh210 : w1.2 210 = (100, 6) := rfl
theorem sh211 : w1.2 211 = (109, 6) := rfl
theorem sh212 : w1.2 212 = (103, 7) := rfl
theorem sh213 : w1.2 213 = (101, 24) := rfl
theorem sh214 : w1.2 214 = (101, 24) := rfl
theorem sh215 : w1.2 215 = (101, 24) := rfl
theorem sh216 : w1.2 216 = (101, 24) := rfl
theorem sh217 : w1.2 217 = (101, 24) := rfl
theorem sh218 : w1.2 218 = (101, 24) := rfl
theorem sh219 : w1.2 219 = (101, 24) := rfl
theorem sh220 : w1.2 220 = (104, 7) := rfl
theorem sh221 : w1.2 221 = (100, 24) := rfl
theorem sh222 : w1.2 222 = (100, 24) := rfl
theorem sh223 : w1.2 223 = (100, 24) := rfl
theorem sh224 : w1.2 224 = (100, 24) := rfl
theorem sh225 : w1.2 225 = (100, 24) := rfl
theorem sh226 : w1.2 226 = (100, 24) := rfl
theorem sh227 : w1.2 227 = (100, 24) := rfl
theorem sh228 : w1.2 228 = (101, 256) := rfl
theorem sh229 : w1.2 229 = (100, 256) := rfl
theorem sh231 : w1.2 231 = (101, 64) := rfl
theorem sh232 : w1.2 232 = (100, 64) := rfl
theorem sh234 : w1.2 234 = (101, 64) := rfl
theorem sh235 : w1.2 235 = (100, 64) := rfl
theorem sh237 : w1.2 237 = (101, 64) := rfl
theorem sh238 : w1.2 238 = (100, 64) := rfl
theorem sh240 : w1.2 240 = (101, 64) := rfl
theorem sh241 : w1.2 241 = (100, 64) := rfl
theorem sh243 : w1.2 243 = (101, 64) := rfl
theorem sh244 : w1.2 244 = (100, 64) := rfl
theorem sh246 : w1.2 246 = (101, 64) := rfl
theorem sh247 : w1.2 247 = (100, 64) := rfl
theorem sh249 : w1.2 249 = (101, 64) := rfl
theorem sh250 : w1.2 250 = (102, 64) := rfl
theorem sh252 : w1.2 252 = (101, 64) := rfl
theorem sh253 : w1.2 253 = (102, 64) := rfl
theorem sh255 : w1.2 255 = (101, 64) := rfl
theorem sh256 : w1.2 256 = (102, 64) := rfl
theorem sh258 : w1.2 258 = (101, 64) := rfl
theorem sh259 : w1.2 259 = (102, 64) := rfl
theorem sh260 : w1.2 260 = (10, 0) := rfl
theorem sh261 : w1.2 261 = (100, 24) := rfl
theorem sh262 : w1.2 262 = (102, 24) := rfl
theorem sh263 : w1.2 263 = (101, 24) := rfl
theorem sh264 : w1.2 264 = (100, 24) := rfl
theorem sh265 : w1.2 265 = (104, 24) := rfl
theorem sh266 : w1.2 266 = (100, 96) := rfl
theorem sh267 : w1.2 267 = (100, 96) := rfl
theorem sh268 : w1.2 268 = (100, 96) := rfl
theorem sh269 : w1.2 269 = (100, 96) := rfl
theorem sh270 : w1.2 270 = (100, 96) := rfl
theorem sh271 : w1.2 271 = (100, 96) := rfl
theorem sh272 : w1.2 272 = (100, 96) := rfl
theorem sh273 : w1.2 273 = (100, 96) := rfl
theorem sh274 : w1.2 274 = (100, 96) := rfl
theorem sh275 : w1.2 275 = (100, 96) := rfl
theorem sh276 : w1.2 276 = (100, 96) := rfl
theorem sh277 : w1.2 277 = (100, 96) := rfl
theorem sh278 : w1.2 278 = (100, 96) := rfl
theorem sh279 : w1.2 279 = (100, 96) := rfl
theorem sh280 : w1.2 280 = (100, 96) := rfl
theorem sh281 : w1.2 281 = (100, 96) := rfl
theorem sh282 : w1.2 282 = (100, 96) := rfl
theorem sh283 : w1.2 283 = (100, 96) := rfl
theorem sh284 : w1.2 284 = (100, 96) := rfl
theorem sh285 : w1.2 285 = (100, 96) := rfl
theorem sh286 : w1.2 286 = (100, 96) := rfl
theorem sh287 : w1.2 287 = (100, 96) := rfl
theorem sh288 : w1.2 288 = (100, 96) := rfl
theorem sh289 : w1.2 289 = (100, 96) := rfl
theorem sh290 : w1.2 290 = (103, 24) := rfl
theorem sh291 : w1.2 291 = (101, 96) := rfl
theorem sh292 : w1.2 292 = (101, 96) := rfl
theorem sh293 : w1.2 293 = (101, 96) := rfl
theorem sh294 : w1.2 294 = (101, 96) := rfl
theorem sh295 : w1.2 295 = (101, 96) := rfl
theorem sh296 : w1.2 296 = (101, 96) := rfl
theorem sh297 : w1.2 297 = (101, 96) := rfl
theorem sh298 : w1.2 298 = (101, 96) := rfl
theorem sh299 : w1.2 299 = (101, 96) := rfl
theorem sh300 : w1.2 300 = (101, 96) := rfl
theorem sh301 : w1.2 301 = (101, 96) := rfl
theorem sh302 : w1.2 302 = (101, 96) := rfl
theorem sh303 : w1.2 303 = (101, 96) := rfl
theorem sh304 : w1.2 304 = (101, 96) := rfl
theorem sh305 : w1.2 305 = (101, 96) := rfl
theorem sh306 : w1.2 306 = (101, 96) := rfl
theorem sh307 : w1.2 307 = (101, 96) := rfl
theorem sh308 : w1.2 308 = (101, 96) := rfl
theorem sh309 : w1.2 309 = (101, 96) := rfl
theorem sh310 : w1.2 310 = (101, 96) := rfl
theorem sh311 : w1.2 311 = (101, 96) := rfl
theorem sh312 : w1.2 312 = (101, 96) := rfl
theorem sh313 : w1.2 313 = (101, 96) := rfl
theorem sh314 : w1.2 314 = (101, 96) := rfl
theorem sh315 : w1.2 315 = (102, 6) := rfl
theorem sh316 : w1.2 316 = (100, 6) := rfl
theorem sh317 : w1.2 317 = (100, 6) := rfl
theorem sh318 : w1.2 318 = (100, 6) := rfl
theorem sh319 : w1.2 319 = (100, 12) := rfl
theorem sh320 : w1.2 320 = (103, 12) := rfl
theorem sh321 : w1.2 321 = (101, 8) := rfl
theorem sh322 : w1.2 322 = (101, 8) := rfl
theorem sh323 : w1.2 323 = (101, 8) := rfl
theorem sh324 : w1.2 324 = (101, 8) := rfl
theorem sh325 : w1.2 325 = (101, 8) := rfl
theorem sh326 : w1.2 326 = (101, 8) := rfl
theorem sh327 : w1.2 327 = (101, 8) := rfl
theorem sh328 : w1.2 328 = (101, 8) := rfl
theorem sh329 : w1.2 329 = (101, 8) := rfl
theorem sh330 : w1.2 330 = (101, 8) := rfl
theorem sh331 : w1.2 331 = (101, 8) := rfl
theorem sh332 : w1.2 332 = (101, 8) := rfl
theorem sh333 : w1.2 333 = (100, 24) := rfl
theorem sh334 : w1.2 334 = (104, 24) := rfl
theorem sh335 : w1.2 335 = (100, 6) := rfl
theorem sh336 : w1.2 336 = (100, 6) := rfl
theorem sh337 : w1.2 337 = (100, 6) := rfl
theorem sh338 : w1.2 338 = (100, 6) := rfl
theorem sh339 : w1.2 339 = (100, 6) := rfl
theorem sh340 : w1.2 340 = (100, 6) := rfl
theorem sh341 : w1.2 341 = (100, 6) := rfl
theorem sh342 : w1.2 342 = (100, 6) := rfl
theorem sh343 : w1.2 343 = (100, 6) := rfl
theorem sh344 : w1.2 344 = (100, 6) := rfl
theorem sh345 : w1.2 345 = (100, 6) := rfl
theorem sh346 : w1.2 346 = (100, 6) := rfl
theorem sh347 : w1.2 347 = (100, 6) := rfl
theorem sh348 : w1.2 348 = (100, 6) := rfl
theorem sh349 : w1.2 349 = (100, 6) := rfl
theorem sh350 : w1.2 350 = (100, 6) := rfl
theorem sh351 : w1.2 351 = (100, 6) := rfl
theorem sh352 : w1.2 352 = (100, 6) := rfl
theorem sh353 : w1.2 353 = (100, 6) := rfl
theorem sh354 : w1.2 354 = (100, 6) := rfl
theorem sh355 : w1.2 355 = (100, 6) := rfl
theorem sh356 : w1.2 356 = (100, 6) := rfl
theorem sh357 : w1.2 357 = (100, 6) := rfl
theorem sh358 : w1.2 358 = (100, 6) := rfl
theorem sh359 : w1.2 359 = (102, 24) := rfl
theorem sh360 : w1.2 360 = (100, 24) := rfl
theorem sh361 : w1.2 361 = (102, 24) := rfl
theorem sh362 : w1.2 362 = (100, 24) := rfl
theorem sh363 : w1.2 363 = (105, 7) := rfl
theorem sh364 : w1.2 364 = (102, 24) := rfl
theorem sh365 : w1.2 365 = (102, 24) := rfl
theorem sh366 : w1.2 366 = (102, 24) := rfl
theorem sh367 : w1.2 367 = (102, 24) := rfl
theorem sh368 : w1.2 368 = (102, 24) := rfl
theorem sh369 : w1.2 369 = (102, 24) := rfl
theorem sh370 : w1.2 370 = (102, 24) := rfl
theorem sh371 : w1.2 371 = (103, 7) := rfl
theorem sh372 : w1.2 372 = (101, 24) := rfl
theorem sh373 : w1.2 373 = (101, 24) := rfl
theorem sh374 : w1.2 374 = (101, 24) := rfl
theorem sh375 : w1.2 375 = (101, 24) := rfl
theorem sh376 : w1.2 376 = (101, 24) := rfl
theorem sh377 : w1.2 377 = (101, 24) := rfl
theorem sh378 : w1.2 378 = (101, 24) := rfl
theorem sh379 : w1.2 379 = (104, 7) := rfl
theorem sh380 : w1.2 380 = (100, 24) := rfl
theorem sh381 : w1.2 381 = (100, 24) := rfl
theorem sh382 : w1.2 382 = (100, 24) := rfl
theorem sh383 : w1.2 383 = (100, 24) := rfl
theorem sh384 : w1.2 384 = (100, 24) := rfl
theorem sh385 : w1.2 385 = (100, 24) := rfl
theorem sh386 : w1.2 386 = (100, 24) := rfl
theorem sh387 : w1.2 387 = (104, 7) := rfl
theorem sh388 : w1.2 388 = (100, 24) := rfl
theorem sh389 : w1.2 389 = (100, 24) := rfl
theorem sh390 : w1.2 390 = (100, 24) := rfl
theorem sh391 : w1.2 391 = (100, 24) := rfl
theorem sh392 : w1.2 392 = (100, 24) := rfl
theorem sh393 : w1.2 393 = (100, 24) := rfl
theorem sh394 : w1.2 394 = (100, 24) := rfl
theorem sh395 : w1.2 395 = (105, 7) := rfl
theorem sh396 : w1.2 396 = (102, 6) := rfl
theorem sh397 : w1.2 397 = (102, 6) := rfl
theorem sh398 : w1.2 398 = (102, 6) := rfl
theorem sh399 : w1.2 399 = (102, 6) := rfl
theorem sh400 : w1.2 400 = (102, 6) := rfl
theorem sh401 : w1.2 401 = (102, 6) := rfl
theorem sh402 : w1.2 402 = (102, 6) := rfl
theorem sh403 : w1.2 403 = (103, 7) := rfl
theorem sh404 : w1.2 404 = (101, 30) := rfl
theorem sh405 : w1.2 405 = (101, 30) := rfl
theorem sh406 : w1.2 406 = (101, 30) := rfl
theorem sh407 : w1.2 407 = (101, 30) := rfl
theorem sh408 : w1.2 408 = (101, 30) := rfl
theorem sh409 : w1.2 409 = (101, 30) := rfl
theorem sh410 : w1.2 410 = (101, 30) := rfl
theorem sh411 : w1.2 411 = (104, 7) := rfl
theorem sh412 : w1.2 412 = (100, 30) := rfl
theorem sh413 : w1.2 413 = (100, 30) := rfl
theorem sh414 : w1.2 414 = (100, 30) := rfl
theorem sh415 : w1.2 415 = (100, 30) := rfl
theorem sh416 : w1.2 416 = (100, 30) := rfl
theorem sh417 : w1.2 417 = (100, 30) := rfl
theorem sh418 : w1.2 418 = (100, 30) := rfl
theorem sh419 : w1.2 419 = (101, 4800) := rfl
theorem sh420 : w1.2 420 = (100, 4800) := rfl
theorem sh421 : w1.2 421 = (100, 4800) := rfl
theorem sh422 : w1.2 422 = (100, 96) := rfl
theorem sh423 : w1.2 423 = (100, 96) := rfl
theorem sh424 : w1.2 424 = (101, 96) := rfl
theorem sh425 : w1.2 425 = (100, 96) := rfl
theorem sh426 : w1.2 426 = (101, 96) := rfl
theorem sh427 : w1.2 427 = (102, 6) := rfl
theorem sh428 : w1.2 428 = (100, 6) := rfl
theorem sh429 : w1.2 429 = (101, 24) := rfl
theorem sh430 : w1.2 430 = (102, 24) := rfl
theorem sh431 : w1.2 431 = (100, 24) := rfl
theorem sh432 : w1.2 432 = (100, 24) := rfl
theorem sh433 : w1.2 433 = (102, 24) := rfl
theorem sh434 : w1.2 434 = (102, 6) := rfl
theorem sh435 : w1.2 435 = (101, 24) := rfl
theorem sh436 : w1.2 436 = (104, 24) := rfl
theorem sh437 : w1.2 437 = (100, 96) := rfl
theorem sh438 : w1.2 438 = (100, 96) := rfl
theorem sh439 : w1.2 439 = (100, 96) := rfl
theorem sh440 : w1.2 440 = (100, 96) := rfl
theorem sh441 : w1.2 441 = (100, 96) := rfl
theorem sh442 : w1.2 442 = (100, 96) := rfl
theorem sh443 : w1.2 443 = (100, 96) := rfl
theorem sh444 : w1.2 444 = (100, 96) := rfl
theorem sh445 : w1.2 445 = (100, 96) := rfl
theorem sh446 : w1.2 446 = (100, 96) := rfl
theorem sh447 : w1.2 447 = (100, 96) := rfl
theorem sh448 : w1.2 448 = (100, 96) := rfl
theorem sh449 : w1.2 449 = (100, 96) := rfl
theorem sh450 : w1.2 450 = (100, 96) := rfl
theorem sh451 : w1.2 451 = (100, 96) := rfl
theorem sh452 : w1.2 452 = (100, 96) := rfl
theorem sh453 : w1.2 453 = (100, 96) := rfl
theorem sh454 : w1.2 454 = (100, 96) := rfl
theorem sh455 : w1.2 455 = (100, 96) := rfl
theorem sh456 : w1.2 456 = (100, 96) := rfl
theorem sh457 : w1.2 457 = (100, 96) := rfl
theorem sh458 : w1.2 458 = (100, 96) := rfl
theorem sh459 : w1.2 459 = (100, 96) := rfl
theorem sh460 : w1.2 460 = (100, 96) := rfl
theorem sh461 : w1.2 461 = (103, 24) := rfl
theorem sh462 : w1.2 462 = (101, 96) := rfl
theorem sh463 : w1.2 463 = (101, 96) := rfl
theorem sh464 : w1.2 464 = (101, 96) := rfl
theorem sh465 : w1.2 465 = (101, 96) := rfl
theorem sh466 : w1.2 466 = (101, 96) := rfl
theorem sh467 : w1.2 467 = (101, 96) := rfl
theorem sh468 : w1.2 468 = (101, 96) := rfl
theorem sh469 : w1.2 469 = (101, 96) := rfl
theorem sh470 : w1.2 470 = (101, 96) := rfl
theorem sh471 : w1.2 471 = (101, 96) := rfl
theorem sh472 : w1.2 472 = (101, 96) := rfl
theorem sh473 : w1.2 473 = (101, 96) := rfl
theorem sh474 : w1.2 474 = (101, 96) := rfl
theorem sh475 : w1.2 475 = (101, 96) := rfl
theorem sh476 : w1.2 476 = (101, 96) := rfl
theorem sh477 : w1.2 477 = (101, 96) := rfl
theorem sh478 : w1.2 478 = (101, 96) := rfl
theorem sh479 : w1.2 479 = (101, 96) := rfl
theorem sh480 : w1.2 480 = (101, 96) := rfl
theorem sh481 : w1.2 481 = (101, 96) := rfl
theorem sh482 : w1.2 482 = (101, 96) := rfl
theorem sh483 : w1.2 483 = (101, 96) := rfl
theorem sh484 : w1.2 484 = (101, 96) := rfl
theorem sh485 : w1.2 485 = (101, 96) := rfl
theorem sh486 : w1.2 486 = (100, 6) := rfl
theorem sh487 : w1.2 487 = (100, 6) := rfl
theorem sh488 : w1.2 488 = (100, 6) := rfl
theorem sh489 : w1.2 489 = (100, 12) := rfl
theorem sh490 : w1.2 490 = (103, 12) := rfl
theorem sh491 : w1.2 491 = (101, 8) := rfl
theorem sh492 : w1.2 492 = (101, 8) := rfl
theorem sh493 : w1.2 493 = (101, 8) := rfl
theorem sh494 : w1.2 494 = (101, 8) := rfl
theorem sh495 : w1.2 495 = (101, 8) := rfl
theorem sh496 : w1.2 496 = (101, 8) := rfl
theorem sh497 : w1.2 497 = (101, 8) := rfl
theorem sh498 : w1.2 498 = (101, 8) := rfl
theorem sh499 : w1.2 499 = (101, 8) := rfl
theorem sh500 : w1.2 500 = (101, 8) := rfl
theorem sh501 : w1.2 501 = (101, 8) := rfl
theorem sh502 : w1.2 502 = (101, 8) := rfl
theorem sh503 : w1.2 503 = (100, 4) := rfl
theorem sh504 : w1.2 504 = (100, 4) := rfl
theorem sh505 : w1.2 505 = (103, 4) := rfl
theorem sh506 : w1.2 506 = (101, 64) := rfl
theorem sh507 : w1.2 507 = (101, 64) := rfl
theorem sh508 : w1.2 508 = (101, 64) := rfl
theorem sh509 : w1.2 509 = (101, 64) := rfl
theorem sh510 : w1.2 510 = (105, 4) := rfl
theorem sh511 : w1.2 511 = (102, 64) := rfl
theorem sh512 : w1.2 512 = (102, 64) := rfl
theorem sh513 : w1.2 513 = (102, 64) := rfl
theorem sh514 : w1.2 514 = (102, 64) := rfl
theorem sh515 : w1.2 515 = (101, 64) := rfl
theorem sh516 : w1.2 516 = (102, 64) := rfl
theorem lt_w1 {o : Nat} (h : Nat.ble (o + 1) 517 = true) : o < w1.1 := Nat.le_of_ble_eq_true h
theorem rs1_0 (R : Nat → Nat → Option Nat) : RR R 1 0 = some 2 := RR_s rfl
theorem rs1_1 (R : Nat → Nat → Option Nat) : RR R 1 1 = some 3 := RR_s rfl
theorem rs1_2 (R : Nat → Nat → Option Nat) : RR R 1 2 = some 4 := RR_s rfl
theorem rs1_3 (R : Nat → Nat → Option Nat) : RR R 1 3 = some 5 := RR_s rfl
theorem rs1_4 (R : Nat → Nat → Option Nat) : RR R 1 4 = some 6 := RR_s rfl
theorem rs0_0 (R : Nat → Nat → Option Nat) : RR R 0 0 = some 107 := RR_s rfl
theorem rs0_1 (R : Nat → Nat → Option Nat) : RR R 0 1 = some 108 := RR_s rfl
theorem rs0_2 (R : Nat → Nat → Option Nat) : RR R 0 2 = some 204 := RR_s rfl
theorem rs0_3 (R : Nat → Nat → Option Nat) : RR R 0 3 = some 1 := RR_s rfl
theorem rs0_5 (R : Nat → Nat → Option Nat) : RR R 0 5 = some 97 := RR_s rfl
theorem rs0_7 (R : Nat → Nat → Option Nat) : RR R 0 7 = some 105 := RR_s rfl
theorem rs0_8 (R : Nat → Nat → Option Nat) : RR R 0 8 = some 106 := RR_s rfl
theorem rs97_0 (R : Nat → Nat → Option Nat) : RR R 97 0 = some 98 := RR_s rfl
theorem rs108_0 (R : Nat → Nat → Option Nat) : RR R 108 0 = some 109 := RR_s rfl
theorem rs108_1 (R : Nat → Nat → Option Nat) : RR R 108 1 = some 110 := RR_s rfl
theorem rs108_2 (R : Nat → Nat → Option Nat) : RR R 108 2 = some 111 := RR_s rfl
theorem rs108_3 (R : Nat → Nat → Option Nat) : RR R 108 3 = some 112 := RR_s rfl
theorem rs108_4 (R : Nat → Nat → Option Nat) : RR R 108 4 = some 113 := RR_s rfl
theorem rs107_0 (R : Nat → Nat → Option Nat) : RR R 107 0 = some 108 := RR_s rfl
theorem rs107_1 (R : Nat → Nat → Option Nat) : RR R 107 1 = some 204 := RR_s rfl
theorem rs107_2 (R : Nat → Nat → Option Nat) : RR R 107 2 = some 211 := RR_s rfl
theorem rs107_3 (R : Nat → Nat → Option Nat) : RR R 107 3 = some 212 := RR_s rfl
theorem rs107_4 (R : Nat → Nat → Option Nat) : RR R 107 4 = some 220 := RR_s rfl
theorem rs107_5 (R : Nat → Nat → Option Nat) : RR R 107 5 = some 228 := RR_s rfl
theorem rs107_6 (R : Nat → Nat → Option Nat) : RR R 107 6 = some 229 := RR_s rfl
theorem rs204_0 (R : Nat → Nat → Option Nat) : RR R 204 0 = some 205 := RR_s rfl
theorem rs204_1 (R : Nat → Nat → Option Nat) : RR R 204 1 = some 206 := RR_s rfl
theorem rs204_2 (R : Nat → Nat → Option Nat) : RR R 204 2 = some 207 := RR_s rfl
theorem rs204_3 (R : Nat → Nat → Option Nat) : RR R 204 3 = some 208 := RR_s rfl
theorem rs204_4 (R : Nat → Nat → Option Nat) : RR R 204 4 = some 209 := RR_s rfl
theorem rs204_5 (R : Nat → Nat → Option Nat) : RR R 204 5 = some 210 := RR_s rfl
theorem rs260_0 (R : Nat → Nat → Option Nat) : RR R 260 0 = some 261 := RR_s rfl
theorem rs260_1 (R : Nat → Nat → Option Nat) : RR R 260 1 = some 262 := RR_s rfl
theorem rs260_2 (R : Nat → Nat → Option Nat) : RR R 260 2 = some 263 := RR_s rfl
theorem rs260_3 (R : Nat → Nat → Option Nat) : RR R 260 3 = some 264 := RR_s rfl
theorem rs260_4 (R : Nat → Nat → Option Nat) : RR R 260 4 = some 265 := RR_s rfl
theorem rs260_5 (R : Nat → Nat → Option Nat) : RR R 260 5 = some 290 := RR_s rfl
theorem rs260_6 (R : Nat → Nat → Option Nat) : RR R 260 6 = some 315 := RR_s rfl
theorem rs260_7 (R : Nat → Nat → Option Nat) : RR R 260 7 = some 316 := RR_s rfl
theorem rs260_8 (R : Nat → Nat → Option Nat) : RR R 260 8 = some 317 := RR_s rfl
theorem rs260_9 (R : Nat → Nat → Option Nat) : RR R 260 9 = some 318 := RR_s rfl
theorem rs260_10 (R : Nat → Nat → Option Nat) : RR R 260 10 = some 319 := RR_s rfl
theorem rs260_11 (R : Nat → Nat → Option Nat) : RR R 260 11 = some 320 := RR_s rfl
theorem rs260_12 (R : Nat → Nat → Option Nat) : RR R 260 12 = some 333 := RR_s rfl
theorem rs260_13 (R : Nat → Nat → Option Nat) : RR R 260 13 = some 334 := RR_s rfl
theorem rs260_14 (R : Nat → Nat → Option Nat) : RR R 260 14 = some 359 := RR_s rfl
theorem rs260_15 (R : Nat → Nat → Option Nat) : RR R 260 15 = some 360 := RR_s rfl
theorem rs260_16 (R : Nat → Nat → Option Nat) : RR R 260 16 = some 361 := RR_s rfl
theorem rs260_17 (R : Nat → Nat → Option Nat) : RR R 260 17 = some 362 := RR_s rfl
theorem rs260_19 (R : Nat → Nat → Option Nat) : RR R 260 19 = some 363 := RR_s rfl
theorem rs260_20 (R : Nat → Nat → Option Nat) : RR R 260 20 = some 371 := RR_s rfl
theorem rs260_21 (R : Nat → Nat → Option Nat) : RR R 260 21 = some 379 := RR_s rfl
theorem rs260_22 (R : Nat → Nat → Option Nat) : RR R 260 22 = some 387 := RR_s rfl
theorem rs260_23 (R : Nat → Nat → Option Nat) : RR R 260 23 = some 395 := RR_s rfl
theorem rs260_24 (R : Nat → Nat → Option Nat) : RR R 260 24 = some 403 := RR_s rfl
theorem rs260_25 (R : Nat → Nat → Option Nat) : RR R 260 25 = some 411 := RR_s rfl
theorem rs260_27 (R : Nat → Nat → Option Nat) : RR R 260 27 = some 419 := RR_s rfl
theorem rs260_28 (R : Nat → Nat → Option Nat) : RR R 260 28 = some 420 := RR_s rfl
theorem rs260_29 (R : Nat → Nat → Option Nat) : RR R 260 29 = some 421 := RR_s rfl
theorem rs260_33 (R : Nat → Nat → Option Nat) : RR R 260 33 = some 422 := RR_s rfl
theorem rs260_35 (R : Nat → Nat → Option Nat) : RR R 260 35 = some 423 := RR_s rfl
theorem rs260_36 (R : Nat → Nat → Option Nat) : RR R 260 36 = some 424 := RR_s rfl
theorem rs260_47 (R : Nat → Nat → Option Nat) : RR R 260 47 = some 425 := RR_s rfl
theorem rs260_48 (R : Nat → Nat → Option Nat) : RR R 260 48 = some 426 := RR_s rfl
theorem rs260_49 (R : Nat → Nat → Option Nat) : RR R 260 49 = some 427 := RR_s rfl
theorem rs260_50 (R : Nat → Nat → Option Nat) : RR R 260 50 = some 428 := RR_s rfl
theorem rs260_55 (R : Nat → Nat → Option Nat) : RR R 260 55 = some 429 := RR_s rfl
theorem rs260_56 (R : Nat → Nat → Option Nat) : RR R 260 56 = some 430 := RR_s rfl
theorem rs260_58 (R : Nat → Nat → Option Nat) : RR R 260 58 = some 431 := RR_s rfl
theorem rs260_59 (R : Nat → Nat → Option Nat) : RR R 260 59 = some 432 := RR_s rfl
theorem rs260_60 (R : Nat → Nat → Option Nat) : RR R 260 60 = some 433 := RR_s rfl
theorem rs260_61 (R : Nat → Nat → Option Nat) : RR R 260 61 = some 434 := RR_s rfl
theorem rs260_62 (R : Nat → Nat → Option Nat) : RR R 260 62 = some 435 := RR_s rfl
theorem rs260_63 (R : Nat → Nat → Option Nat) : RR R 260 63 = some 436 := RR_s rfl
theorem rs260_64 (R : Nat → Nat → Option Nat) : RR R 260 64 = some 461 := RR_s rfl
theorem rs260_65 (R : Nat → Nat → Option Nat) : RR R 260 65 = some 486 := RR_s rfl
theorem rs260_66 (R : Nat → Nat → Option Nat) : RR R 260 66 = some 487 := RR_s rfl
theorem rs260_67 (R : Nat → Nat → Option Nat) : RR R 260 67 = some 488 := RR_s rfl
theorem rs260_68 (R : Nat → Nat → Option Nat) : RR R 260 68 = some 489 := RR_s rfl
theorem rs260_69 (R : Nat → Nat → Option Nat) : RR R 260 69 = some 490 := RR_s rfl
theorem rs260_70 (R : Nat → Nat → Option Nat) : RR R 260 70 = some 503 := RR_s rfl
theorem rs260_71 (R : Nat → Nat → Option Nat) : RR R 260 71 = some 504 := RR_s rfl
theorem rs260_72 (R : Nat → Nat → Option Nat) : RR R 260 72 = some 505 := RR_s rfl
theorem rs260_73 (R : Nat → Nat → Option Nat) : RR R 260 73 = some 510 := RR_s rfl
theorem rs260_74 (R : Nat → Nat → Option Nat) : RR R 260 74 = some 515 := RR_s rfl
theorem rs260_75 (R : Nat → Nat → Option Nat) : RR R 260 75 = some 516 := RR_s rfl
theorem rm212 {k : Nat} (R : Nat → Nat → Option Nat) (h : k < 7) : RR R 212 k = some (213 + k) := RR_s (by show (if k < 7 then some (213 + k) else none) = _; rw [if_pos h])
theorem sm212 : ∀ {k : Nat}, k < 7 → w1.2 (213 + k) = (101, 24) := fun {k} h => (by decide +kernel : ∀ k, k < 7 → w1.2 (213 + k) = (101, 24)) k h
theorem lm212 {k : Nat} (h : k < 7) : 213 + k < w1.1 := Nat.lt_of_lt_of_le (Nat.add_lt_add_left h _) (Nat.le_of_ble_eq_true rfl)
theorem rm220 {k : Nat} (R : Nat → Nat → Option Nat) (h : k < 7) : RR R 220 k = some (221 + k) := RR_s (by show (if k < 7 then some (221 + k) else none) = _; rw [if_pos h])
theorem sm220 : ∀ {k : Nat}, k < 7 → w1.2 (221 + k) = (100, 24) := fun {k} h => (by decide +kernel : ∀ k, k < 7 → w1.2 (221 + k) = (100, 24)) k h
theorem lm220 {k : Nat} (h : k < 7) : 221 + k < w1.1 := Nat.lt_of_lt_of_le (Nat.add_lt_add_left h _) (Nat.le_of_ble_eq_true rfl)
theorem rm265 {k : Nat} (R : Nat → Nat → Option Nat) (h : k < 24) : RR R 265 k = some (266 + k) := RR_s (by show (if k < 24 then some (266 + k) else none) = _; rw [if_pos h])
theorem sm265 : ∀ {k : Nat}, k < 24 → w1.2 (266 + k) = (100, 96) := fun {k} h => (by decide +kernel : ∀ k, k < 24 → w1.2 (266 + k) = (100, 96)) k h
theorem lm265 {k : Nat} (h : k < 24) : 266 + k < w1.1 := Nat.lt_of_lt_of_le (Nat.add_lt_add_left h _) (Nat.le_of_ble_eq_true rfl)
theorem rm290 {k : Nat} (R : Nat → Nat → Option Nat) (h : k < 24) : RR R 290 k = some (291 + k) := RR_s (by show (if k < 24 then some (291 + k) else none) = _; rw [if_pos h])
theorem sm290 : ∀ {k : Nat}, k < 24 → w1.2 (291 + k) = (101, 96) := fun {k} h => (by decide +kernel : ∀ k, k < 24 → w1.2 (291 + k) = (101, 96)) k h
theorem lm290 {k : Nat} (h : k < 24) : 291 + k < w1.1 := Nat.lt_of_lt_of_le (Nat.add_lt_add_left h _) (Nat.le_of_ble_eq_true rfl)
theorem rm320 {k : Nat} (R : Nat → Nat → Option Nat) (h : k < 12) : RR R 320 k = some (321 + k) := RR_s (by show (if k < 12 then some (321 + k) else none) = _; rw [if_pos h])
theorem sm320 : ∀ {k : Nat}, k < 12 → w1.2 (321 + k) = (101, 8) := fun {k} h => (by decide +kernel : ∀ k, k < 12 → w1.2 (321 + k) = (101, 8)) k h
theorem lm320 {k : Nat} (h : k < 12) : 321 + k < w1.1 := Nat.lt_of_lt_of_le (Nat.add_lt_add_left h _) (Nat.le_of_ble_eq_true rfl)
theorem rm334 {k : Nat} (R : Nat → Nat → Option Nat) (h : k < 24) : RR R 334 k = some (335 + k) := RR_s (by show (if k < 24 then some (335 + k) else none) = _; rw [if_pos h])
theorem sm334 : ∀ {k : Nat}, k < 24 → w1.2 (335 + k) = (100, 6) := fun {k} h => (by decide +kernel : ∀ k, k < 24 → w1.2 (335 + k) = (100, 6)) k h
theorem lm334 {k : Nat} (h : k < 24) : 335 + k < w1.1 := Nat.lt_of_lt_of_le (Nat.add_lt_add_left h _) (Nat.le_of_ble_eq_true rfl)
theorem rm363 {k : Nat} (R : Nat → Nat → Option Nat) (h : k < 7) : RR R 363 k = some (364 + k) := RR_s (by show (if k < 7 then some (364 + k) else none) = _; rw [if_pos h])
theorem sm363 : ∀ {k : Nat}, k < 7 → w1.2 (364 + k) = (102, 24) := fun {k} h => (by decide +kernel : ∀ k, k < 7 → w1.2 (364 + k) = (102, 24)) k h
theorem lm363 {k : Nat} (h : k < 7) : 364 + k < w1.1 := Nat.lt_of_lt_of_le (Nat.add_lt_add_left h _) (Nat.le_of_ble_eq_true rfl)
theorem rm371 {k : Nat} (R : Nat → Nat → Option Nat) (h : k < 7) : RR R 371 k = some (372 + k) := RR_s (by show (if k < 7 then some (372 + k) else none) = _; rw [if_pos h])
theorem sm371 : ∀ {k : Nat}, k < 7 → w1.2 (372 + k) = (101, 24) := fun {k} h => (by decide +kernel : ∀ k, k < 7 → w1.2 (372 + k) = (101, 24)) k h
theorem lm371 {k : Nat} (h : k < 7) : 372 + k < w1.1 := Nat.lt_of_lt_of_le (Nat.add_lt_add_left h _) (Nat.le_of_ble_eq_true rfl)
theorem rm379 {k : Nat} (R : Nat → Nat → Option Nat) (h : k < 7) : RR R 379 k = some (380 + k) := RR_s (by show (if k < 7 then some (380 + k) else none) = _; rw [if_pos h])
theorem sm379 : ∀ {k : Nat}, k < 7 → w1.2 (380 + k) = (100, 24) := fun {k} h => (by decide +kernel : ∀ k, k < 7 → w1.2 (380 + k) = (100, 24)) k h
theorem lm379 {k : Nat} (h : k < 7) : 380 + k < w1.1 := Nat.lt_of_lt_of_le (Nat.add_lt_add_left h _) (Nat.le_of_ble_eq_true rfl)
theorem rm387 {k : Nat} (R : Nat → Nat → Option Nat) (h : k < 7) : RR R 387 k = some (388 + k) := RR_s (by show (if k < 7 then some (388 + k) else none) = _; rw [if_pos h])
theorem sm387 : ∀ {k : Nat}, k < 7 → w1.2 (388 + k) = (100, 24) := fun {k} h => (by decide +kernel : ∀ k, k < 7 → w1.2 (388 + k) = (100, 24)) k h
theorem lm387 {k : Nat} (h : k < 7) : 388 + k < w1.1 := Nat.lt_of_lt_of_le (Nat.add_lt_add_left h _) (Nat.le_of_ble_eq_true rfl)
theorem rm395 {k : Nat} (R : Nat → Nat → Option Nat) (h : k < 7) : RR R 395 k = some (396 + k) := RR_s (by show (if k < 7 then some (396 + k) else none) = _; rw [if_pos h])
theorem sm395 : ∀ {k : Nat}, k < 7 → w1.2 (396 + k) = (102, 6) := fun {k} h => (by decide +kernel : ∀ k, k < 7 → w1.2 (396 + k) = (102, 6)) k h
theorem lm395 {k : Nat} (h : k < 7) : 396 + k < w1.1 := Nat.lt_of_lt_of_le (Nat.add_lt_add_left h _) (Nat.le_of_ble_eq_true rfl)
theorem rm403 {k : Nat} (R : Nat → Nat → Option Nat) (h : k < 7) : RR R 403 k = some (404 + k) := RR_s (by show (if k < 7 then some (404 + k) else none) = _; rw [if_pos h])
theorem sm403 : ∀ {k : Nat}, k < 7 → w1.2 (404 + k) = (101, 30) := fun {k} h => (by decide +kernel : ∀ k, k < 7 → w1.2 (404 + k) = (101, 30)) k h
theorem lm403 {k : Nat} (h : k < 7) : 404 + k < w1.1 := Nat.lt_of_lt_of_le (Nat.add_lt_add_left h _) (Nat.le_of_ble_eq_true rfl)
theorem rm411 {k : Nat} (R : Nat → Nat → Option Nat) (h : k < 7) : RR R 411 k = some (412 + k) := RR_s (by show (if k < 7 then some (412 + k) else none) = _; rw [if_pos h])
theorem sm411 : ∀ {k : Nat}, k < 7 → w1.2 (412 + k) = (100, 30) := fun {k} h => (by decide +kernel : ∀ k, k < 7 → w1.2 (412 + k) = (100, 30)) k h
theorem lm411 {k : Nat} (h : k < 7) : 412 + k < w1.1 := Nat.lt_of_lt_of_le (Nat.add_lt_add_left h _) (Nat.le_of_ble_eq_true rfl)
theorem rm436 {k : Nat} (R : Nat → Nat → Option Nat) (h : k < 24) : RR R 436 k = some (437 + k) := RR_s (by show (if k < 24 then some (437 + k) else none) = _; rw [if_pos h])
theorem sm436 : ∀ {k : Nat}, k < 24 → w1.2 (437 + k) = (100, 96) := fun {k} h => (by decide +kernel : ∀ k, k < 24 → w1.2 (437 + k) = (100, 96)) k h
theorem lm436 {k : Nat} (h : k < 24) : 437 + k < w1.1 := Nat.lt_of_lt_of_le (Nat.add_lt_add_left h _) (Nat.le_of_ble_eq_true rfl)
theorem rm461 {k : Nat} (R : Nat → Nat → Option Nat) (h : k < 24) : RR R 461 k = some (462 + k) := RR_s (by show (if k < 24 then some (462 + k) else none) = _; rw [if_pos h])
theorem sm461 : ∀ {k : Nat}, k < 24 → w1.2 (462 + k) = (101, 96) := fun {k} h => (by decide +kernel : ∀ k, k < 24 → w1.2 (462 + k) = (101, 96)) k h
theorem lm461 {k : Nat} (h : k < 24) : 462 + k < w1.1 := Nat.lt_of_lt_of_le (Nat.add_lt_add_left h _) (Nat.le_of_ble_eq_true rfl)
theorem rm490 {k : Nat} (R : Nat → Nat → Option Nat) (h : k < 12) : RR R 490 k = some (491 + k) := RR_s (by show (if k < 12 then some (491 + k) else none) = _; rw [if_pos h])
theorem sm490 : ∀ {k : Nat}, k < 12 → w1.2 (491 + k) = (101, 8) := fun {k} h => (by decide +kernel : ∀ k, k < 12 → w1.2 (491 + k) = (101, 8)) k h
theorem lm490 {k : Nat} (h : k < 12) : 491 + k < w1.1 := Nat.lt_of_lt_of_le (Nat.add_lt_add_left h _) (Nat.le_of_ble_eq_true rfl)
theorem rm505 {k : Nat} (R : Nat → Nat → Option Nat) (h : k < 4) : RR R 505 k = some (506 + k) := RR_s (by show (if k < 4 then some (506 + k) else none) = _; rw [if_pos h])
theorem sm505 : ∀ {k : Nat}, k < 4 → w1.2 (506 + k) = (101, 64) := fun {k} h => (by decide +kernel : ∀ k, k < 4 → w1.2 (506 + k) = (101, 64)) k h
theorem lm505 {k : Nat} (h : k < 4) : 506 + k < w1.1 := Nat.lt_of_lt_of_le (Nat.add_lt_add_left h _) (Nat.le_of_ble_eq_true rfl)
theorem rm510 {k : Nat} (R : Nat → Nat → Option Nat) (h : k < 4) : RR R 510 k = some (511 + k) := RR_s (by show (if k < 4 then some (511 + k) else none) = _; rw [if_pos h])
theorem sm510 : ∀ {k : Nat}, k < 4 → w1.2 (511 + k) = (102, 64) := fun {k} h => (by decide +kernel : ∀ k, k < 4 → w1.2 (511 + k) = (102, 64)) k h
theorem lm510 {k : Nat} (h : k < 4) : 511 + k < w1.1 := Nat.lt_of_lt_of_le (Nat.add_lt_add_left h _) (Nat.le_of_ble_eq_true rfl)
theorem rl5 {k : Nat} (R : Nat → Nat → Option Nat) (h : k < 24) : RR R 5 k = some (7 + 3 * k) := RR_s (by show (if k < 24 then some (7 + 3 * k) else none) = _; rw [if_pos h])
theorem rl6 {k : Nat} (R : Nat → Nat → Option Nat) (h : k < 6) : RR R 6 k = some (79 + 3 * k) := RR_s (by show (if k < 6 then some (79 + 3 * k) else none) = _; rw [if_pos h])
theorem rl105 {k : Nat} (R : Nat → Nat → Option Nat) (h : k < 4) : RR R 105 k = some (248 + 3 * k) := RR_s (by show (if k < 4 then some (248 + 3 * k) else none) = _; rw [if_pos h])
theorem rl211 {k : Nat} (R : Nat → Nat → Option Nat) (h : k < 6) : RR R 211 k = some (230 + 3 * k) := RR_s (by show (if k < 6 then some (230 + 3 * k) else none) = _; rw [if_pos h])
def j_RLs : List Nat := [248, 251, 254, 257]
def j_TLs : List Nat := [230, 233, 236, 239, 242, 245]
def isF (o : Nat) : Prop := o ∈ j_FLs
theorem isF_all : ∀ o ∈ j_FLs, w1.2 o = (2, 0) ∧ w1.2 (o + 1) = (100, 96) ∧ w1.2 (o + 2) = (100, 6) ∧ o + 2 < w1.1 ∧ j_rst o 0 = some (o + 1) ∧ j_rst o 3 = some (o + 2) := by decide +kernel
theorem isF_sh {o : Nat} (h : isF o) : w1.2 o = (2, 0) := (isF_all o h).1
theorem isF_sh1 {o : Nat} (h : isF o) : w1.2 (o + 1) = (100, 96) := (isF_all o h).2.1
theorem isF_sh2 {o : Nat} (h : isF o) : w1.2 (o + 2) = (100, 6) := (isF_all o h).2.2.1
theorem isF_lt2 {o : Nat} (h : isF o) : o + 2 < w1.1 := (isF_all o h).2.2.2.1
theorem isF_lt1 {o : Nat} (h : isF o) : o + 1 < w1.1 := Nat.lt_trans (Nat.lt_succ_self _) (isF_lt2 h)
theorem isF_lt {o : Nat} (h : isF o) : o < w1.1 := Nat.lt_trans (Nat.lt_succ_self _) (isF_lt1 h)
theorem isF_r1 {o : Nat} (R : Nat → Nat → Option Nat) (h : isF o) : RR R o 0 = some (o + 1) := RR_s (isF_all o h).2.2.2.2.1
theorem isF_r2 {o : Nat} (R : Nat → Nat → Option Nat) (h : isF o) : RR R o 3 = some (o + 2) := RR_s (isF_all o h).2.2.2.2.2
def isG (o : Nat) : Prop := o ∈ j_GLs
theorem isG_all : ∀ o ∈ j_GLs, w1.2 o = (3, 0) ∧ w1.2 (o + 1) = (101, 8) ∧ w1.2 (o + 2) = (101, 8) ∧ o + 2 < w1.1 ∧ j_rst o 6 = some (o + 1) ∧ j_rst o 7 = some (o + 2) := by decide +kernel
theorem isG_sh {o : Nat} (h : isG o) : w1.2 o = (3, 0) := (isG_all o h).1
theorem isG_sh1 {o : Nat} (h : isG o) : w1.2 (o + 1) = (101, 8) := (isG_all o h).2.1
theorem isG_sh2 {o : Nat} (h : isG o) : w1.2 (o + 2) = (101, 8) := (isG_all o h).2.2.1
theorem isG_lt2 {o : Nat} (h : isG o) : o + 2 < w1.1 := (isG_all o h).2.2.2.1
theorem isG_lt1 {o : Nat} (h : isG o) : o + 1 < w1.1 := Nat.lt_trans (Nat.lt_succ_self _) (isG_lt2 h)
theorem isG_lt {o : Nat} (h : isG o) : o < w1.1 := Nat.lt_trans (Nat.lt_succ_self _) (isG_lt1 h)
theorem isG_r1 {o : Nat} (R : Nat → Nat → Option Nat) (h : isG o) : RR R o 6 = some (o + 1) := RR_s (isG_all o h).2.2.2.2.1
theorem isG_r2 {o : Nat} (R : Nat → Nat → Option Nat) (h : isG o) : RR R o 7 = some (o + 2) := RR_s (isG_all o h).2.2.2.2.2
def isRw (o : Nat) : Prop := o ∈ j_RLs
theorem isRw_all : ∀ o ∈ j_RLs, w1.2 o = (6, 0) ∧ w1.2 (o + 1) = (101, 64) ∧ w1.2 (o + 2) = (102, 64) ∧ o + 2 < w1.1 ∧ j_rst o 2 = some (o + 1) ∧ j_rst o 3 = some (o + 2) := by decide +kernel
theorem isRw_sh {o : Nat} (h : isRw o) : w1.2 o = (6, 0) := (isRw_all o h).1
theorem isRw_sh1 {o : Nat} (h : isRw o) : w1.2 (o + 1) = (101, 64) := (isRw_all o h).2.1
theorem isRw_sh2 {o : Nat} (h : isRw o) : w1.2 (o + 2) = (102, 64) := (isRw_all o h).2.2.1
theorem isRw_lt2 {o : Nat} (h : isRw o) : o + 2 < w1.1 := (isRw_all o h).2.2.2.1
theorem isRw_lt1 {o : Nat} (h : isRw o) : o + 1 < w1.1 := Nat.lt_trans (Nat.lt_succ_self _) (isRw_lt2 h)
theorem isRw_lt {o : Nat} (h : isRw o) : o < w1.1 := Nat.lt_trans (Nat.lt_succ_self _) (isRw_lt1 h)
theorem isRw_r1 {o : Nat} (R : Nat → Nat → Option Nat) (h : isRw o) : RR R o 2 = some (o + 1) := RR_s (isRw_all o h).2.2.2.2.1
theorem isRw_r2 {o : Nat} (R : Nat → Nat → Option Nat) (h : isRw o) : RR R o 3 = some (o + 2) := RR_s (isRw_all o h).2.2.2.2.2
def isTl (o : Nat) : Prop := o ∈ j_TLs
theorem isTl_all : ∀ o ∈ j_TLs, w1.2 o = (7, 0) ∧ w1.2 (o + 1) = (101, 64) ∧ w1.2 (o + 2) = (100, 64) ∧ o + 2 < w1.1 ∧ j_rst o 1 = some (o + 1) ∧ j_rst o 2 = some (o + 2) := by decide +kernel
theorem isTl_sh {o : Nat} (h : isTl o) : w1.2 o = (7, 0) := (isTl_all o h).1
theorem isTl_sh1 {o : Nat} (h : isTl o) : w1.2 (o + 1) = (101, 64) := (isTl_all o h).2.1
theorem isTl_sh2 {o : Nat} (h : isTl o) : w1.2 (o + 2) = (100, 64) := (isTl_all o h).2.2.1
theorem isTl_lt2 {o : Nat} (h : isTl o) : o + 2 < w1.1 := (isTl_all o h).2.2.2.1
theorem isTl_lt1 {o : Nat} (h : isTl o) : o + 1 < w1.1 := Nat.lt_trans (Nat.lt_succ_self _) (isTl_lt2 h)
theorem isTl_lt {o : Nat} (h : isTl o) : o < w1.1 := Nat.lt_trans (Nat.lt_succ_self _) (isTl_lt1 h)
theorem isTl_r1 {o : Nat} (R : Nat → Nat → Option Nat) (h : isTl o) : RR R o 1 = some (o + 1) := RR_s (isTl_all o h).2.2.2.2.1
theorem isTl_r2 {o : Nat} (R : Nat → Nat → Option Nat) (h : isTl o) : RR R o 2 = some (o + 2) := RR_s (isTl_all o h).2.2.2.2.2
theorem isTl_k : ∀ k, k < 6 → isTl (230 + 3 * k) := by unfold isTl; decide +kernel
theorem isRw_k : ∀ k, k < 4 → isRw (248 + 3 * k) := by unfold isRw; decide +kernel
theorem isF_k : ∀ k, k < 24 → isF (7 + 3 * k) := by unfold isF; decide +kernel
theorem isG_k : ∀ k, k < 6 → isG (79 + 3 * k) := by unfold isG; decide +kernel
theorem lt1000 {o : Nat} (h : o < w1.1) : o < 1000000 := Nat.lt_trans h (Nat.le_of_ble_eq_true rfl)
theorem fs2_9 : ∀ i, j_own i = "WhatIfSheet$Formula" → j_FL i 9 2 0 := fun i h => ⟨by rw [h]; exact j_i1 43 rfl, by decide, by decide⟩
theorem fs8_111 : ∀ i, j_own i = "WhatIfSheet$Teller" → j_FL i 111 2 0 := fun i h => ⟨by rw [h]; exact j_i1 44 rfl, by decide, by decide⟩
theorem fs2_18 : ∀ i, j_own i = "WhatIfSheet$Formula" → j_FL i 18 2 1 := fun i h => ⟨by rw [h]; exact j_i1 45 rfl, by decide, by decide⟩
theorem fs0_50 : ∀ i, j_own i = "WhatIfSheet$Board" → j_FL i 50 2 1 := fun i h => ⟨by rw [h]; exact j_i1 46 rfl, by decide, by decide⟩
theorem fs8_106 : ∀ i, j_own i = "WhatIfSheet$Teller" → j_FL i 106 2 1 := fun i h => ⟨by rw [h]; exact j_i1 47 rfl, by decide, by decide⟩
theorem fs2_22 : ∀ i, j_own i = "WhatIfSheet$Formula" → j_FL i 22 2 2 := fun i h => ⟨by rw [h]; exact j_i1 48 rfl, by decide, by decide⟩
theorem fs4_36 : ∀ i, j_own i = "WhatIfSheet$Names" → j_FL i 36 2 2 := fun i h => ⟨by rw [h]; exact j_i1 49 rfl, by decide, by decide⟩
theorem fs9_170 : ∀ i, j_own i = "WhatIfSheet" → j_FL i 170 2 2 := fun i h => ⟨by rw [h]; exact j_i1 50 rfl, by decide, by decide⟩
theorem fs2_15 : ∀ i, j_own i = "WhatIfSheet$Formula" → j_FL i 15 2 3 := fun i h => ⟨by rw [h]; exact j_i1 51 rfl, by decide, by decide⟩
theorem fs4_82 : ∀ i, j_own i = "WhatIfSheet$Names" → j_FL i 82 2 3 := fun i h => ⟨by rw [h]; exact j_i1 52 rfl, by decide, by decide⟩
theorem fs3_18 : ∀ i, j_own i = "WhatIfSheet$Grid" → j_FL i 18 3 0 := fun i h => ⟨by rw [h]; exact j_i1 70 rfl, by decide, by decide⟩
theorem fs4_46 : ∀ i, j_own i = "WhatIfSheet$Names" → j_FL i 46 3 0 := fun i h => ⟨by rw [h]; exact j_i1 71 rfl, by decide, by decide⟩
theorem fs0_61 : ∀ i, j_own i = "WhatIfSheet$Board" → j_FL i 61 3 0 := fun i h => ⟨by rw [h]; exact j_i1 72 rfl, by decide, by decide⟩
theorem fs8_152 : ∀ i, j_own i = "WhatIfSheet$Teller" → j_FL i 152 3 0 := fun i h => ⟨by rw [h]; exact j_i1 73 rfl, by decide, by decide⟩
theorem fs9_231 : ∀ i, j_own i = "WhatIfSheet" → j_FL i 231 3 0 := fun i h => ⟨by rw [h]; exact j_i1 74 rfl, by decide, by decide⟩
theorem fs3_22 : ∀ i, j_own i = "WhatIfSheet$Grid" → j_FL i 22 3 1 := fun i h => ⟨by rw [h]; exact j_i1 75 rfl, by decide, by decide⟩
theorem fs4_52 : ∀ i, j_own i = "WhatIfSheet$Names" → j_FL i 52 3 1 := fun i h => ⟨by rw [h]; exact j_i1 76 rfl, by decide, by decide⟩
theorem fs8_176 : ∀ i, j_own i = "WhatIfSheet$Teller" → j_FL i 176 3 1 := fun i h => ⟨by rw [h]; exact j_i1 77 rfl, by decide, by decide⟩
theorem fs9_242 : ∀ i, j_own i = "WhatIfSheet" → j_FL i 242 3 1 := fun i h => ⟨by rw [h]; exact j_i1 78 rfl, by decide, by decide⟩
theorem fs3_26 : ∀ i, j_own i = "WhatIfSheet$Grid" → j_FL i 26 3 2 := fun i h => ⟨by rw [h]; exact j_i1 79 rfl, by decide, by decide⟩
theorem fs0_71 : ∀ i, j_own i = "WhatIfSheet$Board" → j_FL i 71 3 2 := fun i h => ⟨by rw [h]; exact j_i1 80 rfl, by decide, by decide⟩
theorem fs4_108 : ∀ i, j_own i = "WhatIfSheet$Names" → j_FL i 108 3 2 := fun i h => ⟨by rw [h]; exact j_i1 81 rfl, by decide, by decide⟩
theorem fs8_203 : ∀ i, j_own i = "WhatIfSheet$Teller" → j_FL i 203 3 2 := fun i h => ⟨by rw [h]; exact j_i1 82 rfl, by decide, by decide⟩
theorem fs3_29 : ∀ i, j_own i = "WhatIfSheet$Grid" → j_FL i 29 3 3 := fun i h => ⟨by rw [h]; exact j_i1 83 rfl, by decide, by decide⟩
theorem fs0_78 : ∀ i, j_own i = "WhatIfSheet$Board" → j_FL i 78 3 3 := fun i h => ⟨by rw [h]; exact j_i1 84 rfl, by decide, by decide⟩
theorem fs4_111 : ∀ i, j_own i = "WhatIfSheet$Names" → j_FL i 111 3 3 := fun i h => ⟨by rw [h]; exact j_i1 85 rfl, by decide, by decide⟩
theorem fs8_209 : ∀ i, j_own i = "WhatIfSheet$Teller" → j_FL i 209 3 3 := fun i h => ⟨by rw [h]; exact j_i1 86 rfl, by decide, by decide⟩
theorem fs9_410 : ∀ i, j_own i = "WhatIfSheet" → j_FL i 410 3 3 := fun i h => ⟨by rw [h]; exact j_i1 87 rfl, by decide, by decide⟩
theorem fs3_32 : ∀ i, j_own i = "WhatIfSheet$Grid" → j_FL i 32 3 4 := fun i h => ⟨by rw [h]; exact j_i1 88 rfl, by decide, by decide⟩
theorem fs0_68 : ∀ i, j_own i = "WhatIfSheet$Board" → j_FL i 68 3 4 := fun i h => ⟨by rw [h]; exact j_i1 89 rfl, by decide, by decide⟩
theorem fs8_183 : ∀ i, j_own i = "WhatIfSheet$Teller" → j_FL i 183 3 4 := fun i h => ⟨by rw [h]; exact j_i1 90 rfl, by decide, by decide⟩
theorem fs9_286 : ∀ i, j_own i = "WhatIfSheet" → j_FL i 286 3 4 := fun i h => ⟨by rw [h]; exact j_i1 91 rfl, by decide, by decide⟩
theorem fs3_35 : ∀ i, j_own i = "WhatIfSheet$Grid" → j_FL i 35 3 5 := fun i h => ⟨by rw [h]; exact j_i1 92 rfl, by decide, by decide⟩
theorem fs0_84 : ∀ i, j_own i = "WhatIfSheet$Board" → j_FL i 84 3 5 := fun i h => ⟨by rw [h]; exact j_i1 93 rfl, by decide, by decide⟩
theorem fs9_289 : ∀ i, j_own i = "WhatIfSheet" → j_FL i 289 3 5 := fun i h => ⟨by rw [h]; exact j_i1 94 rfl, by decide, by decide⟩
theorem fs3_9 : ∀ i, j_own i = "WhatIfSheet$Grid" → j_FL i 9 3 6 := fun i h => ⟨by rw [h]; exact j_i1 95 rfl, by decide, by decide⟩
theorem fs0_65 : ∀ i, j_own i = "WhatIfSheet$Board" → j_FL i 65 3 6 := fun i h => ⟨by rw [h]; exact j_i1 96 rfl, by decide, by decide⟩
theorem fs8_206 : ∀ i, j_own i = "WhatIfSheet$Teller" → j_FL i 206 3 6 := fun i h => ⟨by rw [h]; exact j_i1 97 rfl, by decide, by decide⟩
theorem fs3_15 : ∀ i, j_own i = "WhatIfSheet$Grid" → j_FL i 15 3 7 := fun i h => ⟨by rw [h]; exact j_i1 98 rfl, by decide, by decide⟩
theorem fs0_81 : ∀ i, j_own i = "WhatIfSheet$Board" → j_FL i 81 3 7 := fun i h => ⟨by rw [h]; exact j_i1 99 rfl, by decide, by decide⟩
theorem fs8_212 : ∀ i, j_own i = "WhatIfSheet$Teller" → j_FL i 212 3 7 := fun i h => ⟨by rw [h]; exact j_i1 100 rfl, by decide, by decide⟩
theorem fs0_9 : ∀ i, j_own i = "WhatIfSheet$Board" → j_FL i 9 0 0 := fun i h => ⟨by rw [h]; exact j_i1 118 rfl, by decide, by decide⟩
theorem fs8_54 : ∀ i, j_own i = "WhatIfSheet$Teller" → j_FL i 54 0 0 := fun i h => ⟨by rw [h]; exact j_i1 119 rfl, by decide, by decide⟩
theorem fs9_76 : ∀ i, j_own i = "WhatIfSheet" → j_FL i 76 0 0 := fun i h => ⟨by rw [h]; exact j_i1 120 rfl, by decide, by decide⟩
theorem fs0_15 : ∀ i, j_own i = "WhatIfSheet$Board" → j_FL i 15 0 1 := fun i h => ⟨by rw [h]; exact j_i1 121 rfl, by decide, by decide⟩
theorem fs8_57 : ∀ i, j_own i = "WhatIfSheet$Teller" → j_FL i 57 0 1 := fun i h => ⟨by rw [h]; exact j_i1 122 rfl, by decide, by decide⟩
theorem fs9_72 : ∀ i, j_own i = "WhatIfSheet" → j_FL i 72 0 1 := fun i h => ⟨by rw [h]; exact j_i1 123 rfl, by decide, by decide⟩
theorem fs0_19 : ∀ i, j_own i = "WhatIfSheet$Board" → j_FL i 19 0 2 := fun i h => ⟨by rw [h]; exact j_i1 124 rfl, by decide, by decide⟩
theorem fs8_63 : ∀ i, j_own i = "WhatIfSheet$Teller" → j_FL i 63 0 2 := fun i h => ⟨by rw [h]; exact j_i1 125 rfl, by decide, by decide⟩
theorem fs9_86 : ∀ i, j_own i = "WhatIfSheet" → j_FL i 86 0 2 := fun i h => ⟨by rw [h]; exact j_i1 126 rfl, by decide, by decide⟩
theorem fs0_25 : ∀ i, j_own i = "WhatIfSheet$Board" → j_FL i 25 0 3 := fun i h => ⟨by rw [h]; exact j_i1 127 rfl, by decide, by decide⟩
theorem fs4_30 : ∀ i, j_own i = "WhatIfSheet$Names" → j_FL i 30 0 3 := fun i h => ⟨by rw [h]; exact j_i1 128 rfl, by decide, by decide⟩
theorem fs9_90 : ∀ i, j_own i = "WhatIfSheet" → j_FL i 90 0 3 := fun i h => ⟨by rw [h]; exact j_i1 129 rfl, by decide, by decide⟩
theorem fs8_102 : ∀ i, j_own i = "WhatIfSheet$Teller" → j_FL i 102 0 3 := fun i h => ⟨by rw [h]; exact j_i1 130 rfl, by decide, by decide⟩
theorem fs0_31 : ∀ i, j_own i = "WhatIfSheet$Board" → j_FL i 31 0 4 := fun i h => ⟨by rw [h]; exact j_i1 131 rfl, by decide, by decide⟩
theorem fs4_42 : ∀ i, j_own i = "WhatIfSheet$Names" → j_FL i 42 0 4 := fun i h => ⟨by rw [h]; exact j_i1 132 rfl, by decide, by decide⟩
theorem fs8_148 : ∀ i, j_own i = "WhatIfSheet$Teller" → j_FL i 148 0 4 := fun i h => ⟨by rw [h]; exact j_i1 133 rfl, by decide, by decide⟩
theorem fs9_197 : ∀ i, j_own i = "WhatIfSheet" → j_FL i 197 0 4 := fun i h => ⟨by rw [h]; exact j_i1 134 rfl, by decide, by decide⟩
theorem fs5_9 : ∀ i, j_own i = "WhatIfSheet$Reader" → j_FL i 9 5 0 := fun i h => ⟨by rw [h]; exact j_i1 154 rfl, by decide, by decide⟩
theorem fs5_22 : ∀ i, j_own i = "WhatIfSheet$Reader" → j_FL i 22 5 1 := fun i h => ⟨by rw [h]; exact j_i1 155 rfl, by decide, by decide⟩
theorem fs9_151 : ∀ i, j_own i = "WhatIfSheet" → j_FL i 151 5 1 := fun i h => ⟨by rw [h]; exact j_i1 156 rfl, by decide, by decide⟩
theorem fs5_18 : ∀ i, j_own i = "WhatIfSheet$Reader" → j_FL i 18 5 2 := fun i h => ⟨by rw [h]; exact j_i1 157 rfl, by decide, by decide⟩
theorem fs9_166 : ∀ i, j_own i = "WhatIfSheet" → j_FL i 166 5 2 := fun i h => ⟨by rw [h]; exact j_i1 158 rfl, by decide, by decide⟩
theorem fs5_48 : ∀ i, j_own i = "WhatIfSheet$Reader" → j_FL i 48 5 3 := fun i h => ⟨by rw [h]; exact j_i1 159 rfl, by decide, by decide⟩
theorem fs5_32 : ∀ i, j_own i = "WhatIfSheet$Reader" → j_FL i 32 5 4 := fun i h => ⟨by rw [h]; exact j_i1 160 rfl, by decide, by decide⟩
theorem fs5_42 : ∀ i, j_own i = "WhatIfSheet$Reader" → j_FL i 42 5 5 := fun i h => ⟨by rw [h]; exact j_i1 161 rfl, by decide, by decide⟩
theorem fs5_68 : ∀ i, j_own i = "WhatIfSheet$Reader" → j_FL i 68 5 6 := fun i h => ⟨by rw [h]; exact j_i1 162 rfl, by decide, by decide⟩
theorem fs5_29 : ∀ i, j_own i = "WhatIfSheet$Reader" → j_FL i 29 5 7 := fun i h => ⟨by rw [h]; exact j_i1 163 rfl, by decide, by decide⟩
theorem fs1_7 : ∀ i, j_own i = "WhatIfSheet$Bracket" → j_FL i 7 1 0 := fun i h => ⟨by rw [h]; exact j_i1 191 rfl, by decide, by decide⟩
theorem fs9_413 : ∀ i, j_own i = "WhatIfSheet" → j_FL i 413 1 0 := fun i h => ⟨by rw [h]; exact j_i1 192 rfl, by decide, by decide⟩
theorem fs1_13 : ∀ i, j_own i = "WhatIfSheet$Bracket" → j_FL i 13 1 1 := fun i h => ⟨by rw [h]; exact j_i1 193 rfl, by decide, by decide⟩
theorem fs9_419 : ∀ i, j_own i = "WhatIfSheet" → j_FL i 419 1 1 := fun i h => ⟨by rw [h]; exact j_i1 194 rfl, by decide, by decide⟩
theorem fs1_16 : ∀ i, j_own i = "WhatIfSheet$Bracket" → j_FL i 16 1 2 := fun i h => ⟨by rw [h]; exact j_i1 195 rfl, by decide, by decide⟩
theorem fs9_439 : ∀ i, j_own i = "WhatIfSheet" → j_FL i 439 1 2 := fun i h => ⟨by rw [h]; exact j_i1 196 rfl, by decide, by decide⟩
theorem fs1_33 : ∀ i, j_own i = "WhatIfSheet$Bracket" → j_FL i 33 1 3 := fun i h => ⟨by rw [h]; exact j_i1 197 rfl, by decide, by decide⟩
theorem fs9_416 : ∀ i, j_own i = "WhatIfSheet" → j_FL i 416 1 3 := fun i h => ⟨by rw [h]; exact j_i1 198 rfl, by decide, by decide⟩
theorem fs1_40 : ∀ i, j_own i = "WhatIfSheet$Bracket" → j_FL i 40 1 4 := fun i h => ⟨by rw [h]; exact j_i1 199 rfl, by decide, by decide⟩
theorem fs9_422 : ∀ i, j_own i = "WhatIfSheet" → j_FL i 422 1 4 := fun i h => ⟨by rw [h]; exact j_i1 200 rfl, by decide, by decide⟩
theorem fs1_19 : ∀ i, j_own i = "WhatIfSheet$Bracket" → j_FL i 19 1 5 := fun i h => ⟨by rw [h]; exact j_i1 201 rfl, by decide, by decide⟩
theorem fs9_305 : ∀ i, j_own i = "WhatIfSheet" → j_FL i 305 1 5 := fun i h => ⟨by rw [h]; exact j_i1 202 rfl, by decide, by decide⟩
theorem fs1_23 : ∀ i, j_own i = "WhatIfSheet$Bracket" → j_FL i 23 1 6 := fun i h => ⟨by rw [h]; exact j_i1 203 rfl, by decide, by decide⟩
theorem fs9_308 : ∀ i, j_own i = "WhatIfSheet" → j_FL i 308 1 6 := fun i h => ⟨by rw [h]; exact j_i1 204 rfl, by decide, by decide⟩
theorem fs1_27 : ∀ i, j_own i = "WhatIfSheet$Bracket" → j_FL i 27 1 7 := fun i h => ⟨by rw [h]; exact j_i1 205 rfl, by decide, by decide⟩
theorem fs9_313 : ∀ i, j_own i = "WhatIfSheet" → j_FL i 313 1 7 := fun i h => ⟨by rw [h]; exact j_i1 206 rfl, by decide, by decide⟩
theorem fs1_30 : ∀ i, j_own i = "WhatIfSheet$Bracket" → j_FL i 30 1 8 := fun i h => ⟨by rw [h]; exact j_i1 207 rfl, by decide, by decide⟩
theorem fs9_316 : ∀ i, j_own i = "WhatIfSheet" → j_FL i 316 1 8 := fun i h => ⟨by rw [h]; exact j_i1 208 rfl, by decide, by decide⟩
theorem fs4_9 : ∀ i, j_own i = "WhatIfSheet$Names" → j_FL i 9 4 0 := fun i h => ⟨by rw [h]; exact j_i2 2 rfl, by decide, by decide⟩
theorem fs8_92 : ∀ i, j_own i = "WhatIfSheet$Teller" → j_FL i 92 4 0 := fun i h => ⟨by rw [h]; exact j_i2 3 rfl, by decide, by decide⟩
theorem fs4_15 : ∀ i, j_own i = "WhatIfSheet$Names" → j_FL i 15 4 1 := fun i h => ⟨by rw [h]; exact j_i2 4 rfl, by decide, by decide⟩
theorem fs8_75 : ∀ i, j_own i = "WhatIfSheet$Teller" → j_FL i 75 4 1 := fun i h => ⟨by rw [h]; exact j_i2 5 rfl, by decide, by decide⟩
theorem fs9_111 : ∀ i, j_own i = "WhatIfSheet" → j_FL i 111 4 1 := fun i h => ⟨by rw [h]; exact j_i2 6 rfl, by decide, by decide⟩
theorem fs4_18 : ∀ i, j_own i = "WhatIfSheet$Names" → j_FL i 18 4 2 := fun i h => ⟨by rw [h]; exact j_i2 7 rfl, by decide, by decide⟩
theorem fs8_82 : ∀ i, j_own i = "WhatIfSheet$Teller" → j_FL i 82 4 2 := fun i h => ⟨by rw [h]; exact j_i2 8 rfl, by decide, by decide⟩
theorem fs9_108 : ∀ i, j_own i = "WhatIfSheet" → j_FL i 108 4 2 := fun i h => ⟨by rw [h]; exact j_i2 9 rfl, by decide, by decide⟩
theorem fs4_21 : ∀ i, j_own i = "WhatIfSheet$Names" → j_FL i 21 4 3 := fun i h => ⟨by rw [h]; exact j_i2 10 rfl, by decide, by decide⟩
theorem fs9_114 : ∀ i, j_own i = "WhatIfSheet" → j_FL i 114 4 3 := fun i h => ⟨by rw [h]; exact j_i2 11 rfl, by decide, by decide⟩
theorem fs4_24 : ∀ i, j_own i = "WhatIfSheet$Names" → j_FL i 24 4 4 := fun i h => ⟨by rw [h]; exact j_i2 12 rfl, by decide, by decide⟩
theorem fs4_27 : ∀ i, j_own i = "WhatIfSheet$Names" → j_FL i 27 4 5 := fun i h => ⟨by rw [h]; exact j_i2 13 rfl, by decide, by decide⟩
theorem fs7_19 : ∀ i, j_own i = "WhatIfSheet$Tally" → j_FL i 19 7 0 := fun i h => ⟨by rw [h]; exact j_i2 38 rfl, by decide, by decide⟩
theorem fs6_26 : ∀ i, j_own i = "WhatIfSheet$Row" → j_FL i 26 7 0 := fun i h => ⟨by rw [h]; exact j_i2 39 rfl, by decide, by decide⟩
theorem fs7_9 : ∀ i, j_own i = "WhatIfSheet$Tally" → j_FL i 9 7 1 := fun i h => ⟨by rw [h]; exact j_i2 40 rfl, by decide, by decide⟩
theorem fs6_35 : ∀ i, j_own i = "WhatIfSheet$Row" → j_FL i 35 7 1 := fun i h => ⟨by rw [h]; exact j_i2 41 rfl, by decide, by decide⟩
theorem fs7_15 : ∀ i, j_own i = "WhatIfSheet$Tally" → j_FL i 15 7 2 := fun i h => ⟨by rw [h]; exact j_i2 42 rfl, by decide, by decide⟩
theorem fs6_38 : ∀ i, j_own i = "WhatIfSheet$Row" → j_FL i 38 7 2 := fun i h => ⟨by rw [h]; exact j_i2 43 rfl, by decide, by decide⟩
theorem fs7_23 : ∀ i, j_own i = "WhatIfSheet$Tally" → j_FL i 23 7 3 := fun i h => ⟨by rw [h]; exact j_i2 44 rfl, by decide, by decide⟩
theorem fs9_249 : ∀ i, j_own i = "WhatIfSheet" → j_FL i 249 7 3 := fun i h => ⟨by rw [h]; exact j_i2 45 rfl, by decide, by decide⟩
theorem fs7_26 : ∀ i, j_own i = "WhatIfSheet$Tally" → j_FL i 26 7 4 := fun i h => ⟨by rw [h]; exact j_i2 46 rfl, by decide, by decide⟩
theorem fs9_261 : ∀ i, j_own i = "WhatIfSheet" → j_FL i 261 7 4 := fun i h => ⟨by rw [h]; exact j_i2 47 rfl, by decide, by decide⟩
theorem fs7_30 : ∀ i, j_own i = "WhatIfSheet$Tally" → j_FL i 30 7 5 := fun i h => ⟨by rw [h]; exact j_i2 48 rfl, by decide, by decide⟩
theorem fs7_34 : ∀ i, j_own i = "WhatIfSheet$Tally" → j_FL i 34 7 6 := fun i h => ⟨by rw [h]; exact j_i2 49 rfl, by decide, by decide⟩
theorem fs7_37 : ∀ i, j_own i = "WhatIfSheet$Tally" → j_FL i 37 7 7 := fun i h => ⟨by rw [h]; exact j_i2 50 rfl, by decide, by decide⟩
theorem fs7_40 : ∀ i, j_own i = "WhatIfSheet$Tally" → j_FL i 40 7 8 := fun i h => ⟨by rw [h]; exact j_i2 51 rfl, by decide, by decide⟩
theorem fs9_271 : ∀ i, j_own i = "WhatIfSheet" → j_FL i 271 7 8 := fun i h => ⟨by rw [h]; exact j_i2 52 rfl, by decide, by decide⟩
theorem fs7_43 : ∀ i, j_own i = "WhatIfSheet$Tally" → j_FL i 43 7 9 := fun i h => ⟨by rw [h]; exact j_i2 53 rfl, by decide, by decide⟩
theorem fs9_277 : ∀ i, j_own i = "WhatIfSheet" → j_FL i 277 7 9 := fun i h => ⟨by rw [h]; exact j_i2 54 rfl, by decide, by decide⟩
theorem fs8_12 : ∀ i, j_own i = "WhatIfSheet$Teller" → j_FL i 12 8 0 := fun i h => ⟨by rw [h]; exact j_i2 76 rfl, by decide, by decide⟩
theorem fs9_50 : ∀ i, j_own i = "WhatIfSheet" → j_FL i 50 8 0 := fun i h => ⟨by rw [h]; exact j_i2 77 rfl, by decide, by decide⟩
theorem fs8_21 : ∀ i, j_own i = "WhatIfSheet$Teller" → j_FL i 21 8 1 := fun i h => ⟨by rw [h]; exact j_i2 78 rfl, by decide, by decide⟩
theorem fs9_54 : ∀ i, j_own i = "WhatIfSheet" → j_FL i 54 8 1 := fun i h => ⟨by rw [h]; exact j_i2 79 rfl, by decide, by decide⟩
theorem fs8_27 : ∀ i, j_own i = "WhatIfSheet$Teller" → j_FL i 27 8 2 := fun i h => ⟨by rw [h]; exact j_i2 80 rfl, by decide, by decide⟩
theorem fs9_392 : ∀ i, j_own i = "WhatIfSheet" → j_FL i 392 8 2 := fun i h => ⟨by rw [h]; exact j_i2 81 rfl, by decide, by decide⟩
theorem fs8_33 : ∀ i, j_own i = "WhatIfSheet$Teller" → j_FL i 33 8 3 := fun i h => ⟨by rw [h]; exact j_i2 82 rfl, by decide, by decide⟩
theorem fs9_129 : ∀ i, j_own i = "WhatIfSheet" → j_FL i 129 8 3 := fun i h => ⟨by rw [h]; exact j_i2 83 rfl, by decide, by decide⟩
theorem fs8_38 : ∀ i, j_own i = "WhatIfSheet$Teller" → j_FL i 38 8 4 := fun i h => ⟨by rw [h]; exact j_i2 84 rfl, by decide, by decide⟩
theorem fs9_385 : ∀ i, j_own i = "WhatIfSheet" → j_FL i 385 8 4 := fun i h => ⟨by rw [h]; exact j_i2 85 rfl, by decide, by decide⟩
theorem fs8_41 : ∀ i, j_own i = "WhatIfSheet$Teller" → j_FL i 41 8 5 := fun i h => ⟨by rw [h]; exact j_i2 86 rfl, by decide, by decide⟩
theorem fs8_45 : ∀ i, j_own i = "WhatIfSheet$Teller" → j_FL i 45 8 6 := fun i h => ⟨by rw [h]; exact j_i2 87 rfl, by decide, by decide⟩
theorem fs8_50 : ∀ i, j_own i = "WhatIfSheet$Teller" → j_FL i 50 8 7 := fun i h => ⟨by rw [h]; exact j_i2 88 rfl, by decide, by decide⟩
theorem fs6_9 : ∀ i, j_own i = "WhatIfSheet$Row" → j_FL i 9 6 0 := fun i h => ⟨by rw [h]; exact j_i2 111 rfl, by decide, by decide⟩
theorem fs9_219 : ∀ i, j_own i = "WhatIfSheet" → j_FL i 219 6 0 := fun i h => ⟨by rw [h]; exact j_i2 112 rfl, by decide, by decide⟩
theorem fs6_23 : ∀ i, j_own i = "WhatIfSheet$Row" → j_FL i 23 6 1 := fun i h => ⟨by rw [h]; exact j_i2 113 rfl, by decide, by decide⟩
theorem fs9_335 : ∀ i, j_own i = "WhatIfSheet" → j_FL i 335 6 1 := fun i h => ⟨by rw [h]; exact j_i2 114 rfl, by decide, by decide⟩
theorem fs6_15 : ∀ i, j_own i = "WhatIfSheet$Row" → j_FL i 15 6 2 := fun i h => ⟨by rw [h]; exact j_i2 115 rfl, by decide, by decide⟩
theorem fs9_228 : ∀ i, j_own i = "WhatIfSheet" → j_FL i 228 6 2 := fun i h => ⟨by rw [h]; exact j_i2 116 rfl, by decide, by decide⟩
theorem fs6_19 : ∀ i, j_own i = "WhatIfSheet$Row" → j_FL i 19 6 3 := fun i h => ⟨by rw [h]; exact j_i2 117 rfl, by decide, by decide⟩
theorem fs9_369 : ∀ i, j_own i = "WhatIfSheet" → j_FL i 369 6 3 := fun i h => ⟨by rw [h]; exact j_i2 118 rfl, by decide, by decide⟩
theorem fs9_46 : ∀ i, j_own i = "WhatIfSheet" → j_FL i 46 9 0 := fun i h => ⟨by rw [h]; exact j_i2 128 rfl, by decide, by decide⟩
theorem fs9_53 : ∀ i, j_own i = "WhatIfSheet" → j_FL i 53 9 1 := fun i h => ⟨by rw [h]; exact j_i2 129 rfl, by decide, by decide⟩
theorem fs9_58 : ∀ i, j_own i = "WhatIfSheet" → j_FL i 58 9 2 := fun i h => ⟨by rw [h]; exact j_i2 130 rfl, by decide, by decide⟩
theorem fs9_10 : ∀ i, j_own i = "WhatIfSheet" → j_FL i 10 9 3 := fun i h => ⟨by rw [h]; exact j_i2 131 rfl, by decide, by decide⟩
theorem fs9_350 : ∀ i, j_own i = "WhatIfSheet" → j_FL i 350 9 4 := fun i h => ⟨by rw [h]; exact j_i2 132 rfl, by decide, by decide⟩
theorem fs9_19 : ∀ i, j_own i = "WhatIfSheet" → j_FL i 19 9 5 := fun i h => ⟨by rw [h]; exact j_i2 133 rfl, by decide, by decide⟩
theorem fs9_26 : ∀ i, j_own i = "WhatIfSheet" → j_FL i 26 9 6 := fun i h => ⟨by rw [h]; exact j_i2 134 rfl, by decide, by decide⟩
theorem fs9_32 : ∀ i, j_own i = "WhatIfSheet" → j_FL i 32 9 7 := fun i h => ⟨by rw [h]; exact j_i2 135 rfl, by decide, by decide⟩
theorem fs9_39 : ∀ i, j_own i = "WhatIfSheet" → j_FL i 39 9 8 := fun i h => ⟨by rw [h]; exact j_i2 136 rfl, by decide, by decide⟩
theorem fs10_9 : ∀ i, j_own i = "WhatIfSheetModel" → j_FL i 9 10 0 := fun i h => ⟨by rw [h]; exact j_i5 114 rfl, by decide, by decide⟩
theorem fs10_13 : ∀ i, j_own i = "WhatIfSheetModel" → j_FL i 13 10 1 := fun i h => ⟨by rw [h]; exact j_i5 115 rfl, by decide, by decide⟩
theorem fs10_17 : ∀ i, j_own i = "WhatIfSheetModel" → j_FL i 17 10 2 := fun i h => ⟨by rw [h]; exact j_i5 116 rfl, by decide, by decide⟩
theorem fs10_21 : ∀ i, j_own i = "WhatIfSheetModel" → j_FL i 21 10 3 := fun i h => ⟨by rw [h]; exact j_i5 117 rfl, by decide, by decide⟩
theorem fs10_26 : ∀ i, j_own i = "WhatIfSheetModel" → j_FL i 26 10 4 := fun i h => ⟨by rw [h]; exact j_i5 118 rfl, by decide, by decide⟩
theorem fs10_31 : ∀ i, j_own i = "WhatIfSheetModel" → j_FL i 31 10 5 := fun i h => ⟨by rw [h]; exact j_i5 119 rfl, by decide, by decide⟩
theorem fs10_34 : ∀ i, j_own i = "WhatIfSheetModel" → j_FL i 34 10 6 := fun i h => ⟨by rw [h]; exact j_i5 120 rfl, by decide, by decide⟩
theorem fs10_37 : ∀ i, j_own i = "WhatIfSheetModel" → j_FL i 37 10 7 := fun i h => ⟨by rw [h]; exact j_i5 121 rfl, by decide, by decide⟩
theorem fs10_40 : ∀ i, j_own i = "WhatIfSheetModel" → j_FL i 40 10 8 := fun i h => ⟨by rw [h]; exact j_i5 122 rfl, by decide, by decide⟩
theorem fs10_43 : ∀ i, j_own i = "WhatIfSheetModel" → j_FL i 43 10 9 := fun i h => ⟨by rw [h]; exact j_i5 123 rfl, by decide, by decide⟩
theorem fs10_46 : ∀ i, j_own i = "WhatIfSheetModel" → j_FL i 46 10 10 := fun i h => ⟨by rw [h]; exact j_i5 124 rfl, by decide, by decide⟩
theorem fs10_49 : ∀ i, j_own i = "WhatIfSheetModel" → j_FL i 49 10 11 := fun i h => ⟨by rw [h]; exact j_i5 125 rfl, by decide, by decide⟩
theorem fs10_52 : ∀ i, j_own i = "WhatIfSheetModel" → j_FL i 52 10 12 := fun i h => ⟨by rw [h]; exact j_i5 126 rfl, by decide, by decide⟩
theorem fs10_55 : ∀ i, j_own i = "WhatIfSheetModel" → j_FL i 55 10 13 := fun i h => ⟨by rw [h]; exact j_i5 127 rfl, by decide, by decide⟩
theorem fs10_58 : ∀ i, j_own i = "WhatIfSheetModel" → j_FL i 58 10 14 := fun i h => ⟨by rw [h]; exact j_i5 128 rfl, by decide, by decide⟩
theorem fs10_61 : ∀ i, j_own i = "WhatIfSheetModel" → j_FL i 61 10 15 := fun i h => ⟨by rw [h]; exact j_i5 129 rfl, by decide, by decide⟩
theorem fs10_64 : ∀ i, j_own i = "WhatIfSheetModel" → j_FL i 64 10 16 := fun i h => ⟨by rw [h]; exact j_i5 130 rfl, by decide, by decide⟩
theorem fs10_67 : ∀ i, j_own i = "WhatIfSheetModel" → j_FL i 67 10 17 := fun i h => ⟨by rw [h]; exact j_i5 131 rfl, by decide, by decide⟩
theorem fs10_247 : ∀ i, j_own i = "WhatIfSheetModel" → j_FL i 247 10 18 := fun i h => ⟨by rw [h]; exact j_i5 132 rfl, by decide, by decide⟩
theorem fs10_72 : ∀ i, j_own i = "WhatIfSheetModel" → j_FL i 72 10 19 := fun i h => ⟨by rw [h]; exact j_i5 133 rfl, by decide, by decide⟩
theorem fs10_75 : ∀ i, j_own i = "WhatIfSheetModel" → j_FL i 75 10 20 := fun i h => ⟨by rw [h]; exact j_i5 134 rfl, by decide, by decide⟩
theorem fs10_78 : ∀ i, j_own i = "WhatIfSheetModel" → j_FL i 78 10 21 := fun i h => ⟨by rw [h]; exact j_i5 135 rfl, by decide, by decide⟩
theorem fs10_81 : ∀ i, j_own i = "WhatIfSheetModel" → j_FL i 81 10 22 := fun i h => ⟨by rw [h]; exact j_i5 136 rfl, by decide, by decide⟩
theorem fs10_84 : ∀ i, j_own i = "WhatIfSheetModel" → j_FL i 84 10 23 := fun i h => ⟨by rw [h]; exact j_i5 137 rfl, by decide, by decide⟩
theorem fs10_87 : ∀ i, j_own i = "WhatIfSheetModel" → j_FL i 87 10 24 := fun i h => ⟨by rw [h]; exact j_i5 138 rfl, by decide, by decide⟩
theorem fs10_90 : ∀ i, j_own i = "WhatIfSheetModel" → j_FL i 90 10 25 := fun i h => ⟨by rw [h]; exact j_i5 139 rfl, by decide, by decide⟩
theorem fs10_243 : ∀ i, j_own i = "WhatIfSheetModel" → j_FL i 243 10 26 := fun i h => ⟨by rw [h]; exact j_i5 140 rfl, by decide, by decide⟩
theorem fs10_93 : ∀ i, j_own i = "WhatIfSheetModel" → j_FL i 93 10 27 := fun i h => ⟨by rw [h]; exact j_i5 141 rfl, by decide, by decide⟩
theorem fs10_96 : ∀ i, j_own i = "WhatIfSheetModel" → j_FL i 96 10 28 := fun i h => ⟨by rw [h]; exact j_i5 142 rfl, by decide, by decide⟩
theorem fs10_99 : ∀ i, j_own i = "WhatIfSheetModel" → j_FL i 99 10 29 := fun i h => ⟨by rw [h]; exact j_i5 143 rfl, by decide, by decide⟩
theorem fs10_282 : ∀ i, j_own i = "WhatIfSheetModel" → j_FL i 282 10 30 := fun i h => ⟨by rw [h]; exact j_i5 144 rfl, by decide, by decide⟩
theorem fs10_286 : ∀ i, j_own i = "WhatIfSheetModel" → j_FL i 286 10 31 := fun i h => ⟨by rw [h]; exact j_i5 145 rfl, by decide, by decide⟩
theorem fs10_289 : ∀ i, j_own i = "WhatIfSheetModel" → j_FL i 289 10 32 := fun i h => ⟨by rw [h]; exact j_i5 146 rfl, by decide, by decide⟩
theorem fs10_102 : ∀ i, j_own i = "WhatIfSheetModel" → j_FL i 102 10 33 := fun i h => ⟨by rw [h]; exact j_i5 147 rfl, by decide, by decide⟩
theorem fs10_348 : ∀ i, j_own i = "WhatIfSheetModel" → j_FL i 348 10 34 := fun i h => ⟨by rw [h]; exact j_i5 148 rfl, by decide, by decide⟩
theorem fs10_105 : ∀ i, j_own i = "WhatIfSheetModel" → j_FL i 105 10 35 := fun i h => ⟨by rw [h]; exact j_i5 149 rfl, by decide, by decide⟩
theorem fs10_108 : ∀ i, j_own i = "WhatIfSheetModel" → j_FL i 108 10 36 := fun i h => ⟨by rw [h]; exact j_i5 150 rfl, by decide, by decide⟩
theorem fs10_424 : ∀ i, j_own i = "WhatIfSheetModel" → j_FL i 424 10 37 := fun i h => ⟨by rw [h]; exact j_i5 151 rfl, by decide, by decide⟩
theorem fs10_450 : ∀ i, j_own i = "WhatIfSheetModel" → j_FL i 450 10 38 := fun i h => ⟨by rw [h]; exact j_i5 152 rfl, by decide, by decide⟩
theorem fs10_351 : ∀ i, j_own i = "WhatIfSheetModel" → j_FL i 351 10 39 := fun i h => ⟨by rw [h]; exact j_i5 153 rfl, by decide, by decide⟩
theorem fs10_361 : ∀ i, j_own i = "WhatIfSheetModel" → j_FL i 361 10 40 := fun i h => ⟨by rw [h]; exact j_i5 154 rfl, by decide, by decide⟩
theorem fs10_364 : ∀ i, j_own i = "WhatIfSheetModel" → j_FL i 364 10 41 := fun i h => ⟨by rw [h]; exact j_i5 155 rfl, by decide, by decide⟩
theorem fs10_378 : ∀ i, j_own i = "WhatIfSheetModel" → j_FL i 378 10 42 := fun i h => ⟨by rw [h]; exact j_i5 156 rfl, by decide, by decide⟩
theorem fs10_388 : ∀ i, j_own i = "WhatIfSheetModel" → j_FL i 388 10 43 := fun i h => ⟨by rw [h]; exact j_i5 157 rfl, by decide, by decide⟩
theorem fs10_391 : ∀ i, j_own i = "WhatIfSheetModel" → j_FL i 391 10 44 := fun i h => ⟨by rw [h]; exact j_i5 158 rfl, by decide, by decide⟩
theorem fs10_438 : ∀ i, j_own i = "WhatIfSheetModel" → j_FL i 438 10 45 := fun i h => ⟨by rw [h]; exact j_i5 159 rfl, by decide, by decide⟩
theorem fs10_357 : ∀ i, j_own i = "WhatIfSheetModel" → j_FL i 357 10 46 := fun i h => ⟨by rw [h]; exact j_i5 160 rfl, by decide, by decide⟩
theorem fs10_111 : ∀ i, j_own i = "WhatIfSheetModel" → j_FL i 111 10 47 := fun i h => ⟨by rw [h]; exact j_i5 161 rfl, by decide, by decide⟩
theorem fs10_114 : ∀ i, j_own i = "WhatIfSheetModel" → j_FL i 114 10 48 := fun i h => ⟨by rw [h]; exact j_i5 162 rfl, by decide, by decide⟩
theorem fs10_117 : ∀ i, j_own i = "WhatIfSheetModel" → j_FL i 117 10 49 := fun i h => ⟨by rw [h]; exact j_i5 163 rfl, by decide, by decide⟩
theorem fs10_120 : ∀ i, j_own i = "WhatIfSheetModel" → j_FL i 120 10 50 := fun i h => ⟨by rw [h]; exact j_i5 164 rfl, by decide, by decide⟩
theorem fs10_511 : ∀ i, j_own i = "WhatIfSheetModel" → j_FL i 511 10 51 := fun i h => ⟨by rw [h]; exact j_i5 165 rfl, by decide, by decide⟩
theorem fs10_514 : ∀ i, j_own i = "WhatIfSheetModel" → j_FL i 514 10 52 := fun i h => ⟨by rw [h]; exact j_i5 166 rfl, by decide, by decide⟩
theorem fs10_517 : ∀ i, j_own i = "WhatIfSheetModel" → j_FL i 517 10 53 := fun i h => ⟨by rw [h]; exact j_i5 167 rfl, by decide, by decide⟩
theorem fs10_520 : ∀ i, j_own i = "WhatIfSheetModel" → j_FL i 520 10 54 := fun i h => ⟨by rw [h]; exact j_i5 168 rfl, by decide, by decide⟩
theorem fs10_123 : ∀ i, j_own i = "WhatIfSheetModel" → j_FL i 123 10 55 := fun i h => ⟨by rw [h]; exact j_i5 169 rfl, by decide, by decide⟩
theorem fs10_126 : ∀ i, j_own i = "WhatIfSheetModel" → j_FL i 126 10 56 := fun i h => ⟨by rw [h]; exact j_i5 170 rfl, by decide, by decide⟩
theorem fs10_563 : ∀ i, j_own i = "WhatIfSheetModel" → j_FL i 563 10 57 := fun i h => ⟨by rw [h]; exact j_i5 171 rfl, by decide, by decide⟩
theorem fs10_129 : ∀ i, j_own i = "WhatIfSheetModel" → j_FL i 129 10 58 := fun i h => ⟨by rw [h]; exact j_i5 172 rfl, by decide, by decide⟩
theorem fs10_132 : ∀ i, j_own i = "WhatIfSheetModel" → j_FL i 132 10 59 := fun i h => ⟨by rw [h]; exact j_i5 173 rfl, by decide, by decide⟩
theorem fs10_135 : ∀ i, j_own i = "WhatIfSheetModel" → j_FL i 135 10 60 := fun i h => ⟨by rw [h]; exact j_i5 174 rfl, by decide, by decide⟩
theorem fs10_138 : ∀ i, j_own i = "WhatIfSheetModel" → j_FL i 138 10 61 := fun i h => ⟨by rw [h]; exact j_i5 175 rfl, by decide, by decide⟩
theorem fs10_141 : ∀ i, j_own i = "WhatIfSheetModel" → j_FL i 141 10 62 := fun i h => ⟨by rw [h]; exact j_i5 176 rfl, by decide, by decide⟩
theorem fs10_144 : ∀ i, j_own i = "WhatIfSheetModel" → j_FL i 144 10 63 := fun i h => ⟨by rw [h]; exact j_i5 177 rfl, by decide, by decide⟩
theorem fs10_147 : ∀ i, j_own i = "WhatIfSheetModel" → j_FL i 147 10 64 := fun i h => ⟨by rw [h]; exact j_i5 178 rfl, by decide, by decide⟩
theorem fs10_150 : ∀ i, j_own i = "WhatIfSheetModel" → j_FL i 150 10 65 := fun i h => ⟨by rw [h]; exact j_i5 179 rfl, by decide, by decide⟩
theorem fs10_153 : ∀ i, j_own i = "WhatIfSheetModel" → j_FL i 153 10 66 := fun i h => ⟨by rw [h]; exact j_i5 180 rfl, by decide, by decide⟩
theorem fs10_156 : ∀ i, j_own i = "WhatIfSheetModel" → j_FL i 156 10 67 := fun i h => ⟨by rw [h]; exact j_i5 181 rfl, by decide, by decide⟩
theorem fs10_159 : ∀ i, j_own i = "WhatIfSheetModel" → j_FL i 159 10 68 := fun i h => ⟨by rw [h]; exact j_i5 182 rfl, by decide, by decide⟩
theorem fs10_162 : ∀ i, j_own i = "WhatIfSheetModel" → j_FL i 162 10 69 := fun i h => ⟨by rw [h]; exact j_i5 183 rfl, by decide, by decide⟩
theorem fs10_165 : ∀ i, j_own i = "WhatIfSheetModel" → j_FL i 165 10 70 := fun i h => ⟨by rw [h]; exact j_i5 184 rfl, by decide, by decide⟩
theorem fs10_168 : ∀ i, j_own i = "WhatIfSheetModel" → j_FL i 168 10 71 := fun i h => ⟨by rw [h]; exact j_i5 185 rfl, by decide, by decide⟩
theorem fs10_171 : ∀ i, j_own i = "WhatIfSheetModel" → j_FL i 171 10 72 := fun i h => ⟨by rw [h]; exact j_i5 186 rfl, by decide, by decide⟩
theorem fs10_174 : ∀ i, j_own i = "WhatIfSheetModel" → j_FL i 174 10 73 := fun i h => ⟨by rw [h]; exact j_i5 187 rfl, by decide, by decide⟩
theorem fs10_177 : ∀ i, j_own i = "WhatIfSheetModel" → j_FL i 177 10 74 := fun i h => ⟨by rw [h]; exact j_i5 188 rfl, by decide, by decide⟩
theorem fs10_180 : ∀ i, j_own i = "WhatIfSheetModel" → j_FL i 180 10 75 := fun i h => ⟨by rw [h]; exact j_i5 189 rfl, by decide, by decide⟩
theorem cv9_9 : ∀ i, j_own i = "WhatIfSheet" → j_CI i 9 2 0 := fun i h => ⟨by rw [h]; exact j_i1 30 rfl, j_i1 31 rfl, j_i1 2 rfl, j_m2, by decide +kernel, rfl, rfl⟩
theorem cv9_45 : ∀ i, j_own i = "WhatIfSheet" → j_CI i 45 7 0 := fun i h => ⟨by rw [h]; exact j_i1 230 rfl, j_i1 231 rfl, j_i1 7 rfl, j_m7, by decide +kernel, rfl, rfl⟩
theorem cv8_11 : ∀ i, j_own i = "WhatIfSheet$Teller" → j_CI i 11 2 0 := fun i h => ⟨by rw [h]; exact j_i1 235 rfl, j_i1 31 rfl, j_i1 2 rfl, j_m2, by decide +kernel, rfl, rfl⟩
theorem cv8_20 : ∀ i, j_own i = "WhatIfSheet$Teller" → j_CI i 20 8 0 := fun i h => ⟨by rw [h]; exact j_i1 238 rfl, j_i1 239 rfl, j_i1 8 rfl, j_m8, by decide +kernel, rfl, rfl⟩
theorem cv9_60 : ∀ i, j_own i = "WhatIfSheet" → j_CS i 60 12 1 := fun i h => ⟨by rw [h]; exact j_i2 160 rfl, j_i2 161 rfl, j_i1 1 rfl, j_m12, by decide +kernel⟩
theorem cv9_65 : ∀ i, j_own i = "WhatIfSheet" → j_CS i 65 13 2 := fun i h => ⟨by rw [h]; exact j_i2 164 rfl, j_i2 165 rfl, j_i1 1 rfl, j_m13, by decide +kernel⟩
theorem cv9_69 : ∀ i, j_own i = "WhatIfSheet" → j_CV i 69 14 1 := fun i h => ⟨by rw [h]; exact j_i2 167 rfl, j_i2 168 rfl, j_i2 169 rfl, j_i1 2 rfl, j_m14, by decide +kernel⟩
theorem cv9_82 : ∀ i, j_own i = "WhatIfSheet" → j_CS i 82 15 2 := fun i h => ⟨by rw [h]; exact j_i2 172 rfl, j_i2 173 rfl, j_i1 1 rfl, j_m15, by decide +kernel⟩
theorem cv9_459 : ∀ i, j_own i = "WhatIfSheet" → j_CS i 459 16 2 := fun i h => ⟨by rw [h]; exact j_i2 176 rfl, j_i2 177 rfl, j_i1 1 rfl, j_m16, by decide +kernel⟩
theorem cv9_94 : ∀ i, j_own i = "WhatIfSheet" → j_CV i 94 18 0 := fun i h => ⟨by rw [h]; exact j_i2 186 rfl, j_i2 187 rfl, j_i2 188 rfl, j_i1 3 rfl, j_m18, by decide +kernel⟩
theorem cv9_99 : ∀ i, j_own i = "WhatIfSheet" → j_CV i 99 19 1 := fun i h => ⟨by rw [h]; exact j_i2 190 rfl, j_i2 191 rfl, j_i2 192 rfl, j_i1 8 rfl, j_m19, by decide +kernel⟩
theorem cv4_63 : ∀ i, j_own i = "WhatIfSheet$Names" → j_CV i 63 20 1 := fun i h => ⟨by rw [h]; exact j_i2 194 rfl, j_i2 196 rfl, j_inP 0 rfl, j_i1 8 rfl, j_m20, by decide +kernel⟩
theorem cv4_59 : ∀ i, j_own i = "WhatIfSheet$Names" → j_CS i 59 22 2 := fun i h => ⟨by rw [h]; exact j_i2 201 rfl, j_i2 202 rfl, j_i1 8 rfl, j_m22, by decide +kernel⟩
theorem cv4_67 : ∀ i, j_own i = "WhatIfSheet$Names" → j_CV i 67 23 2 := fun i h => ⟨by rw [h]; exact j_i2 204 rfl, j_i2 206 rfl, j_inP 1 rfl, j_i1 8 rfl, j_m23, by decide +kernel⟩
theorem cv4_93 : ∀ i, j_own i = "WhatIfSheet$Names" → j_CV i 93 24 0 := fun i h => ⟨by rw [h]; exact j_i2 208 rfl, j_i2 209 rfl, j_i2 210 rfl, j_i1 4 rfl, j_m24, by decide +kernel⟩
theorem cv3_44 : ∀ i, j_own i = "WhatIfSheet$Grid" → j_CV i 44 25 0 := fun i h => ⟨by rw [h]; exact j_i2 212 rfl, j_i2 213 rfl, j_i2 214 rfl, j_i1 4 rfl, j_m25, by decide +kernel⟩
theorem cv4_89 : ∀ i, j_own i = "WhatIfSheet$Names" → j_CS i 89 26 1 := fun i h => ⟨by rw [h]; exact j_i2 216 rfl, j_i2 217 rfl, j_i1 8 rfl, j_m26, by decide +kernel⟩
theorem cv4_71 : ∀ i, j_own i = "WhatIfSheet$Names" → j_CV i 71 14 1 := fun i h => ⟨by rw [h]; exact j_i2 220 rfl, j_i2 168 rfl, j_i2 169 rfl, j_i1 2 rfl, j_m14, by decide +kernel⟩
theorem cv4_75 : ∀ i, j_own i = "WhatIfSheet$Names" → j_CV i 75 27 2 := fun i h => ⟨by rw [h]; exact j_i2 221 rfl, j_i2 223 rfl, j_inP 2 rfl, j_i1 8 rfl, j_m27, by decide +kernel⟩
theorem cv4_85 : ∀ i, j_own i = "WhatIfSheet$Names" → j_CV i 85 28 0 := fun i h => ⟨by rw [h]; exact j_i2 225 rfl, j_i2 226 rfl, j_i2 227 rfl, j_i1 4 rfl, j_m28, by decide +kernel⟩
theorem cv4_78 : ∀ i, j_own i = "WhatIfSheet$Names" → j_CV i 78 29 1 := fun i h => ⟨by rw [h]; exact j_i2 229 rfl, j_i2 231 rfl, j_inP 3 rfl, j_i1 8 rfl, j_m29, by decide +kernel⟩
theorem cv9_105 : ∀ i, j_own i = "WhatIfSheet" → j_CS i 105 31 1 := fun i h => ⟨by rw [h]; exact j_i2 237 rfl, j_i2 238 rfl, j_i1 1 rfl, j_m31, by decide +kernel⟩
theorem cv9_117 : ∀ i, j_own i = "WhatIfSheet" → j_CV i 117 33 1 := fun i h => ⟨by rw [h]; exact j_i3 4 rfl, j_i3 6 rfl, j_inP 4 rfl, j_i1 1 rfl, j_m33, by decide +kernel⟩
theorem cv9_138 : ∀ i, j_own i = "WhatIfSheet" → j_CV i 138 34 0 := fun i h => ⟨by rw [h]; exact j_i3 8 rfl, j_i3 9 rfl, j_i3 10 rfl, j_i1 7 rfl, j_m34, by decide +kernel⟩
theorem cv8_95 : ∀ i, j_own i = "WhatIfSheet$Teller" → j_CV i 95 14 1 := fun i h => ⟨by rw [h]; exact j_i3 21 rfl, j_i2 168 rfl, j_i2 169 rfl, j_i1 2 rfl, j_m14, by decide +kernel⟩
theorem cv8_99 : ∀ i, j_own i = "WhatIfSheet$Teller" → j_CV i 99 37 2 := fun i h => ⟨by rw [h]; exact j_i3 22 rfl, j_i3 24 rfl, j_inP 6 rfl, j_i1 7 rfl, j_m37, by decide +kernel⟩
theorem cv8_117 : ∀ i, j_own i = "WhatIfSheet$Teller" → j_CV i 117 38 2 := fun i h => ⟨by rw [h]; exact j_i3 28 rfl, j_i3 30 rfl, j_inP 7 rfl, j_i1 7 rfl, j_m38, by decide +kernel⟩
theorem cv8_127 : ∀ i, j_own i = "WhatIfSheet$Teller" → j_CV i 127 40 4 := fun i h => ⟨by rw [h]; exact j_i3 36 rfl, j_i3 38 rfl, j_inP 8 rfl, j_i1 7 rfl, j_m40, by decide +kernel⟩
theorem cv8_158 : ∀ i, j_own i = "WhatIfSheet$Teller" → j_CV i 158 41 2 := fun i h => ⟨by rw [h]; exact j_i3 40 rfl, j_i3 42 rfl, j_inP 9 rfl, j_i1 7 rfl, j_m41, by decide +kernel⟩
theorem cv8_169 : ∀ i, j_own i = "WhatIfSheet$Teller" → j_CV i 169 42 0 := fun i h => ⟨by rw [h]; exact j_i3 44 rfl, j_i3 45 rfl, j_i3 46 rfl, j_i1 9 rfl, j_m42, by decide +kernel⟩
theorem cv8_172 : ∀ i, j_own i = "WhatIfSheet$Teller" → j_CV i 172 43 1 := fun i h => ⟨by rw [h]; exact j_i3 48 rfl, j_i3 49 rfl, j_i3 50 rfl, j_i1 7 rfl, j_m43, by decide +kernel⟩
theorem cv8_179 : ∀ i, j_own i = "WhatIfSheet$Teller" → j_CV i 179 44 2 := fun i h => ⟨by rw [h]; exact j_i3 55 rfl, j_i3 56 rfl, j_i3 57 rfl, j_i1 8 rfl, j_m44, by decide +kernel⟩
theorem cv8_186 : ∀ i, j_own i = "WhatIfSheet$Teller" → j_CV i 186 25 0 := fun i h => ⟨by rw [h]; exact j_i3 59 rfl, j_i2 213 rfl, j_i2 214 rfl, j_i1 4 rfl, j_m25, by decide +kernel⟩
theorem cv8_190 : ∀ i, j_own i = "WhatIfSheet$Teller" → j_CV i 190 45 4 := fun i h => ⟨by rw [h]; exact j_i3 60 rfl, j_i3 61 rfl, j_i3 62 rfl, j_i1 7 rfl, j_m45, by decide +kernel⟩
theorem cv8_78 : ∀ i, j_own i = "WhatIfSheet$Teller" → j_CV i 78 36 2 := fun i h => ⟨by rw [h]; exact j_i3 64 rfl, j_i3 18 rfl, j_inP 5 rfl, j_i1 7 rfl, j_m36, by decide +kernel⟩
theorem cv8_194 : ∀ i, j_own i = "WhatIfSheet$Teller" → j_CV i 194 46 2 := fun i h => ⟨by rw [h]; exact j_i3 65 rfl, j_i3 66 rfl, j_i3 67 rfl, j_i1 9 rfl, j_m46, by decide +kernel⟩
theorem cv7_46 : ∀ i, j_own i = "WhatIfSheet$Tally" → j_CV i 46 47 1 := fun i h => ⟨by rw [h]; exact j_i3 69 rfl, j_i3 71 rfl, j_inP 10 rfl, j_i1 9 rfl, j_m47, by decide +kernel⟩
theorem cv8_161 : ∀ i, j_own i = "WhatIfSheet$Teller" → j_CV i 161 48 1 := fun i h => ⟨by rw [h]; exact j_i3 75 rfl, j_i3 76 rfl, j_i3 77 rfl, j_i1 9 rfl, j_m48, by decide +kernel⟩
theorem cv8_165 : ∀ i, j_own i = "WhatIfSheet$Teller" → j_CV i 165 49 1 := fun i h => ⟨by rw [h]; exact j_i3 79 rfl, j_i3 80 rfl, j_i3 81 rfl, j_i1 9 rfl, j_m49, by decide +kernel⟩
theorem cv8_131 : ∀ i, j_own i = "WhatIfSheet$Teller" → j_CV i 131 50 0 := fun i h => ⟨by rw [h]; exact j_i3 83 rfl, j_i3 85 rfl, j_inP 11 rfl, j_i1 7 rfl, j_m50, by decide +kernel⟩
theorem cv8_134 : ∀ i, j_own i = "WhatIfSheet$Teller" → j_CV i 134 51 0 := fun i h => ⟨by rw [h]; exact j_i3 87 rfl, j_i3 89 rfl, j_inP 12 rfl, j_i1 7 rfl, j_m51, by decide +kernel⟩
theorem cv8_137 : ∀ i, j_own i = "WhatIfSheet$Teller" → j_CV i 137 52 2 := fun i h => ⟨by rw [h]; exact j_i3 91 rfl, j_i3 93 rfl, j_inP 13 rfl, j_i1 7 rfl, j_m52, by decide +kernel⟩
theorem cv9_121 : ∀ i, j_own i = "WhatIfSheet" → j_CS i 121 53 1 := fun i h => ⟨by rw [h]; exact j_i3 98 rfl, j_i3 99 rfl, j_i1 1 rfl, j_m53, by decide +kernel⟩
theorem cv9_124 : ∀ i, j_own i = "WhatIfSheet" → j_CS i 124 54 1 := fun i h => ⟨by rw [h]; exact j_i3 101 rfl, j_i3 102 rfl, j_i1 1 rfl, j_m54, by decide +kernel⟩
theorem cv9_132 : ∀ i, j_own i = "WhatIfSheet" → j_CS i 132 56 2 := fun i h => ⟨by rw [h]; exact j_i3 109 rfl, j_i3 110 rfl, j_i1 1 rfl, j_m56, by decide +kernel⟩
theorem cv9_267 : ∀ i, j_own i = "WhatIfSheet" → j_CS i 267 57 1 := fun i h => ⟨by rw [h]; exact j_i3 112 rfl, j_i3 113 rfl, j_i1 1 rfl, j_m57, by decide +kernel⟩
theorem cv9_141 : ∀ i, j_own i = "WhatIfSheet" → j_CV i 141 59 3 := fun i h => ⟨by rw [h]; exact j_i3 122 rfl, j_i3 123 rfl, j_i3 124 rfl, j_i1 7 rfl, j_m59, by decide +kernel⟩
theorem cv8_71 : ∀ i, j_own i = "WhatIfSheet$Teller" → j_CV i 71 60 2 := fun i h => ⟨by rw [h]; exact j_i3 126 rfl, j_i3 127 rfl, j_i3 128 rfl, j_i1 7 rfl, j_m60, by decide +kernel⟩
theorem cv9_148 : ∀ i, j_own i = "WhatIfSheet" → j_CS i 148 63 1 := fun i h => ⟨by rw [h]; exact j_i3 140 rfl, j_i3 141 rfl, j_i1 1 rfl, j_m63, by decide +kernel⟩
theorem cv9_155 : ∀ i, j_own i = "WhatIfSheet" → j_CV i 155 64 1 := fun i h => ⟨by rw [h]; exact j_i3 143 rfl, j_i3 144 rfl, j_i3 145 rfl, j_i1 5 rfl, j_m64, by decide +kernel⟩
theorem cv9_159 : ∀ i, j_own i = "WhatIfSheet" → j_CV i 159 66 0 := fun i h => ⟨by rw [h]; exact j_i3 151 rfl, j_i3 152 rfl, j_i3 153 rfl, j_i1 5 rfl, j_m66, by decide +kernel⟩
theorem cv5_26 : ∀ i, j_own i = "WhatIfSheet$Reader" → j_CV i 26 18 0 := fun i h => ⟨by rw [h]; exact j_i3 155 rfl, j_i2 187 rfl, j_i2 188 rfl, j_i1 3 rfl, j_m18, by decide +kernel⟩
theorem cv5_35 : ∀ i, j_own i = "WhatIfSheet$Reader" → j_CV i 35 67 0 := fun i h => ⟨by rw [h]; exact j_i3 156 rfl, j_i3 158 rfl, j_inP 14 rfl, j_i1 5 rfl, j_m67, by decide +kernel⟩
theorem cv5_89 : ∀ i, j_own i = "WhatIfSheet$Reader" → j_CS i 89 68 1 := fun i h => ⟨by rw [h]; exact j_i3 160 rfl, j_i3 161 rfl, j_i1 5 rfl, j_m68, by decide +kernel⟩
theorem cv5_93 : ∀ i, j_own i = "WhatIfSheet$Reader" → j_CS i 93 69 1 := fun i h => ⟨by rw [h]; exact j_i3 163 rfl, j_i3 164 rfl, j_i1 5 rfl, j_m69, by decide +kernel⟩
theorem cv5_96 : ∀ i, j_own i = "WhatIfSheet$Reader" → j_CV i 96 70 0 := fun i h => ⟨by rw [h]; exact j_i3 166 rfl, j_i3 168 rfl, j_inP 15 rfl, j_i1 5 rfl, j_m70, by decide +kernel⟩
theorem cv5_110 : ∀ i, j_own i = "WhatIfSheet$Reader" → j_CV i 110 71 1 := fun i h => ⟨by rw [h]; exact j_i3 171 rfl, j_i3 173 rfl, j_inP 16 rfl, j_i1 5 rfl, j_m71, by decide +kernel⟩
theorem cv5_128 : ∀ i, j_own i = "WhatIfSheet$Reader" → j_CV i 128 72 0 := fun i h => ⟨by rw [h]; exact j_i3 175 rfl, j_i3 176 rfl, j_i3 177 rfl, j_i1 15 rfl, j_m72, by decide +kernel⟩
theorem cv13_335 : ∀ i, j_own i = "java/lang/String" → j_CV i 335 73 0 := fun i h => ⟨by rw [h]; exact j_i3 179 rfl, j_i3 180 rfl, j_i3 181 rfl, j_i1 15 rfl, j_m73, by decide +kernel⟩
theorem cv5_134 : ∀ i, j_own i = "WhatIfSheet$Reader" → j_CV i 134 74 1 := fun i h => ⟨by rw [h]; exact j_i3 185 rfl, j_i3 186 rfl, j_i3 187 rfl, j_i1 15 rfl, j_m74, by decide +kernel⟩
theorem cv13_492 : ∀ i, j_own i = "java/lang/String" → j_CV i 492 75 0 := fun i h => ⟨by rw [h]; exact j_i3 189 rfl, j_i3 190 rfl, j_i3 191 rfl, j_i1 15 rfl, j_m75, by decide +kernel⟩
theorem cv13_495 : ∀ i, j_own i = "java/lang/String" → j_CS i 495 76 2 := fun i h => ⟨by rw [h]; exact j_i3 193 rfl, j_i3 194 rfl, j_i1 16 rfl, j_m76, by decide +kernel⟩
theorem cv14_9 : ∀ i, j_own i = "java/lang/StringLatin1" → j_CS i 9 77 2 := fun i h => ⟨by rw [h]; exact j_i3 196 rfl, j_i3 197 rfl, j_i1 15 rfl, j_m77, by decide +kernel⟩
theorem cv13_1059 : ∀ i, j_own i = "java/lang/String" → j_CS i 1059 78 3 := fun i h => ⟨by rw [h]; exact j_i3 201 rfl, j_i3 202 rfl, j_i1 17 rfl, j_m78, by decide +kernel⟩
theorem cv13_498 : ∀ i, j_own i = "java/lang/String" → j_CS i 498 79 2 := fun i h => ⟨by rw [h]; exact j_i3 204 rfl, j_i3 205 rfl, j_i1 18 rfl, j_m79, by decide +kernel⟩
theorem cv15_67 : ∀ i, j_own i = "java/lang/StringUTF16" → j_CS i 67 80 2 := fun i h => ⟨by rw [h]; exact j_i3 207 rfl, j_i3 208 rfl, j_i1 18 rfl, j_m80, by decide +kernel⟩
theorem cv15_48 : ∀ i, j_own i = "java/lang/StringUTF16" → j_CS i 48 81 1 := fun i h => ⟨by rw [h]; exact j_i3 210 rfl, j_i3 211 rfl, j_i1 18 rfl, j_m81, by decide +kernel⟩
theorem cv15_414 : ∀ i, j_own i = "java/lang/StringUTF16" → j_CS i 414 77 2 := fun i h => ⟨by rw [h]; exact j_i3 213 rfl, j_i3 197 rfl, j_i1 15 rfl, j_m77, by decide +kernel⟩
theorem cv15_71 : ∀ i, j_own i = "java/lang/StringUTF16" → j_CS i 71 82 2 := fun i h => ⟨by rw [h]; exact j_i3 214 rfl, j_i3 215 rfl, j_i1 18 rfl, j_m82, by decide +kernel⟩
theorem cv5_99 : ∀ i, j_own i = "WhatIfSheet$Reader" → j_CS i 99 83 1 := fun i h => ⟨by rw [h]; exact j_i3 230 rfl, j_i3 231 rfl, j_i1 5 rfl, j_m83, by decide +kernel⟩
theorem cv5_102 : ∀ i, j_own i = "WhatIfSheet$Reader" → j_CV i 102 84 0 := fun i h => ⟨by rw [h]; exact j_i3 233 rfl, j_i3 235 rfl, j_inP 17 rfl, j_i1 5 rfl, j_m84, by decide +kernel⟩
theorem cv5_105 : ∀ i, j_own i = "WhatIfSheet$Reader" → j_CS i 105 85 1 := fun i h => ⟨by rw [h]; exact j_i3 237 rfl, j_i3 238 rfl, j_i1 5 rfl, j_m85, by decide +kernel⟩
theorem cv5_38 : ∀ i, j_own i = "WhatIfSheet$Reader" → j_CV i 38 86 1 := fun i h => ⟨by rw [h]; exact j_i4 0 rfl, j_i4 2 rfl, j_inP 18 rfl, j_i1 5 rfl, j_m86, by decide +kernel⟩
theorem cv5_51 : ∀ i, j_own i = "WhatIfSheet$Reader" → j_CV i 51 87 1 := fun i h => ⟨by rw [h]; exact j_i4 4 rfl, j_i4 6 rfl, j_inP 19 rfl, j_i1 5 rfl, j_m87, by decide +kernel⟩
theorem cv5_58 : ∀ i, j_own i = "WhatIfSheet$Reader" → j_CV i 58 88 1 := fun i h => ⟨by rw [h]; exact j_i4 8 rfl, j_i4 10 rfl, j_inP 20 rfl, j_i1 5 rfl, j_m88, by decide +kernel⟩
theorem cv5_61 : ∀ i, j_own i = "WhatIfSheet$Reader" → j_CV i 61 89 1 := fun i h => ⟨by rw [h]; exact j_i4 12 rfl, j_i4 14 rfl, j_inP 21 rfl, j_i1 5 rfl, j_m89, by decide +kernel⟩
theorem cv5_54 : ∀ i, j_own i = "WhatIfSheet$Reader" → j_CV i 54 90 2 := fun i h => ⟨by rw [h]; exact j_i4 16 rfl, j_i4 17 rfl, j_i4 18 rfl, j_i1 3 rfl, j_m90, by decide +kernel⟩
theorem cv5_71 : ∀ i, j_own i = "WhatIfSheet$Reader" → j_CV i 71 91 1 := fun i h => ⟨by rw [h]; exact j_i4 20 rfl, j_i4 21 rfl, j_i4 22 rfl, j_i1 3 rfl, j_m91, by decide +kernel⟩
theorem cv5_74 : ∀ i, j_own i = "WhatIfSheet$Reader" → j_CV i 74 92 1 := fun i h => ⟨by rw [h]; exact j_i4 24 rfl, j_i4 26 rfl, j_inP 22 rfl, j_i1 5 rfl, j_m92, by decide +kernel⟩
theorem cv5_83 : ∀ i, j_own i = "WhatIfSheet$Reader" → j_CV i 83 93 2 := fun i h => ⟨by rw [h]; exact j_i4 28 rfl, j_i4 30 rfl, j_inP 23 rfl, j_i1 5 rfl, j_m93, by decide +kernel⟩
theorem cv5_45 : ∀ i, j_own i = "WhatIfSheet$Reader" → j_CV i 45 94 0 := fun i h => ⟨by rw [h]; exact j_i4 32 rfl, j_i4 34 rfl, j_inP 24 rfl, j_i1 5 rfl, j_m94, by decide +kernel⟩
theorem cv5_77 : ∀ i, j_own i = "WhatIfSheet$Reader" → j_CV i 77 95 0 := fun i h => ⟨by rw [h]; exact j_i4 36 rfl, j_i4 38 rfl, j_inP 25 rfl, j_i1 5 rfl, j_m95, by decide +kernel⟩
theorem cv5_86 : ∀ i, j_own i = "WhatIfSheet$Reader" → j_CV i 86 96 1 := fun i h => ⟨by rw [h]; exact j_i4 40 rfl, j_i4 41 rfl, j_i4 42 rfl, j_i1 3 rfl, j_m96, by decide +kernel⟩
theorem cv5_80 : ∀ i, j_own i = "WhatIfSheet$Reader" → j_CV i 80 97 1 := fun i h => ⟨by rw [h]; exact j_i4 44 rfl, j_i4 46 rfl, j_inP 26 rfl, j_i1 5 rfl, j_m97, by decide +kernel⟩
theorem cv5_64 : ∀ i, j_own i = "WhatIfSheet$Reader" → j_CV i 64 98 0 := fun i h => ⟨by rw [h]; exact j_i4 48 rfl, j_i4 50 rfl, j_inP 27 rfl, j_i1 5 rfl, j_m98, by decide +kernel⟩
theorem cv9_163 : ∀ i, j_own i = "WhatIfSheet" → j_CV i 163 99 1 := fun i h => ⟨by rw [h]; exact j_i4 52 rfl, j_i4 53 rfl, j_i4 54 rfl, j_i1 2 rfl, j_m99, by decide +kernel⟩
theorem cv0_54 : ∀ i, j_own i = "WhatIfSheet$Board" → j_CV i 54 100 1 := fun i h => ⟨by rw [h]; exact j_i4 56 rfl, j_i4 57 rfl, j_i4 58 rfl, j_i1 4 rfl, j_m100, by decide +kernel⟩
theorem cv9_173 : ∀ i, j_own i = "WhatIfSheet" → j_CV i 173 101 2 := fun i h => ⟨by rw [h]; exact j_i4 60 rfl, j_i4 61 rfl, j_i4 62 rfl, j_i1 8 rfl, j_m101, by decide +kernel⟩
theorem cv9_177 : ∀ i, j_own i = "WhatIfSheet" → j_CS i 177 21 2 := fun i h => ⟨by rw [h]; exact j_i4 64 rfl, j_i2 199 rfl, j_i1 1 rfl, j_m21, by decide +kernel⟩
theorem cv9_180 : ∀ i, j_own i = "WhatIfSheet" → j_CV i 180 102 1 := fun i h => ⟨by rw [h]; exact j_i4 65 rfl, j_i4 67 rfl, j_inP 28 rfl, j_i1 1 rfl, j_m102, by decide +kernel⟩
theorem cv9_406 : ∀ i, j_own i = "WhatIfSheet" → j_CV i 406 103 0 := fun i h => ⟨by rw [h]; exact j_i4 69 rfl, j_i4 70 rfl, j_i4 71 rfl, j_i1 8 rfl, j_m103, by decide +kernel⟩
theorem cv9_183 : ∀ i, j_own i = "WhatIfSheet" → j_CS i 183 39 1 := fun i h => ⟨by rw [h]; exact j_i4 78 rfl, j_i3 34 rfl, j_i1 1 rfl, j_m39, by decide +kernel⟩
theorem cv9_186 : ∀ i, j_own i = "WhatIfSheet" → j_CV i 186 105 3 := fun i h => ⟨by rw [h]; exact j_i4 79 rfl, j_i4 80 rfl, j_i4 81 rfl, j_i1 4 rfl, j_m105, by decide +kernel⟩
theorem cv9_190 : ∀ i, j_own i = "WhatIfSheet" → j_CV i 190 106 1 := fun i h => ⟨by rw [h]; exact j_i4 83 rfl, j_i4 85 rfl, j_inP 29 rfl, j_i1 1 rfl, j_m106, by decide +kernel⟩
theorem cv9_194 : ∀ i, j_own i = "WhatIfSheet" → j_CV i 194 108 2 := fun i h => ⟨by rw [h]; exact j_i4 92 rfl, j_i4 94 rfl, j_inP 30 rfl, j_i1 1 rfl, j_m108, by decide +kernel⟩
theorem cv9_201 : ∀ i, j_own i = "WhatIfSheet" → j_CV i 201 109 1 := fun i h => ⟨by rw [h]; exact j_i4 96 rfl, j_i4 97 rfl, j_i4 98 rfl, j_i1 4 rfl, j_m109, by decide +kernel⟩
theorem cv9_205 : ∀ i, j_own i = "WhatIfSheet" → j_CV i 205 110 3 := fun i h => ⟨by rw [h]; exact j_i4 101 rfl, j_i4 102 rfl, j_i4 103 rfl, j_i1 4 rfl, j_m110, by decide +kernel⟩
theorem cv9_209 : ∀ i, j_own i = "WhatIfSheet" → j_CV i 209 111 2 := fun i h => ⟨by rw [h]; exact j_i4 105 rfl, j_i4 106 rfl, j_i4 107 rfl, j_i1 4 rfl, j_m111, by decide +kernel⟩
theorem cv9_213 : ∀ i, j_own i = "WhatIfSheet" → j_CV i 213 24 0 := fun i h => ⟨by rw [h]; exact j_i4 109 rfl, j_i2 209 rfl, j_i2 210 rfl, j_i1 4 rfl, j_m24, by decide +kernel⟩
theorem cv9_216 : ∀ i, j_own i = "WhatIfSheet" → j_CS i 216 113 1 := fun i h => ⟨by rw [h]; exact j_i4 114 rfl, j_i4 115 rfl, j_i1 1 rfl, j_m113, by decide +kernel⟩
theorem cv9_222 : ∀ i, j_own i = "WhatIfSheet" → j_CV i 222 114 2 := fun i h => ⟨by rw [h]; exact j_i4 117 rfl, j_i4 118 rfl, j_i4 119 rfl, j_i1 10 rfl, j_m114, by decide +kernel⟩
theorem cv9_225 : ∀ i, j_own i = "WhatIfSheet" → j_CV i 225 115 2 := fun i h => ⟨by rw [h]; exact j_i4 121 rfl, j_i4 122 rfl, j_i4 123 rfl, j_i1 10 rfl, j_m115, by decide +kernel⟩
theorem cv9_235 : ∀ i, j_own i = "WhatIfSheet" → j_CV i 235 118 3 := fun i h => ⟨by rw [h]; exact j_i4 133 rfl, j_i4 135 rfl, j_inP 31 rfl, j_i1 1 rfl, j_m118, by decide +kernel⟩
theorem cv9_396 : ∀ i, j_own i = "WhatIfSheet" → j_CV i 396 25 0 := fun i h => ⟨by rw [h]; exact j_i4 137 rfl, j_i2 213 rfl, j_i2 214 rfl, j_i1 4 rfl, j_m25, by decide +kernel⟩
theorem cv9_239 : ∀ i, j_own i = "WhatIfSheet" → j_CV i 239 119 3 := fun i h => ⟨by rw [h]; exact j_i4 138 rfl, j_i4 140 rfl, j_inP 32 rfl, j_i1 1 rfl, j_m119, by decide +kernel⟩
theorem cv9_399 : ∀ i, j_own i = "WhatIfSheet" → j_CV i 399 43 1 := fun i h => ⟨by rw [h]; exact j_i4 142 rfl, j_i3 49 rfl, j_i3 50 rfl, j_i1 7 rfl, j_m43, by decide +kernel⟩
theorem cv9_402 : ∀ i, j_own i = "WhatIfSheet" → j_CV i 402 45 4 := fun i h => ⟨by rw [h]; exact j_i4 143 rfl, j_i3 61 rfl, j_i3 62 rfl, j_i1 7 rfl, j_m45, by decide +kernel⟩
theorem cv9_245 : ∀ i, j_own i = "WhatIfSheet" → j_CV i 245 122 1 := fun i h => ⟨by rw [h]; exact j_i4 152 rfl, j_i4 154 rfl, j_inP 33 rfl, j_i1 1 rfl, j_m122, by decide +kernel⟩
theorem cv9_254 : ∀ i, j_own i = "WhatIfSheet" → j_CV i 254 48 1 := fun i h => ⟨by rw [h]; exact j_i4 157 rfl, j_i3 76 rfl, j_i3 77 rfl, j_i1 9 rfl, j_m48, by decide +kernel⟩
theorem cv9_257 : ∀ i, j_own i = "WhatIfSheet" → j_CV i 257 49 1 := fun i h => ⟨by rw [h]; exact j_i4 158 rfl, j_i3 80 rfl, j_i3 81 rfl, j_i1 9 rfl, j_m49, by decide +kernel⟩
theorem cv9_274 : ∀ i, j_own i = "WhatIfSheet" → j_CV i 274 124 1 := fun i h => ⟨by rw [h]; exact j_i4 163 rfl, j_i4 164 rfl, j_i4 165 rfl, j_i1 4 rfl, j_m124, by decide +kernel⟩
theorem cv9_280 : ∀ i, j_own i = "WhatIfSheet" → j_CV i 280 44 2 := fun i h => ⟨by rw [h]; exact j_i4 167 rfl, j_i3 56 rfl, j_i3 57 rfl, j_i1 8 rfl, j_m44, by decide +kernel⟩
theorem cv9_283 : ∀ i, j_own i = "WhatIfSheet" → j_CV i 283 125 2 := fun i h => ⟨by rw [h]; exact j_i4 168 rfl, j_i4 169 rfl, j_i4 170 rfl, j_i1 8 rfl, j_m125, by decide +kernel⟩
theorem cv4_98 : ∀ i, j_own i = "WhatIfSheet$Names" → j_CV i 98 126 2 := fun i h => ⟨by rw [h]; exact j_i4 172 rfl, j_i4 174 rfl, j_inP 34 rfl, j_i1 8 rfl, j_m126, by decide +kernel⟩
theorem cv4_101 : ∀ i, j_own i = "WhatIfSheet$Names" → j_CV i 101 127 1 := fun i h => ⟨by rw [h]; exact j_i4 176 rfl, j_i4 177 rfl, j_i4 178 rfl, j_i1 2 rfl, j_m127, by decide +kernel⟩
theorem cv0_74 : ∀ i, j_own i = "WhatIfSheet$Board" → j_CS i 74 128 3 := fun i h => ⟨by rw [h]; exact j_i4 180 rfl, j_i4 181 rfl, j_i1 2 rfl, j_m128, by decide +kernel⟩
theorem cv4_105 : ∀ i, j_own i = "WhatIfSheet$Names" → j_CV i 105 129 1 := fun i h => ⟨by rw [h]; exact j_i4 184 rfl, j_i4 185 rfl, j_i4 186 rfl, j_i1 2 rfl, j_m129, by decide +kernel⟩
theorem cv9_292 : ∀ i, j_own i = "WhatIfSheet" → j_CV i 292 127 1 := fun i h => ⟨by rw [h]; exact j_i4 188 rfl, j_i4 177 rfl, j_i4 178 rfl, j_i1 2 rfl, j_m127, by decide +kernel⟩
theorem cv9_295 : ∀ i, j_own i = "WhatIfSheet" → j_CV i 295 129 1 := fun i h => ⟨by rw [h]; exact j_i4 189 rfl, j_i4 185 rfl, j_i4 186 rfl, j_i1 2 rfl, j_m129, by decide +kernel⟩
theorem cv9_298 : ∀ i, j_own i = "WhatIfSheet" → j_CV i 298 131 3 := fun i h => ⟨by rw [h]; exact j_i4 194 rfl, j_i4 195 rfl, j_i4 196 rfl, j_i1 6 rfl, j_m131, by decide +kernel⟩
theorem cv9_302 : ∀ i, j_own i = "WhatIfSheet" → j_CV i 302 132 2 := fun i h => ⟨by rw [h]; exact j_i4 198 rfl, j_i4 200 rfl, j_inP 35 rfl, j_i1 1 rfl, j_m132, by decide +kernel⟩
theorem cv9_425 : ∀ i, j_own i = "WhatIfSheet" → j_CV i 425 133 0 := fun i h => ⟨by rw [h]; exact j_i4 202 rfl, j_i4 203 rfl, j_i4 204 rfl, j_i1 6 rfl, j_m133, by decide +kernel⟩
theorem cv1_36 : ∀ i, j_own i = "WhatIfSheet$Bracket" → j_CV i 36 134 2 := fun i h => ⟨by rw [h]; exact j_i4 206 rfl, j_i4 207 rfl, j_i4 208 rfl, j_i1 6 rfl, j_m134, by decide +kernel⟩
theorem cv9_428 : ∀ i, j_own i = "WhatIfSheet" → j_CV i 428 135 0 := fun i h => ⟨by rw [h]; exact j_i4 210 rfl, j_i4 211 rfl, j_i4 212 rfl, j_i1 6 rfl, j_m135, by decide +kernel⟩
theorem cv9_431 : ∀ i, j_own i = "WhatIfSheet" → j_CV i 431 136 1 := fun i h => ⟨by rw [h]; exact j_i4 214 rfl, j_i4 215 rfl, j_i4 216 rfl, j_i1 6 rfl, j_m136, by decide +kernel⟩
theorem cv1_45 : ∀ i, j_own i = "WhatIfSheet$Bracket" → j_CV i 45 137 1 := fun i h => ⟨by rw [h]; exact j_i4 219 rfl, j_i4 220 rfl, j_i4 221 rfl, j_i1 6 rfl, j_m137, by decide +kernel⟩
theorem cv9_435 : ∀ i, j_own i = "WhatIfSheet" → j_CV i 435 137 1 := fun i h => ⟨by rw [h]; exact j_i4 223 rfl, j_i4 220 rfl, j_i4 221 rfl, j_i1 6 rfl, j_m137, by decide +kernel⟩
theorem cv9_442 : ∀ i, j_own i = "WhatIfSheet" → j_CV i 442 134 2 := fun i h => ⟨by rw [h]; exact j_i4 224 rfl, j_i4 207 rfl, j_i4 208 rfl, j_i1 6 rfl, j_m134, by decide +kernel⟩
theorem cv9_446 : ∀ i, j_own i = "WhatIfSheet" → j_CV i 446 138 2 := fun i h => ⟨by rw [h]; exact j_i4 225 rfl, j_i4 226 rfl, j_i4 227 rfl, j_i1 6 rfl, j_m138, by decide +kernel⟩
theorem cv9_450 : ∀ i, j_own i = "WhatIfSheet" → j_CV i 450 139 0 := fun i h => ⟨by rw [h]; exact j_i4 229 rfl, j_i4 230 rfl, j_i4 231 rfl, j_i1 6 rfl, j_m139, by decide +kernel⟩
theorem cv9_321 : ∀ i, j_own i = "WhatIfSheet" → j_CV i 321 141 3 := fun i h => ⟨by rw [h]; exact j_i4 239 rfl, j_i5 1 rfl, j_inP 36 rfl, j_i1 1 rfl, j_m141, by decide +kernel⟩
theorem cv9_453 : ∀ i, j_own i = "WhatIfSheet" → j_CV i 453 60 2 := fun i h => ⟨by rw [h]; exact j_i5 3 rfl, j_i3 127 rfl, j_i3 128 rfl, j_i1 7 rfl, j_m60, by decide +kernel⟩
theorem cv9_325 : ∀ i, j_own i = "WhatIfSheet" → j_CV i 325 143 2 := fun i h => ⟨by rw [h]; exact j_i5 8 rfl, j_i5 9 rfl, j_i5 10 rfl, j_i1 7 rfl, j_m143, by decide +kernel⟩
theorem cv9_329 : ∀ i, j_own i = "WhatIfSheet" → j_CS i 329 144 2 := fun i h => ⟨by rw [h]; exact j_i5 14 rfl, j_i5 15 rfl, j_i1 1 rfl, j_m144, by decide +kernel⟩
theorem cv9_332 : ∀ i, j_own i = "WhatIfSheet" → j_CV i 332 146 1 := fun i h => ⟨by rw [h]; exact j_i5 21 rfl, j_i5 22 rfl, j_i5 23 rfl, j_i1 10 rfl, j_m146, by decide +kernel⟩
theorem cv6_31 : ∀ i, j_own i = "WhatIfSheet$Row" → j_CV i 31 147 2 := fun i h => ⟨by rw [h]; exact j_i5 25 rfl, j_i5 26 rfl, j_i5 27 rfl, j_i1 10 rfl, j_m147, by decide +kernel⟩
theorem cv9_336 : ∀ i, j_own i = "WhatIfSheet" → j_CV i 336 149 1 := fun i h => ⟨by rw [h]; exact j_i5 33 rfl, j_i5 34 rfl, j_i5 35 rfl, j_i1 10 rfl, j_m149, by decide +kernel⟩
theorem cv9_340 : ∀ i, j_own i = "WhatIfSheet" → j_CV i 340 150 3 := fun i h => ⟨by rw [h]; exact j_i5 37 rfl, j_i5 39 rfl, j_inP 37 rfl, j_i1 1 rfl, j_m150, by decide +kernel⟩
theorem cv9_344 : ∀ i, j_own i = "WhatIfSheet" → j_CV i 344 151 4 := fun i h => ⟨by rw [h]; exact j_i5 41 rfl, j_i5 43 rfl, j_inP 38 rfl, j_i1 1 rfl, j_m151, by decide +kernel⟩
theorem cv9_348 : ∀ i, j_own i = "WhatIfSheet" → j_CV i 348 153 1 := fun i h => ⟨by rw [h]; exact j_i5 49 rfl, j_i5 50 rfl, j_i5 51 rfl, j_i1 2 rfl, j_m153, by decide +kernel⟩
theorem cv0_43 : ∀ i, j_own i = "WhatIfSheet$Board" → j_CV i 43 154 1 := fun i h => ⟨by rw [h]; exact j_i5 54 rfl, j_i5 55 rfl, j_i5 56 rfl, j_i1 3 rfl, j_m154, by decide +kernel⟩
theorem cv0_47 : ∀ i, j_own i = "WhatIfSheet$Board" → j_CV i 47 109 1 := fun i h => ⟨by rw [h]; exact j_i5 59 rfl, j_i4 97 rfl, j_i4 98 rfl, j_i1 4 rfl, j_m109, by decide +kernel⟩
theorem cv9_353 : ∀ i, j_own i = "WhatIfSheet" → j_CV i 353 155 0 := fun i h => ⟨by rw [h]; exact j_i5 60 rfl, j_i5 61 rfl, j_i5 62 rfl, j_i1 2 rfl, j_m155, by decide +kernel⟩
theorem cv0_58 : ∀ i, j_own i = "WhatIfSheet$Board" → j_CV i 58 14 1 := fun i h => ⟨by rw [h]; exact j_i5 64 rfl, j_i2 168 rfl, j_i2 169 rfl, j_i1 2 rfl, j_m14, by decide +kernel⟩
theorem cv9_356 : ∀ i, j_own i = "WhatIfSheet" → j_CV i 356 158 0 := fun i h => ⟨by rw [h]; exact j_i5 73 rfl, j_i5 74 rfl, j_i5 75 rfl, j_i1 2 rfl, j_m158, by decide +kernel⟩
theorem cv9_359 : ∀ i, j_own i = "WhatIfSheet" → j_CV i 359 159 0 := fun i h => ⟨by rw [h]; exact j_i5 77 rfl, j_i5 78 rfl, j_i5 79 rfl, j_i1 2 rfl, j_m159, by decide +kernel⟩
theorem cv9_362 : ∀ i, j_own i = "WhatIfSheet" → j_CV i 362 147 2 := fun i h => ⟨by rw [h]; exact j_i5 85 rfl, j_i5 26 rfl, j_i5 27 rfl, j_i1 10 rfl, j_m147, by decide +kernel⟩
theorem cv9_365 : ∀ i, j_own i = "WhatIfSheet" → j_CS i 365 162 2 := fun i h => ⟨by rw [h]; exact j_i5 90 rfl, j_i5 91 rfl, j_i1 1 rfl, j_m162, by decide +kernel⟩
theorem cv10_312 : ∀ i, j_own i = "WhatIfSheetModel" → j_CS i 312 167 1 := fun i h => ⟨by rw [h]; exact j_i6 107 rfl, j_i6 108 rfl, j_i1 11 rfl, j_m167, by decide +kernel⟩
theorem cv10_183 : ∀ i, j_own i = "WhatIfSheetModel" → j_CS i 183 168 3 := fun i h => ⟨by rw [h]; exact j_i6 110 rfl, j_i6 111 rfl, j_i1 11 rfl, j_m168, by decide +kernel⟩
theorem cv10_315 : ∀ i, j_own i = "WhatIfSheetModel" → j_CS i 315 169 1 := fun i h => ⟨by rw [h]; exact j_i6 113 rfl, j_i6 114 rfl, j_i1 11 rfl, j_m169, by decide +kernel⟩
theorem cv10_204 : ∀ i, j_own i = "WhatIfSheetModel" → j_CV i 204 170 1 := fun i h => ⟨by rw [h]; exact j_i6 118 rfl, j_i6 120 rfl, j_inP 39 rfl, j_i1 11 rfl, j_m170, by decide +kernel⟩
theorem cv10_250 : ∀ i, j_own i = "WhatIfSheetModel" → j_CS i 250 171 2 := fun i h => ⟨by rw [h]; exact j_i6 123 rfl, j_i6 124 rfl, j_i1 11 rfl, j_m171, by decide +kernel⟩
theorem cv10_187 : ∀ i, j_own i = "WhatIfSheetModel" → j_CS i 187 172 1 := fun i h => ⟨by rw [h]; exact j_i6 126 rfl, j_i6 127 rfl, j_i1 11 rfl, j_m172, by decide +kernel⟩
theorem cv10_320 : ∀ i, j_own i = "WhatIfSheetModel" → j_CV i 320 174 1 := fun i h => ⟨by rw [h]; exact j_i6 136 rfl, j_i6 138 rfl, j_inP 40 rfl, j_i1 11 rfl, j_m174, by decide +kernel⟩
theorem cv10_323 : ∀ i, j_own i = "WhatIfSheetModel" → j_CV i 323 177 1 := fun i h => ⟨by rw [h]; exact j_i6 148 rfl, j_i6 150 rfl, j_inP 41 rfl, j_i1 11 rfl, j_m177, by decide +kernel⟩
theorem cv10_208 : ∀ i, j_own i = "WhatIfSheetModel" → j_CV i 208 178 1 := fun i h => ⟨by rw [h]; exact j_i6 152 rfl, j_i6 154 rfl, j_inP 42 rfl, j_i1 11 rfl, j_m178, by decide +kernel⟩
theorem cv10_196 : ∀ i, j_own i = "WhatIfSheetModel" → j_CV i 196 179 1 := fun i h => ⟨by rw [h]; exact j_i6 156 rfl, j_i6 158 rfl, j_inP 43 rfl, j_i1 11 rfl, j_m179, by decide +kernel⟩
theorem cv10_200 : ∀ i, j_own i = "WhatIfSheetModel" → j_CV i 200 180 2 := fun i h => ⟨by rw [h]; exact j_i6 160 rfl, j_i6 162 rfl, j_inP 44 rfl, j_i1 11 rfl, j_m180, by decide +kernel⟩
theorem cv10_211 : ∀ i, j_own i = "WhatIfSheetModel" → j_CV i 211 181 1 := fun i h => ⟨by rw [h]; exact j_i6 164 rfl, j_i6 166 rfl, j_inP 45 rfl, j_i1 11 rfl, j_m181, by decide +kernel⟩
theorem cv10_214 : ∀ i, j_own i = "WhatIfSheetModel" → j_CV i 214 182 1 := fun i h => ⟨by rw [h]; exact j_i6 168 rfl, j_i6 170 rfl, j_inP 46 rfl, j_i1 11 rfl, j_m182, by decide +kernel⟩
theorem cv10_237 : ∀ i, j_own i = "WhatIfSheetModel" → j_CV i 237 183 1 := fun i h => ⟨by rw [h]; exact j_i6 172 rfl, j_i6 174 rfl, j_inP 47 rfl, j_i1 11 rfl, j_m183, by decide +kernel⟩
theorem cv10_229 : ∀ i, j_own i = "WhatIfSheetModel" → j_CV i 229 184 1 := fun i h => ⟨by rw [h]; exact j_i6 176 rfl, j_i6 178 rfl, j_inP 48 rfl, j_i1 11 rfl, j_m184, by decide +kernel⟩
theorem cv10_217 : ∀ i, j_own i = "WhatIfSheetModel" → j_CV i 217 185 1 := fun i h => ⟨by rw [h]; exact j_i6 180 rfl, j_i6 182 rfl, j_inP 49 rfl, j_i1 11 rfl, j_m185, by decide +kernel⟩
theorem cv10_232 : ∀ i, j_own i = "WhatIfSheetModel" → j_CV i 232 186 1 := fun i h => ⟨by rw [h]; exact j_i6 185 rfl, j_i6 187 rfl, j_inP 50 rfl, j_i1 11 rfl, j_m186, by decide +kernel⟩
theorem cv10_235 : ∀ i, j_own i = "WhatIfSheetModel" → j_CS i 235 187 2 := fun i h => ⟨by rw [h]; exact j_i6 189 rfl, j_i6 190 rfl, j_i1 13 rfl, j_m187, by decide +kernel⟩
theorem cv10_222 : ∀ i, j_own i = "WhatIfSheetModel" → j_CS i 222 188 2 := fun i h => ⟨by rw [h]; exact j_i6 193 rfl, j_i6 194 rfl, j_i1 13 rfl, j_m188, by decide +kernel⟩
theorem cv10_296 : ∀ i, j_own i = "WhatIfSheetModel" → j_CV i 296 189 1 := fun i h => ⟨by rw [h]; exact j_i6 196 rfl, j_i6 198 rfl, j_inP 51 rfl, j_i1 11 rfl, j_m189, by decide +kernel⟩
theorem cv10_279 : ∀ i, j_own i = "WhatIfSheetModel" → j_CV i 279 190 0 := fun i h => ⟨by rw [h]; exact j_i6 200 rfl, j_i6 202 rfl, j_inP 52 rfl, j_i1 11 rfl, j_m190, by decide +kernel⟩
theorem cv10_258 : ∀ i, j_own i = "WhatIfSheetModel" → j_CV i 258 191 1 := fun i h => ⟨by rw [h]; exact j_i6 204 rfl, j_i6 206 rfl, j_inP 53 rfl, j_i1 11 rfl, j_m191, by decide +kernel⟩
theorem cv10_254 : ∀ i, j_own i = "WhatIfSheetModel" → j_CV i 254 192 2 := fun i h => ⟨by rw [h]; exact j_i6 208 rfl, j_i6 210 rfl, j_inP 54 rfl, j_i1 11 rfl, j_m192, by decide +kernel⟩
theorem cv10_262 : ∀ i, j_own i = "WhatIfSheetModel" → j_CV i 262 193 3 := fun i h => ⟨by rw [h]; exact j_i6 212 rfl, j_i6 214 rfl, j_inP 55 rfl, j_i1 11 rfl, j_m193, by decide +kernel⟩
theorem cv10_266 : ∀ i, j_own i = "WhatIfSheetModel" → j_CV i 266 194 1 := fun i h => ⟨by rw [h]; exact j_i6 216 rfl, j_i6 218 rfl, j_inP 56 rfl, j_i1 11 rfl, j_m194, by decide +kernel⟩
theorem cv10_292 : ∀ i, j_own i = "WhatIfSheetModel" → j_CV i 292 195 3 := fun i h => ⟨by rw [h]; exact j_i6 220 rfl, j_i6 222 rfl, j_inP 57 rfl, j_i1 11 rfl, j_m195, by decide +kernel⟩
theorem cv10_269 : ∀ i, j_own i = "WhatIfSheetModel" → j_CV i 269 196 0 := fun i h => ⟨by rw [h]; exact j_i6 226 rfl, j_i6 228 rfl, j_inP 58 rfl, j_i1 11 rfl, j_m196, by decide +kernel⟩
theorem cv10_272 : ∀ i, j_own i = "WhatIfSheetModel" → j_CV i 272 197 2 := fun i h => ⟨by rw [h]; exact j_i6 230 rfl, j_i6 232 rfl, j_inP 59 rfl, j_i1 11 rfl, j_m197, by decide +kernel⟩
theorem cv10_328 : ∀ i, j_own i = "WhatIfSheetModel" → j_CV i 328 199 1 := fun i h => ⟨by rw [h]; exact j_i6 239 rfl, j_i7 1 rfl, j_inP 60 rfl, j_i1 11 rfl, j_m199, by decide +kernel⟩
theorem cv10_332 : ∀ i, j_own i = "WhatIfSheetModel" → j_CV i 332 200 1 := fun i h => ⟨by rw [h]; exact j_i7 3 rfl, j_i7 5 rfl, j_inP 61 rfl, j_i1 11 rfl, j_m200, by decide +kernel⟩
theorem cv10_335 : ∀ i, j_own i = "WhatIfSheetModel" → j_CS i 335 201 2 := fun i h => ⟨by rw [h]; exact j_i7 7 rfl, j_i7 8 rfl, j_i1 11 rfl, j_m201, by decide +kernel⟩
theorem cv10_305 : ∀ i, j_own i = "WhatIfSheetModel" → j_CS i 305 202 1 := fun i h => ⟨by rw [h]; exact j_i7 10 rfl, j_i7 11 rfl, j_i1 11 rfl, j_m202, by decide +kernel⟩
theorem cv10_299 : ∀ i, j_own i = "WhatIfSheetModel" → j_CS i 299 203 1 := fun i h => ⟨by rw [h]; exact j_i7 13 rfl, j_i7 14 rfl, j_i1 14 rfl, j_m203, by decide +kernel⟩
theorem cv11_122 : ∀ i, j_own i = "java/lang/Double" → j_CS i 122 204 1 := fun i h => ⟨by rw [h]; exact j_i7 16 rfl, j_i7 17 rfl, j_i1 14 rfl, j_m204, by decide +kernel⟩
theorem cv10_341 : ∀ i, j_own i = "WhatIfSheetModel" → j_CV i 341 206 3 := fun i h => ⟨by rw [h]; exact j_i7 29 rfl, j_i7 31 rfl, j_inP 62 rfl, j_i1 11 rfl, j_m206, by decide +kernel⟩
theorem cv10_345 : ∀ i, j_own i = "WhatIfSheetModel" → j_CS i 345 209 1 := fun i h => ⟨by rw [h]; exact j_i7 41 rfl, j_i7 42 rfl, j_i1 11 rfl, j_m209, by decide +kernel⟩
theorem cv10_459 : ∀ i, j_own i = "WhatIfSheetModel" → j_CV i 459 211 0 := fun i h => ⟨by rw [h]; exact j_i7 48 rfl, j_i7 50 rfl, j_inP 63 rfl, j_i1 11 rfl, j_m211, by decide +kernel⟩
theorem cv10_421 : ∀ i, j_own i = "WhatIfSheetModel" → j_CV i 421 212 0 := fun i h => ⟨by rw [h]; exact j_i7 52 rfl, j_i7 54 rfl, j_inP 64 rfl, j_i1 11 rfl, j_m212, by decide +kernel⟩
theorem cv10_354 : ∀ i, j_own i = "WhatIfSheetModel" → j_CV i 354 213 1 := fun i h => ⟨by rw [h]; exact j_i7 56 rfl, j_i7 58 rfl, j_inP 65 rfl, j_i1 11 rfl, j_m213, by decide +kernel⟩
theorem cv10_367 : ∀ i, j_own i = "WhatIfSheetModel" → j_CV i 367 214 0 := fun i h => ⟨by rw [h]; exact j_i7 60 rfl, j_i7 62 rfl, j_inP 66 rfl, j_i1 11 rfl, j_m214, by decide +kernel⟩
theorem cv10_404 : ∀ i, j_own i = "WhatIfSheetModel" → j_CV i 404 215 1 := fun i h => ⟨by rw [h]; exact j_i7 65 rfl, j_i7 67 rfl, j_inP 67 rfl, j_i1 11 rfl, j_m215, by decide +kernel⟩
theorem cv10_395 : ∀ i, j_own i = "WhatIfSheetModel" → j_CV i 395 72 0 := fun i h => ⟨by rw [h]; exact j_i7 69 rfl, j_i3 176 rfl, j_i3 177 rfl, j_i1 15 rfl, j_m72, by decide +kernel⟩
theorem cv10_398 : ∀ i, j_own i = "WhatIfSheetModel" → j_CV i 398 74 1 := fun i h => ⟨by rw [h]; exact j_i7 70 rfl, j_i3 186 rfl, j_i3 187 rfl, j_i1 15 rfl, j_m74, by decide +kernel⟩
theorem cv10_371 : ∀ i, j_own i = "WhatIfSheetModel" → j_CV i 371 216 0 := fun i h => ⟨by rw [h]; exact j_i7 78 rfl, j_i7 80 rfl, j_inP 68 rfl, j_i1 11 rfl, j_m216, by decide +kernel⟩
theorem cv10_375 : ∀ i, j_own i = "WhatIfSheetModel" → j_CV i 375 217 0 := fun i h => ⟨by rw [h]; exact j_i7 82 rfl, j_i7 84 rfl, j_inP 69 rfl, j_i1 11 rfl, j_m217, by decide +kernel⟩
theorem cv10_383 : ∀ i, j_own i = "WhatIfSheetModel" → j_CV i 383 218 1 := fun i h => ⟨by rw [h]; exact j_i7 88 rfl, j_i7 89 rfl, j_i7 90 rfl, j_i1 15 rfl, j_m218, by decide +kernel⟩
theorem cv13_633 : ∀ i, j_own i = "java/lang/String" → j_CV i 633 219 2 := fun i h => ⟨by rw [h]; exact j_i7 92 rfl, j_i7 93 rfl, j_i7 94 rfl, j_i1 15 rfl, j_m219, by decide +kernel⟩
theorem cv13_505 : ∀ i, j_own i = "java/lang/String" → j_CV i 505 72 0 := fun i h => ⟨by rw [h]; exact j_i7 96 rfl, j_i3 176 rfl, j_i3 177 rfl, j_i1 15 rfl, j_m72, by decide +kernel⟩
theorem cv13_637 : ∀ i, j_own i = "java/lang/String" → j_CS i 637 220 4 := fun i h => ⟨by rw [h]; exact j_i7 97 rfl, j_i7 98 rfl, j_i1 16 rfl, j_m220, by decide +kernel⟩
theorem cv14_88 : ∀ i, j_own i = "java/lang/StringLatin1" → j_CS i 88 221 1 := fun i h => ⟨by rw [h]; exact j_i7 100 rfl, j_i7 101 rfl, j_i1 16 rfl, j_m221, by decide +kernel⟩
theorem cv14_92 : ∀ i, j_own i = "java/lang/StringLatin1" → j_CS i 92 222 2 := fun i h => ⟨by rw [h]; exact j_i7 103 rfl, j_i7 104 rfl, j_i1 13 rfl, j_m222, by decide +kernel⟩
theorem cv14_38 : ∀ i, j_own i = "java/lang/StringLatin1" → j_CS i 38 187 2 := fun i h => ⟨by rw [h]; exact j_i7 106 rfl, j_i6 190 rfl, j_i1 13 rfl, j_m187, by decide +kernel⟩
theorem cv14_95 : ∀ i, j_own i = "java/lang/StringLatin1" → j_CS i 95 223 4 := fun i h => ⟨by rw [h]; exact j_i7 107 rfl, j_i7 108 rfl, j_i1 16 rfl, j_m223, by decide +kernel⟩
theorem cv13_640 : ∀ i, j_own i = "java/lang/String" → j_CS i 640 224 4 := fun i h => ⟨by rw [h]; exact j_i7 110 rfl, j_i7 111 rfl, j_i1 18 rfl, j_m224, by decide +kernel⟩
theorem cv15_224 : ∀ i, j_own i = "java/lang/StringUTF16" → j_CS i 224 222 2 := fun i h => ⟨by rw [h]; exact j_i7 113 rfl, j_i7 104 rfl, j_i1 13 rfl, j_m222, by decide +kernel⟩
theorem cv15_183 : ∀ i, j_own i = "java/lang/StringUTF16" → j_CS i 183 187 2 := fun i h => ⟨by rw [h]; exact j_i7 114 rfl, j_i6 190 rfl, j_i1 13 rfl, j_m187, by decide +kernel⟩
theorem cv15_228 : ∀ i, j_own i = "java/lang/StringUTF16" → j_CS i 228 225 4 := fun i h => ⟨by rw [h]; exact j_i7 116 rfl, j_i7 117 rfl, j_i1 18 rfl, j_m225, by decide +kernel⟩
theorem cv15_96 : ∀ i, j_own i = "java/lang/StringUTF16" → j_CS i 96 226 3 := fun i h => ⟨by rw [h]; exact j_i7 119 rfl, j_i7 120 rfl, j_i1 18 rfl, j_m226, by decide +kernel⟩
theorem cv15_241 : ∀ i, j_own i = "java/lang/StringUTF16" → j_CS i 241 227 3 := fun i h => ⟨by rw [h]; exact j_i7 122 rfl, j_i7 123 rfl, j_i1 15 rfl, j_m227, by decide +kernel⟩
theorem cv13_1062 : ∀ i, j_own i = "java/lang/String" → j_CS i 1062 228 4 := fun i h => ⟨by rw [h]; exact j_i7 125 rfl, j_i7 126 rfl, j_i1 17 rfl, j_m228, by decide +kernel⟩
theorem cv15_244 : ∀ i, j_own i = "java/lang/StringUTF16" → j_CS i 244 229 4 := fun i h => ⟨by rw [h]; exact j_i7 128 rfl, j_i7 129 rfl, j_i1 18 rfl, j_m229, by decide +kernel⟩
theorem cv15_232 : ∀ i, j_own i = "java/lang/StringUTF16" → j_CS i 232 230 4 := fun i h => ⟨by rw [h]; exact j_i7 131 rfl, j_i7 132 rfl, j_i1 18 rfl, j_m230, by decide +kernel⟩
theorem cv15_164 : ∀ i, j_own i = "java/lang/StringUTF16" → j_CS i 164 231 1 := fun i h => ⟨by rw [h]; exact j_i7 134 rfl, j_i7 135 rfl, j_i1 19 rfl, j_m231, by decide +kernel⟩
theorem cv15_157 : ∀ i, j_own i = "java/lang/StringUTF16" → j_CS i 157 232 1 := fun i h => ⟨by rw [h]; exact j_i7 137 rfl, j_i7 138 rfl, j_i1 19 rfl, j_m232, by decide +kernel⟩
theorem cv15_161 : ∀ i, j_own i = "java/lang/StringUTF16" → j_CS i 161 233 1 := fun i h => ⟨by rw [h]; exact j_i7 141 rfl, j_i7 142 rfl, j_i1 19 rfl, j_m233, by decide +kernel⟩
theorem cv10_447 : ∀ i, j_own i = "WhatIfSheetModel" → j_CV i 447 234 0 := fun i h => ⟨by rw [h]; exact j_i7 145 rfl, j_i7 147 rfl, j_inP 70 rfl, j_i1 11 rfl, j_m234, by decide +kernel⟩
theorem cv10_427 : ∀ i, j_own i = "WhatIfSheetModel" → j_CV i 427 235 0 := fun i h => ⟨by rw [h]; exact j_i7 149 rfl, j_i7 151 rfl, j_inP 71 rfl, j_i1 11 rfl, j_m235, by decide +kernel⟩
theorem cv10_432 : ∀ i, j_own i = "WhatIfSheetModel" → j_CV i 432 236 0 := fun i h => ⟨by rw [h]; exact j_i7 153 rfl, j_i7 155 rfl, j_inP 72 rfl, j_i1 11 rfl, j_m236, by decide +kernel⟩
theorem cv10_435 : ∀ i, j_own i = "WhatIfSheetModel" → j_CV i 435 237 0 := fun i h => ⟨by rw [h]; exact j_i7 157 rfl, j_i7 159 rfl, j_inP 73 rfl, j_i1 11 rfl, j_m237, by decide +kernel⟩
theorem cv10_429 : ∀ i, j_own i = "WhatIfSheetModel" → j_CV i 429 238 1 := fun i h => ⟨by rw [h]; exact j_i7 161 rfl, j_i7 163 rfl, j_inP 74 rfl, j_i1 11 rfl, j_m238, by decide +kernel⟩
theorem cv10_453 : ∀ i, j_own i = "WhatIfSheetModel" → j_CV i 453 239 1 := fun i h => ⟨by rw [h]; exact j_i7 165 rfl, j_i7 167 rfl, j_inP 75 rfl, j_i1 11 rfl, j_m239, by decide +kernel⟩
theorem cv10_456 : ∀ i, j_own i = "WhatIfSheetModel" → j_CV i 456 240 1 := fun i h => ⟨by rw [h]; exact j_i7 169 rfl, j_i7 171 rfl, j_inP 76 rfl, j_i1 11 rfl, j_m240, by decide +kernel⟩
theorem cv10_418 : ∀ i, j_own i = "WhatIfSheetModel" → j_CV i 418 241 1 := fun i h => ⟨by rw [h]; exact j_i7 173 rfl, j_i7 175 rfl, j_inP 77 rfl, j_i1 11 rfl, j_m241, by decide +kernel⟩
theorem cv10_441 : ∀ i, j_own i = "WhatIfSheetModel" → j_CV i 441 242 0 := fun i h => ⟨by rw [h]; exact j_i7 177 rfl, j_i7 179 rfl, j_inP 78 rfl, j_i1 11 rfl, j_m242, by decide +kernel⟩
theorem cv10_444 : ∀ i, j_own i = "WhatIfSheetModel" → j_CV i 444 243 1 := fun i h => ⟨by rw [h]; exact j_i7 181 rfl, j_i7 183 rfl, j_inP 79 rfl, j_i1 11 rfl, j_m243, by decide +kernel⟩
theorem cv10_462 : ∀ i, j_own i = "WhatIfSheetModel" → j_CV i 462 244 1 := fun i h => ⟨by rw [h]; exact j_i7 185 rfl, j_i7 187 rfl, j_inP 80 rfl, j_i1 11 rfl, j_m244, by decide +kernel⟩
theorem cv10_465 : ∀ i, j_own i = "WhatIfSheetModel" → j_CV i 465 245 0 := fun i h => ⟨by rw [h]; exact j_i7 189 rfl, j_i7 191 rfl, j_inP 81 rfl, j_i1 11 rfl, j_m245, by decide +kernel⟩
theorem cv10_468 : ∀ i, j_own i = "WhatIfSheetModel" → j_CV i 468 246 1 := fun i h => ⟨by rw [h]; exact j_i7 193 rfl, j_i7 195 rfl, j_inP 82 rfl, j_i1 11 rfl, j_m246, by decide +kernel⟩
theorem cv10_477 : ∀ i, j_own i = "WhatIfSheetModel" → j_CV i 477 247 0 := fun i h => ⟨by rw [h]; exact j_i7 198 rfl, j_i7 200 rfl, j_inP 83 rfl, j_i1 11 rfl, j_m247, by decide +kernel⟩
theorem cv10_240 : ∀ i, j_own i = "WhatIfSheetModel" → j_CS i 240 222 2 := fun i h => ⟨by rw [h]; exact j_i7 202 rfl, j_i7 104 rfl, j_i1 13 rfl, j_m222, by decide +kernel⟩
theorem cv10_480 : ∀ i, j_own i = "WhatIfSheetModel" → j_CS i 480 249 1 := fun i h => ⟨by rw [h]; exact j_i7 207 rfl, j_i7 208 rfl, j_i1 11 rfl, j_m249, by decide +kernel⟩
theorem cv10_485 : ∀ i, j_own i = "WhatIfSheetModel" → j_CV i 485 251 3 := fun i h => ⟨by rw [h]; exact j_i7 216 rfl, j_i7 218 rfl, j_inP 84 rfl, j_i1 11 rfl, j_m251, by decide +kernel⟩
theorem cv10_488 : ∀ i, j_own i = "WhatIfSheetModel" → j_CS i 488 253 1 := fun i h => ⟨by rw [h]; exact j_i7 224 rfl, j_i7 225 rfl, j_i1 11 rfl, j_m253, by decide +kernel⟩
theorem cv10_491 : ∀ i, j_own i = "WhatIfSheetModel" → j_CV i 491 256 3 := fun i h => ⟨by rw [h]; exact j_i7 235 rfl, j_i7 237 rfl, j_inP 85 rfl, j_i1 11 rfl, j_m256, by decide +kernel⟩
theorem cv10_495 : ∀ i, j_own i = "WhatIfSheetModel" → j_CV i 495 257 3 := fun i h => ⟨by rw [h]; exact j_i7 239 rfl, j_i8 1 rfl, j_inP 86 rfl, j_i1 11 rfl, j_m257, by decide +kernel⟩
theorem cv10_504 : ∀ i, j_own i = "WhatIfSheetModel" → j_CV i 504 261 2 := fun i h => ⟨by rw [h]; exact j_i8 15 rfl, j_i8 17 rfl, j_inP 87 rfl, j_i1 11 rfl, j_m261, by decide +kernel⟩
theorem cv10_508 : ∀ i, j_own i = "WhatIfSheetModel" → j_CV i 508 262 1 := fun i h => ⟨by rw [h]; exact j_i8 19 rfl, j_i8 21 rfl, j_inP 88 rfl, j_i1 11 rfl, j_m262, by decide +kernel⟩
theorem cv10_501 : ∀ i, j_own i = "WhatIfSheetModel" → j_CV i 501 263 2 := fun i h => ⟨by rw [h]; exact j_i8 23 rfl, j_i8 25 rfl, j_inP 89 rfl, j_i1 11 rfl, j_m263, by decide +kernel⟩
theorem cv10_498 : ∀ i, j_own i = "WhatIfSheetModel" → j_CV i 498 264 1 := fun i h => ⟨by rw [h]; exact j_i8 27 rfl, j_i8 29 rfl, j_inP 90 rfl, j_i1 11 rfl, j_m264, by decide +kernel⟩
theorem cv10_536 : ∀ i, j_own i = "WhatIfSheetModel" → j_CS i 536 266 1 := fun i h => ⟨by rw [h]; exact j_i8 35 rfl, j_i8 36 rfl, j_i1 11 rfl, j_m266, by decide +kernel⟩
theorem cv10_539 : ∀ i, j_own i = "WhatIfSheetModel" → j_CV i 539 267 5 := fun i h => ⟨by rw [h]; exact j_i8 38 rfl, j_i8 40 rfl, j_inP 91 rfl, j_i1 11 rfl, j_m267, by decide +kernel⟩
theorem cv10_523 : ∀ i, j_own i = "WhatIfSheetModel" → j_CV i 523 268 3 := fun i h => ⟨by rw [h]; exact j_i8 42 rfl, j_i8 44 rfl, j_inP 92 rfl, j_i1 11 rfl, j_m268, by decide +kernel⟩
theorem cv10_527 : ∀ i, j_own i = "WhatIfSheetModel" → j_CV i 527 269 2 := fun i h => ⟨by rw [h]; exact j_i8 46 rfl, j_i8 48 rfl, j_inP 93 rfl, j_i1 11 rfl, j_m269, by decide +kernel⟩
theorem cv10_549 : ∀ i, j_own i = "WhatIfSheetModel" → j_CV i 549 273 4 := fun i h => ⟨by rw [h]; exact j_i8 68 rfl, j_i8 70 rfl, j_inP 94 rfl, j_i1 11 rfl, j_m273, by decide +kernel⟩
theorem cv10_546 : ∀ i, j_own i = "WhatIfSheetModel" → j_CS i 546 274 2 := fun i h => ⟨by rw [h]; exact j_i8 73 rfl, j_i8 74 rfl, j_i1 11 rfl, j_m274, by decide +kernel⟩
theorem cv10_553 : ∀ i, j_own i = "WhatIfSheetModel" → j_CV i 553 277 2 := fun i h => ⟨by rw [h]; exact j_i8 84 rfl, j_i8 86 rfl, j_inP 95 rfl, j_i1 11 rfl, j_m277, by decide +kernel⟩
theorem cv10_556 : ∀ i, j_own i = "WhatIfSheetModel" → j_CV i 556 278 3 := fun i h => ⟨by rw [h]; exact j_i8 88 rfl, j_i8 90 rfl, j_inP 96 rfl, j_i1 11 rfl, j_m278, by decide +kernel⟩
theorem cv10_559 : ∀ i, j_own i = "WhatIfSheetModel" → j_CV i 559 279 4 := fun i h => ⟨by rw [h]; exact j_i8 92 rfl, j_i8 94 rfl, j_inP 97 rfl, j_i1 11 rfl, j_m279, by decide +kernel⟩
theorem cv10_566 : ∀ i, j_own i = "WhatIfSheetModel" → j_CV i 566 281 0 := fun i h => ⟨by rw [h]; exact j_i8 100 rfl, j_i8 102 rfl, j_inP 98 rfl, j_i1 11 rfl, j_m281, by decide +kernel⟩
theorem cv10_569 : ∀ i, j_own i = "WhatIfSheetModel" → j_CV i 569 286 2 := fun i h => ⟨by rw [h]; exact j_i8 120 rfl, j_i8 122 rfl, j_inP 99 rfl, j_i1 11 rfl, j_m286, by decide +kernel⟩
theorem nv0_35 : ∀ i, j_own i = "WhatIfSheet$Board" → j_NI i 35 3 0 := fun i h => ⟨⟨_, by rw [h]; exact List.mem_of_getElem? (i := 0) rfl⟩, j_i1 40 rfl, j_i1 3 rfl, j_m3, by decide +kernel, rfl, rfl⟩
theorem nv0_36 : ∀ i, j_own i = "WhatIfSheet$Board" → j_NI i 36 4 0 := fun i h => ⟨⟨_, by rw [h]; exact List.mem_of_getElem? (i := 1) rfl⟩, j_i1 67 rfl, j_i1 4 rfl, j_m4, by decide +kernel, rfl, rfl⟩
theorem nv9_18 : ∀ i, j_own i = "WhatIfSheet" → j_NI i 18 5 0 := fun i h => ⟨⟨_, by rw [h]; exact List.mem_of_getElem? (i := 2) rfl⟩, j_i1 149 rfl, j_i1 5 rfl, j_m5, by decide +kernel, rfl, rfl⟩
theorem nv5_17 : ∀ i, j_own i = "WhatIfSheet$Reader" → j_NI i 17 3 0 := fun i h => ⟨⟨_, by rw [h]; exact List.mem_of_getElem? (i := 3) rfl⟩, j_i1 40 rfl, j_i1 3 rfl, j_m3, by decide +kernel, rfl, rfl⟩
theorem nv9_25 : ∀ i, j_own i = "WhatIfSheet" → j_NI i 25 4 0 := fun i h => ⟨⟨_, by rw [h]; exact List.mem_of_getElem? (i := 4) rfl⟩, j_i1 67 rfl, j_i1 4 rfl, j_m4, by decide +kernel, rfl, rfl⟩
theorem nv9_38 : ∀ i, j_own i = "WhatIfSheet" → j_NI i 38 6 0 := fun i h => ⟨⟨_, by rw [h]; exact List.mem_of_getElem? (i := 5) rfl⟩, j_i1 188 rfl, j_i1 6 rfl, j_m6, by decide +kernel, rfl, rfl⟩
theorem nv8_49 : ∀ i, j_own i = "WhatIfSheet$Teller" → j_NI i 49 9 0 := fun i h => ⟨⟨_, by rw [h]; exact List.mem_of_getElem? (i := 6) rfl⟩, j_i2 35 rfl, j_i1 9 rfl, j_m9, by decide +kernel, rfl, rfl⟩
theorem nv9_59 : ∀ i, j_own i = "WhatIfSheet" → j_NI i 59 10 0 := fun i h => ⟨⟨_, by rw [h]; exact List.mem_of_getElem? (i := 7) rfl⟩, j_i2 108 rfl, j_i1 10 rfl, j_m10, by decide +kernel, rfl, rfl⟩
theorem nv4_55 : ∀ i, j_own i = "WhatIfSheet$Names" → j_NS i 55 21 2 := fun i h => ⟨⟨_, by rw [h]; exact List.mem_of_getElem? (i := 8) rfl⟩, j_i2 199 rfl, j_i1 1 rfl, j_m21, by decide +kernel⟩
theorem nv8_59 : ∀ i, j_own i = "WhatIfSheet$Teller" → j_NS i 59 15 2 := fun i h => ⟨⟨_, by rw [h]; exact List.mem_of_getElem? (i := 9) rfl⟩, j_i2 173 rfl, j_i1 1 rfl, j_m15, by decide +kernel⟩
theorem nv8_67 : ∀ i, j_own i = "WhatIfSheet$Teller" → j_NS i 67 35 2 := fun i h => ⟨⟨_, by rw [h]; exact List.mem_of_getElem? (i := 10) rfl⟩, j_i3 14 rfl, j_i1 1 rfl, j_m35, by decide +kernel⟩
theorem nv9_382 : ∀ i, j_own i = "WhatIfSheet" → j_NV i 382 36 2 := fun i h => ⟨⟨_, by rw [h]; exact List.mem_of_getElem? (i := 11) rfl⟩, j_i3 18 rfl, j_inP 5 rfl, j_i1 7 rfl, j_m36, by decide +kernel⟩
theorem nv8_85 : ∀ i, j_own i = "WhatIfSheet$Teller" → j_NS i 85 21 2 := fun i h => ⟨⟨_, by rw [h]; exact List.mem_of_getElem? (i := 12) rfl⟩, j_i2 199 rfl, j_i1 1 rfl, j_m21, by decide +kernel⟩
theorem nv8_121 : ∀ i, j_own i = "WhatIfSheet$Teller" → j_NS i 121 12 1 := fun i h => ⟨⟨_, by rw [h]; exact List.mem_of_getElem? (i := 13) rfl⟩, j_i2 161 rfl, j_i1 1 rfl, j_m12, by decide +kernel⟩
theorem nv8_124 : ∀ i, j_own i = "WhatIfSheet$Teller" → j_NS i 124 39 1 := fun i h => ⟨⟨_, by rw [h]; exact List.mem_of_getElem? (i := 14) rfl⟩, j_i3 34 rfl, j_i1 1 rfl, j_m39, by decide +kernel⟩
theorem nv8_140 : ∀ i, j_own i = "WhatIfSheet$Teller" → j_NS i 140 16 2 := fun i h => ⟨⟨_, by rw [h]; exact List.mem_of_getElem? (i := 15) rfl⟩, j_i2 177 rfl, j_i1 1 rfl, j_m16, by decide +kernel⟩
theorem nv9_389 : ∀ i, j_own i = "WhatIfSheet" → j_NV i 389 41 2 := fun i h => ⟨⟨_, by rw [h]; exact List.mem_of_getElem? (i := 16) rfl⟩, j_i3 42 rfl, j_inP 9 rfl, j_i1 7 rfl, j_m41, by decide +kernel⟩
theorem nv0_87 : ∀ i, j_own i = "WhatIfSheet$Board" → j_NS i 87 15 2 := fun i h => ⟨⟨_, by rw [h]; exact List.mem_of_getElem? (i := 17) rfl⟩, j_i2 173 rfl, j_i1 1 rfl, j_m15, by decide +kernel⟩
theorem kc9_64 : ∀ i, j_own i = "WhatIfSheet" → Cond.constant (j_own i) 64 (8000000) ∈ lw_tbl := fun i h => by rw [h]; exact j_i2 163 rfl
theorem kc9_80 : ∀ i, j_own i = "WhatIfSheet" → Cond.constantDouble (j_own i) 80 (4620693217682128896) ∈ lw_tbl := fun i h => by rw [h]; exact j_i2 171 rfl
theorem kc9_457 : ∀ i, j_own i = "WhatIfSheet" → Cond.constantDouble (j_own i) 457 (4645040803167600640) ∈ lw_tbl := fun i h => by rw [h]; exact j_i2 175 rfl
theorem kc9_467 : ∀ i, j_own i = "WhatIfSheet" → Cond.constantDouble (j_own i) 467 (4611686018427387904) ∈ lw_tbl := fun i h => by rw [h]; exact j_i2 179 rfl
theorem kc9_463 : ∀ i, j_own i = "WhatIfSheet" → Cond.constantDouble (j_own i) 463 (13875379345695965184) ∈ lw_tbl := fun i h => by rw [h]; exact j_i2 180 rfl
theorem kc9_465 : ∀ i, j_own i = "WhatIfSheet" → Cond.constantDouble (j_own i) 465 (4652007308841189376) ∈ lw_tbl := fun i h => by rw [h]; exact j_i2 181 rfl
theorem kc4_96 : ∀ i, j_own i = "WhatIfSheet$Names" → Cond.constantLong (j_own i) 96 (2000) ∈ lw_tbl := fun i h => by rw [h]; exact j_i2 219 rfl
theorem kc8_114 : ∀ i, j_own i = "WhatIfSheet$Teller" → Cond.constant (j_own i) 114 (16777215) ∈ lw_tbl := fun i h => by rw [h]; exact j_i3 26 rfl
theorem kc8_115 : ∀ i, j_own i = "WhatIfSheet$Teller" → Cond.constantDouble (j_own i) 115 (4652007308841189376) ∈ lw_tbl := fun i h => by rw [h]; exact j_i3 27 rfl
theorem kc7_50 : ∀ i, j_own i = "WhatIfSheet$Tally" → Cond.constantDouble (j_own i) 50 (4786511204640096256) ∈ lw_tbl := fun i h => by rw [h]; exact j_i3 73 rfl
theorem kc7_52 : ∀ i, j_own i = "WhatIfSheet$Tally" → Cond.constantDouble (j_own i) 52 (14009883241494872064) ∈ lw_tbl := fun i h => by rw [h]; exact j_i3 74 rfl
theorem kc8_144 : ∀ i, j_own i = "WhatIfSheet$Teller" → Cond.constantDouble (j_own i) 144 (4786511204640096256) ∈ lw_tbl := fun i h => by rw [h]; exact j_i3 96 rfl
theorem kc8_146 : ∀ i, j_own i = "WhatIfSheet$Teller" → Cond.constantDouble (j_own i) 146 (14009883241494872064) ∈ lw_tbl := fun i h => by rw [h]; exact j_i3 97 rfl
theorem kc9_127 : ∀ i, j_own i = "WhatIfSheet" → Cond.constantLong (j_own i) 127 (-2) ∈ lw_tbl := fun i h => by rw [h]; exact j_i3 108 rfl
theorem kc9_469 : ∀ i, j_own i = "WhatIfSheet" → Cond.constantDouble (j_own i) 469 (4841369599423283200) ∈ lw_tbl := fun i h => by rw [h]; exact j_i3 115 rfl
theorem kc9_265 : ∀ i, j_own i = "WhatIfSheet" → Cond.constantLong (j_own i) 265 (-9223372036854775808) ∈ lw_tbl := fun i h => by rw [h]; exact j_i3 116 rfl
theorem kc9_136 : ∀ i, j_own i = "WhatIfSheet" → Cond.constantLong (j_own i) 136 (-3) ∈ lw_tbl := fun i h => by rw [h]; exact j_i3 121 rfl
theorem kc9_193 : ∀ i, j_own i = "WhatIfSheet" → Cond.constant (j_own i) 193 (80000) ∈ lw_tbl := fun i h => by rw [h]; exact j_i4 91 rfl
theorem kc1_43 : ∀ i, j_own i = "WhatIfSheet$Bracket" → Cond.constantDouble (j_own i) 43 (4611686018427387904) ∈ lw_tbl := fun i h => by rw [h]; exact j_i4 218 rfl
theorem kc9_311 : ∀ i, j_own i = "WhatIfSheet" → Cond.constantLong (j_own i) 311 (-1) ∈ lw_tbl := fun i h => by rw [h]; exact j_i4 233 rfl
theorem kc9_319 : ∀ i, j_own i = "WhatIfSheet" → Cond.constantDouble (j_own i) 319 (13830554455654793216) ∈ lw_tbl := fun i h => by rw [h]; exact j_i4 238 rfl
theorem kc8_89 : ∀ i, j_own i = "WhatIfSheet$Teller" → Cond.constant (j_own i) 89 (1103515245) ∈ lw_tbl := fun i h => by rw [h]; exact j_i5 12 rfl
theorem kc8_90 : ∀ i, j_own i = "WhatIfSheet$Teller" → Cond.constantDouble (j_own i) 90 (4620693217682128896) ∈ lw_tbl := fun i h => by rw [h]; exact j_i5 13 rfl
theorem kc9_372 : ∀ i, j_own i = "WhatIfSheet" → Cond.constantLong (j_own i) 372 (-11) ∈ lw_tbl := fun i h => by rw [h]; exact j_i5 97 rfl
theorem kc9_374 : ∀ i, j_own i = "WhatIfSheet" → Cond.constantLong (j_own i) 374 (-12) ∈ lw_tbl := fun i h => by rw [h]; exact j_i5 98 rfl
theorem kc10_310 : ∀ i, j_own i = "WhatIfSheetModel" → Cond.constant (j_own i) 310 (-8000000) ∈ lw_tbl := fun i h => by rw [h]; exact j_i6 116 rfl
theorem kc10_311 : ∀ i, j_own i = "WhatIfSheetModel" → Cond.constant (j_own i) 311 (8000000) ∈ lw_tbl := fun i h => by rw [h]; exact j_i6 117 rfl
theorem kc10_318 : ∀ i, j_own i = "WhatIfSheetModel" → Cond.constantDouble (j_own i) 318 (4620693217682128896) ∈ lw_tbl := fun i h => by rw [h]; exact j_i6 122 rfl
theorem kc10_191 : ∀ i, j_own i = "WhatIfSheetModel" → Cond.constantFloat (j_own i) 191 (1135869952) ∈ lw_tbl := fun i h => by rw [h]; exact j_i6 129 rfl
theorem kc10_192 : ∀ i, j_own i = "WhatIfSheetModel" → Cond.constantDouble (j_own i) 192 (13875379345695965184) ∈ lw_tbl := fun i h => by rw [h]; exact j_i6 130 rfl
theorem kc10_194 : ∀ i, j_own i = "WhatIfSheetModel" → Cond.constantDouble (j_own i) 194 (4652007308841189376) ∈ lw_tbl := fun i h => by rw [h]; exact j_i6 131 rfl
theorem kc10_228 : ∀ i, j_own i = "WhatIfSheetModel" → Cond.constant (j_own i) 228 (1000000) ∈ lw_tbl := fun i h => by rw [h]; exact j_i6 184 rfl
theorem kc10_220 : ∀ i, j_own i = "WhatIfSheetModel" → Cond.constantLong (j_own i) 220 (1000000) ∈ lw_tbl := fun i h => by rw [h]; exact j_i6 192 rfl
theorem kc10_275 : ∀ i, j_own i = "WhatIfSheetModel" → Cond.constantDouble (j_own i) 275 (4786511204640096256) ∈ lw_tbl := fun i h => by rw [h]; exact j_i6 224 rfl
theorem kc10_277 : ∀ i, j_own i = "WhatIfSheetModel" → Cond.constantDouble (j_own i) 277 (14009883241494872064) ∈ lw_tbl := fun i h => by rw [h]; exact j_i6 225 rfl
theorem kc10_326 : ∀ i, j_own i = "WhatIfSheetModel" → Cond.constantLong (j_own i) 326 (-2) ∈ lw_tbl := fun i h => by rw [h]; exact j_i6 238 rfl
theorem kc11_137 : ∀ i, j_own i = "java/lang/Double" → Cond.constantLong (j_own i) 137 (9221120237041090560) ∈ lw_tbl := fun i h => by rw [h]; exact j_i7 22 rfl
theorem kc10_308 : ∀ i, j_own i = "WhatIfSheetModel" → Cond.constantLong (j_own i) 308 (-20) ∈ lw_tbl := fun i h => by rw [h]; exact j_i7 23 rfl
theorem kc10_339 : ∀ i, j_own i = "WhatIfSheetModel" → Cond.constantLong (j_own i) 339 (-3) ∈ lw_tbl := fun i h => by rw [h]; exact j_i7 28 rfl
theorem kc10_394 : ∀ i, j_own i = "WhatIfSheetModel" → Cond.constant (j_own i) 394 (100000) ∈ lw_tbl := fun i h => by rw [h]; exact j_i7 86 rfl
theorem kc15_227 : ∀ i, j_own i = "java/lang/StringUTF16" → Cond.constant (j_own i) 227 (65536) ∈ lw_tbl := fun i h => by rw [h]; exact j_i7 115 rfl
theorem kc17_110 : ∀ i, j_own i = "java/lang/Character" → Cond.constant (j_own i) 110 (55232) ∈ lw_tbl := fun i h => by rw [h]; exact j_i7 140 rfl
theorem kc17_76 : ∀ i, j_own i = "java/lang/Character" → Cond.constant (j_own i) 76 (56320) ∈ lw_tbl := fun i h => by rw [h]; exact j_i7 144 rfl
theorem kc10_483 : ∀ i, j_own i = "WhatIfSheetModel" → Cond.constant (j_own i) 483 (-80000) ∈ lw_tbl := fun i h => by rw [h]; exact j_i7 214 rfl
theorem kc10_484 : ∀ i, j_own i = "WhatIfSheetModel" → Cond.constant (j_own i) 484 (80000) ∈ lw_tbl := fun i h => by rw [h]; exact j_i7 215 rfl
theorem kc10_531 : ∀ i, j_own i = "WhatIfSheetModel" → Cond.constantDouble (j_own i) 531 (4611686018427387904) ∈ lw_tbl := fun i h => by rw [h]; exact j_i8 50 rfl
theorem kc12_135 : ∀ i, j_own i = "java/lang/Math" → Cond.constantLong (j_own i) 135 (9223372036854775807) ∈ lw_tbl := fun i h => by rw [h]; exact j_i8 55 rfl
theorem kc10_543 : ∀ i, j_own i = "WhatIfSheetModel" → Cond.constantLong (j_own i) 543 (-1) ∈ lw_tbl := fun i h => by rw [h]; exact j_i8 59 rfl
theorem kc10_545 : ∀ i, j_own i = "WhatIfSheetModel" → Cond.constant (j_own i) 545 (1103515245) ∈ lw_tbl := fun i h => by rw [h]; exact j_i8 72 rfl
