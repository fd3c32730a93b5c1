section QW
/-! one part weighed, one part made: the same numbers -/
/-- the letter of a sign -/
def kc : Nat → Int32
  | 0 => 60
  | 1 => 61
  | 2 => 33
  | 3 => 38
  | 4 => 124
  | 5 => 62
  | 6 => 65
  | 7 => 69
  | 8 => 97
  | _ => 101
def w3 (Go : xG) (c : Nat) (S P W : Int32) : xG := va_up (va_up (va_up Go 5 (upd (Go 5) c S)) 6 (upd (Go 6) c P)) 7 (upd (Go 7) c W)
def w3m (G : xG) (q : Nat) (S P W : Int32) : xG := va_up (va_up (va_up G 9 (upd (G 9) q S)) 10 (upd (G 10) q P)) 11 (upd (G 11) q W)
def m5 (G : xG) (q : Nat) (s L R V U : Int32) : xG := va_up (va_up (va_up (va_up (va_up G 4 (upd (G 4) q s)) 5 (upd (G 5) q L)) 6 (upd (G 6) q R)) 7 (upd (G 7) q V)) 8 (upd (G 8) q U)
theorem x_mxe (a b : Int32) : x_max a b = if b ≤ a then a else b := by
  show (if a < b then b else a) = _
  by_cases h : a < b
  · rw [if_pos h, if_neg (fun z => Int32.not_le.mpr h z)]
  · rw [if_neg h, if_pos (Int32.not_lt.mp h)]
/-- the lesser of a number that is 1 at least, and 1 more than another -/
def x_les (v w : Int32) : Int32 := x_min (x_max v 1) (w + 1)
theorem x_lesE (v w : Int32) : fX6_lesser v w = some (x_les v w) := by
  have h2 : ∀ y : Int32, fX6_lesser_j10 w y = some (x_min y (w + 1)) := fun y => by
    rw [fX6_lesser_j10_e]
    show _ = some (if w + 1 < y then w + 1 else y)
    by_cases h : w + 1 ≤ y
    · rw [if_pos h]
      by_cases h3 : w + 1 < y
      · rw [if_pos h3]
      · rw [if_neg h3]
        rcases Int32.lt_or_eq_of_le h with h4 | h4
        · exact absurd h4 h3
        · rw [h4]
    · rw [if_neg h, if_neg (fun z => h (Int32.not_lt.mp (fun y2 => Int32.lt_asymm z y2)))]
  rw [fX6_lesser_e, h2, h2, x_les, x_mxe]
  split <;> rfl
theorem sw3 {Go : xG} {c : Nat} (hc : c < 40) (S P W : Int32) : fX0_setWeight Go (nI c) S P W = some (w3 Go c S P W) := by
  rw [fX0_setWeight_e, q_ld hc (by omega), q_ld hc (by omega), q_ld hc (by omega), q_cl (by omega)]
  rfl
theorem sw3m {G : xG} {q : Nat} (hq : q < 40) (S P W : Int32) : fX6_measure_j367 G (nI q) S P W = some (w3m G q S P W) := by
  rw [fX6_measure_j367_e, q_ld hq (by omega), q_ld hq (by omega), q_ld hq (by omega), q_cl (by omega)]
  rfl
theorem we_atom {Go : xG} {c s v u : Nat} (hc : c < 40) (hs : s ≤ 1) (hk : Go 0 c = kc s) (h1 : Go 1 c = nI v) (h2 : Go 2 c = nI u) : fX0_weigh Go (nI c) = some (w3 Go c 0 0 (x_shl 1 (nI v) ||| x_shl 1 (nI u))) := by
  have ha : fX0_isAtom (kc s) = some 1 := by
    rcases (show s = 0 ∨ s = 1 by omega) with rfl | rfl <;> rfl
  rw [fX0_weigh_e, q_ld hc (by omega), q_cl (by omega), hk, q_b1 ha, if_neg q_10, q_ld hc (by omega), h1, q_b1 (fX0_bit_e _), q_ld hc (by omega), h2, q_b1 (fX0_bit_e _), q_b1 (sw3 hc _ _ _)]
theorem we_not {Go : xG} {c f : Nat} (hc : c < 40) (hf : f < 40) (hk : Go 0 c = kc 2) (h3 : Go 3 c = nI f) : fX0_weigh Go (nI c) = some (w3 Go c (Go 6 f) (Go 5 f) (Go 7 f)) := by
  rw [fX0_weigh_e, q_ld hc (by omega), q_cl (by omega), hk, q_b1 (show fX0_isAtom (kc 2) = some 0 from rfl), if_pos rfl, q_b1 (show fX0_isOperator (kc 2) = some 0 from rfl), if_pos rfl, if_pos (show kc 2 = 33 from rfl), q_ld hc (by omega), h3, q_ld hf (by omega), q_ld hf (by omega), q_ld hf (by omega), q_cl (by omega), q_b1 (sw3 hc _ _ _)]
theorem we_op {Go : xG} {c f g s : Nat} (hc : c < 40) (hf : f < 40) (hg : g < 40) (hs : 3 ≤ s ∧ s ≤ 5) (hk : Go 0 c = kc s) (h3 : Go 3 c = nI f) (h4 : Go 4 c = nI g) : fX0_weigh Go (nI c) = some (w3 Go c (x_max (if s = 5 then Go 6 f else Go 5 f) (Go 5 g)) (x_max (if s = 5 then Go 5 f else Go 6 f) (Go 6 g)) (Go 7 f ||| Go 7 g)) := by
  have ha : fX0_isAtom (kc s) = some 0 := by
    rcases (show s = 3 ∨ s = 4 ∨ s = 5 by omega) with rfl | rfl | rfl <;> rfl
  have hb : fX0_isOperator (kc s) = some 1 := by
    rcases (show s = 3 ∨ s = 4 ∨ s = 5 by omega) with rfl | rfl | rfl <;> rfl
  have h60 : ∀ v3 v4 : Int32, fX0_weighOperator_j60 Go (nI g) (nI f) (nI c) v3 v4 = some (w3 Go c (x_max v3 (Go 5 g)) (x_max v4 (Go 6 g)) (Go 7 f ||| Go 7 g)) := fun v3 v4 => by
    rw [fX0_weighOperator_j60_e, q_ld hg (by omega), q_ld hg (by omega), q_ld hf (by omega), q_ld hg (by omega), q_cl (by omega), q_cl (by omega), q_b1 (sw3 hc _ _ _)]
  have hw : fX0_weighOperator Go (nI c) (nI f) (nI g) = some (w3 Go c (x_max (if s = 5 then Go 6 f else Go 5 f) (Go 5 g)) (x_max (if s = 5 then Go 5 f else Go 6 f) (Go 6 g)) (Go 7 f ||| Go 7 g)) := by
    rw [fX0_weighOperator_e, q_ld hc (by omega), q_cl (by omega), hk]
    rcases (show s = 3 ∨ s = 4 ∨ s = 5 by omega) with rfl | rfl | rfl
    · rw [if_neg (by decide), fX0_weighOperator_j16_e, if_pos rfl, q_ld hf (by omega), q_cl (by omega), fX0_weighOperator_j38_e, if_pos rfl, q_ld hf (by omega), q_cl (by omega), h60, if_neg (by decide), if_neg (by decide)]
    · rw [if_neg (by decide), fX0_weighOperator_j16_e, if_pos rfl, q_ld hf (by omega), q_cl (by omega), fX0_weighOperator_j38_e, if_pos rfl, q_ld hf (by omega), q_cl (by omega), h60, if_neg (by decide), if_neg (by decide)]
    · rw [if_pos (by decide), fX0_weighOperator_j16_e, if_neg q_10, q_ld hf (by omega), q_cl (by omega), fX0_weighOperator_j38_e, if_neg q_10, q_ld hf (by omega), q_cl (by omega), h60, if_pos rfl, if_pos rfl]
  rw [fX0_weigh_e, q_ld hc (by omega), q_cl (by omega), hk, q_b1 ha, if_pos rfl, q_b1 hb, if_neg q_10, q_ld hc (by omega), q_ld hc (by omega), h3, h4, q_b1 hw]
theorem we_q {Go : xG} {c f s v u : Nat} (hc : c < 40) (hf : f < 40) (hs : 6 ≤ s ∧ s ≤ 9) (hk : Go 0 c = kc s) (h3 : Go 3 c = nI f) (h1 : Go 1 c = nI v) (h2 : 8 ≤ s → Go 2 c = nI u) : fX0_weigh Go (nI c) = some (if s = 6 then w3 Go c (x_les (Go 6 f) (Go 5 f) + 1) (x_les (Go 6 f) (Go 5 f)) (Go 7 f &&& (x_shl 1 (nI v) ^^^ (-1))) else if s = 7 then w3 Go c (x_les (Go 5 f) (Go 6 f)) (x_les (Go 5 f) (Go 6 f) + 1) (Go 7 f &&& (x_shl 1 (nI v) ^^^ (-1))) else w3 Go c (Go 5 f) (Go 6 f) ((Go 7 f &&& (x_shl 1 (nI v) ^^^ (-1))) ||| x_shl 1 (nI u))) := by
  have ha : fX0_isAtom (kc s) = some 0 := by
    rcases (show s = 6 ∨ s = 7 ∨ s = 8 ∨ s = 9 by omega) with rfl | rfl | rfl | rfl <;> rfl
  have hb : fX0_isOperator (kc s) = some 0 := by
    rcases (show s = 6 ∨ s = 7 ∨ s = 8 ∨ s = 9 by omega) with rfl | rfl | rfl | rfl <;> rfl
  have hn : ¬ kc s = 33 := by
    rcases (show s = 6 ∨ s = 7 ∨ s = 8 ∨ s = 9 by omega) with rfl | rfl | rfl | rfl <;> decide
  have hw : fX0_weighQuantifier Go (nI c) (nI f) = some (if s = 6 then w3 Go c (x_les (Go 6 f) (Go 5 f) + 1) (x_les (Go 6 f) (Go 5 f)) (Go 7 f &&& (x_shl 1 (nI v) ^^^ (-1))) else if s = 7 then w3 Go c (x_les (Go 5 f) (Go 6 f)) (x_les (Go 5 f) (Go 6 f) + 1) (Go 7 f &&& (x_shl 1 (nI v) ^^^ (-1))) else w3 Go c (Go 5 f) (Go 6 f) ((Go 7 f &&& (x_shl 1 (nI v) ^^^ (-1))) ||| x_shl 1 (nI u))) := by
    rw [fX0_weighQuantifier_e, q_ld hf (by omega), q_ld hc (by omega), q_cl (by omega), q_cl (by omega), h1, q_b1 (fX0_bit_e _), q_ld hf (by omega), q_ld hf (by omega), q_ld hc (by omega), hk]
    rcases (show s = 6 ∨ s = 7 ∨ s = 8 ∨ s = 9 by omega) with rfl | rfl | rfl | rfl
    · rw [if_pos (by decide), q_b1 (sw3 hc _ _ _), if_pos rfl]; rfl
    · rw [if_neg (by decide), if_pos (by decide), q_b1 (sw3 hc _ _ _), if_neg (by decide), if_pos rfl]; rfl
    · rw [if_neg (by decide), if_neg (by decide), q_ld hc (by omega), h2 (by decide), q_b1 (fX0_bit_e _), q_b1 (sw3 hc _ _ _), if_neg (by decide), if_neg (by decide)]
    · rw [if_neg (by decide), if_neg (by decide), q_ld hc (by omega), h2 (by decide), q_b1 (fX0_bit_e _), q_b1 (sw3 hc _ _ _), if_neg (by decide), if_neg (by decide)]
  rw [fX0_weigh_e, q_ld hc (by omega), q_cl (by omega), hk, q_b1 ha, if_pos rfl, q_b1 hb, if_pos rfl, if_neg hn, q_ld hc (by omega), h3, q_b1 hw]
section ME
theorem me_atom {G : xG} {q s v u : Nat} (hq : q < 40) (hs : s ≤ 1) (g4 : G 4 q = nI s) (g5 : G 5 q = -1) (g7 : G 7 q = nI v) (g8 : G 8 q = nI u) (hv : v < 3) (hu : u < 3) : fX6_measure G (nI q) = some (w3m G q 0 0 (x_shl 1 (nI v) ||| x_shl 1 (nI u))) := by
  rw [fX6_measure_e, q_ld hq (by omega), q_ld hq (by omega), q_cl (by omega), g5, if_pos rfl, fX6_measure_j29_e, q_cl (by omega), g5, if_pos rfl, fX6_measure_j46_e, q_cl (by omega), g5, if_pos rfl, fX6_measure_j63_e, q_ld hq (by omega), q_cl (by omega), g7, if_neg (q_ne1 (by omega)), q_ld hq (by omega), fX6_measure_j87_e, q_ld hq (by omega), q_cl (by omega), g8, if_neg (q_ne1 (by omega)), q_ld hq (by omega), fX6_measure_j111_e, q_ld hq (by omega), q_cl (by omega), g4]
  rcases (show s = 0 ∨ s = 1 by omega) with rfl | rfl
  · rw [if_pos (by decide), sw3m hq]
  · rw [if_neg (by decide), if_pos (by decide), sw3m hq]
/-- of a part with a first one, up to the choice by its sign -/
theorem me_h {G : xG} {q f : Nat} {V U : Int32} {bv bu : Int32} (hq : q < 40) (hf : f < 40) (g5 : G 5 q = nI f) (g7 : G 7 q = V) (g8 : G 8 q = U) (hv : bv = if V = -1 then 0 else x_shl 1 V) (hu : bu = if U = -1 then 0 else x_shl 1 U) : fX6_measure G (nI q) = fX6_measure_j111 G (nI q) (G 9 f) (G 10 f) bv (G 11 f) bu := by
  rw [fX6_measure_e, q_ld hq (by omega), q_ld hq (by omega), q_cl (by omega), g5, if_neg (q_ne1 (by omega)), q_ld hf (by omega), q_cl (by omega), fX6_measure_j29_e, q_cl (by omega), g5, if_neg (q_ne1 (by omega)), q_ld hf (by omega), q_cl (by omega), fX6_measure_j46_e, q_cl (by omega), g5, if_neg (q_ne1 (by omega)), q_ld hf (by omega), q_cl (by omega), fX6_measure_j63_e, q_ld hq (by omega), q_cl (by omega), g7]
  have h87 : ∀ b, fX6_measure_j87 G (nI q) (G 9 f) (G 10 f) (G 11 f) b = fX6_measure_j111 G (nI q) (G 9 f) (G 10 f) b (G 11 f) bu := fun b => by
    rw [fX6_measure_j87_e, q_ld hq (by omega), q_cl (by omega), g8, hu]
    by_cases h : U = -1
    · rw [if_pos h, if_pos h]
    · rw [if_neg h, if_neg h, q_ld hq (by omega)]
  rw [hv]
  by_cases h : V = -1
  · rw [if_pos h, if_pos h, h87]
  · rw [if_neg h, if_neg h, q_ld hq (by omega), h87]
theorem me_not {G : xG} {q f : Nat} (hq : q < 40) (hf : f < 40) (g4 : G 4 q = nI 2) (g5 : G 5 q = nI f) (g7 : G 7 q = -1) (g8 : G 8 q = -1) : fX6_measure G (nI q) = some (w3m G q (G 10 f) (G 9 f) (G 11 f)) := by
  rw [me_h hq hf g5 g7 g8 rfl rfl, fX6_measure_j111_e, q_ld hq (by omega), q_cl (by omega), g4, if_neg (by decide), if_neg (by decide), if_pos (by decide), g5, q_ld hf (by omega), q_ld hf (by omega), q_cl (by omega), sw3m hq]
theorem me_op {G : xG} {q f g s : Nat} (hq : q < 40) (hf : f < 40) (hg : g < 40) (hs : 3 ≤ s ∧ s ≤ 5) (g4 : G 4 q = nI s) (g5 : G 5 q = nI f) (g6 : G 6 q = nI g) (g7 : G 7 q = -1) (g8 : G 8 q = -1) : fX6_measure G (nI q) = some (w3m G q (x_max (if s = 5 then G 10 f else G 9 f) (G 9 g)) (x_max (if s = 5 then G 9 f else G 10 f) (G 10 g)) (G 11 f ||| G 11 g)) := by
  rw [me_h hq hf g5 g7 g8 rfl rfl, fX6_measure_j111_e, q_ld hq (by omega), q_cl (by omega), g4]
  rcases (show s = 3 ∨ s = 4 ∨ s = 5 by omega) with rfl | rfl | rfl
  · have h285 : ∀ x y z, fX6_measure_j285 G (nI q) x y z = some (w3m G q x z (y ||| G 11 g)) := fun x y z => by
      rw [fX6_measure_j285_e, q_cl (by omega), g6, q_ld hg (by omega), q_cl (by omega), sw3m hq]
    have h261 : ∀ x y z, fX6_measure_j261 G (nI q) x y z = some (w3m G q z (x_max x (G 10 g)) (y ||| G 11 g)) := fun x y z => by
      rw [fX6_measure_j261_e, q_cl (by omega), g6, q_ld hg (by omega), q_cl (by omega), x_mxe]
      split
      · rw [h285]
      · rw [q_ld hg (by omega), h285]
    have h237 : ∀ x y z, fX6_measure_j237 G (nI q) x y z = some (w3m G q (x_max x (G 9 g)) (x_max z (G 10 g)) (y ||| G 11 g)) := fun x y z => by
      rw [fX6_measure_j237_e, q_cl (by omega), g6, q_ld hg (by omega), q_cl (by omega), x_mxe x]
      split
      · rw [h261]
      · rw [q_ld hg (by omega), h261]
    rw [if_neg (by decide), if_neg (by decide), if_neg (by decide), if_pos (by decide), q_ld hq (by omega), if_neg (by decide), fX6_measure_j214_e, q_ld hq (by omega), q_cl (by omega), g4, if_neg (by decide), h237, if_neg (by decide), if_neg (by decide)]
  · have h285 : ∀ x y z, fX6_measure_j285' G (nI q) x y z = some (w3m G q x z (y ||| G 11 g)) := fun x y z => by
      rw [fX6_measure_j285'_e, q_cl (by omega), g6, q_ld hg (by omega), q_cl (by omega), sw3m hq]
    have h261 : ∀ x y z, fX6_measure_j261' G (nI q) x y z = some (w3m G q z (x_max x (G 10 g)) (y ||| G 11 g)) := fun x y z => by
      rw [fX6_measure_j261'_e, q_cl (by omega), g6, q_ld hg (by omega), q_cl (by omega), x_mxe]
      split
      · rw [h285]
      · rw [q_ld hg (by omega), h285]
    have h237 : ∀ x y z, fX6_measure_j237' G (nI q) x y z = some (w3m G q (x_max x (G 9 g)) (x_max z (G 10 g)) (y ||| G 11 g)) := fun x y z => by
      rw [fX6_measure_j237'_e, q_cl (by omega), g6, q_ld hg (by omega), q_cl (by omega), x_mxe x]
      split
      · rw [h261]
      · rw [q_ld hg (by omega), h261]
    rw [if_neg (by decide), if_neg (by decide), if_neg (by decide), if_neg (by decide), if_pos (by decide), q_ld hq (by omega), if_neg (by decide), fX6_measure_j214'_e, q_ld hq (by omega), q_cl (by omega), g4, if_neg (by decide), h237, if_neg (by decide), if_neg (by decide)]
  · have h285 : ∀ x y z, fX6_measure_j285'' G (nI q) x y z = some (w3m G q x z (y ||| G 11 g)) := fun x y z => by
      rw [fX6_measure_j285''_e, q_cl (by omega), g6, q_ld hg (by omega), q_cl (by omega), sw3m hq]
    have h261 : ∀ x y z, fX6_measure_j261'' G (nI q) x y z = some (w3m G q z (x_max x (G 10 g)) (y ||| G 11 g)) := fun x y z => by
      rw [fX6_measure_j261''_e, q_cl (by omega), g6, q_ld hg (by omega), q_cl (by omega), x_mxe]
      split
      · rw [h285]
      · rw [q_ld hg (by omega), h285]
    have h237 : ∀ x y z, fX6_measure_j237'' G (nI q) x y z = some (w3m G q (x_max x (G 9 g)) (x_max z (G 10 g)) (y ||| G 11 g)) := fun x y z => by
      rw [fX6_measure_j237''_e, q_cl (by omega), g6, q_ld hg (by omega), q_cl (by omega), x_mxe x]
      split
      · rw [h261]
      · rw [q_ld hg (by omega), h261]
    rw [if_neg (by decide), if_neg (by decide), if_neg (by decide), if_neg (by decide), if_neg (by decide), if_pos (by decide), q_ld hq (by omega), if_pos (by decide), g5, q_ld hf (by omega), q_cl (by omega), fX6_measure_j214''_e, q_ld hq (by omega), q_cl (by omega), g4, if_pos (by decide), g5, q_ld hf (by omega), q_cl (by omega), h237, if_pos rfl, if_pos rfl]
theorem me_q {G : xG} {q f s v : Nat} {U : Int32} (hq : q < 40) (hf : f < 40) (hs : 6 ≤ s ∧ s ≤ 9) (hv : v < 3) (g4 : G 4 q = nI s) (g5 : G 5 q = nI f) (g7 : G 7 q = nI v) (g8 : G 8 q = U) : fX6_measure G (nI q) = some (if s = 6 then w3m G q (x_les (G 10 f) (G 9 f) + 1) (x_les (G 10 f) (G 9 f)) (G 11 f &&& (x_shl 1 (nI v) ^^^ (-1))) else if s = 7 then w3m G q (x_les (G 9 f) (G 10 f)) (x_les (G 9 f) (G 10 f) + 1) (G 11 f &&& (x_shl 1 (nI v) ^^^ (-1))) else w3m G q (G 9 f) (G 10 f) ((G 11 f &&& (x_shl 1 (nI v) ^^^ (-1))) ||| (if U = -1 then 0 else x_shl 1 U))) := by
  rw [me_h hq hf g5 g7 g8 (if_neg (q_ne1 (by omega))).symm rfl, fX6_measure_j111_e, q_ld hq (by omega), q_cl (by omega), g4]
  rcases (show s = 6 ∨ s = 7 ∨ s = 8 ∨ s = 9 by omega) with rfl | rfl | rfl | rfl
  · rw [if_neg (by decide), if_neg (by decide), if_neg (by decide), if_neg (by decide), if_neg (by decide), if_neg (by decide), if_pos (by decide), q_b1 (x_lesE _ _), sw3m hq, if_pos rfl]
  · rw [if_neg (by decide), if_neg (by decide), if_neg (by decide), if_neg (by decide), if_neg (by decide), if_neg (by decide), if_neg (by decide), if_pos (by decide), q_b1 (x_lesE _ _), sw3m hq, if_neg (by decide), if_pos rfl]
  · rw [if_neg (by decide), if_neg (by decide), if_neg (by decide), if_neg (by decide), if_neg (by decide), if_neg (by decide), if_neg (by decide), if_neg (by decide), sw3m hq, if_neg (show ¬ (8 : Nat) = 6 by decide), if_neg (show ¬ (8 : Nat) = 7 by decide)]
  · rw [if_neg (by decide), if_neg (by decide), if_neg (by decide), if_neg (by decide), if_neg (by decide), if_neg (by decide), if_neg (by decide), if_neg (by decide), sw3m hq, if_neg (show ¬ (9 : Nat) = 6 by decide), if_neg (show ¬ (9 : Nat) = 7 by decide)]
end ME
theorem mk5 {F : xF} {G : xG} {q : Nat} (hF : F 3 = nI q) (hq : q < 40) (s L R V U : Int32) {X : xG} (h : fX6_measure (m5 G q s L R V U) (nI q) = some X) : fX6_make F G s L R V U = some (nI q, va_up F 3 (nI (q + 1)), X) := by
  rw [fX6_make_e, hF, q_ld hq (by omega), q_ld hq (by omega), q_ld hq (by omega), q_ld hq (by omega), q_ld hq (by omega), q_cl (by omega)]
  refine (q_b1 h).trans ?_
  rw [nI_1, nI_pred]
theorem m5_4 {G : xG} {q : Nat} {s L R V U : Int32} : m5 G q s L R V U 4 q = s := by show upd (G 4) q s q = s; rw [pk_us]
theorem m5_5 {G : xG} {q : Nat} {s L R V U : Int32} : m5 G q s L R V U 5 q = L := by show upd (G 5) q L q = L; rw [pk_us]
theorem m5_6 {G : xG} {q : Nat} {s L R V U : Int32} : m5 G q s L R V U 6 q = R := by show upd (G 6) q R q = R; rw [pk_us]
theorem m5_7 {G : xG} {q : Nat} {s L R V U : Int32} : m5 G q s L R V U 7 q = V := by show upd (G 7) q V q = V; rw [pk_us]
theorem m5_8 {G : xG} {q : Nat} {s L R V U : Int32} : m5 G q s L R V U 8 q = U := by show upd (G 8) q U q = U; rw [pk_us]
end QW
