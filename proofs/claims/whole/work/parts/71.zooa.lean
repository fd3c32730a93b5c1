section QZA
/-! rule, model, proves, known, open, ofPrinciple -/
abbrev XT : Type := xF → xG → xF → xG → Int32 → (Nat → Int32) → Prop
abbrev LRg (X : XT) : LRt := fun Fp Gp Fo Go Fz Gz Fq Gq F G => X Fp Gp Fo Go (F 1) (G 2) ∧ LZ Fz Gz F G ∧ LQ Fq Gq F G
/-- whether one of k models from j on breaks a rule -/
def zbk (M : Nat → Int32) (p c : Int32) : Nat → Nat → Bool
  | _, 0 => false
  | j, k + 1 => if zb (M j) p c then true else zbk M p c (j + 1) k
theorem z_brk_l {F : xF} {G : xG} {p c : Int32} {m : Nat} (hF : F 8 = nI m) (hm : m ≤ 10) : ∀ (k j n : Nat), j + k = m → k < n → fX4_isBrokenByModel_l2 F G p c n (nI j) = some (if zbk (G 4) p c j k = true then 1 else 0) := by
  intro k
  induction k with
  | zero =>
    intro j n h1 h2
    cases n with
    | zero => omega
    | succ n => rw [fX4_isBrokenByModel_l2_e, hF, if_pos ((q_le (by omega) (by omega)).mpr (by omega))]; rfl
  | succ k ih =>
    intro j n h1 h2
    cases n with
    | zero => omega
    | succ n =>
      rw [fX4_isBrokenByModel_l2_e, hF, if_neg (fun z => by have := (q_le (by omega) (by omega)).mp z; omega), q_ld (by omega) (by omega), q_cl (by omega), q_b1 (z_brings _ _ _), zbk]
      by_cases hz : zb (G 4 j) p c
      · rw [if_pos hz, if_pos hz, if_neg q_10, if_pos rfl]
      · rw [if_neg hz, if_neg hz, if_pos rfl, nI_1, ih (j + 1) n (by omega) (by omega)]
theorem z_brk {F : xF} {G : xG} {p c : Int32} {m : Nat} (hF : F 8 = nI m) (hm : m ≤ 10) : fX4_isBrokenByModel F G p c = some (if zbk (G 4) p c 0 m = true then 1 else 0) := by
  rw [fX4_isBrokenByModel_e]
  exact z_brk_l hF hm m 0 4096 (by omega) (by omega)
theorem z_rule_lz {F : xF} {G : xG} {r2 p c : Int32} (n : Nat) (v w : Int32) : fX6_rule_l52 F G r2 p c 0 (n + 1) v w = fX6_rule_x99 F G r2 p c 0 v := by
  rw [fX6_rule_l52_e]
  by_cases h : F 24 ≤ w
  · rw [if_pos h]
  · rw [if_neg h, if_pos rfl]
theorem z_rule_l0 {F : xF} {G : xG} {r2 p c : Int32} {m : Nat} (hF : F 24 = nI m) (hm : m ≤ 10) : ∀ (k j n : Nat), j + k = m → k < n → fX6_rule_l52 F G r2 p c 1 n 0 (nI j) = fX6_rule_x99 F G r2 p c 1 0 := by
  intro k
  induction k with
  | zero =>
    intro j n h1 h2
    cases n with
    | zero => omega
    | succ n => rw [fX6_rule_l52_e, hF, if_pos ((q_le (by omega) (by omega)).mpr (by omega))]
  | succ k ih =>
    intro j n h1 h2
    cases n with
    | zero => omega
    | succ n => rw [fX6_rule_l52_e, hF, if_neg (fun z => by have := (q_le (by omega) (by omega)).mp z; omega), if_neg q_10, if_pos rfl, fX6_rule_j90_e, fX6_rule_j91_e, nI_1, ih (j + 1) n (by omega) (by omega)]
theorem z_rule_l1 {F : xF} {G : xG} {r2 p c : Int32} {m : Nat} (hF : F 24 = nI m) (hm : m ≤ 10) : ∀ (k j n : Nat), j + k = m → k < n → fX6_rule_l52 F G r2 p c 1 n 1 (nI j) = fX6_rule_x99 F G r2 p c 1 (if zbk (G 25) p c j k = true then 0 else 1) := by
  intro k
  induction k with
  | zero =>
    intro j n h1 h2
    cases n with
    | zero => omega
    | succ n => rw [fX6_rule_l52_e, hF, if_pos ((q_le (by omega) (by omega)).mpr (by omega))]; rfl
  | succ k ih =>
    intro j n h1 h2
    cases n with
    | zero => omega
    | succ n =>
      rw [fX6_rule_l52_e, hF, if_neg (fun z => by have := (q_le (by omega) (by omega)).mp z; omega), if_neg q_10, if_neg q_10, q_ld (by omega) (by omega), q_cl (by omega), q_b1 (z_breaks _ _ _), zbk]
      by_cases hz : zb (G 25 j) p c
      · rw [if_pos hz, if_pos hz, if_neg q_10, fX6_rule_j90_e, fX6_rule_j91_e, nI_1, z_rule_l0 hF hm k (j + 1) n (by omega) (by omega), if_pos rfl]
      · rw [if_neg hz, if_neg hz, if_pos rfl, fX6_rule_j91_e, nI_1, ih (j + 1) n (by omega) (by omega)]
theorem z_rule127 {F : xF} {G : xG} {p c k : Int32} (h : ¬ k = 0) : fX6_rule_j127 F G p c k = some (0, va_up F 0 k, G) := by
  rw [fX6_rule_j127_e, b_b2 (q_g1 F h), if_pos rfl]
theorem z_rule31z {F : xF} {G : xG} {r2 p c : Int32} : fX6_rule_j31 F G r2 p c 0 = if r2 = 0 then fX6_rule_j127 F G p c 1 else fX6_rule_j127 F G p c 2 := by
  have e : ∀ v, fX6_rule_j47 F G r2 p c 0 v = if r2 = 0 then fX6_rule_j127 F G p c 1 else fX6_rule_j127 F G p c 2 := fun v => by
    rw [fX6_rule_j47_e]
    refine (z_rule_lz 4095 v 0).trans ?_
    rw [fX6_rule_x99_e, if_pos (rfl : (0 : Int32) = 0)]
  rw [fX6_rule_j31_e, e, e]
  split <;> rfl
theorem zok_add {P C : Nat → Int32} {R n t c : Nat} (ok : zok P C R n) (ht : t < 2 ^ n) (hc : c < n) : zok (upd P R (nI t)) (upd C R (nI c)) (R + 1) n := by
  intro r hr
  by_cases h : r = R
  · subst h
    exact ⟨t, c, pk_us, ht, pk_us, hc⟩
  · rw [pk_un h, pk_un h]
    exact ok r (by omega)
theorem o_rule (X : XT) : oL_rule (LRg X) := by
  intro Fp Gp Fo Go Fz Gz Fq Gq F G h p c
  obtain ⟨hX, ⟨e6, e7, e8, g0, g1, g2, g3, g4, np, nr, nm, hn, hr, hm, hn10, hr30, hm10, ok, okm⟩, hQ⟩ := h
  have f6 : Fz 6 = nI np := e6.trans hn
  have f7 : Fz 7 = nI nr := e7.trans hr
  have f8 : Fz 8 = nI nm := e8.trans hm
  have hZ : ∀ k, LZ Fz Gz (va_up F 0 k) G := fun k => ⟨e6, e7, e8, g0, g1, g2, g3, g4, np, nr, nm, hn, hr, hm, hn10, hr30, hm10, ok, okm⟩
  by_cases c1 : q_lo c np
  rotate_left
  · refine ⟨1, 0, Fz, Gz, 0, va_up F 0 1, G, fun _ h => absurd rfl h, ?_, ?_, rfl, fun h => absurd h q_10, hX, hZ 1, hQ⟩
    · rw [fX5_rule_e, q_b1 (z_has f6 hn10 c), if_neg c1, if_pos rfl]
    · rw [fX6_rule_e, q_b1 (z_isP hn hn10 c), if_neg c1, if_pos rfl, fX6_rule_j30_e, z_rule31z, if_pos rfl, z_rule127 q_10]
  by_cases c2 : q_lo p (2 ^ np)
  rotate_left
  · refine ⟨2, 0, Fz, Gz, 0, va_up F 0 2, G, fun _ _ h => absurd rfl h, ?_, ?_, rfl, fun h => absurd h (by decide), hX, hZ 2, hQ⟩
    · rw [fX5_rule_e, q_b1 (z_has f6 hn10 c), if_pos c1, if_neg q_10, q_b1 (z_isSet f6 hn10 p), if_neg c2, if_pos rfl, fX5_rule_j40_e]
    · rw [fX6_rule_e, q_b1 (z_isP hn hn10 c), if_pos c1, if_neg q_10, q_b1 (z_isSetM hn hn10 p), if_neg c2, if_pos rfl, fX6_rule_j30_e, z_rule31z, if_neg q_10, z_rule127 (by decide)]
  by_cases c3 : x_shr p c &&& 1 = 0
  rotate_left
  · refine ⟨2, 0, Fz, Gz, 0, va_up F 0 2, G, fun _ _ h => absurd rfl h, ?_, ?_, rfl, fun h => absurd h (by decide), hX, hZ 2, hQ⟩
    · rw [fX5_rule_e, q_b1 (z_has f6 hn10 c), if_pos c1, if_neg q_10, q_b1 (z_isSet f6 hn10 p), if_pos c2, if_neg q_10, q_b1 (z_contains p c), if_neg c3, if_neg q_10, fX5_rule_j40_e]
    · rw [fX6_rule_e, q_b1 (z_isP hn hn10 c), if_pos c1, if_neg q_10, q_b1 (z_isSetM hn hn10 p), if_pos c2, if_neg q_10, if_neg c3, fX6_rule_j30_e, z_rule31z, if_neg q_10, z_rule127 (by decide)]
  have hcl : fX5_rule Fz Gz p c = x_b1 (fX4_hasAllRules Fz) (fun r11 => (if r11 = 0 then x_b1 (fX4_isBrokenByModel Fz Gz p c) (fun r14 => (if r14 = 0 then x_b3 (fX4_addRule Fz Gz p c) (fun r17 F18 G19 => some (0, r17, F18, G19)) else (fX5_rule_j72 Fz Gz))) else (fX5_rule_j72 Fz Gz))) := by
    rw [fX5_rule_e, q_b1 (z_has f6 hn10 c), if_pos c1, if_neg q_10, q_b1 (z_isSet f6 hn10 p), if_pos c2, if_neg q_10, q_b1 (z_contains p c), if_pos c3, if_pos rfl]
  have hrf : fX6_rule F G p c = fX6_rule_j31 F G 1 p c 1 := by
    rw [fX6_rule_e, q_b1 (z_isP hn hn10 c), if_pos c1, if_neg q_10, q_b1 (z_isSetM hn hn10 p), if_pos c2, if_neg q_10, if_pos c3]
  have hx : ∀ v, fX6_rule_x99 F G 1 p c 1 v = if v = 0 then fX6_rule_j127 F G p c 3 else fX6_rule_j127 F G p c 0 := fun v => by
    rw [fX6_rule_x99_e, if_neg q_10, if_neg q_10]
  by_cases c4 : nr < 30
  rotate_left
  · refine ⟨3, 0, Fz, Gz, 0, va_up F 0 3, G, fun _ _ _ => rfl, ?_, ?_, rfl, fun h => absurd h (by decide), hX, hZ 3, hQ⟩
    · rw [hcl, fX4_hasAllRules_e, f7, if_neg (by exact fun z => c4 ((q_lt (b := 30) (by omega) (by omega)).mp z)), q_b1 rfl, if_neg q_10, fX5_rule_j72_e]
    · rw [hrf, fX6_rule_j31_e, hr, if_pos (by exact (q_le (a := 30) (by omega) (by omega)).mpr (by omega)), fX6_rule_j47_e]
      refine (z_rule_l0 hm hm10 nm 0 4096 (by omega) (by omega)).trans ?_
      rw [hx, if_pos rfl, z_rule127 (by decide)]
  have hall : fX4_hasAllRules Fz = some 0 := by rw [fX4_hasAllRules_e, f7, if_pos (by exact (q_lt (b := 30) (by omega) (by omega)).mpr c4)]
  have hj : fX6_rule_j31 F G 1 p c 1 = fX6_rule_x99 F G 1 p c 1 (if zbk (G 25) p c 0 nm = true then 0 else 1) := by
    rw [fX6_rule_j31_e, hr, if_neg (fun z => by have := (q_le (a := 30) (by omega) (by omega)).mp z; omega), fX6_rule_j47_e]
    exact z_rule_l1 hm hm10 nm 0 4096 (by omega) (by omega)
  cases hb : zbk (G 25) p c 0 nm with
  | true =>
    refine ⟨3, 0, Fz, Gz, 0, va_up F 0 3, G, fun _ _ _ => rfl, ?_, ?_, rfl, fun h => absurd h (by decide), hX, hZ 3, hQ⟩
    · rw [hcl, q_b1 hall, if_pos rfl, q_b1 (z_brk f8 hm10), g4, hb, if_pos rfl, if_neg q_10, fX5_rule_j72_e]
    · rw [hrf, hj, hb, if_pos rfl, hx, if_pos rfl, z_rule127 (by decide)]
  | false =>
    obtain ⟨cn, hcn, rfl⟩ := c1
    obtain ⟨t, ht, rfl⟩ := c2
    refine ⟨0, nI nr, va_up Fz 7 (nI (nr + 1)), va_up (va_up Gz 2 (upd (Gz 2) nr (nI t))) 3 (upd (Gz 3) nr (nI cn)), nI nr, va_up (va_up F 0 0) 21 (nI (nr + 1)), va_up (va_up G 22 (upd (G 22) nr (nI t))) 23 (upd (G 23) nr (nI cn)), fun h => absurd rfl h, ?_, ?_, rfl, fun _ => rfl, hX, ?_, hQ⟩
    · rw [hcl, q_b1 hall, if_pos rfl, q_b1 (z_brk f8 hm10), g4, hb, if_neg q_ft, if_pos rfl, fX4_addRule_e, f7, q_ld c4 (by omega), q_ld c4 (by omega), q_cl (by omega), nI_1]
      rfl
    · rw [hrf, hj, hb, if_neg q_ft, hx, if_neg q_10, fX6_rule_j127_e, b_b2 (q_g0 F), if_neg q_10, show va_up F 0 0 21 = nI nr from hr, q_ld c4 (by omega), q_ld c4 (by omega), q_cl (by omega), nI_1, nI_pred]
    · refine ⟨e6, rfl, e8, g0, g1, ?_, ?_, g4, np, nr + 1, nm, hn, rfl, hm, hn10, by omega, hm10, ?_, okm⟩
      · show upd (Gz 2) nr (nI t) = upd (G 22) nr (nI t); rw [g2]
      · show upd (Gz 3) nr (nI cn) = upd (G 23) nr (nI cn); rw [g3]
      · exact zok_add ok ht hcn
theorem z_model_lz {F : xF} {G : xG} {p : Int32} (n : Nat) (v w : Int32) : fX6_model_l24 F G 0 p (n + 1) v w = fX6_model_x74 F G 0 p v := by
  rw [fX6_model_l24_e]
  by_cases h : F 21 ≤ w
  · rw [if_pos h]
  · rw [if_neg h, if_pos rfl]
theorem z_model_l0 {F : xF} {G : xG} {p : Int32} {m : Nat} (hF : F 21 = nI m) (hm : m ≤ 30) : ∀ (k j n : Nat), j + k = m → k < n → fX6_model_l24 F G 1 p n 0 (nI j) = fX6_model_x74 F G 1 p 0 := by
  intro k
  induction k with
  | zero =>
    intro j n h1 h2
    cases n with
    | zero => omega
    | succ n => rw [fX6_model_l24_e, hF, if_pos ((q_le (by omega) (by omega)).mpr (by omega))]
  | succ k ih =>
    intro j n h1 h2
    cases n with
    | zero => omega
    | succ n => rw [fX6_model_l24_e, hF, if_neg (fun z => by have := (q_le (by omega) (by omega)).mp z; omega), if_neg q_10, if_pos rfl, fX6_model_j66_e, fX6_model_j67_e, nI_1, ih (j + 1) n (by omega) (by omega)]
theorem z_model_l1 {F : xF} {G : xG} {p : Int32} {m : Nat} (hF : F 21 = nI m) (hm : m ≤ 30) : ∀ (k j n : Nat), j + k = m → k < n → fX6_model_l24 F G 1 p n 1 (nI j) = fX6_model_x74 F G 1 p (if (znx (G 22) (G 23) p j k).isSome = true then 0 else 1) := by
  intro k
  induction k with
  | zero =>
    intro j n h1 h2
    cases n with
    | zero => omega
    | succ n => rw [fX6_model_l24_e, hF, if_pos ((q_le (by omega) (by omega)).mpr (by omega))]; rfl
  | succ k ih =>
    intro j n h1 h2
    cases n with
    | zero => omega
    | succ n =>
      rw [fX6_model_l24_e, hF, if_neg (fun z => by have := (q_le (by omega) (by omega)).mp z; omega), if_neg q_10, if_neg q_10, q_ld (by omega) (by omega), q_ld (by omega) (by omega), q_cl (by omega), q_b1 (z_breaks _ _ _), znx]
      by_cases hz : zb p (G 22 j) (G 23 j)
      · rw [if_pos hz, if_pos hz, if_neg q_10, fX6_model_j66_e, fX6_model_j67_e, nI_1, z_model_l0 hF hm k (j + 1) n (by omega) (by omega)]
        rfl
      · rw [if_neg hz, if_neg hz, if_pos rfl, fX6_model_j67_e, nI_1, ih (j + 1) n (by omega) (by omega)]
theorem z_model92 {F : xF} {G : xG} {p k : Int32} (h : ¬ k = 0) : fX6_model_j92 F G p k = some (0, va_up F 0 k, G) := by
  rw [fX6_model_j92_e, b_b2 (q_g1 F h), if_pos rfl]
theorem o_model (X : XT) : oL_model (LRg X) := by
  intro Fp Gp Fo Go Fz Gz Fq Gq F G h p
  obtain ⟨hX, ⟨e6, e7, e8, g0, g1, g2, g3, g4, np, nr, nm, hn, hr, hm, hn10, hr30, hm10, ok, okm⟩, hQ⟩ := h
  have f6 : Fz 6 = nI np := e6.trans hn
  have f7 : Fz 7 = nI nr := e7.trans hr
  have f8 : Fz 8 = nI nm := e8.trans hm
  have hZ : ∀ k, LZ Fz Gz (va_up F 0 k) G := fun k => ⟨e6, e7, e8, g0, g1, g2, g3, g4, np, nr, nm, hn, hr, hm, hn10, hr30, hm10, ok, okm⟩
  by_cases c2 : q_lo p (2 ^ np)
  rotate_left
  · have e : ∀ v, fX6_model_j20 F G 0 p v = some (0, va_up F 0 1, G) := fun v => by
      rw [fX6_model_j20_e]
      refine (z_model_lz 4095 v 0).trans ?_
      rw [fX6_model_x74_e, if_pos rfl, z_model92 q_10]
    refine ⟨1, 0, Fz, Gz, 0, va_up F 0 1, G, fun _ h => absurd rfl h, ?_, ?_, rfl, fun h => absurd h q_10, hX, hZ 1, hQ⟩
    · rw [fX5_model_e, q_b1 (z_isSet f6 hn10 p), if_neg c2, if_pos rfl]
    · rw [fX6_model_e, q_b1 (z_isSetM hn hn10 p), if_neg c2, e, e]
      split <;> rfl
  have hx : ∀ v, fX6_model_x74 F G 1 p v = if v = 0 then fX6_model_j92 F G p 2 else fX6_model_j92 F G p 0 := fun v => by
    rw [fX6_model_x74_e, if_neg q_10]
  by_cases c4 : nm < 10
  rotate_left
  · refine ⟨2, 0, Fz, Gz, 0, va_up F 0 2, G, fun _ _ => rfl, ?_, ?_, rfl, fun h => absurd h (by decide), hX, hZ 2, hQ⟩
    · rw [fX5_model_e, q_b1 (z_isSet f6 hn10 p), if_pos c2, if_neg q_10, fX4_hasAllModels_e, f8, if_neg (by exact fun z => c4 ((q_lt (b := 10) (by omega) (by omega)).mp z)), q_b1 rfl, if_neg q_10, fX5_model_j42_e]
    · rw [fX6_model_e, q_b1 (z_isSetM hn hn10 p), if_pos c2, hm, if_pos (by exact (q_le (a := 10) (by omega) (by omega)).mpr (by omega)), fX6_model_j20_e]
      refine (z_model_l0 hr hr30 nr 0 4096 (by omega) (by omega)).trans ?_
      rw [hx, if_pos rfl, z_model92 (by decide)]
  have hall : fX4_hasAllModels Fz = some 0 := by rw [fX4_hasAllModels_e, f8, if_pos (by exact (q_lt (b := 10) (by omega) (by omega)).mpr c4)]
  have hj : fX6_model F G p = fX6_model_x74 F G 1 p (if (znx (G 22) (G 23) p 0 nr).isSome = true then 0 else 1) := by
    rw [fX6_model_e, q_b1 (z_isSetM hn hn10 p), if_pos c2, hm, if_neg (fun z => by have := (q_le (a := 10) (by omega) (by omega)).mp z; omega), fX6_model_j20_e]
    exact z_model_l1 hr hr30 nr 0 4096 (by omega) (by omega)
  have hcl : fX5_model Fz Gz p = x_b1 (fX4_breaksRule Fz Gz p) (fun r8 => (if r8 = 0 then x_b3 (fX4_addModel Fz Gz p) (fun r11 F12 G13 => some (0, r11, F12, G13)) else (fX5_model_j42 Fz Gz))) := by
    rw [fX5_model_e, q_b1 (z_isSet f6 hn10 p), if_pos c2, if_neg q_10, q_b1 hall, if_pos rfl]
  cases hb : znx (G 22) (G 23) p 0 nr with
  | some r =>
    obtain ⟨-, h2, -⟩ := znx_lt nr 0 r hb
    have hbr : fX4_breaksRule Fz Gz p = some 1 := by
      rw [fX4_breaksRule_e, q_b1 (z_next f7 hr30), g2, g3, hb]
      exact if_neg (q_ne1 (a := r) (by omega))
    refine ⟨2, 0, Fz, Gz, 0, va_up F 0 2, G, fun _ _ => rfl, ?_, ?_, rfl, fun h => absurd h (by decide), hX, hZ 2, hQ⟩
    · rw [hcl, q_b1 hbr, if_neg q_10, fX5_model_j42_e]
    · rw [hj, hb, if_pos (show (some r).isSome = true from rfl), hx, if_pos rfl, z_model92 (by decide)]
  | none =>
    have hbr : fX4_breaksRule Fz Gz p = some 0 := by
      rw [fX4_breaksRule_e, q_b1 (z_next f7 hr30), g2, g3, hb]
      exact if_pos rfl
    obtain ⟨t, ht, rfl⟩ := c2
    refine ⟨0, nI nm, va_up Fz 8 (nI (nm + 1)), va_up Gz 4 (upd (Gz 4) nm (nI t)), nI nm, va_up (va_up F 0 0) 24 (nI (nm + 1)), va_up G 25 (upd (G 25) nm (nI t)), fun h => absurd rfl h, ?_, ?_, rfl, fun _ => rfl, hX, ?_, hQ⟩
    · rw [hcl, q_b1 hbr, if_pos rfl, fX4_addModel_e, f8, q_ld c4 (by omega), q_cl (by omega), nI_1]
      rfl
    · rw [hj, hb, if_neg (by decide), hx, if_neg q_10, fX6_model_j92_e, b_b2 (q_g0 F), if_neg q_10, show va_up F 0 0 24 = nI nm from hm, q_ld c4 (by omega), q_cl (by omega), nI_1, nI_pred]
    · refine ⟨e6, e7, rfl, g0, g1, g2, g3, ?_, np, nr, nm + 1, hn, hr, rfl, hn10, hr30, by omega, ok, ?_⟩
      · show upd (Gz 4) nm (nI t) = upd (G 25) nm (nI t); rw [g4]
      · intro j hj
        show ∃ t', upd (G 25) nm (nI t) j = nI t' ∧ t' < 2 ^ np
        by_cases h : j = nm
        · subst h; exact ⟨t, pk_us, ht⟩
        · rw [pk_un h]; exact okm j (by omega)
theorem o_proves (X : XT) : oL_proves (LRg X) := by
  intro Fp Gp Fo Go Fz Gz Fq Gq F G h p
  obtain ⟨hX, ⟨e6, e7, e8, g0, g1, g2, g3, g4, np, nr, nm, hn, hr, hm, hn10, hr30, hm10, ok, okm⟩, hQ⟩ := h
  have f6 : Fz 6 = nI np := e6.trans hn
  have f7 : Fz 7 = nI nr := e7.trans hr
  have hZ : ∀ k, LZ Fz Gz (va_up F 0 k) G := fun k => ⟨e6, e7, e8, g0, g1, g2, g3, g4, np, nr, nm, hn, hr, hm, hn10, hr30, hm10, ok, okm⟩
  by_cases c2 : q_lo p (2 ^ np)
  rotate_left
  · refine ⟨1, 0, 0, va_up F 0 1, fun _ => rfl, ?_, ?_, rfl, fun h => absurd h q_10, hX, hZ 1, hQ⟩
    · rw [fX5_proves_e, q_b1 (z_isSet f6 hn10 p), if_neg c2, if_pos rfl]
    · rw [fX6_proves_e, q_b1 (z_isSetM hn hn10 p), if_neg c2, if_pos rfl, fX6_proves_j14_e, b_b2 (q_g1 F q_10), if_pos rfl]
  obtain ⟨t, ht, rfl⟩ := c2
  refine ⟨0, zcl (G 22) (G 23) nr 10 (nI t), zcl (G 22) (G 23) nr 10 (nI t), va_up F 0 0, fun h => absurd rfl h, ?_, ?_, rfl, fun _ => rfl, hX, hZ 0, hQ⟩
  · rw [fX5_proves_e, q_b1 (z_isSet f6 hn10 _), if_pos (q_loI ht), if_neg q_10, q_b1 (z_clo f7 hr30 hn10 (by rw [g2, g3]; exact ok) ht), g2, g3]
  · rw [fX6_proves_e, q_b1 (z_isSetM hn hn10 _), if_pos (q_loI ht), if_neg q_10, fX6_proves_j14_e, b_b2 (q_g0 F), if_neg q_10, q_b1 (z_cloM (F := va_up F 0 0) hr hr30 hn10 ok ht)]
/-- whether one of k models from j on has a and not b -/
def zvk (M : Nat → Int32) (a b : Int32) : Nat → Nat → Bool
  | _, 0 => false
  | j, k + 1 => if (x_shr (M j) a &&& 1) = 0 then zvk M a b (j + 1) k else if (x_shr (M j) b &&& 1) = 0 then true else zvk M a b (j + 1) k
theorem z_ver_l {F : xF} {G : xG} {a b : Int32} {m : Nat} (hF : F 8 = nI m) (hm : m ≤ 10) : ∀ (k j n : Nat), j + k = m → k < n → fX4_verdict_l18 F G a b n (nI j) = some (if zvk (G 4) a b j k = true then -1 else 0) := by
  intro k
  induction k with
  | zero =>
    intro j n h1 h2
    cases n with
    | zero => omega
    | succ n => rw [fX4_verdict_l18_e, hF, if_pos ((q_le (by omega) (by omega)).mpr (by omega))]; rfl
  | succ k ih =>
    intro j n h1 h2
    cases n with
    | zero => omega
    | succ n =>
      rw [fX4_verdict_l18_e, hF, if_neg (fun z => by have := (q_le (by omega) (by omega)).mp z; omega), q_ld (by omega) (by omega), q_cl (by omega), q_b1 (z_contains _ _), zvk]
      by_cases h1 : (x_shr (G 4 j) a &&& 1) = 0
      · rw [if_pos h1, if_pos h1, if_pos rfl, fX4_verdict_j54_e, nI_1, ih (j + 1) n (by omega) (by omega)]
      · rw [if_neg h1, if_neg h1, if_neg q_10, q_ld (by omega) (by omega), q_b1 (z_contains _ _)]
        by_cases h2 : (x_shr (G 4 j) b &&& 1) = 0
        · rw [if_pos h2, if_pos h2, if_pos rfl, if_pos rfl]
        · rw [if_neg h2, if_neg h2, if_neg q_10, fX4_verdict_j54_e, nI_1, ih (j + 1) n (by omega) (by omega)]
theorem z_kno_l1 {F : xF} {G : xG} {a b : Int32} {m : Nat} (hF : F 24 = nI m) (hm : m ≤ 10) : ∀ (k j n : Nat), j + k = m → k < n → fX6_knownOf_l22 F G a b n 1 (nI j) = some (-1) := by
  intro k
  induction k with
  | zero =>
    intro j n h1 h2
    cases n with
    | zero => omega
    | succ n => rw [fX6_knownOf_l22_e, hF, if_pos ((q_le (by omega) (by omega)).mpr (by omega)), fX6_knownOf_x76_e, if_neg q_10]
  | succ k ih =>
    intro j n h1 h2
    cases n with
    | zero => omega
    | succ n => rw [fX6_knownOf_l22_e, hF, if_neg (fun z => by have := (q_le (by omega) (by omega)).mp z; omega), if_neg q_10, fX6_knownOf_j64_e, fX6_knownOf_j69_e, nI_1, ih (j + 1) n (by omega) (by omega)]
theorem z_kno_l0 {F : xF} {G : xG} {a b : Int32} {m : Nat} (hF : F 24 = nI m) (hm : m ≤ 10) : ∀ (k j n : Nat), j + k = m → k < n → fX6_knownOf_l22 F G a b n 0 (nI j) = some (if zvk (G 25) a b j k = true then -1 else 0) := by
  intro k
  induction k with
  | zero =>
    intro j n h1 h2
    cases n with
    | zero => omega
    | succ n => rw [fX6_knownOf_l22_e, hF, if_pos ((q_le (by omega) (by omega)).mpr (by omega)), fX6_knownOf_x76_e, if_pos rfl]; rfl
  | succ k ih =>
    intro j n h1 h2
    cases n with
    | zero => omega
    | succ n =>
      rw [fX6_knownOf_l22_e, hF, if_neg (fun z => by have := (q_le (by omega) (by omega)).mp z; omega), if_pos rfl, q_ld (by omega) (by omega), q_cl (by omega), zvk]
      by_cases h1 : (x_shr (G 25 j) a &&& 1) = 0
      · rw [if_pos h1, if_neg (fun z => q_a10.mp z h1), fX6_knownOf_j68_e, fX6_knownOf_j69_e, nI_1, ih (j + 1) n (by omega) (by omega)]
      · rw [if_neg h1, if_pos (q_a10.mpr h1), q_ld (by omega) (by omega)]
        by_cases h2 : (x_shr (G 25 j) b &&& 1) = 0
        · rw [if_pos h2, if_pos h2, if_pos rfl, fX6_knownOf_j64_e, fX6_knownOf_j69_e, nI_1, z_kno_l1 hF hm k (j + 1) n (by omega) (by omega)]
        · rw [if_neg h2, if_neg h2, fX6_knownOf_j68_e, fX6_knownOf_j69_e, nI_1, ih (j + 1) n (by omega) (by omega)]
/-- what is known of a and b -/
def zkn (P C M : Nat → Int32) (R m a b : Nat) : Int32 := if (x_shr (zcl P C R 10 (nI (2 ^ a))) (nI b) &&& 1) = 0 then (if zvk M (nI a) (nI b) 0 m = true then -1 else 0) else 1
theorem z_pw {a n : Nat} (h : a < n) : 2 ^ a < 2 ^ n := Nat.pow_lt_pow_right (by decide) h
theorem z_ver {F : xF} {G : xG} {n R m a b : Nat} (hR : F 7 = nI R) (hm : F 8 = nI m) (hR3 : R ≤ 30) (hm1 : m ≤ 10) (hn : n ≤ 10) (ok : zok (G 2) (G 3) R n) (ha : a < n) : fX4_verdict F G (nI a) (nI b) = some (zkn (G 2) (G 3) (G 4) R m a b) := by
  rw [fX4_verdict_e, q_shl1 (by omega), q_b1 (z_clo hR hR3 hn ok (z_pw ha)), q_b1 (z_contains _ _), zkn]
  by_cases h : (x_shr (zcl (G 2) (G 3) R 10 (nI (2 ^ a))) (nI b) &&& 1) = 0
  · rw [if_pos h, if_pos h, if_pos rfl]
    exact z_ver_l hm hm1 m 0 4096 (by omega) (by omega)
  · rw [if_neg h, if_neg h, if_neg q_10]
theorem z_kno {F : xF} {G : xG} {n R m a b : Nat} (hR : F 21 = nI R) (hm : F 24 = nI m) (hR3 : R ≤ 30) (hm1 : m ≤ 10) (hn : n ≤ 10) (ok : zok (G 22) (G 23) R n) (ha : a < n) : fX6_knownOf F G (nI a) (nI b) = some (zkn (G 22) (G 23) (G 25) R m a b) := by
  rw [fX6_knownOf_e, q_shl1 (by omega), q_b1 (z_cloM hR hR3 hn ok (z_pw ha)), zkn]
  by_cases h : (x_shr (zcl (G 22) (G 23) R 10 (nI (2 ^ a))) (nI b) &&& 1) = 0
  · rw [if_pos h, if_neg (fun z => q_a10.mp z h)]
    exact z_kno_l0 hm hm1 m 0 4096 (by omega) (by omega)
  · rw [if_neg h, if_pos (q_a10.mpr h)]
theorem o_known (X : XT) : oL_known (LRg X) := by
  intro Fp Gp Fo Go Fz Gz Fq Gq F G h p c
  obtain ⟨hX, ⟨e6, e7, e8, g0, g1, g2, g3, g4, np, nr, nm, hn, hr, hm, hn10, hr30, hm10, ok, okm⟩, hQ⟩ := h
  have f6 : Fz 6 = nI np := e6.trans hn
  have f7 : Fz 7 = nI nr := e7.trans hr
  have f8 : Fz 8 = nI nm := e8.trans hm
  have hZ : ∀ k, LZ Fz Gz (va_up F 0 k) G := fun k => ⟨e6, e7, e8, g0, g1, g2, g3, g4, np, nr, nm, hn, hr, hm, hn10, hr30, hm10, ok, okm⟩
  have h41 : ∀ k : Int32, ¬ k = 0 → fX6_known_j41 F G p c k = some (0, va_up F 0 k) := fun k h => by
    rw [fX6_known_j41_e, b_b2 (q_g1 F h), if_pos rfl]
  by_cases c1 : q_lo p np
  rotate_left
  · refine ⟨1, 0, 0, va_up F 0 1, fun _ h => absurd rfl h, ?_, ?_, rfl, fun h => absurd h q_10, hX, hZ 1, hQ⟩
    · rw [fX5_known_e, q_b1 (z_has f6 hn10 p), if_neg c1, if_pos rfl, fX5_known_j22_e]
    · rw [fX6_known_e, q_b1 (z_isP hn hn10 p), if_neg c1, if_pos rfl, fX6_known_j20_e, fX6_known_j21_e, if_pos rfl, h41 1 q_10]
  by_cases c2 : q_lo c np
  rotate_left
  · refine ⟨1, 0, 0, va_up F 0 1, fun _ h => absurd rfl h, ?_, ?_, rfl, fun h => absurd h q_10, hX, hZ 1, hQ⟩
    · rw [fX5_known_e, q_b1 (z_has f6 hn10 p), if_pos c1, if_neg q_10, q_b1 (z_has f6 hn10 c), if_neg c2, if_pos rfl, fX5_known_j22_e]
    · rw [fX6_known_e, q_b1 (z_isP hn hn10 p), if_pos c1, if_neg q_10, q_b1 (z_isP hn hn10 c), if_neg c2, if_pos rfl, fX6_known_j20_e, fX6_known_j21_e, if_pos rfl, h41 1 q_10]
  by_cases c3 : p = c
  · refine ⟨2, 0, 0, va_up F 0 2, fun _ _ => rfl, ?_, ?_, rfl, fun h => absurd h (by decide), hX, hZ 2, hQ⟩
    · rw [fX5_known_e, q_b1 (z_has f6 hn10 p), if_pos c1, if_neg q_10, q_b1 (z_has f6 hn10 c), if_pos c2, if_neg q_10, if_pos c3]
    · rw [fX6_known_e, q_b1 (z_isP hn hn10 p), if_pos c1, if_neg q_10, q_b1 (z_isP hn hn10 c), if_pos c2, if_neg q_10, fX6_known_j21_e, if_neg q_10, if_pos c3, h41 2 (by decide)]
  obtain ⟨a, ha, rfl⟩ := c1
  obtain ⟨b, hb, rfl⟩ := c2
  refine ⟨0, zkn (G 22) (G 23) (G 25) nr nm a b, zkn (G 22) (G 23) (G 25) nr nm a b, va_up F 0 0, fun h => absurd rfl h, ?_, ?_, rfl, fun _ => rfl, hX, hZ 0, hQ⟩
  · rw [fX5_known_e, q_b1 (z_has f6 hn10 _), if_pos (q_loI ha), if_neg q_10, q_b1 (z_has f6 hn10 _), if_pos (q_loI hb), if_neg q_10, if_neg c3, q_b1 (z_ver f7 f8 hr30 hm10 hn10 (by rw [g2, g3]; exact ok) ha), g2, g3, g4]
  · rw [fX6_known_e, q_b1 (z_isP hn hn10 _), if_pos (q_loI ha), if_neg q_10, q_b1 (z_isP hn hn10 _), if_pos (q_loI hb), if_neg q_10, fX6_known_j21_e, if_neg q_10, if_neg c3, fX6_known_j41_e, b_b2 (q_g0 F), if_neg q_10, q_b1 (z_kno (F := va_up F 0 0) hr hm hr30 hm10 hn10 ok ha)]
/-- of how many seconds from j on, k of them, w says 0 -/
def zop (w : Nat → Nat → Int32) (a : Nat) : Nat → Nat → Int32 → Int32
  | _, 0, v => v
  | j, k + 1, v => zop w a (j + 1) k (if a = j then v else if w a j = 0 then v + 1 else v)
def zoq (w : Nat → Nat → Int32) (n : Nat) : Nat → Nat → Int32 → Int32
  | _, 0, v => v
  | i, k + 1, v => zoq w n (i + 1) k (zop w i 0 n v)
theorem z_opn_l {F : xF} {G : xG} {n R m a : Nat} {w : Nat → Nat → Int32} (h6 : F 6 = nI n) (hn : n ≤ 10) (hw : ∀ b, fX4_verdict F G (nI a) (nI b) = some (w a b)) (ha : a < n) (rec4 : Int32 → Int32 → Option Int32) : ∀ (k j N : Nat) (v : Int32), j + k = n → k < N → fX4_openPairs_l14 rec4 F G (nI a) N v (nI j) = rec4 (zop w a j k v) (nI (a + 1)) := by
  intro k
  induction k with
  | zero =>
    intro j N v h1 h2
    cases N with
    | zero => omega
    | succ N => rw [fX4_openPairs_l14_e, h6, if_pos ((q_le (by omega) (by omega)).mpr (by omega)), fX4_openPairs_x45_e, nI_1]; rfl
  | succ k ih =>
    intro j N v h1 h2
    cases N with
    | zero => omega
    | succ N =>
      rw [fX4_openPairs_l14_e, h6, if_neg (fun z => by have := (q_le (by omega) (by omega)).mp z; omega), zop]
      by_cases h3 : a = j
      · rw [if_pos (congrArg nI h3), if_pos h3, fX4_openPairs_j39_e, nI_1, ih (j + 1) N v (by omega) (by omega)]
      · rw [if_neg (fun z => h3 ((nI_eq (by omega) (by omega)).mp z)), if_neg h3, q_b1 (hw j)]
        by_cases h4 : w a j = 0
        · rw [if_pos h4, if_pos h4, fX4_openPairs_j39_e, nI_1, ih (j + 1) N _ (by omega) (by omega)]
        · rw [if_neg h4, if_neg h4, fX4_openPairs_j39_e, nI_1, ih (j + 1) N _ (by omega) (by omega)]
theorem z_opn {F : xF} {G : xG} {n : Nat} {w : Nat → Nat → Int32} (h6 : F 6 = nI n) (hn : n ≤ 10) (hw : ∀ a b, a < n → fX4_verdict F G (nI a) (nI b) = some (w a b)) : ∀ (k i N : Nat) (v : Int32), i + k = n → k < N → fX4_openPairs_l4 F G N v (nI i) = some (zoq w n i k v) := by
  intro k
  induction k with
  | zero =>
    intro i N v h1 h2
    cases N with
    | zero => omega
    | succ N => rw [fX4_openPairs_l4_e, h6, if_pos ((q_le (by omega) (by omega)).mpr (by omega))]; rfl
  | succ k ih =>
    intro i N v h1 h2
    cases N with
    | zero => omega
    | succ N =>
      rw [fX4_openPairs_l4_e, h6, if_neg (fun z => by have := (q_le (by omega) (by omega)).mp z; omega), zoq]
      refine (z_opn_l (R := 0) (m := 0) h6 hn (fun b => hw i b (by omega)) (by omega) _ n 0 4096 v (by omega) (by omega)).trans ?_
      exact ih (i + 1) N _ (by omega) (by omega)
theorem z_opm_l {F : xF} {G : xG} {n a : Nat} {w : Nat → Nat → Int32} (h6 : F 18 = nI n) (hn : n ≤ 10) (hw : ∀ b, fX6_knownOf (va_up F 0 0) G (nI a) (nI b) = some (w a b)) (ha : a < n) (rec9 : Int32 → Int32 → Option (Int32 × xF)) : ∀ (k j N : Nat) (v : Int32), j + k = n → k < N → fX6_open_l19 rec9 F G (nI a) N v (nI j) = rec9 (zop w a j k v) (nI (a + 1)) := by
  intro k
  induction k with
  | zero =>
    intro j N v h1 h2
    cases N with
    | zero => omega
    | succ N => rw [fX6_open_l19_e, h6, if_pos ((q_le (by omega) (by omega)).mpr (by omega)), fX6_open_x55_e, nI_1]; rfl
  | succ k ih =>
    intro j N v h1 h2
    cases N with
    | zero => omega
    | succ N =>
      rw [fX6_open_l19_e, h6, if_neg (fun z => by have := (q_le (by omega) (by omega)).mp z; omega), zop]
      by_cases h3 : a = j
      · rw [if_pos (congrArg nI h3), if_pos h3, fX6_open_j46_e, fX6_open_j47_e, Int32.add_zero, nI_1, ih (j + 1) N v (by omega) (by omega)]
      · rw [if_neg (fun z => h3 ((nI_eq (by omega) (by omega)).mp z)), if_neg h3, q_b1 (hw j)]
        by_cases h4 : w a j = 0
        · rw [if_pos h4, if_pos h4, fX6_open_j47_e, nI_1, ih (j + 1) N _ (by omega) (by omega)]
        · rw [if_neg h4, if_neg h4, fX6_open_j46_e, fX6_open_j47_e, Int32.add_zero, nI_1, ih (j + 1) N _ (by omega) (by omega)]
theorem z_opm {F : xF} {G : xG} {n : Nat} {w : Nat → Nat → Int32} (h6 : F 18 = nI n) (hn : n ≤ 10) (hw : ∀ a b, a < n → fX6_knownOf (va_up F 0 0) G (nI a) (nI b) = some (w a b)) : ∀ (k i N : Nat) (v : Int32), i + k = n → k < N → fX6_open_l9 F G N v (nI i) = some (zoq w n i k v, va_up F 0 0) := by
  intro k
  induction k with
  | zero =>
    intro i N v h1 h2
    cases N with
    | zero => omega
    | succ N => rw [fX6_open_l9_e, h6, if_pos ((q_le (by omega) (by omega)).mpr (by omega))]; rfl
  | succ k ih =>
    intro i N v h1 h2
    cases N with
    | zero => omega
    | succ N =>
      rw [fX6_open_l9_e, h6, if_neg (fun z => by have := (q_le (by omega) (by omega)).mp z; omega), zoq]
      refine (z_opm_l h6 hn (fun b => hw i b (by omega)) (by omega) _ n 0 4096 v (by omega) (by omega)).trans ?_
      exact ih (i + 1) N _ (by omega) (by omega)
theorem o_open (X : XT) : oL_open (LRg X) := by
  intro Fp Gp Fo Go Fz Gz Fq Gq F G h
  obtain ⟨hX, ⟨e6, e7, e8, g0, g1, g2, g3, g4, np, nr, nm, hn, hr, hm, hn10, hr30, hm10, ok, okm⟩, hQ⟩ := h
  have f6 : Fz 6 = nI np := e6.trans hn
  have f7 : Fz 7 = nI nr := e7.trans hr
  have f8 : Fz 8 = nI nm := e8.trans hm
  have hZ : ∀ k, LZ Fz Gz (va_up F 0 k) G := fun k => ⟨e6, e7, e8, g0, g1, g2, g3, g4, np, nr, nm, hn, hr, hm, hn10, hr30, hm10, ok, okm⟩
  refine ⟨zoq (zkn (G 22) (G 23) (G 25) nr nm) np 0 np 0, zoq (zkn (G 22) (G 23) (G 25) nr nm) np 0 np 0, va_up F 0 0, ?_, ?_, rfl, hX, hZ 0, hQ⟩
  · rw [fX5_open_e, fX4_openPairs_e]
    exact q_b1 (z_opn f6 hn10 (fun a b ha => by rw [z_ver f7 f8 hr30 hm10 hn10 (by rw [g2, g3]; exact ok) ha, g2, g3, g4]) np 0 4096 0 (by omega) (by omega))
  · rw [fX6_open_e]
    exact z_opm hn hn10 (fun a b ha => z_kno (F := va_up F 0 0) hr hm hr30 hm10 hn10 ok ha) np 0 4096 0 (by omega) (by omega)
/-- how many of k rules from j on conclude c, and v -/
def zrf (C : Nat → Int32) (c : Int32) : Nat → Nat → Int32 → Int32
  | _, 0, v => v
  | j, k + 1, v => zrf C c (j + 1) k (if C j = c then v + 1 else v)
def zmw (M : Nat → Int32) (c : Int32) : Nat → Nat → Int32 → Int32
  | _, 0, v => v
  | j, k + 1, v => zmw M c (j + 1) k (v + (x_shr (M j) c &&& 1))
theorem z_rf {F : xF} {G : xG} {c : Int32} {R : Nat} (hF : F 7 = nI R) (hR : R ≤ 30) : ∀ (k j N : Nat) (v : Int32), j + k = R → k < N → fX4_rulesFor_l4 F G c N v (nI j) = some (zrf (G 3) c j k v) := by
  intro k
  induction k with
  | zero =>
    intro j N v h1 h2
    cases N with
    | zero => omega
    | succ N => rw [fX4_rulesFor_l4_e, hF, if_pos ((q_le (by omega) (by omega)).mpr (by omega))]; rfl
  | succ k ih =>
    intro j N v h1 h2
    cases N with
    | zero => omega
    | succ N =>
      rw [fX4_rulesFor_l4_e, hF, if_neg (fun z => by have := (q_le (by omega) (by omega)).mp z; omega), q_ld (by omega) (by omega), q_cl (by omega), zrf]
      by_cases h : G 3 j = c
      · rw [if_pos h, if_pos h, fX4_rulesFor_j25_e, nI_1, ih (j + 1) N _ (by omega) (by omega)]
      · rw [if_neg h, if_neg h, fX4_rulesFor_j25_e, nI_1, ih (j + 1) N _ (by omega) (by omega)]
theorem z_mw {F : xF} {G : xG} {c : Int32} {m : Nat} (hF : F 8 = nI m) (hm : m ≤ 10) : ∀ (k j N : Nat) (v : Int32), j + k = m → k < N → fX4_modelsWith_l4 F G c N v (nI j) = some (zmw (G 4) c j k v) := by
  intro k
  induction k with
  | zero =>
    intro j N v h1 h2
    cases N with
    | zero => omega
    | succ N => rw [fX4_modelsWith_l4_e, hF, if_pos ((q_le (by omega) (by omega)).mpr (by omega))]; rfl
  | succ k ih =>
    intro j N v h1 h2
    cases N with
    | zero => omega
    | succ N =>
      rw [fX4_modelsWith_l4_e, hF, if_neg (fun z => by have := (q_le (by omega) (by omega)).mp z; omega), q_ld (by omega) (by omega), q_cl (by omega), q_b1 (z_contains _ _), zmw]
      rcases q_at (x_shr (G 4 j) c) with h | h
      · rw [if_pos h, if_pos rfl, h, Int32.add_zero, fX4_modelsWith_j28_e, nI_1, ih (j + 1) N _ (by omega) (by omega)]
      · rw [if_neg (q_a10.mp h), if_neg q_10, h, fX4_modelsWith_j28_e, nI_1, ih (j + 1) N _ (by omega) (by omega)]
theorem z_mwM {F : xF} {G : xG} {q c v8 : Int32} {m : Nat} (hF : F 24 = nI m) (hm : m ≤ 10) : ∀ (k j N : Nat) (v : Int32), j + k = m → k < N → fX6_ofPrinciple_l85 F G q c v8 N v (nI j) = fX6_ofPrinciple_x116 G F q c v8 (zmw (G 25) c j k v) := by
  intro k
  induction k with
  | zero =>
    intro j N v h1 h2
    cases N with
    | zero => omega
    | succ N => rw [fX6_ofPrinciple_l85_e, hF, if_pos ((q_le (by omega) (by omega)).mpr (by omega))]; rfl
  | succ k ih =>
    intro j N v h1 h2
    cases N with
    | zero => omega
    | succ N =>
      rw [fX6_ofPrinciple_l85_e, hF, if_neg (fun z => by have := (q_le (by omega) (by omega)).mp z; omega), q_ld (by omega) (by omega), q_cl (by omega), zmw, nI_1, ih (j + 1) N _ (by omega) (by omega)]
theorem z_rfM {F : xF} {G : xG} {q c : Int32} {R : Nat} (hF : F 21 = nI R) (hR : R ≤ 30) : ∀ (k j N : Nat) (v : Int32), j + k = R → k < N → fX6_ofPrinciple_l43 F G q c N v (nI j) = fX6_ofPrinciple_x79 F G q c (zrf (G 23) c j k v) := by
  intro k
  induction k with
  | zero =>
    intro j N v h1 h2
    cases N with
    | zero => omega
    | succ N => rw [fX6_ofPrinciple_l43_e, hF, if_pos ((q_le (by omega) (by omega)).mpr (by omega))]; rfl
  | succ k ih =>
    intro j N v h1 h2
    cases N with
    | zero => omega
    | succ N =>
      rw [fX6_ofPrinciple_l43_e, hF, if_neg (fun z => by have := (q_le (by omega) (by omega)).mp z; omega), q_ld (by omega) (by omega), q_cl (by omega), zrf]
      by_cases h : G 23 j = c
      · rw [if_pos h, if_pos h, fX6_ofPrinciple_j70_e, nI_1, ih (j + 1) N _ (by omega) (by omega)]
      · rw [if_neg h, if_neg h, fX6_ofPrinciple_j70_e, Int32.add_zero, nI_1, ih (j + 1) N _ (by omega) (by omega)]
theorem o_ofPrinciple (X : XT) : oL_ofPrinciple (LRg X) := by
  intro Fp Gp Fo Go Fz Gz Fq Gq F G h p c
  obtain ⟨hX, ⟨e6, e7, e8, g0, g1, g2, g3, g4, np, nr, nm, hn, hr, hm, hn10, hr30, hm10, ok, okm⟩, hQ⟩ := h
  have f6 : Fz 6 = nI np := e6.trans hn
  have f7 : Fz 7 = nI nr := e7.trans hr
  have f8 : Fz 8 = nI nm := e8.trans hm
  have hZ : ∀ k, LZ Fz Gz (va_up F 0 k) G := fun k => ⟨e6, e7, e8, g0, g1, g2, g3, g4, np, nr, nm, hn, hr, hm, hn10, hr30, hm10, ok, okm⟩
  have h29 : ∀ k : Int32, ¬ k = 0 → fX6_ofPrinciple_j29 F G c p k = some (0, va_up F 0 k) := fun k h => by
    rw [fX6_ofPrinciple_j29_e, b_b2 (q_g1 F h), if_pos rfl]
  by_cases c1 : q_lo p np
  rotate_left
  · refine ⟨1, 0, 0, va_up F 0 1, fun _ h => absurd rfl h, ?_, ?_, rfl, fun h => absurd h q_10, hX, hZ 1, hQ⟩
    · rw [fX5_ofPrinciple_e, q_b1 (z_has f6 hn10 p), if_neg c1, if_pos rfl]
    · rw [fX6_ofPrinciple_e, q_b1 (z_isP hn hn10 p), if_neg c1, if_pos rfl, h29 1 q_10]
  have hin : fX6_in c 0 3 = some (if q_lo c 4 then 1 else 0) := q_in (n := 4) (by omega) c
  have hbl : fX5_isBelow c 4 = some (if q_lo c 4 then 1 else 0) := q_isBelow (n := 4) (by omega) c
  by_cases c2 : q_lo c 4
  rotate_left
  · refine ⟨2, 0, 0, va_up F 0 2, fun _ _ => rfl, ?_, ?_, rfl, fun h => absurd h (by decide), hX, hZ 2, hQ⟩
    · rw [fX5_ofPrinciple_e, q_b1 (z_has f6 hn10 p), if_pos c1, if_neg q_10, q_b1 hbl, if_neg c2, if_pos rfl]
    · rw [fX6_ofPrinciple_e, q_b1 (z_isP hn hn10 p), if_pos c1, if_neg q_10, q_b1 hin, if_neg c2, if_pos rfl, h29 2 (by decide)]
  have hcl : fX5_ofPrinciple Fz Gz p c = x_b1 (fX4_tell Fz Gz p c) (fun r8 => some (0, r8)) := by
    rw [fX5_ofPrinciple_e, q_b1 (z_has f6 hn10 p), if_pos c1, if_neg q_10, q_b1 hbl, if_pos c2, if_neg q_10]
  have hrf : fX6_ofPrinciple F G p c = fX6_ofPrinciple_x116 G (va_up F 0 0) c p (zrf (G 23) p 0 nr 0) (zmw (G 25) p 0 nm 0) := by
    rw [fX6_ofPrinciple_e, q_b1 (z_isP hn hn10 p), if_pos c1, if_neg q_10, q_b1 hin, if_pos c2, if_neg q_10, fX6_ofPrinciple_j29_e, b_b2 (q_g0 F), if_neg q_10]
    refine (z_rfM (F := va_up F 0 0) hr hr30 nr 0 4096 0 (by omega) (by omega)).trans ?_
    rw [fX6_ofPrinciple_x79_e]
    exact z_mwM (F := va_up F 0 0) hm hm10 nm 0 4096 0 (by omega) (by omega)
  have hrl : fX4_rulesFor Fz Gz p = some (zrf (G 23) p 0 nr 0) := by
    rw [fX4_rulesFor_e, ← g3]
    exact z_rf f7 hr30 nr 0 4096 0 (by omega) (by omega)
  have hml : fX4_modelsWith Fz Gz p = some (zmw (G 25) p 0 nm 0) := by
    rw [fX4_modelsWith_e, ← g4]
    exact z_mw f8 hm10 nm 0 4096 0 (by omega) (by omega)
  obtain ⟨a, ha, rfl⟩ := c1
  have fin : ∀ v : Int32, fX4_tell Fz Gz (nI a) c = some v → fX6_ofPrinciple_x116 G (va_up F 0 0) c (nI a) (zrf (G 23) (nI a) 0 nr 0) (zmw (G 25) (nI a) 0 nm 0) = some (v, va_up F 0 0) → ∃ (k r : Int32) (r' : Int32) (F' : xF), (¬ k = 0 → ¬ k = 1 → k = 2) ∧ fX5_ofPrinciple Fz Gz (nI a) c = some (k, r) ∧ fX6_ofPrinciple F G (nI a) c = some (r', F') ∧ fX6_thrown F' = some k ∧ (k = 0 → r = r') ∧ LRg X Fp Gp Fo Go Fz Gz Fq Gq F' G := fun v h1 h2 =>
    ⟨0, v, v, va_up F 0 0, fun h => absurd rfl h, by rw [hcl, q_b1 h1], by rw [hrf, h2], rfl, fun _ => rfl, hX, hZ 0, hQ⟩
  obtain ⟨cn, hc, rfl⟩ := c2
  rcases (show cn = 0 ∨ cn = 1 ∨ cn = 2 ∨ cn = 3 by omega) with rfl | rfl | rfl | rfl
  · refine fin (G 19 a) ?_ ?_
    · rw [fX4_tell_e, if_pos (by decide), q_ld (by omega) (by omega), q_cl (by omega), g0]
    · rw [fX6_ofPrinciple_x116_e, if_pos (by decide), q_ld (by omega) (by omega), q_cl (by omega)]
  · refine fin (G 20 a) ?_ ?_
    · rw [fX4_tell_e, if_neg (by decide), if_pos (by decide), q_ld (by omega) (by omega), q_cl (by omega), g1]
    · rw [fX6_ofPrinciple_x116_e, if_neg (by decide), if_pos (by decide), q_ld (by omega) (by omega), q_cl (by omega)]
  · refine fin (zrf (G 23) (nI a) 0 nr 0) ?_ ?_
    · rw [fX4_tell_e, if_neg (by decide), if_neg (by decide), if_pos (by decide), q_b1 hrl]
    · rw [fX6_ofPrinciple_x116_e, if_neg (by decide), if_neg (by decide), if_pos (by decide)]
  · refine fin (zmw (G 25) (nI a) 0 nm 0) ?_ ?_
    · rw [fX4_tell_e, if_neg (by decide), if_neg (by decide), if_neg (by decide), q_b1 hml]
    · rw [fX6_ofPrinciple_x116_e, if_neg (by decide), if_neg (by decide), if_neg (by decide)]
end QZA
