section QG
/-! games -/
theorem g_in {r : Nat} (hr : r ≤ 4) : 2 ^ r ≤ 16 := Nat.pow_le_pow_right (n := 2) (by decide) hr
theorem g_in2 {r : Nat} (hr : r ≤ 4) : 2 ^ 2 ^ r ≤ 65536 := Nat.pow_le_pow_right (n := 2) (by decide) (g_in hr)
/-- one round back: FIRST's rounds are the even ones -/
def gstep (k : Nat) (w : Nat → Bool) (n : Nat) : Bool := if k % 2 = 0 then w (2 * n) || w (2 * n + 1) else w (2 * n) && w (2 * n + 1)
def gdown : Nat → (Nat → Bool) → Nat → Bool
  | 0, w => w
  | k + 1, w => gdown k (gstep k w)
theorem gstep_cg {k : Nat} {v w : Nat → Bool} (h : ∀ j, j < 2 ^ (k + 1) → v j = w j) : ∀ j, j < 2 ^ k → gstep k v j = gstep k w j := by
  intro j hj
  rw [gstep, gstep, h (2 * j) (by rw [Nat.pow_succ]; omega), h (2 * j + 1) (by rw [Nat.pow_succ]; omega)]
theorem gdown_cg : ∀ (k : Nat) (v w : Nat → Bool), (∀ j, j < 2 ^ k → v j = w j) → gdown k v 0 = gdown k w 0 := by
  intro k
  induction k with
  | zero => intro v w h; exact h 0 (by decide)
  | succ k ih => intro v w h; exact ih _ _ (gstep_cg h)
def gwa (k w : Nat) : Nat → Nat → Nat → Nat
  | 0, _, v => v
  | c + 1, n, v => gwa k w c (n + 1) (if gstep k (fun i => w.testBit i) n = true then v ||| 2 ^ n else v)
theorem gwa_b {k w : Nat} : ∀ (c n v j : Nat), (gwa k w c n v).testBit j = (v.testBit j || (decide (n ≤ j ∧ j < n + c) && gstep k (fun i => w.testBit i) j)) := by
  intro c
  induction c with
  | zero =>
    intro n v j
    rw [gwa, decide_eq_false (by omega)]
    simp
  | succ c ih =>
    intro n v j
    have hs : ((if gstep k (fun i => w.testBit i) n = true then v ||| 2 ^ n else v) : Nat).testBit j = (v.testBit j || (decide (n = j) && gstep k (fun i => w.testBit i) j)) := by
      by_cases h1 : n = j
      · subst h1
        rw [decide_eq_true rfl, Bool.true_and]
        by_cases h2 : gstep k (fun i => w.testBit i) n = true
        · rw [if_pos h2, Nat.testBit_or, Nat.testBit_two_pow_self, h2]
        · rw [if_neg h2]
          cases hq : gstep k (fun i => w.testBit i) n with
          | false => rw [Bool.or_false]
          | true => exact absurd hq h2
      · rw [decide_eq_false h1, Bool.false_and, Bool.or_false]
        split
        · rw [Nat.testBit_or, Nat.testBit_two_pow_of_ne h1, Bool.or_false]
        · rfl
    rw [gwa, ih, hs, Bool.or_assoc]
    congr 1
    by_cases h1 : n = j
    · rw [decide_eq_true h1, decide_eq_false (show ¬ (n + 1 ≤ j ∧ j < n + 1 + c) by omega), decide_eq_true (show n ≤ j ∧ j < n + (c + 1) by omega), Bool.false_and, Bool.or_false]
    · rw [decide_eq_false h1, Bool.false_and, Bool.false_or]
      by_cases h2 : n + 1 ≤ j ∧ j < n + 1 + c
      · rw [decide_eq_true h2, decide_eq_true (show n ≤ j ∧ j < n + (c + 1) by omega)]
      · rw [decide_eq_false h2, decide_eq_false (show ¬ (n ≤ j ∧ j < n + (c + 1)) by omega)]
theorem g_two {w n : Nat} (hw : w < 65536) (hn : n < 8) : x_shr (nI w) (2 * nI n) &&& 3 = nI (w / 2 ^ (2 * n) % 4) := by
  have h1 : w / 2 ^ (2 * n) ≤ w := Nat.div_le_self _ _
  rw [show (2 : Int32) * nI n = nI (2 * n) from pk_mul 2 n, q_shr (by omega) (by omega), pk_andN (by omega) 2 (by decide)]
theorem g_bits (x : Nat) : (x % 4 = 0 ↔ x.testBit 0 = false ∧ x.testBit 1 = false) ∧ (x % 4 = 3 ↔ x.testBit 0 = true ∧ x.testBit 1 = true) := by
  rw [Nat.testBit_eq_decide_div_mod_eq, Nat.testBit_eq_decide_div_mod_eq, decide_eq_true_eq, decide_eq_true_eq, decide_eq_false_iff_not, decide_eq_false_iff_not]
  omega
theorem g_wa {k w : Nat} (hk : k < 4) (hw : w < 65536) : ∀ (c n N v : Nat), n + c = 2 ^ k → c < N → fX1_wonAhead_l4 (nI k) (nI w) N (nI v) (nI n) = some (nI (gwa k w c n v)) := by
  have h8 : 2 ^ k ≤ 2 ^ 3 := Nat.pow_le_pow_right (by decide) (by omega)
  intro c
  induction c with
  | zero =>
    intro n N v h1 h2
    cases N with
    | zero => omega
    | succ N => rw [fX1_wonAhead_l4_e, q_shl1 (by omega), if_pos ((q_le (by omega) (by omega)).mpr (by omega))]; rfl
  | succ c ih =>
    intro n N v h1 h2
    cases N with
    | zero => omega
    | succ N =>
      have e0 : ∀ v6 : Int32, v6 = 0 → fX1_wonAhead_j51 (fX1_wonAhead_l4 (nI k) (nI w) N) (nI n) (nI v) v6 = some (nI (gwa k w c (n + 1) v)) := fun v6 h => by
        rw [fX1_wonAhead_j51_e, if_pos h, fX1_wonAhead_j64_e, nI_1, ih (n + 1) N v (by omega) (by omega)]
      have e1 : ∀ v6 : Int32, ¬ v6 = 0 → fX1_wonAhead_j51 (fX1_wonAhead_l4 (nI k) (nI w) N) (nI n) (nI v) v6 = some (nI (gwa k w c (n + 1) (v ||| 2 ^ n))) := fun v6 h => by
        rw [fX1_wonAhead_j51_e, if_neg h, fX1_wonAhead_j64_e, q_shl1 (by omega), q_or, nI_1, ih (n + 1) N _ (by omega) (by omega)]
      have hm : w / 2 ^ (2 * n) % 4 < 4 := Nat.mod_lt _ (by decide)
      obtain ⟨g0, g3⟩ := g_bits (w / 2 ^ (2 * n))
      rw [Nat.testBit_div_two_pow, Nat.testBit_div_two_pow, Nat.zero_add, Nat.add_comm 1] at g0 g3
      have hof : fX1_isOfFirst (nI k) = some (if k % 2 = 0 then 1 else 0) := by
        rw [fX1_isOfFirst_e, q_and1 (by omega)]
        by_cases h : k % 2 = 0
        · rw [h, if_pos (by decide), if_pos rfl]
        · rw [show k % 2 = 1 by omega, if_neg (by decide), if_neg (by decide)]
      rw [fX1_wonAhead_l4_e, q_shl1 (by omega), if_neg (fun z => by have := (q_le (by omega) (by omega)).mp z; omega), q_b1 hof, g_two hw (by omega), gwa, gstep]
      by_cases h : k % 2 = 0
      · rw [if_pos h, if_neg q_10, if_pos h]
        by_cases h4 : w / 2 ^ (2 * n) % 4 = 0
        · obtain ⟨t0, t1⟩ := g0.mp h4
          rw [if_pos (by exact congrArg nI h4), e0 0 rfl, t0, t1, Bool.or_false, if_neg q_ft]
        · have ht : (w.testBit (2 * n) || w.testBit (2 * n + 1)) = true := by
            cases t0 : w.testBit (2 * n) with
            | true => rfl
            | false =>
              cases t1 : w.testBit (2 * n + 1) with
              | true => rfl
              | false => exact absurd (g0.mpr ⟨t0, t1⟩) h4
          rw [if_neg (by exact fun z => h4 ((nI_eq (b := 0) (by omega) (by omega)).mp z)), e1 1 q_10, ht, if_pos q_tt]
      · rw [if_neg h, if_pos rfl, if_neg h]
        by_cases h4 : w / 2 ^ (2 * n) % 4 = 3
        · obtain ⟨t0, t1⟩ := g3.mp h4
          rw [if_pos (by exact congrArg nI h4), e1 1 q_10, t0, t1, Bool.and_true, if_pos q_tt]
        · have ht : (w.testBit (2 * n) && w.testBit (2 * n + 1)) = false := by
            cases t0 : w.testBit (2 * n) with
            | false => rfl
            | true =>
              cases t1 : w.testBit (2 * n + 1) with
              | false => rfl
              | true => exact absurd (g3.mpr ⟨t0, t1⟩) h4
          rw [if_neg (by exact fun z => h4 ((nI_eq (b := 3) (by omega) (by omega)).mp z)), e0 0 rfl, ht, if_neg q_ft]
theorem g_bk : ∀ (k N w : Nat), k ≤ 4 → k < N → w < 2 ^ 2 ^ k → fX1_isWonBackwards_l6 N (nI w) (nI k + (-1)) = some (qbi (gdown k (fun i => w.testBit i) 0)) := by
  intro k
  induction k with
  | zero =>
    intro N w h1 h2 h3
    cases N with
    | zero => omega
    | succ N =>
      have hw : w < 2 := h3
      rw [fX1_isWonBackwards_l6_e, if_pos (by decide), fX1_isWonBackwards_x22_e]
      rcases (show w = 0 ∨ w = 1 by omega) with rfl | rfl <;> decide
  | succ k ih =>
    intro N w h1 h2 h3
    cases N with
    | zero => omega
    | succ N =>
      have h16 := g_in2 (r := k + 1) (by omega)
      have hwa : fX1_wonAhead (nI k) (nI w) = some (nI (gwa k w (2 ^ k) 0 0)) := by
        have h8 := g_in (r := k) (by omega)
        rw [fX1_wonAhead_e]
        exact g_wa (by omega) (by omega) (2 ^ k) 0 4096 0 (by omega) (by omega)
      have hb : ∀ j, (gwa k w (2 ^ k) 0 0).testBit j = (decide (j < 2 ^ k) && gstep k (fun i => w.testBit i) j) := fun j => by
        rw [gwa_b, Nat.zero_testBit, Bool.false_or]
        congr 1
        by_cases h : j < 2 ^ k
        · rw [decide_eq_true h, decide_eq_true (show 0 ≤ j ∧ j < 0 + 2 ^ k by omega)]
        · rw [decide_eq_false h, decide_eq_false (show ¬ (0 ≤ j ∧ j < 0 + 2 ^ k) by omega)]
      rw [fX1_isWonBackwards_l6_e, pk_m1, if_neg (q_lt0 (by omega)), q_b1 hwa, ih N _ (by omega) (by omega) (Nat.lt_pow_two_of_testBit _ (fun j hj => by rw [hb, decide_eq_false (by omega), Bool.false_and]))]
      show some (qbi (gdown k _ 0)) = some (qbi (gdown k (gstep k (fun i => w.testBit i)) 0))
      rw [gdown_cg k _ (gstep k (fun i => w.testBit i)) (fun j hj => by rw [hb, decide_eq_true hj, Bool.true_and])]
theorem g_won {r s : Nat} (hr : r ≤ 4) (hs : s < 2 ^ 2 ^ r) : fX1_isWonBackwards (nI r) (nI s) = some (qbi (gdown r (fun i => s.testBit i) 0)) := by
  rw [fX1_isWonBackwards_e, q_m1]
  exact g_bk r 4096 s hr (by omega) hs
theorem x_znq (b : Bool) : x_zn (qbi b) = qbi b := by cases b <;> decide
theorem g_h2 {G : xG} {r s : Nat} (hr : r ≤ 4) (hs : s < 65536) : ∀ (k n N : Nat) (g : Nat → Int32), n + k = 2 ^ r → k < N → (∀ j, j < n → g j = qbi (s.testBit j)) → ∃ g', fX6_isHad_l2 (nI r) (nI s) N (nI n) (va_up G 31 g) = fX6_isHad_x35 (nI r) (va_up G 31 g') ∧ ∀ j, j < 2 ^ r → g' j = qbi (s.testBit j) := by
  have h16 := g_in hr
  intro k
  induction k with
  | zero =>
    intro n N g h1 h2 h3
    cases N with
    | zero => omega
    | succ N => exact ⟨g, by rw [fX6_isHad_l2_e, q_shl1 (by omega), if_pos ((q_le (by omega) (by omega)).mpr (by omega))], fun j hj => h3 j (by omega)⟩
  | succ k ih =>
    intro n N g h1 h2 h3
    cases N with
    | zero => omega
    | succ N =>
      obtain ⟨g', a1, a2⟩ := ih (n + 1) N (upd g n (qbi (s.testBit n))) (by omega) (by omega) (fun j hj => by
        by_cases e : j = n
        · subst e; rw [pk_us]
        · rw [pk_un e]; exact h3 j (by omega))
      refine ⟨g', ?_, a2⟩
      have hj : fX6_isHad_j28 (fX6_isHad_l2 (nI r) (nI s) N) (va_up G 31 g) (nI n) (qbi (s.testBit n)) = fX6_isHad_x35 (nI r) (va_up G 31 g') := by
        rw [fX6_isHad_j28_e, q_ld (by omega) (by omega), q_cl (by omega), x_znq, bx_uu, u_s, nI_1, a1]
      rw [fX6_isHad_l2_e, q_shl1 (by omega), if_neg (fun z => by have := (q_le (by omega) (by omega)).mp z; omega)]
      cases hb : s.testBit n with
      | true => rw [hb] at hj; rw [if_pos ((q_bit1 (by omega) (by omega)).mpr hb)]; exact hj
      | false => rw [hb] at hj; rw [if_neg (fun z => by rw [(q_bit1 (by omega) (by omega))] at z; rw [hb] at z; cases z)]; exact hj
theorem g_h46 {G : xG} {k : Nat} {V : Nat → Bool} (hk : k < 4) (rec39 : Int32 → xG → Option (Int32 × xG)) : ∀ (c n N : Nat) (g : Nat → Int32), n + c = 2 ^ k → c < N → (∀ j, j < n → g j = qbi (gstep k V j)) → (∀ j, n ≤ j → j < 2 ^ (k + 1) → g j = qbi (V j)) → ∃ g', fX6_isHad_l46 rec39 (nI k) N (nI n) (va_up G 31 g) = rec39 (nI k + (-1)) (va_up G 31 g') ∧ ∀ j, j < 2 ^ k → g' j = qbi (gstep k V j) := by
  have h8 : 2 ^ k ≤ 2 ^ 3 := Nat.pow_le_pow_right (by decide) (by omega)
  have h9 : 2 ^ (k + 1) = 2 * 2 ^ k := by rw [Nat.pow_succ, Nat.mul_comm]
  intro c
  induction c with
  | zero =>
    intro n N g h1 h2 h3 h4
    cases N with
    | zero => omega
    | succ N => exact ⟨g, by rw [fX6_isHad_l46_e, q_shl1 (by omega), if_pos ((q_le (by omega) (by omega)).mpr (by omega)), fX6_isHad_x138_e], fun j hj => h3 j (by omega)⟩
  | succ c ih =>
    intro n N g h1 h2 h3 h4
    cases N with
    | zero => omega
    | succ N =>
      obtain ⟨g', a1, a2⟩ := ih (n + 1) N (upd g n (qbi (gstep k V n))) (by omega) (by omega) (fun j hj => by
        by_cases e : j = n
        · subst e; rw [pk_us]
        · rw [pk_un e]; exact h3 j (by omega)) (fun j hj hj2 => by rw [pk_un (show j ≠ n by omega)]; exact h4 j (by omega) hj2)
      refine ⟨g', ?_, a2⟩
      have hj : ∀ b, gstep k V n = b → fX6_isHad_j131 (fX6_isHad_l46 rec39 (nI k) N) (va_up G 31 g) (nI n) (qbi b) = rec39 (nI k + (-1)) (va_up G 31 g') := fun b hb => by
        rw [fX6_isHad_j131_e, q_ld (by omega) (by omega), q_cl (by omega), x_znq, bx_uu, u_s, nI_1, ← a1, hb]
      have j1 : gstep k V n = true → fX6_isHad_j92 (fX6_isHad_l46 rec39 (nI k) N) (va_up G 31 g) (nI n) = rec39 (nI k + (-1)) (va_up G 31 g') := fun hb => by
        rw [fX6_isHad_j92_e]; exact hj true hb
      have j0 : gstep k V n = false → fX6_isHad_j130 (fX6_isHad_l46 rec39 (nI k) N) (va_up G 31 g) (nI n) = rec39 (nI k + (-1)) (va_up G 31 g') := fun hb => by
        rw [fX6_isHad_j130_e]; exact hj false hb
      have v0 : g (2 * n) = qbi (V (2 * n)) := h4 _ (by omega) (by omega)
      have v1 : g (2 * n + 1) = qbi (V (2 * n + 1)) := h4 _ (by omega) (by omega)
      have hrem : x_rem (nI k) 2 = nI (k % 2) := pk_rem (d := 2) (by omega) (by decide) (by decide)
      rw [fX6_isHad_l46_e, q_shl1 (by omega), if_neg (fun z => by have := (q_le (by omega) (by omega)).mp z; omega), x_dvI (by decide), hrem, show (2 : Int32) * nI n = nI (2 * n) from pk_mul 2 n, nI_1, q_ld (by omega) (by omega), q_ld (by omega) (by omega), q_cl (by omega), q_cl (by omega), u_s, v0, v1]
      by_cases hp : k % 2 = 0
      · rw [if_pos (by exact congrArg nI hp)]
        cases b0 : V (2 * n) with
        | true => rw [if_neg (by decide)]; exact j1 (by rw [gstep, if_pos hp, b0, Bool.true_or])
        | false =>
          rw [if_pos (by decide)]
          cases b1 : V (2 * n + 1) with
          | true => rw [if_neg (by decide)]; exact j1 (by rw [gstep, if_pos hp, b0, b1, Bool.or_true])
          | false => rw [if_pos (by decide)]; exact hj false (by rw [gstep, if_pos hp, b0, b1, Bool.or_false])
      · rw [if_neg (by exact fun z => hp ((nI_eq (b := 0) (by omega) (by omega)).mp z)), q_ld (by omega) (by omega)]
        cases b0 : V (2 * n) with
        | false => rw [if_pos (by decide)]; exact j0 (by rw [gstep, if_neg hp, b0, Bool.false_and])
        | true =>
          rw [if_neg (by decide), q_ld (by omega) (by omega)]
          cases b1 : V (2 * n + 1) with
          | false => rw [if_pos (by decide)]; exact j0 (by rw [gstep, if_neg hp, b0, b1, Bool.and_false])
          | true => rw [if_neg (by decide)]; exact hj true (by rw [gstep, if_neg hp, b0, b1, Bool.and_true])
theorem g_h39 {G : xG} : ∀ (k N : Nat) (g : Nat → Int32) (V : Nat → Bool), k ≤ 4 → k < N → (∀ j, j < 2 ^ k → g j = qbi (V j)) → ∃ g', fX6_isHad_l39 N (nI k + (-1)) (va_up G 31 g) = some (qbi (gdown k V 0), va_up G 31 g') := by
  intro k
  induction k with
  | zero =>
    intro N g V h1 h2 h3
    cases N with
    | zero => omega
    | succ N =>
      refine ⟨g, ?_⟩
      rw [fX6_isHad_l39_e, if_pos (by decide), fX6_isHad_x144_e, show (0 : Int32) = nI 0 from rfl, q_ld (by omega) (by omega), q_cl (by omega), u_s, h3 0 (by decide), x_znq]
      rfl
  | succ k ih =>
    intro N g V h1 h2 h3
    cases N with
    | zero => omega
    | succ N =>
      have h8 : 2 ^ k ≤ 2 ^ 3 := Nat.pow_le_pow_right (by decide) (by omega)
      obtain ⟨g1, b1, b2⟩ := g_h46 (G := G) (V := V) (show k < 4 by omega) (fX6_isHad_l39 N) (2 ^ k) 0 4096 g (by omega) (by omega) (fun j hj => absurd hj (Nat.not_lt_zero j)) (fun j _ hj => h3 j hj)
      obtain ⟨g', a1⟩ := ih N g1 (gstep k V) (by omega) (by omega) b2
      refine ⟨g', ?_⟩
      rw [fX6_isHad_l39_e, pk_m1, if_neg (q_lt0 (by omega))]
      exact b1.trans a1
theorem g_had {G : xG} {r s : Nat} (hr : r ≤ 4) (hs : s < 2 ^ 2 ^ r) : ∃ g', fX6_isHad G (nI r) (nI s) = some (qbi (gdown r (fun i => s.testBit i) 0), va_up G 31 g') := by
  have h16 := g_in2 hr
  have h4 := g_in hr
  obtain ⟨g1, b1, b2⟩ := g_h2 (G := G) hr (show s < 65536 by omega) (2 ^ r) 0 4096 (G 31) (by omega) (by omega) (fun j hj => absurd hj (Nat.not_lt_zero j))
  obtain ⟨g', a1⟩ := g_h39 (G := G) r 4096 g1 (fun i => s.testBit i) hr (by omega) b2
  rw [u_id] at b1
  refine ⟨g', ?_⟩
  rw [fX6_isHad_e]
  refine b1.trans ?_
  rw [fX6_isHad_x35_e, q_m1]
  exact a1
/-- what is said, by a plan and replies -/
def gsaid (k pl rp : Nat) : Nat := if k = 0 then pl % 2 else if k = 1 then rp % 2 else if k = 2 then pl / 2 ^ (1 + rp % 2) % 2 else rp / 2
def gout (pl rp : Nat) : Nat → Nat
  | 0 => 0
  | k + 1 => 2 * gout pl rp k + gsaid k pl rp
theorem g_out0 : ∀ pl, pl < 8 → ∀ rp, rp < 4 → ∀ r, r < 5 → fX1_outcome (nI pl) (nI rp) (nI r) = some (nI (gout pl rp r)) ∧ gout pl rp r < 16 := by decide +kernel
theorem g_wal {pl r s : Nat} (hp : pl < 8) (hr : r ≤ 4) (hs : s < 65536) : ∀ (k j N : Nat), j + k = 4 → k < N → fX1_winsAlways_l2 (nI pl) (nI r) (nI s) N (nI j) = some (qbi (qal (fun rp => s.testBit (gout pl rp r)) k j)) := by
  intro k
  induction k with
  | zero =>
    intro j N h1 h2
    cases N with
    | zero => omega
    | succ N => rw [fX1_winsAlways_l2_e, if_pos (by exact (q_le (a := 4) (b := j) (by omega) (by omega)).mpr (by omega))]; rfl
  | succ k ih =>
    intro j N h1 h2
    cases N with
    | zero => omega
    | succ N =>
      obtain ⟨o1, o2⟩ := g_out0 pl hp j (by omega) r (by omega)
      rw [fX1_winsAlways_l2_e, if_neg (fun z => by have := (q_le (a := 4) (b := j) (by omega) (by omega)).mp z; omega), q_b1 o1, q_bit (by omega) (by omega), qal]
      cases hb : s.testBit (gout pl j r) with
      | false => rw [if_neg q_ft, if_pos rfl, if_neg q_ft]; rfl
      | true => rw [if_pos q_tt, if_neg q_10, if_pos q_tt, nI_1, ih (j + 1) N (by omega) (by omega)]
theorem g_pl {r s : Nat} (hr : r ≤ 4) (hs : s < 65536) : ∀ (k j N : Nat), j + k = 8 → k < N → fX1_isWonBySomePlan_l2 (nI r) (nI s) N (nI j) = some (qbi (qex (fun pl => qal (fun rp => s.testBit (gout pl rp r)) 4 0) k j)) := by
  intro k
  induction k with
  | zero =>
    intro j N h1 h2
    cases N with
    | zero => omega
    | succ N => rw [fX1_isWonBySomePlan_l2_e, if_pos (by exact (q_le (a := 8) (b := j) (by omega) (by omega)).mpr (by omega))]; rfl
  | succ k ih =>
    intro j N h1 h2
    cases N with
    | zero => omega
    | succ N =>
      have hw : fX1_winsAlways (nI j) (nI r) (nI s) = some (qbi (qal (fun rp => s.testBit (gout j rp r)) 4 0)) := by
        rw [fX1_winsAlways_e]
        exact g_wal (by omega) hr hs 4 0 4096 (by omega) (by omega)
      rw [fX1_isWonBySomePlan_l2_e, if_neg (fun z => by have := (q_le (a := 8) (b := j) (by omega) (by omega)).mp z; omega), q_b1 hw, qex]
      cases hb : qal (fun rp => s.testBit (gout j rp r)) 4 0 with
      | false => rw [if_pos (show qbi false = 0 by decide), if_neg q_ft, nI_1, ih (j + 1) N (by omega) (by omega)]
      | true => rw [if_neg (show ¬ qbi true = 0 by decide), if_pos q_tt]; rfl
theorem qex_s {P : Nat → Bool} {k i : Nat} : qex P (k + 1) i = (P i || qex P k (i + 1)) := by
  rw [qex]
  cases P i with
  | true => rw [if_pos q_tt, Bool.true_or]
  | false => rw [if_neg q_ft, Bool.false_or]
theorem qal_s {P : Nat → Bool} {k i : Nat} : qal P (k + 1) i = (P i && qal P k (i + 1)) := by
  rw [qal]
  cases P i with
  | true => rw [if_pos q_tt, Bool.true_and]
  | false => rw [if_neg q_ft, Bool.false_and]
theorem g_e8 (P : Nat → Bool) : qex P 8 0 = (P 0 || (P 1 || (P 2 || (P 3 || (P 4 || (P 5 || (P 6 || (P 7 || false)))))))) := by
  rw [qex_s, qex_s, qex_s, qex_s, qex_s, qex_s, qex_s, qex_s]
  rfl
theorem g_a4 (P : Nat → Bool) : qal P 4 0 = (P 0 && (P 1 && (P 2 && (P 3 && true)))) := by
  rw [qal_s, qal_s, qal_s, qal_s]
  rfl
theorem g_ac (a b c d : Bool) : (a && (b && (c && (d && true)))) = ((a && c) && (b && d)) := by
  cases a <;> cases b <;> cases c <;> cases d <;> rfl
theorem g_r1 (V : Nat → Bool) : qex (fun pl => qal (fun rp => V (gout pl rp 1)) 4 0) 8 0 = gdown 1 V 0 := by
  rw [g_e8]
  simp only [g_a4, g_ac]
  show ((V 0 && V 0 && (V 0 && V 0)) || ((V 1 && V 1 && (V 1 && V 1)) || ((V 0 && V 0 && (V 0 && V 0)) || ((V 1 && V 1 && (V 1 && V 1)) || ((V 0 && V 0 && (V 0 && V 0)) || ((V 1 && V 1 && (V 1 && V 1)) || ((V 0 && V 0 && (V 0 && V 0)) || ((V 1 && V 1 && (V 1 && V 1)) || false)))))))) = (V 0 || V 1)
  generalize V 0 = v0
  generalize V 1 = v1
  cases v0 <;> cases v1 <;> rfl
theorem g_r2 (V : Nat → Bool) : qex (fun pl => qal (fun rp => V (gout pl rp 2)) 4 0) 8 0 = gdown 2 V 0 := by
  rw [g_e8]
  simp only [g_a4, g_ac]
  show ((V 0 && V 0 && (V 1 && V 1)) || ((V 2 && V 2 && (V 3 && V 3)) || ((V 0 && V 0 && (V 1 && V 1)) || ((V 2 && V 2 && (V 3 && V 3)) || ((V 0 && V 0 && (V 1 && V 1)) || ((V 2 && V 2 && (V 3 && V 3)) || ((V 0 && V 0 && (V 1 && V 1)) || ((V 2 && V 2 && (V 3 && V 3)) || false)))))))) = ((V 0 && V 1) || (V 2 && V 3))
  generalize V 0 = v0
  generalize V 1 = v1
  generalize V 2 = v2
  generalize V 3 = v3
  cases v0 <;> cases v1 <;> cases v2 <;> cases v3 <;> rfl
theorem g_r3 (V : Nat → Bool) : qex (fun pl => qal (fun rp => V (gout pl rp 3)) 4 0) 8 0 = gdown 3 V 0 := by
  rw [g_e8]
  simp only [g_a4, g_ac]
  show ((V 0 && V 0 && (V 2 && V 2)) || ((V 4 && V 4 && (V 6 && V 6)) || ((V 1 && V 1 && (V 2 && V 2)) || ((V 5 && V 5 && (V 6 && V 6)) || ((V 0 && V 0 && (V 3 && V 3)) || ((V 4 && V 4 && (V 7 && V 7)) || ((V 1 && V 1 && (V 3 && V 3)) || ((V 5 && V 5 && (V 7 && V 7)) || false)))))))) = (((V 0 || V 1) && (V 2 || V 3)) || ((V 4 || V 5) && (V 6 || V 7)))
  generalize V 0 = v0
  generalize V 1 = v1
  generalize V 2 = v2
  generalize V 3 = v3
  generalize V 4 = v4
  generalize V 5 = v5
  generalize V 6 = v6
  generalize V 7 = v7
  cases v0 <;> cases v1 <;> cases v2 <;> cases v3 <;> cases v4 <;> cases v5 <;> cases v6 <;> cases v7 <;> rfl
theorem g_r4 (V : Nat → Bool) : qex (fun pl => qal (fun rp => V (gout pl rp 4)) 4 0) 8 0 = gdown 4 V 0 := by
  rw [g_e8]
  simp only [g_a4, g_ac]
  show ((V 0 && V 1 && (V 4 && V 5)) || ((V 8 && V 9 && (V 12 && V 13)) || ((V 2 && V 3 && (V 4 && V 5)) || ((V 10 && V 11 && (V 12 && V 13)) || ((V 0 && V 1 && (V 6 && V 7)) || ((V 8 && V 9 && (V 14 && V 15)) || ((V 2 && V 3 && (V 6 && V 7)) || ((V 10 && V 11 && (V 14 && V 15)) || false)))))))) = ((((V 0 && V 1) || (V 2 && V 3)) && ((V 4 && V 5) || (V 6 && V 7))) || (((V 8 && V 9) || (V 10 && V 11)) && ((V 12 && V 13) || (V 14 && V 15))))
  generalize (V 0 && V 1) = v0
  generalize (V 2 && V 3) = v1
  generalize (V 4 && V 5) = v2
  generalize (V 6 && V 7) = v3
  generalize (V 8 && V 9) = v4
  generalize (V 10 && V 11) = v5
  generalize (V 12 && V 13) = v6
  generalize (V 14 && V 15) = v7
  cases v0 <;> cases v1 <;> cases v2 <;> cases v3 <;> cases v4 <;> cases v5 <;> cases v6 <;> cases v7 <;> rfl
theorem g_any {r : Nat} (h1 : 1 ≤ r) (hr : r ≤ 4) (V : Nat → Bool) : qex (fun pl => qal (fun rp => V (gout pl rp r)) 4 0) 8 0 = gdown r V 0 := by
  rcases (show r = 1 ∨ r = 2 ∨ r = 3 ∨ r = 4 by omega) with rfl | rfl | rfl | rfl
  · exact g_r1 V
  · exact g_r2 V
  · exact g_r3 V
  · exact g_r4 V
theorem g_plan {r s : Nat} (h1 : 1 ≤ r) (hr : r ≤ 4) (hs : s < 2 ^ 2 ^ r) : fX1_isWonBySomePlan (nI r) (nI s) = some (qbi (gdown r (fun i => s.testBit i) 0)) := by
  have h16 := g_in2 hr
  rw [fX1_isWonBySomePlan_e, ← g_any h1 hr (fun i => s.testBit i)]
  exact g_pl hr (by omega) 8 0 4096 (by omega) (by omega)
/-- whether a game is one, both ways -/
theorem g_inr {r : Nat} (h1 : 1 ≤ r) (hr : r ≤ 4) (x : Int32) : fX1_isInRange (nI r) x = some (if q_lo x (2 ^ 2 ^ r) then 1 else 0) := by
  have h4 := g_in hr
  rw [fX1_isInRange_e, q_b1 (show fX5_isBetween 1 (nI r) 4 = some 1 from q_btw ⟨h1, hr⟩ (by decide)), if_neg q_10, q_shl1 (by omega)]
  by_cases hc : q_lo x (2 ^ 2 ^ r)
  · rw [if_pos ((q_uset (by omega) x).mpr hc), if_pos hc]
  · rw [if_neg (fun z => hc ((q_uset (by omega) x).mp z)), if_neg hc]
theorem g_ask {F : xF} {G : xG} {r : Nat} (h1 : 1 ≤ r) (hr : r ≤ 4) (x : Int32) : fX6_ask F G (nI r) x = if q_lo x (2 ^ 2 ^ r) then x_b2 (fX6_isHad G (nI r) x) (fun r10 G11 => (if r10 = 0 then some (0, va_up F 0 0, G11) else some (1, va_up F 0 0, G11))) else some (0, va_up F 0 1, G) := by
  have h4 := g_in hr
  have h16 := g_in2 hr
  rw [fX6_ask_e, q_b1 (show fX6_in (nI r) 1 4 = some 1 from q_inw ⟨h1, hr⟩ (by decide)), if_neg q_10, q_shl1 (by omega), q_shl1 (by omega), q_b1 (q_in (by omega) x)]
  by_cases hc : q_lo x (2 ^ 2 ^ r)
  · rw [if_pos hc, if_neg q_10, if_pos hc, fX6_ask_j29_e, if_neg q_10, fX6_ask_j40_e, b_b2 (q_g0 F), if_neg q_10]
  · rw [if_neg hc, if_pos rfl, if_neg hc, fX6_ask_j28_e, fX6_ask_j29_e, if_pos rfl, fX6_ask_j40_e, b_b2 (q_g1 F q_10), if_pos rfl]
theorem g_askn {F : xF} {G : xG} {p x : Int32} (h : fX6_in p 1 4 = some 0) : fX6_ask F G p x = some (0, va_up F 0 1, G) := by
  rw [fX6_ask_e, q_b1 h, if_pos rfl, fX6_ask_j28_e, fX6_ask_j29_e, if_pos rfl, fX6_ask_j40_e, b_b2 (q_g1 F q_10), if_pos rfl]
theorem g_askp {F : xF} {G : xG} {r s : Nat} (h1 : 1 ≤ r) (hr : r ≤ 4) (hs : s < 2 ^ 2 ^ r) : ∃ g', fX6_ask F G (nI r) (nI s) = some (qbi (gdown r (fun i => s.testBit i) 0), va_up F 0 0, va_up G 31 g') := by
  obtain ⟨g', h⟩ := g_had (G := G) hr hs
  refine ⟨g', ?_⟩
  rw [g_ask h1 hr, if_pos (q_loI hs), b_b2 h]
  cases gdown r (fun i => s.testBit i) 0 with
  | true => exact if_neg (by decide)
  | false => exact if_pos (by decide)
theorem o_has (X : XT) : oL_has (LRg X) := by
  intro Fp Gp Fo Go Fz Gz Fq Gq F G h p c
  obtain ⟨hX, hZ, hQ⟩ := h
  by_cases c1 : ∃ r, (1 ≤ r ∧ r ≤ 4) ∧ p = nI r
  rotate_left
  · obtain ⟨b1, b2⟩ := q_btn (k := 4) (by decide) c1
    refine ⟨1, 0, 0, va_up F 0 1, G, fun _ => rfl, ?_, ?_, rfl, fun h => absurd h q_10, hX, hZ, hQ⟩
    · rw [fX5_has_e, fX1_isInRange_e, q_b1 (show fX5_isBetween 1 p 4 = some 0 from b1), if_pos rfl, q_b1 rfl, if_pos rfl]
    · rw [fX6_has_e, b_b3 (g_askn b2)]; rfl
  obtain ⟨r, hr, rfl⟩ := c1
  by_cases c2 : q_lo c (2 ^ 2 ^ r)
  rotate_left
  · refine ⟨1, 0, 0, va_up F 0 1, G, fun _ => rfl, ?_, ?_, rfl, fun h => absurd h q_10, hX, hZ, hQ⟩
    · rw [fX5_has_e, q_b1 (g_inr hr.1 hr.2 c), if_neg c2, if_pos rfl]
    · rw [fX6_has_e, g_ask hr.1 hr.2, if_neg c2, b_b3 rfl]; rfl
  obtain ⟨s, hs, rfl⟩ := c2
  obtain ⟨g', h3⟩ := g_askp (F := F) (G := G) hr.1 hr.2 hs
  refine ⟨0, qbi (gdown r (fun i => s.testBit i) 0), qbi (gdown r (fun i => s.testBit i) 0), va_up F 0 0, va_up G 31 g', fun h => absurd rfl h, ?_, ?_, rfl, fun _ => rfl, hX, hZ, hQ⟩
  · rw [fX5_has_e, q_b1 (g_inr hr.1 hr.2 _), if_pos (q_loI hs), if_neg q_10, q_b1 (g_won hr.2 hs), x_znq]
  · rw [fX6_has_e, b_b3 h3, x_znq]
theorem o_hasAnew (X : XT) : oL_hasAnew (LRg X) := by
  intro Fp Gp Fo Go Fz Gz Fq Gq F G h p c
  obtain ⟨hX, hZ, hQ⟩ := h
  by_cases c1 : ∃ r, (1 ≤ r ∧ r ≤ 4) ∧ p = nI r
  rotate_left
  · obtain ⟨b1, b2⟩ := q_btn (k := 4) (by decide) c1
    refine ⟨1, 0, 0, va_up F 0 1, G, fun _ => rfl, ?_, ?_, rfl, fun h => absurd h q_10, hX, hZ, hQ⟩
    · rw [fX5_hasAnew_e, fX1_isInRange_e, q_b1 (show fX5_isBetween 1 p 4 = some 0 from b1), if_pos rfl, q_b1 rfl, if_pos rfl]
    · rw [fX6_hasAnew_e, b_b3 (g_askn b2)]; rfl
  obtain ⟨r, hr, rfl⟩ := c1
  by_cases c2 : q_lo c (2 ^ 2 ^ r)
  rotate_left
  · refine ⟨1, 0, 0, va_up F 0 1, G, fun _ => rfl, ?_, ?_, rfl, fun h => absurd h q_10, hX, hZ, hQ⟩
    · rw [fX5_hasAnew_e, q_b1 (g_inr hr.1 hr.2 c), if_neg c2, if_pos rfl]
    · rw [fX6_hasAnew_e, g_ask hr.1 hr.2, if_neg c2, b_b3 rfl]; rfl
  obtain ⟨s, hs, rfl⟩ := c2
  obtain ⟨g', h3⟩ := g_askp (F := F) (G := G) hr.1 hr.2 hs
  refine ⟨0, qbi (gdown r (fun i => s.testBit i) 0), qbi (gdown r (fun i => s.testBit i) 0), va_up F 0 0, va_up G 31 g', fun h => absurd rfl h, ?_, ?_, rfl, fun _ => rfl, hX, hZ, hQ⟩
  · rw [fX5_hasAnew_e, q_b1 (g_inr hr.1 hr.2 _), if_pos (q_loI hs), if_neg q_10, q_b1 (g_plan hr.1 hr.2 hs), x_znq]
  · rw [fX6_hasAnew_e, b_b3 h3, x_znq]
end QG
