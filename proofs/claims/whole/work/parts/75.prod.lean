section QM
/-! products -/
/-- whether an answer of the product solves, by the two problems' bits -/
def qpb (s1 s2 m2 a2 j : Nat) : Bool := s1.testBit (4 * (j / 4 / m2) + j % 4 / a2) && s2.testBit (4 * (j / 4 % m2) + j % 4 % a2)
/-- the class's product of two rows of answers -/
def qsb (x y a2 : Nat) : Nat → Nat → Nat → Nat
  | 0, _, v => v
  | k + 1, b, v => qsb x y a2 k (b + 1) (if x.testBit b = true then v ||| y * 2 ^ (b * a2) else v)
theorem q_sbl {x y a2 : Nat} (hx : x < 16) (hy : y < 16) (ha : a2 ≤ 4) : ∀ (k b N v : Nat), b + k = 4 → k < N → fX3_solvingBoth_l5 (nI x) (nI y) (nI a2) N (nI v) (nI b) = some (nI (qsb x y a2 k b v)) := by
  intro k
  induction k with
  | zero =>
    intro b N v h1 h2
    cases N with
    | zero => omega
    | succ N =>
      have e : b = 4 := by omega
      subst e
      rw [fX3_solvingBoth_l5_e, if_pos (by decide)]; rfl
  | succ k ih =>
    intro b N v h1 h2
    cases N with
    | zero => omega
    | succ N =>
      rw [fX3_solvingBoth_l5_e, if_neg (fun z => by have := (q_le (a := 4) (b := b) (by omega) (by omega)).mp z; omega), qsb, q_bit (by omega) (by omega)]
      cases hb : x.testBit b with
      | false =>
        rw [if_neg q_ft, if_pos rfl, if_neg q_ft, fX3_solvingBoth_j29_e, nI_1, ih (b + 1) N v (by omega) (by omega)]
      | true =>
        have h12 : b * a2 ≤ 12 := by
          have : b * a2 ≤ 3 * 4 := Nat.mul_le_mul (by omega) ha
          omega
        have hp : 2 ^ (b * a2) ≤ 2 ^ 12 := Nat.pow_le_pow_right (by decide) h12
        have hyp : y * 2 ^ (b * a2) ≤ 15 * 2 ^ 12 := Nat.mul_le_mul (by omega) hp
        rw [if_pos q_tt, if_neg q_10, if_pos q_tt, fX3_solvingBoth_j29_e, pk_mul, q_shl (by omega) (by omega), q_or, nI_1, ih (b + 1) N _ (by omega) (by omega)]
theorem qsb_b {x y a1 a2 : Nat} (ha : 1 ≤ a2) (hy : ∀ b, y.testBit b = true → b < a2) : ∀ (k b v : Nat), ∀ j, (qsb x y a2 k b v).testBit j = (v.testBit j || (decide (b ≤ j / a2 ∧ j / a2 < b + k) && (x.testBit (j / a2) && y.testBit (j % a2)))) := by
  intro k
  induction k with
  | zero =>
    intro b v j
    rw [qsb, decide_eq_false (by omega)]
    simp
  | succ k ih =>
    intro b v j
    have hstep : ((if x.testBit b = true then v ||| y * 2 ^ (b * a2) else v) : Nat).testBit j = (v.testBit j || (decide (j / a2 = b) && (x.testBit b && y.testBit (j % a2)))) := by
      by_cases hx : x.testBit b = true
      · rw [if_pos hx, Nat.testBit_or, Nat.testBit_mul_two_pow, hx, Bool.true_and]
        congr 1
        by_cases h1 : j / a2 = b
        · have h2 : b * a2 ≤ j := by rw [← h1]; exact Nat.div_mul_le_self j a2
          have h3 : j - b * a2 = j % a2 := by
            have := Nat.div_add_mod j a2
            rw [h1, Nat.mul_comm] at this
            omega
          rw [decide_eq_true h1, decide_eq_true h2, h3]
        · rw [decide_eq_false h1, Bool.false_and]
          by_cases h2 : b * a2 ≤ j
          · cases ht : y.testBit (j - b * a2) with
            | false => rw [Bool.and_false]
            | true =>
              exfalso
              have h3 := hy _ ht
              apply h1
              rw [Nat.div_eq_iff (by omega)]
              have e : b * a2 = a2 * b := Nat.mul_comm _ _
              omega
          · rw [decide_eq_false h2, Bool.false_and]
      · have hx2 : x.testBit b = false := by
          cases hz : x.testBit b with
          | false => rfl
          | true => exact absurd hz hx
        rw [if_neg hx, hx2, Bool.false_and, Bool.and_false, Bool.or_false]
    rw [qsb, ih, hstep, Bool.or_assoc]
    congr 1
    by_cases h1 : j / a2 = b
    · rw [decide_eq_true h1, decide_eq_false (show ¬ (b + 1 ≤ j / a2 ∧ j / a2 < b + 1 + k) by omega), decide_eq_true (show b ≤ j / a2 ∧ j / a2 < b + (k + 1) by omega), h1, Bool.true_and, Bool.false_and, Bool.or_false]
    · rw [decide_eq_false h1, Bool.false_and, Bool.false_or]
      by_cases h2 : b + 1 ≤ j / a2 ∧ j / a2 < b + 1 + k
      · rw [decide_eq_true h2, decide_eq_true (show b ≤ j / a2 ∧ j / a2 < b + (k + 1) by omega)]
      · rw [decide_eq_false h2, decide_eq_false (show ¬ (b ≤ j / a2 ∧ j / a2 < b + (k + 1)) by omega)]
/-- one row of the product, as the class makes it -/
def qrow (s1 s2 a2 i t : Nat) : Nat := qsb (s1 / 2 ^ (4 * i) % 16) (s2 / 2 ^ (4 * t) % 16) a2 4 0 0
theorem qrow_b {s1 s2 m1 a1 m2 a2 i t : Nat} (ha1 : a1 * a2 ≤ 4) (h2 : 1 ≤ a2) (ha2 : a2 ≤ 4) (ha : a1 ≤ 4)
    (b1 : ∀ j, j < 16 → s1.testBit j = true → j / 4 < m1 ∧ j % 4 < a1) (b2 : ∀ j, j < 16 → s2.testBit j = true → j / 4 < m2 ∧ j % 4 < a2) (hi : i < 4) (ht : t < 4) (c : Nat) :
    (qrow s1 s2 a2 i t).testBit c = (decide (c < 4) && (s1.testBit (4 * i + c / a2) && s2.testBit (4 * t + c % a2))) := by
  have hcm : c % a2 < 4 := Nat.lt_of_lt_of_le (Nat.mod_lt _ h2) ha2
  rw [qrow, qsb_b (a1 := a1) h2 (fun b hb => by
    rw [q_svb, Bool.and_eq_true, decide_eq_true_eq] at hb
    have := b2 (4 * t + b) (by omega) hb.2
    omega), Nat.zero_testBit, Bool.false_or, q_svb, q_svb, decide_eq_true hcm, Bool.true_and]
  have hcd : c / a2 ≤ c := Nat.div_le_self _ _
  by_cases h1 : c < 4
  · rw [decide_eq_true h1, decide_eq_true (show 0 ≤ c / a2 ∧ c / a2 < 0 + 4 from ⟨Nat.zero_le _, by omega⟩), decide_eq_true (show c / a2 < 4 by omega), Bool.true_and, Bool.true_and, Bool.true_and]
  · rw [decide_eq_false h1, Bool.false_and]
    by_cases h3 : c / a2 < 4
    · cases hs : s1.testBit (4 * i + c / a2) with
      | false => rw [Bool.and_false, Bool.false_and, Bool.and_false]
      | true =>
        exfalso
        have h4 := b1 (4 * i + c / a2) (by omega) hs
        have h5 : c / a2 < a1 := by omega
        have h6 : c < a1 * a2 := (Nat.div_lt_iff_lt_mul h2).mp h5
        omega
    · rw [decide_eq_false h3, Bool.false_and, Bool.false_and, Bool.and_false]
theorem qrow_lt {s1 s2 m1 a1 m2 a2 i t : Nat} (ha1 : a1 * a2 ≤ 4) (h2 : 1 ≤ a2) (ha2 : a2 ≤ 4) (ha : a1 ≤ 4)
    (b1 : ∀ j, j < 16 → s1.testBit j = true → j / 4 < m1 ∧ j % 4 < a1) (b2 : ∀ j, j < 16 → s2.testBit j = true → j / 4 < m2 ∧ j % 4 < a2) (hi : i < 4) (ht : t < 4) : qrow s1 s2 a2 i t < 16 := by
  apply Nat.lt_pow_two_of_testBit (n := 4)
  intro c hc
  rw [qrow_b ha1 h2 ha2 ha b1 b2 hi ht, decide_eq_false (by omega), Bool.false_and]
/-- all rows, in the class's order -/
def qri (s1 s2 a2 m2 i : Nat) : Nat → Nat → Nat → Nat
  | 0, _, v => v
  | k + 1, t, v => qri s1 s2 a2 m2 i k (t + 1) (v ||| qrow s1 s2 a2 i t * 2 ^ (4 * (i * m2 + t)))
def qro (s1 s2 a2 m2 : Nat) : Nat → Nat → Nat → Nat
  | 0, _, v => v
  | k + 1, i, v => qro s1 s2 a2 m2 k (i + 1) (qri s1 s2 a2 m2 i m2 0 v)
theorem qri_b {s1 s2 m1 a1 m2 a2 i : Nat} (ha1 : a1 * a2 ≤ 4) (h2 : 1 ≤ a2) (ha2 : a2 ≤ 4) (ha : a1 ≤ 4) (hm : m1 * m2 ≤ 4) (him : i < m1) (hm2 : 1 ≤ m2)
    (b1 : ∀ j, j < 16 → s1.testBit j = true → j / 4 < m1 ∧ j % 4 < a1) (b2 : ∀ j, j < 16 → s2.testBit j = true → j / 4 < m2 ∧ j % 4 < a2) : ∀ (k t v : Nat), t + k = m2 → (∀ j, v.testBit j = (decide (j < 4 * (i * m2 + t)) && qpb s1 s2 m2 a2 j)) → ∀ j, (qri s1 s2 a2 m2 i k t v).testBit j = (decide (j < 4 * (i * m2 + m2)) && qpb s1 s2 m2 a2 j) := by
  have hml : (i + 1) * m2 ≤ 4 := Nat.le_trans (Nat.mul_le_mul_right _ him) hm
  rw [Nat.add_mul, Nat.one_mul] at hml
  have hi4 : i < 4 := by
    have : i * 1 ≤ i * m2 := Nat.mul_le_mul_left _ hm2
    omega
  intro k
  induction k with
  | zero =>
    intro t v h1 hv j
    have e : t = m2 := by omega
    subst e
    exact hv j
  | succ k ih =>
    intro t v h1 hv j
    rw [qri]
    apply ih (t + 1) _ (by omega)
    intro j
    rw [Nat.testBit_or, hv j, Nat.testBit_mul_two_pow, qrow_b ha1 h2 ha2 ha b1 b2 hi4 (by omega)]
    by_cases g1 : j < 4 * (i * m2 + t)
    · rw [decide_eq_true g1, decide_eq_false (show ¬ 4 * (i * m2 + t) ≤ j by omega), decide_eq_true (show j < 4 * (i * m2 + (t + 1)) by omega), Bool.false_and, Bool.or_false]
    · rw [decide_eq_false g1, decide_eq_true (show 4 * (i * m2 + t) ≤ j by omega), Bool.false_and, Bool.false_or, Bool.true_and]
      by_cases g2 : j < 4 * (i * m2 + (t + 1))
      · have e1 : j / 4 = i * m2 + t := by omega
        have e2 : j - 4 * (i * m2 + t) = j % 4 := by omega
        have e3 : (i * m2 + t) / m2 = i := by
          rw [Nat.mul_comm, Nat.mul_add_div (by omega), Nat.div_eq_of_lt (by omega), Nat.add_zero]
        have e4 : (i * m2 + t) % m2 = t := by
          rw [Nat.mul_comm, Nat.mul_add_mod, Nat.mod_eq_of_lt (by omega)]
        rw [decide_eq_true g2, Bool.true_and, e2, decide_eq_true (show j % 4 < 4 by omega), Bool.true_and, qpb, e1, e3, e4]
      · rw [decide_eq_false g2, Bool.false_and, decide_eq_false (show ¬ j - 4 * (i * m2 + t) < 4 by omega), Bool.false_and]
theorem qro_b {s1 s2 m1 a1 m2 a2 : Nat} (ha1 : a1 * a2 ≤ 4) (h2 : 1 ≤ a2) (ha2 : a2 ≤ 4) (ha : a1 ≤ 4) (hm : m1 * m2 ≤ 4) (hm2 : 1 ≤ m2)
    (b1 : ∀ j, j < 16 → s1.testBit j = true → j / 4 < m1 ∧ j % 4 < a1) (b2 : ∀ j, j < 16 → s2.testBit j = true → j / 4 < m2 ∧ j % 4 < a2) : ∀ (k i v : Nat), i + k = m1 → (∀ j, v.testBit j = (decide (j < 4 * (i * m2)) && qpb s1 s2 m2 a2 j)) → ∀ j, (qro s1 s2 a2 m2 k i v).testBit j = (decide (j < 4 * (m1 * m2)) && qpb s1 s2 m2 a2 j) := by
  intro k
  induction k with
  | zero =>
    intro i v h1 hv j
    have e : i = m1 := by omega
    subst e
    exact hv j
  | succ k ih =>
    intro i v h1 hv j
    rw [qro]
    apply ih (i + 1) _ (by omega)
    intro j
    rw [qri_b ha1 h2 ha2 ha hm (by omega) hm2 b1 b2 m2 0 v (by omega) hv j, Nat.add_mul, Nat.one_mul]
theorem qri_lt {s1 s2 a2 m2 i : Nat} (hr : ∀ t, t < m2 → qrow s1 s2 a2 i t < 16) (hm : i * m2 + m2 ≤ 4) : ∀ (k t v : Nat), t + k = m2 → v < 65536 → qri s1 s2 a2 m2 i k t v < 65536 := by
  intro k
  induction k with
  | zero => intro t v _ h; exact h
  | succ k ih =>
    intro t v h1 h
    rw [qri]
    apply ih (t + 1) _ (by omega)
    apply Nat.or_lt_two_pow (n := 16) h
    have e1 : 2 ^ (4 * (i * m2 + t)) ≤ 2 ^ 12 := Nat.pow_le_pow_right (by decide) (by omega)
    have e2 : qrow s1 s2 a2 i t * 2 ^ (4 * (i * m2 + t)) ≤ 15 * 2 ^ 12 := Nat.mul_le_mul (by have := hr t (by omega); omega) e1
    omega
theorem q_pri {G : xG} {p1 p2 s1 m2 a2 s2 : Nat} (rec8 : Int32 → Int32 → Int32 → Option (Int32 × xF × xG)) {i : Nat} (h1 : p1 < 6) (h2 : p2 < 6) (g21 : G 2 p1 = nI s1) (g02 : G 0 p2 = nI m2) (g12 : G 1 p2 = nI a2) (g22 : G 2 p2 = nI s2) (k1 : s1 < 65536) (k2 : s2 < 65536) (ha2 : a2 ≤ 4) (hi4 : i < 4) (hml : i * m2 + m2 ≤ 4) (hr : ∀ t, t < m2 → qrow s1 s2 a2 i t < 16) : ∀ (k t N v : Nat), t + k = m2 → k < N → v < 65536 → fX3_addProduct_l22 rec8 G (nI p2) (nI i) (nI p1) N (nI v) (nI (i * m2 + t)) (nI t) = rec8 (nI (qri s1 s2 a2 m2 i k t v)) (nI (i * m2 + m2)) (nI (i + 1)) := by
  intro k
  induction k with
  | zero =>
    intro t N v e1 e2 hv
    cases N with
    | zero => omega
    | succ N =>
      have e : t = m2 := by omega
      subst e
      rw [fX3_addProduct_l22_e, q_ld h2 (by omega), q_cl (by omega), g02, if_pos ((q_le (by omega) (by omega)).mpr (Nat.le_refl _)), fX3_addProduct_x85_e, nI_1]
      rfl
  | succ k ih =>
    intro t N v e1 e2 hv
    cases N with
    | zero => omega
    | succ N =>
      have e3 : 2 ^ (4 * (i * m2 + t)) ≤ 2 ^ 12 := Nat.pow_le_pow_right (by decide) (by omega)
      have e4 : qrow s1 s2 a2 i t * 2 ^ (4 * (i * m2 + t)) ≤ 15 * 2 ^ 12 := Nat.mul_le_mul (by have := hr t (by omega); omega) e3
      have e5 : v ||| qrow s1 s2 a2 i t * 2 ^ (4 * (i * m2 + t)) < 65536 := Nat.or_lt_two_pow (n := 16) hv (by omega)
      have e6 : fX3_solvingBoth (nI (s1 / 2 ^ (4 * i) % 16)) (nI (s2 / 2 ^ (4 * t) % 16)) (nI a2) = some (nI (qrow s1 s2 a2 i t)) := by
        rw [fX3_solvingBoth_e]
        exact q_sbl (Nat.mod_lt _ (by decide)) (Nat.mod_lt _ (by decide)) ha2 4 0 4096 0 (by omega) (by omega)
      rw [fX3_addProduct_l22_e, q_ld h2 (by omega), q_cl (by omega), g02, if_neg (fun z => by have := (q_le (by omega) (by omega)).mp z; omega), q_ld h1 (by omega), q_cl (by omega), g21, q_b1 (q_sv (by omega) (by omega)), q_ld h2 (by omega), g22, q_b1 (q_sv (by omega) (by omega)), q_ld h2 (by omega), g12, q_b1 e6, show (4 : Int32) * nI (i * m2 + t) = nI (4 * (i * m2 + t)) from pk_mul 4 _, q_shl (by omega) (by omega), q_or, nI_1, nI_1, qri]
      exact ih (t + 1) N _ (by omega) (by omega) e5
theorem q_pro {G : xG} {F : xF} {n p1 p2 m1 a1 s1 m2 a2 s2 : Nat} (hF : F 6 = nI n) (hn : n < 6) (h1 : p1 < 6) (h2 : p2 < 6) (g01 : G 0 p1 = nI m1) (g11 : G 1 p1 = nI a1) (g21 : G 2 p1 = nI s1) (g02 : G 0 p2 = nI m2) (g12 : G 1 p2 = nI a2) (g22 : G 2 p2 = nI s2) (k1 : s1 < 65536) (k2 : s2 < 65536) (ha1 : a1 * a2 ≤ 4) (hb2 : 1 ≤ a2) (ha2 : a2 ≤ 4) (ha : a1 ≤ 4) (hm : m1 * m2 ≤ 4) (hm2 : 1 ≤ m2)
    (b1 : ∀ j, j < 16 → s1.testBit j = true → j / 4 < m1 ∧ j % 4 < a1) (b2 : ∀ j, j < 16 → s2.testBit j = true → j / 4 < m2 ∧ j % 4 < a2) : ∀ (k i N v : Nat), i + k = m1 → k < N → v < 65536 → fX3_addProduct_l8 G F (nI p1) (nI p2) N (nI v) (nI (i * m2)) (nI i) = some (nI n, va_up F 6 (nI (n + 1)), va_up (va_up (va_up G 0 (upd (G 0) n (nI (m1 * m2)))) 1 (upd (G 1) n (nI (a1 * a2)))) 2 (upd (G 2) n (nI (qro s1 s2 a2 m2 k i v)))) := by
  have hm14 : m1 ≤ 4 := by
    have : m1 * 1 ≤ m1 * m2 := Nat.mul_le_mul_left _ hm2
    omega
  intro k
  induction k with
  | zero =>
    intro i N v e1 e2 hv
    cases N with
    | zero => omega
    | succ N =>
      have e : i = m1 := by omega
      subst e
      rw [fX3_addProduct_l8_e, q_ld h1 (by omega), q_cl (by omega), g01, if_pos ((q_le (by omega) (by omega)).mpr (Nat.le_refl _)), fX3_addProduct_x91_e, q_ld h1 (by omega), q_ld h2 (by omega), q_cl (by omega), q_cl (by omega), g11, g12, pk_mul, b_b3 (q_add hF hn _ _ _)]
      rfl
  | succ k ih =>
    intro i N v e1 e2 hv
    cases N with
    | zero => omega
    | succ N =>
      have hml : (i + 1) * m2 ≤ 4 := Nat.le_trans (Nat.mul_le_mul_right _ (show i + 1 ≤ m1 by omega)) hm
      have hml2 : i * m2 + m2 ≤ 4 := by rw [Nat.add_mul, Nat.one_mul] at hml; exact hml
      have hr : ∀ t, t < m2 → qrow s1 s2 a2 i t < 16 := fun t ht => qrow_lt ha1 hb2 ha2 ha b1 b2 (by omega) (by omega)
      rw [fX3_addProduct_l8_e, q_ld h1 (by omega), q_cl (by omega), g01, if_neg (fun z => by have := (q_le (by omega) (by omega)).mp z; omega)]
      have q := q_pri (G := G) (fX3_addProduct_l8 G F (nI p1) (nI p2) N) (i := i) h1 h2 g21 g02 g12 g22 k1 k2 ha2 (by omega) hml2 hr m2 0 4096 v (by omega) (by omega) hv
      rw [Nat.add_zero] at q
      refine q.trans ?_
      rw [show i * m2 + m2 = (i + 1) * m2 by rw [Nat.add_mul, Nat.one_mul]]
      exact ih (i + 1) N _ (by omega) (by omega) (qri_lt hr hml2 m2 0 v (by omega) hv)
/-- the reference's row and rows -/
def qmi (s1 s2 m2 a2 i : Nat) : Nat → Nat → Nat → Nat
  | 0, _, v => v
  | k + 1, b, v => qmi s1 s2 m2 a2 i k (b + 1) (if qpb s1 s2 m2 a2 (4 * i + b) = true then v ||| 2 ^ (4 * i + b) else v)
def qmo (s1 s2 m2 a2 ab : Nat) : Nat → Nat → Nat → Nat
  | 0, _, v => v
  | k + 1, i, v => qmo s1 s2 m2 a2 ab k (i + 1) (qmi s1 s2 m2 a2 i ab 0 v)
theorem qmi_b {s1 s2 m2 a2 i : Nat} : ∀ (k b v : Nat), b + k ≤ 4 → ∀ j, (qmi s1 s2 m2 a2 i k b v).testBit j = (v.testBit j || (decide (4 * i + b ≤ j ∧ j < 4 * i + b + k) && qpb s1 s2 m2 a2 j)) := by
  intro k
  induction k with
  | zero =>
    intro b v _ j
    rw [qmi, decide_eq_false (by omega)]
    simp
  | succ k ih =>
    intro b v h j
    have hs : ((if qpb s1 s2 m2 a2 (4 * i + b) = true then v ||| 2 ^ (4 * i + b) else v) : Nat).testBit j = (v.testBit j || (decide (4 * i + b = j) && qpb s1 s2 m2 a2 j)) := by
      by_cases h1 : 4 * i + b = j
      · rw [h1, decide_eq_true rfl, Bool.true_and]
        by_cases h2 : qpb s1 s2 m2 a2 j = true
        · rw [if_pos h2, Nat.testBit_or, Nat.testBit_two_pow_self, h2]
        · rw [if_neg h2]
          cases hq : qpb s1 s2 m2 a2 j with
          | false => rw [Bool.or_false]
          | true => exact absurd hq h2
      · rw [decide_eq_false h1, Bool.false_and, Bool.or_false]
        split
        · rw [Nat.testBit_or, Nat.testBit_two_pow_of_ne h1, Bool.or_false]
        · rfl
    rw [qmi, ih (b + 1) _ (by omega) j, hs, Bool.or_assoc]
    congr 1
    by_cases h1 : 4 * i + b = j
    · rw [decide_eq_true h1, decide_eq_false (show ¬ (4 * i + (b + 1) ≤ j ∧ j < 4 * i + (b + 1) + k) by omega), decide_eq_true (show 4 * i + b ≤ j ∧ j < 4 * i + b + (k + 1) by omega), Bool.false_and, Bool.or_false]
    · rw [decide_eq_false h1, Bool.false_and, Bool.false_or]
      by_cases h2 : 4 * i + (b + 1) ≤ j ∧ j < 4 * i + (b + 1) + k
      · rw [decide_eq_true h2, decide_eq_true (show 4 * i + b ≤ j ∧ j < 4 * i + b + (k + 1) by omega)]
      · rw [decide_eq_false h2, decide_eq_false (show ¬ (4 * i + b ≤ j ∧ j < 4 * i + b + (k + 1)) by omega)]
theorem qmo_b {s1 s2 m2 a2 ab : Nat} (hab : ab ≤ 4) (hc : ∀ j, j % 4 ≥ ab → qpb s1 s2 m2 a2 j = false ∨ 16 ≤ j) : ∀ (k i v : Nat), i + k ≤ 4 → (∀ j, v.testBit j = (decide (j < 4 * i) && qpb s1 s2 m2 a2 j)) → ∀ j, (qmo s1 s2 m2 a2 ab k i v).testBit j = (decide (j < 4 * (i + k)) && qpb s1 s2 m2 a2 j) := by
  intro k
  induction k with
  | zero => intro i v _ hv j; exact hv j
  | succ k ih =>
    intro i v h hv j
    rw [qmo, show i + (k + 1) = i + 1 + k by omega]
    apply ih (i + 1) _ (by omega)
    intro j
    rw [qmi_b ab 0 v (by omega) j, hv j]
    by_cases h1 : j < 4 * i
    · rw [decide_eq_true h1, decide_eq_true (show j < 4 * (i + 1) by omega), decide_eq_false (show ¬ (4 * i + 0 ≤ j ∧ j < 4 * i + 0 + ab) by omega), Bool.false_and, Bool.or_false]
    · rw [decide_eq_false h1, Bool.false_and, Bool.false_or]
      by_cases h2 : j < 4 * (i + 1)
      · rw [decide_eq_true h2, Bool.true_and]
        by_cases h3 : 4 * i + 0 ≤ j ∧ j < 4 * i + 0 + ab
        · rw [decide_eq_true h3, Bool.true_and]
        · rw [decide_eq_false h3, Bool.false_and]
          rcases hc j (by omega) with e | e
          · rw [e]
          · omega
      · rw [decide_eq_false h2, decide_eq_false (show ¬ (4 * i + 0 ≤ j ∧ j < 4 * i + 0 + ab) by omega)]
theorem qmi_lt {s1 s2 m2 a2 i : Nat} (hi : i < 4) : ∀ (k b v : Nat), b + k ≤ 4 → v < 65536 → qmi s1 s2 m2 a2 i k b v < 65536 := by
  intro k
  induction k with
  | zero => intro b v _ h; exact h
  | succ k ih =>
    intro b v h1 h
    rw [qmi]
    apply ih (b + 1) _ (by omega)
    split
    · exact Nat.or_lt_two_pow (n := 16) h (Nat.pow_lt_pow_right (by decide) (by omega))
    · exact h
theorem q_mri {G : xG} {p1 p2 m1 a1 s1 m2 a2 s2 : Nat} (rec139 : Int32 → Int32 → Option (Int32 × xF × xG)) {i : Nat} (h1 : p1 < 6) (h2 : p2 < 6) (g11 : G 29 p1 = nI a1) (g21 : G 30 p1 = nI s1) (g02 : G 28 p2 = nI m2) (g12 : G 29 p2 = nI a2) (g22 : G 30 p2 = nI s2) (k1 : s1 < 65536) (k2 : s2 < 65536) (ha1 : a1 * a2 ≤ 4) (hb2 : 1 ≤ a2) (ha2 : a2 ≤ 4) (hm2 : 1 ≤ m2) (hm24 : m2 ≤ 4) (hi4 : i < 4) : ∀ (k b N v : Nat), b + k = a1 * a2 → k < N → v < 65536 → fX6_product_l149 rec139 G (nI p1) (nI p2) (nI i) N (nI v) (nI b) = rec139 (nI (qmi s1 s2 m2 a2 i k b v)) (nI (i + 1)) := by
  intro k
  induction k with
  | zero =>
    intro b N v e1 e2 hv
    cases N with
    | zero => omega
    | succ N =>
      rw [fX6_product_l149_e, q_cl (by omega), q_cl (by omega), g11, g12, pk_mul, if_pos ((q_le (by omega) (by omega)).mpr (by omega)), fX6_product_x248_e, nI_1]
      rfl
  | succ k ih =>
    intro b N v e1 e2 hv
    cases N with
    | zero => omega
    | succ N =>
      have nm2 : ¬ nI m2 = 0 := fun z => by have := (q_nI0 (by omega)).mp z; omega
      have na2 : ¬ nI a2 = 0 := fun z => by have := (q_nI0 (by omega)).mp z; omega
      have d1 : i / m2 ≤ i := Nat.div_le_self _ _
      have d2 : b / a2 ≤ b := Nat.div_le_self _ _
      have d3 : i % m2 < m2 := Nat.mod_lt _ hm2
      have d4 : b % a2 < a2 := Nat.mod_lt _ hb2
      have f1 : fX6_isSolved (nI s1) (nI i / nI m2) (nI b / nI a2) = some (if s1.testBit (4 * (i / m2) + b / a2) = true then 1 else 0) := by
        rw [pk_div (by omega) hm2 (by omega), pk_div (by omega) hb2 (by omega)]
        exact q_isv (by omega) (by omega)
      have f2 : fX6_isSolved (nI s2) (x_rem (nI i) (nI m2)) (x_rem (nI b) (nI a2)) = some (if s2.testBit (4 * (i % m2) + b % a2) = true then 1 else 0) := by
        rw [show x_rem (nI i) (nI m2) = nI (i % m2) from pk_rem (by omega) hm2 (by omega), show x_rem (nI b) (nI a2) = nI (b % a2) from pk_rem (by omega) hb2 (by omega)]
        exact q_isv (by omega) (by omega)
      have eq1 : qpb s1 s2 m2 a2 (4 * i + b) = (s1.testBit (4 * (i / m2) + b / a2) && s2.testBit (4 * (i % m2) + b % a2)) := by
        rw [qpb, show (4 * i + b) / 4 = i by omega, show (4 * i + b) % 4 = b by omega]
      have e5 : v ||| 2 ^ (4 * i + b) < 65536 := Nat.or_lt_two_pow (n := 16) hv (Nat.pow_lt_pow_right (by decide) (by omega))
      rw [fX6_product_l149_e, q_cl (by omega), q_cl (by omega), g11, g12, pk_mul, if_neg (fun z => by have := (q_le (by omega) (by omega)).mp z; omega), q_ld h1 (by omega), q_ld h2 (by omega), g02, x_dvI nm2, q_ld h2 (by omega), x_dvI na2, g21, q_b1 f1, q_ld h2 (by omega), q_ld h2 (by omega), x_dvI nm2, q_ld h2 (by omega), x_dvI na2, g22, q_b1 f2, qmi, eq1]
      have hno : fX6_product_j238 (fX6_product_l149 rec139 G (nI p1) (nI p2) (nI i) N) (nI v) (nI b) = rec139 (nI (qmi s1 s2 m2 a2 i k (b + 1) v)) (nI (i + 1)) := by
        rw [fX6_product_j238_e, fX6_product_j239_e, show nI v ||| 0 = nI v from Int32.or_zero, nI_1, ih (b + 1) N v (by omega) (by omega) hv]
      cases c1 : s1.testBit (4 * (i / m2) + b / a2) with
      | false =>
        rw [if_neg q_ft, if_pos rfl, Bool.false_and, if_neg q_ft, hno]
      | true =>
        rw [if_pos q_tt, if_neg q_10, Bool.true_and]
        cases c2 : s2.testBit (4 * (i % m2) + b % a2) with
        | false => rw [if_neg q_ft, if_pos rfl, if_neg q_ft, hno]
        | true =>
          rw [if_pos q_tt, if_neg q_10, if_pos q_tt, fX6_product_j239_e, show (4 : Int32) * nI i = nI (4 * i) from pk_mul 4 i, nI_add, q_shl1 (by omega), q_or, nI_1, ih (b + 1) N _ (by omega) (by omega) e5]
theorem q_mro {G : xG} {F : xF} {n p1 p2 m1 a1 s1 m2 a2 s2 : Nat} (hF : F 27 = nI n) (hn : n < 6) (h1 : p1 < 6) (h2 : p2 < 6) (g01 : G 28 p1 = nI m1) (g11 : G 29 p1 = nI a1) (g21 : G 30 p1 = nI s1) (g02 : G 28 p2 = nI m2) (g12 : G 29 p2 = nI a2) (g22 : G 30 p2 = nI s2) (k1 : s1 < 65536) (k2 : s2 < 65536) (ha1 : a1 * a2 ≤ 4) (hb2 : 1 ≤ a2) (ha2 : a2 ≤ 4) (hm : m1 * m2 ≤ 4) (hm2 : 1 ≤ m2) (hm24 : m2 ≤ 4) : ∀ (k i N v : Nat), i + k = m1 * m2 → k < N → v < 65536 → fX6_product_l139 G F (nI p1) (nI p2) N (nI v) (nI i) = some (nI n, va_up F 27 (nI (n + 1)), va_up (va_up (va_up G 28 (upd (G 28) n (nI (m1 * m2)))) 29 (upd (G 29) n (nI (a1 * a2)))) 30 (upd (G 30) n (nI (qmo s1 s2 m2 a2 (a1 * a2) k i v)))) := by
  intro k
  induction k with
  | zero =>
    intro i N v e1 e2 hv
    cases N with
    | zero => omega
    | succ N =>
      rw [fX6_product_l139_e, q_cl (by omega), q_cl (by omega), g01, g02, pk_mul, if_pos ((q_le (by omega) (by omega)).mpr (by omega)), fX6_product_x254_e, q_cl (by omega), q_cl (by omega), g01, g02, g11, g12, pk_mul, pk_mul, b_b3 (q_addM hF hn _ _ _)]
      rfl
  | succ k ih =>
    intro i N v e1 e2 hv
    cases N with
    | zero => omega
    | succ N =>
      rw [fX6_product_l139_e, q_cl (by omega), q_cl (by omega), g01, g02, pk_mul, if_neg (fun z => by have := (q_le (by omega) (by omega)).mp z; omega)]
      refine (q_mri (m1 := m1) _ h1 h2 g11 g21 g02 g12 g22 k1 k2 ha1 hb2 ha2 hm2 hm24 (by omega) (a1 * a2) 0 4096 v (by omega) (by omega) hv).trans ?_
      exact ih (i + 1) N _ (by omega) (by omega) (qmi_lt (by omega) _ _ _ (by omega) hv)
theorem o_product (X : XT) : oL_product (LRg X) := by
  intro Fp Gp Fo Go Fz Gz Fq Gq F G h p c
  obtain ⟨hX, hZ, ⟨e6, g0, g1, g2, n, hn, hn6, ok⟩⟩ := h
  have f6 : Fq 6 = nI n := e6.trans hn
  have hQ : ∀ k, LQ Fq Gq (va_up F 0 k) G := fun k => ⟨e6, g0, g1, g2, n, hn, hn6, ok⟩
  have h95 : ∀ k : Int32, ¬ k = 0 → fX6_product_j95 F G p c k = some (0, va_up F 0 k, G) := fun k h => by
    rw [fX6_product_j95_e, b_b2 (q_g1 F h), if_pos rfl]
  have bad1 : fX3_hasBoth Fq p c = some 0 → fX6_product F G p c = fX6_product_j20 F G p c → ∃ (k r : Int32) (Fq' : xF) (Gq' : xG) (r' : Int32) (F' : xF) (G' : xG), (¬ k = 0 → ¬ k = 1 → k = 2) ∧ fX5_product Fq Gq p c = some (k, r, Fq', Gq') ∧ fX6_product F G p c = some (r', F', G') ∧ fX6_thrown F' = some k ∧ (k = 0 → r = r') ∧ LRg X Fp Gp Fo Go Fz Gz Fq' Gq' F' G' := fun k1 k2 => by
    refine ⟨1, 0, Fq, Gq, 0, va_up F 0 1, G, fun _ h => absurd rfl h, ?_, ?_, rfl, fun h => absurd h q_10, hX, hZ, hQ 1⟩
    · rw [fX5_product_e, q_b1 k1, if_pos rfl]
    · rw [k2, fX6_product_j20_e, fX6_product_j21_e, if_pos rfl, fX6_product_j73_e, fX6_product_j74_e, if_pos rfl, h95 1 q_10]
  by_cases c1 : q_lo p n
  rotate_left
  · refine bad1 ?_ ?_
    · rw [q_both f6 hn6, if_neg c1]
    · rw [fX6_product_e, q_b1 (q_isPb hn hn6 p), if_neg c1, if_pos rfl]
  by_cases c2 : q_lo c n
  rotate_left
  · refine bad1 ?_ ?_
    · rw [q_both f6 hn6, if_pos c1, if_neg c2]
    · rw [fX6_product_e, q_b1 (q_isPb hn hn6 p), if_pos c1, if_neg q_10, q_b1 (q_isPb hn hn6 c), if_neg c2, if_pos rfl]
  have hb : fX3_hasBoth Fq p c = some 1 := by rw [q_both f6 hn6, if_pos c1, if_pos c2]
  have hp : fX6_product F G p c = fX6_product_j21 F G p c 1 := by
    rw [fX6_product_e, q_b1 (q_isPb hn hn6 p), if_pos c1, if_neg q_10, q_b1 (q_isPb hn hn6 c), if_pos c2, if_neg q_10]
  have h73 : fX6_product_j73 F G 1 p c = some (0, va_up F 0 2, G) := by
    rw [fX6_product_j73_e, fX6_product_j74_e, if_neg q_10, if_pos rfl, h95 2 (by decide)]
  obtain ⟨p1, hp1, rfl⟩ := c1
  obtain ⟨p2, hp2, rfl⟩ := c2
  obtain ⟨m1, a1, s1, x1, x2, x3, x4, x5, x6, x7, x8, x9⟩ := ok p1 hp1
  obtain ⟨m2, a2, s2, y1, y2, y3, y4, y5, y6, y7, y8, y9⟩ := ok p2 hp2
  have bad2 : fX5_product Fq Gq (nI p1) (nI p2) = some (2, 0, Fq, Gq) → fX6_product F G (nI p1) (nI p2) = some (0, va_up F 0 2, G) → ∃ (k r : Int32) (Fq' : xF) (Gq' : xG) (r' : Int32) (F' : xF) (G' : xG), (¬ k = 0 → ¬ k = 1 → k = 2) ∧ fX5_product Fq Gq (nI p1) (nI p2) = some (k, r, Fq', Gq') ∧ fX6_product F G (nI p1) (nI p2) = some (r', F', G') ∧ fX6_thrown F' = some k ∧ (k = 0 → r = r') ∧ LRg X Fp Gp Fo Go Fz Gz Fq' Gq' F' G' := fun k1 k2 =>
    ⟨2, 0, Fq, Gq, 0, va_up F 0 2, G, fun _ _ => rfl, k1, k2, rfl, fun h => absurd h (by decide), hX, hZ, hQ 2⟩
  have q1 : p1 < 6 := by omega
  have q2 : p2 < 6 := by omega
  by_cases c4 : n < 6
  rotate_left
  · refine bad2 ?_ ?_
    · rw [fX5_product_e, q_b1 hb, if_neg q_10, fX3_hasAll_e, f6, if_neg (by exact fun z => c4 ((q_lt (b := 6) (by omega) (by omega)).mp z)), q_b1 rfl, if_neg q_10, fX5_product_j44_e]
    · rw [hp, fX6_product_j21_e, if_neg q_10, hn, if_pos (by exact (q_le (a := 6) (by omega) (by omega)).mpr (by omega)), h73]
  have hm16 : m1 * m2 ≤ 4 * 4 := Nat.mul_le_mul x5 y5
  have ha16 : a1 * a2 ≤ 4 * 4 := Nat.mul_le_mul x7 y7
  have hcan : fX3_canMultiply Gq (nI p1) (nI p2) = some (if m1 * m2 ≤ 4 ∧ a1 * a2 ≤ 4 then 1 else 0) := by
    rw [fX3_canMultiply_e, q_ld q1 (by omega), q_ld q2 (by omega), q_cl (by omega), q_cl (by omega), g0, x1, y1, pk_mul, g1, q_ld q1 (by omega), q_ld q2 (by omega), x2, y2, pk_mul]
    by_cases d1 : m1 * m2 ≤ 4
    · rw [if_neg (fun z => by have := (q_lt (a := 4) (by omega) (by omega)).mp z; omega)]
      by_cases d2 : a1 * a2 ≤ 4
      · rw [if_neg (fun z => by have := (q_lt (a := 4) (by omega) (by omega)).mp z; omega), if_pos ⟨d1, d2⟩]
      · rw [if_pos (by exact (q_lt (a := 4) (by omega) (by omega)).mpr (by omega)), if_neg (fun z => d2 z.2)]
    · rw [if_pos (by exact (q_lt (a := 4) (by omega) (by omega)).mpr (by omega)), if_neg (fun z => d1 z.1)]
  have hcl : fX5_product Fq Gq (nI p1) (nI p2) = if m1 * m2 ≤ 4 ∧ a1 * a2 ≤ 4 then x_b3 (fX3_addProduct Fq Gq (nI p1) (nI p2)) (fun r11 F12 G13 => some (0, r11, F12, G13)) else some (2, 0, Fq, Gq) := by
    rw [fX5_product_e, q_b1 hb, if_neg q_10, fX3_hasAll_e, f6, if_pos (by exact (q_lt (b := 6) (by omega) (by omega)).mpr c4), q_b1 rfl, if_pos rfl, q_b1 hcan]
    by_cases d : m1 * m2 ≤ 4 ∧ a1 * a2 ≤ 4
    · rw [if_pos d, if_neg q_10, if_pos d]
    · rw [if_neg d, if_pos rfl, if_neg d, fX5_product_j44_e]
  have hrf : fX6_product F G (nI p1) (nI p2) = if m1 * m2 ≤ 4 ∧ a1 * a2 ≤ 4 then fX6_product_j74 F G 1 (nI p1) (nI p2) 1 else some (0, va_up F 0 2, G) := by
    rw [hp, fX6_product_j21_e, if_neg q_10, hn, if_neg (fun z => by have := (q_le (a := 6) (by omega) (by omega)).mp z; omega), q_ld q1 (by omega), q_ld q2 (by omega), q_cl (by omega), q_cl (by omega), x1, y1, pk_mul, q_ld q1 (by omega), q_ld q2 (by omega), x2, y2, pk_mul, h73]
    by_cases d1 : m1 * m2 ≤ 4
    · rw [if_neg (fun z => by have := (q_lt (a := 4) (by omega) (by omega)).mp z; omega)]
      by_cases d2 : a1 * a2 ≤ 4
      · rw [if_neg (fun z => by have := (q_lt (a := 4) (by omega) (by omega)).mp z; omega), if_pos ⟨d1, d2⟩]
      · rw [if_pos (by exact (q_lt (a := 4) (by omega) (by omega)).mpr (by omega)), if_neg (fun z => d2 z.2)]
    · rw [if_pos (by exact (q_lt (a := 4) (by omega) (by omega)).mpr (by omega)), if_neg (fun z => d1 z.1)]
  by_cases d : m1 * m2 ≤ 4 ∧ a1 * a2 ≤ 4
  rotate_left
  · rw [if_neg d] at hcl hrf
    exact bad2 hcl hrf
  rw [if_pos d] at hcl hrf
  obtain ⟨d1, d2⟩ := d
  have hB : ∀ j, (qro s1 s2 a2 m2 m1 0 0).testBit j = (decide (j < 4 * (m1 * m2)) && qpb s1 s2 m2 a2 j) := qro_b d2 y6 y7 x7 d1 y4 x9 y9 m1 0 0 (by omega) (fun j => by rw [Nat.zero_testBit, decide_eq_false (by omega), Bool.false_and])
  have hpc : ∀ j, j < 16 → qpb s1 s2 m2 a2 j = true → j % 4 < a1 * a2 := fun j hj hq => by
    rw [qpb, Bool.and_eq_true] at hq
    have d3 : j / 4 / m2 ≤ j / 4 := Nat.div_le_self _ _
    have d4 : j % 4 / a2 ≤ j % 4 := Nat.div_le_self _ _
    have := x9 _ (by omega) hq.1
    have h5 : j % 4 / a2 < a1 := by omega
    exact (Nat.div_lt_iff_lt_mul y6).mp h5
  have hC : ∀ j, (qmo s1 s2 m2 a2 (a1 * a2) (m1 * m2) 0 0).testBit j = (decide (j < 4 * (0 + m1 * m2)) && qpb s1 s2 m2 a2 j) := qmo_b d2 (fun j hj => by
    rcases Nat.lt_or_ge j 16 with g | g
    · left
      cases hq : qpb s1 s2 m2 a2 j with
      | false => rfl
      | true => have := hpc j g hq; omega
    · exact Or.inr g) (m1 * m2) 0 0 (by omega) (fun j => by rw [Nat.zero_testBit, decide_eq_false (by omega), Bool.false_and])
  have hE : qmo s1 s2 m2 a2 (a1 * a2) (m1 * m2) 0 0 = qro s1 s2 a2 m2 m1 0 0 := Nat.eq_of_testBit_eq (fun j => by rw [hB, hC, Nat.zero_add])
  have hlt : qro s1 s2 a2 m2 m1 0 0 < 65536 := by
    apply Nat.lt_pow_two_of_testBit (n := 16)
    intro j hj
    rw [hB, decide_eq_false (by omega), Bool.false_and]
  have k1 := q_pro (G := Gq) (p1 := p1) (p2 := p2) f6 c4 q1 q2 (by rw [g0]; exact x1) (by rw [g1]; exact x2) (by rw [g2]; exact x3) (by rw [g0]; exact y1) (by rw [g1]; exact y2) (by rw [g2]; exact y3) x8 y8 d2 y6 y7 x7 d1 y4 x9 y9 m1 0 4096 0 (by omega) (by omega) (by omega)
  have k2 := q_mro (F := va_up F 0 0) (G := G) (p1 := p1) (p2 := p2) hn c4 q1 q2 x1 x2 x3 y1 y2 y3 x8 y8 d2 y6 y7 d1 y4 y5 (m1 * m2) 0 4096 0 (by omega) (by omega) (by omega)
  rw [Nat.zero_mul] at k1
  rw [hE] at k2
  refine ⟨0, nI n, va_up Fq 6 (nI (n + 1)), va_up (va_up (va_up Gq 0 (upd (Gq 0) n (nI (m1 * m2)))) 1 (upd (Gq 1) n (nI (a1 * a2)))) 2 (upd (Gq 2) n (nI (qro s1 s2 a2 m2 m1 0 0))), nI n, va_up (va_up F 0 0) 27 (nI (n + 1)), va_up (va_up (va_up G 28 (upd (G 28) n (nI (m1 * m2)))) 29 (upd (G 29) n (nI (a1 * a2)))) 30 (upd (G 30) n (nI (qro s1 s2 a2 m2 m1 0 0))), fun h => absurd rfl h, ?_, ?_, rfl, fun _ => rfl, hX, hZ, ?_⟩
  · rw [hcl, fX3_addProduct_e]
    exact b_b3 k1
  · rw [hrf, fX6_product_j74_e, if_neg q_10, if_neg q_10, fX6_product_j95_e, b_b2 (q_g0 F), if_neg q_10, q_ld q1 (by omega), q_ld q2 (by omega), q_ld q1 (by omega), q_ld q2 (by omega)]
    exact k2
  · have m1p : 1 ≤ m1 * m2 := Nat.mul_pos x4 y4
    have a1p : 1 ≤ a1 * a2 := Nat.mul_pos x6 y6
    have hq := qS_add c4 ok (show qOne (nI (m1 * m2)) (nI (a1 * a2)) (nI (qro s1 s2 a2 m2 m1 0 0)) from ⟨m1 * m2, a1 * a2, qro s1 s2 a2 m2 m1 0 0, rfl, rfl, rfl, m1p, d1, a1p, d2, hlt, fun j hj hb => by
      rw [hB, Bool.and_eq_true, decide_eq_true_eq] at hb
      exact ⟨by omega, hpc j hj hb.2⟩⟩)
    refine ⟨rfl, ?_, ?_, ?_, hq⟩
    · show upd (Gq 0) n _ = upd (G 28) n _; rw [g0]
    · show upd (Gq 1) n _ = upd (G 29) n _; rw [g1]
    · show upd (Gq 2) n _ = upd (G 30) n _; rw [g2]
end QM
