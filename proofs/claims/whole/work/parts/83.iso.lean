section QI
/-! a page tried in a world -/
def num (x v : Nat) : Nat := x / 5 ^ v % 5
def sub5 (x v n : Nat) : Nat := x - num x v * 5 ^ v + n * 5 ^ v
def inr (sz x : Nat) : Bool := decide (num x 0 < sz) && (decide (num x 1 < sz) && decide (num x 2 < sz))
/-- one part from its own ones -/
def ev (s v u sz : Nat) (A B : Nat → Bool) (x : Nat) : Bool :=
  if s = 0 then decide (num x v < num x u) else if s = 1 then decide (num x v = num x u) else if s = 2 then !A x else if s = 3 then A x && B x else if s = 4 then A x || B x else if s = 5 then !A x || B x
  else if s = 6 then qal (fun n => A (sub5 x v n)) sz 0 else if s = 7 then qex (fun n => A (sub5 x v n)) sz 0 else if s = 8 then qal (fun n => A (sub5 x v n)) (num x u) 0 else qex (fun n => A (sub5 x v n)) (num x u) 0
theorem ev_0 {v u sz : Nat} {A B : Nat → Bool} {x : Nat} : ev 0 v u sz A B x = decide (num x v < num x u) := rfl
theorem ev_1 {v u sz : Nat} {A B : Nat → Bool} {x : Nat} : ev 1 v u sz A B x = decide (num x v = num x u) := rfl
theorem ev_2 {v u sz : Nat} {A B : Nat → Bool} {x : Nat} : ev 2 v u sz A B x = (!A x) := rfl
theorem ev_3 {v u sz : Nat} {A B : Nat → Bool} {x : Nat} : ev 3 v u sz A B x = (A x && B x) := rfl
theorem ev_4 {v u sz : Nat} {A B : Nat → Bool} {x : Nat} : ev 4 v u sz A B x = (A x || B x) := rfl
theorem ev_5 {v u sz : Nat} {A B : Nat → Bool} {x : Nat} : ev 5 v u sz A B x = (!A x || B x) := rfl
theorem ev_6 {v u sz : Nat} {A B : Nat → Bool} {x : Nat} : ev 6 v u sz A B x = qal (fun n => A (sub5 x v n)) sz 0 := rfl
theorem ev_7 {v u sz : Nat} {A B : Nat → Bool} {x : Nat} : ev 7 v u sz A B x = qex (fun n => A (sub5 x v n)) sz 0 := rfl
theorem ev_8 {v u sz : Nat} {A B : Nat → Bool} {x : Nat} : ev 8 v u sz A B x = qal (fun n => A (sub5 x v n)) (num x u) 0 := rfl
theorem ev_9 {v u sz : Nat} {A B : Nat → Bool} {x : Nat} : ev 9 v u sz A B x = qex (fun n => A (sub5 x v n)) (num x u) 0 := rfl
theorem num_lt (x v : Nat) : num x v < 5 := Nat.mod_lt _ (by decide)
theorem p5_le {v : Nat} (h : v < 3) : 5 ^ v = 1 ∨ 5 ^ v = 5 ∨ 5 ^ v = 25 := by
  rcases (show v = 0 ∨ v = 1 ∨ v = 2 by omega) with rfl | rfl | rfl
  · exact Or.inl rfl
  · exact Or.inr (Or.inl rfl)
  · exact Or.inr (Or.inr rfl)
def subok (x v n : Nat) : Bool := decide (num x v * 5 ^ v ≤ x) && (decide (sub5 x v n < 125) && (decide (n * 5 ^ v ≤ 100) && decide (num (sub5 x v n) v = n ∧ (num (sub5 x v n) 0 = num x 0 ∨ 0 = v) ∧ (num (sub5 x v n) 1 = num x 1 ∨ 1 = v) ∧ (num (sub5 x v n) 2 = num x 2 ∨ 2 = v))))
theorem subok0 : ∀ x, x < 125 → ∀ v, v < 3 → ∀ n, n < 5 → subok x v n = true := by decide +kernel
theorem sub_le {x v : Nat} (hx : x < 125) (hv : v < 3) : num x v * 5 ^ v ≤ x := by
  have h := subok0 x hx v hv 0 (by decide)
  rw [subok, Bool.and_eq_true, decide_eq_true_eq] at h
  exact h.1
theorem sub_lt {x v n : Nat} (hx : x < 125) (hv : v < 3) (hn : n < 5) : sub5 x v n < 125 := by
  have h := subok0 x hx v hv n hn
  rw [subok, Bool.and_eq_true, Bool.and_eq_true, decide_eq_true_eq, decide_eq_true_eq] at h
  exact h.2.1
theorem sub_inr {x v n sz : Nat} (hx : x < 125) (hv : v < 3) (hn : n < sz) (hs : sz ≤ 5) (h : inr sz x = true) : inr sz (sub5 x v n) = true := by
  have h0 := subok0 x hx v hv n (by omega)
  rw [subok, Bool.and_eq_true, Bool.and_eq_true, Bool.and_eq_true, decide_eq_true_eq, decide_eq_true_eq, decide_eq_true_eq, decide_eq_true_eq] at h0
  obtain ⟨-, -, -, e1, w0, w1, w2⟩ := h0
  have e2 : ∀ w, w < 3 → num (sub5 x v n) w = num x w ∨ w = v := fun w hw => by
    rcases (show w = 0 ∨ w = 1 ∨ w = 2 by omega) with rfl | rfl | rfl
    · exact w0
    · exact w1
    · exact w2
  rw [inr, Bool.and_eq_true, Bool.and_eq_true, decide_eq_true_eq, decide_eq_true_eq, decide_eq_true_eq] at h ⊢
  have key : ∀ w, w < 3 → num x w < sz → num (sub5 x v n) w < sz := fun w hw h1 => by
    rcases e2 w hw with h2 | h2
    · rw [h2]; exact h1
    · rw [h2, e1]; exact hn
  exact ⟨key 0 (by decide) h.1, key 1 (by decide) h.2.1, key 2 (by decide) h.2.2⟩
theorem qal_cg {P Q : Nat → Bool} : ∀ (k i : Nat), (∀ j, i ≤ j → j < i + k → P j = Q j) → qal P k i = qal Q k i := by
  intro k
  induction k with
  | zero => intro i _; rfl
  | succ k ih => intro i h; rw [qal_s, qal_s, h i (Nat.le_refl _) (by omega), ih (i + 1) (fun j h1 h2 => h j (by omega) (by omega))]
theorem qex_cg {P Q : Nat → Bool} : ∀ (k i : Nat), (∀ j, i ≤ j → j < i + k → P j = Q j) → qex P k i = qex Q k i := by
  intro k
  induction k with
  | zero => intro i _; rfl
  | succ k ih => intro i h; rw [qex_s, qex_s, h i (Nat.le_refl _) (by omega), ih (i + 1) (fun j h1 h2 => h j (by omega) (by omega))]
theorem inr_u {x sz u : Nat} (h : inr sz x = true) (hu : u < 3) : num x u < sz := by
  rw [inr, Bool.and_eq_true, Bool.and_eq_true, decide_eq_true_eq, decide_eq_true_eq, decide_eq_true_eq] at h
  rcases (show u = 0 ∨ u = 1 ∨ u = 2 by omega) with rfl | rfl | rfl
  · exact h.1
  · exact h.2.1
  · exact h.2.2
theorem ev_cg {s v u sz x : Nat} {A A' B B' : Nat → Bool} (hx : x < 125) (hs : sz ≤ 5) (hi : inr sz x = true) (hv : s ≤ 1 ∨ 6 ≤ s → v < 3) (hu : s ≤ 1 ∨ 8 ≤ s → u < 3) (hs9 : s ≤ 9) (hA : 2 ≤ s → ∀ y, y < 125 → inr sz y = true → A y = A' y) (hB : 3 ≤ s ∧ s ≤ 5 → ∀ y, y < 125 → inr sz y = true → B y = B' y) : ev s v u sz A B x = ev s v u sz A' B' x := by
  have hsub : 6 ≤ s → ∀ n, n < sz → A (sub5 x v n) = A' (sub5 x v n) := fun h6 n hn => hA (by omega) _ (sub_lt hx (hv (Or.inr h6)) (by omega)) (sub_inr hx (hv (Or.inr h6)) hn hs hi)
  unfold ev
  by_cases h0 : s = 0
  · rw [if_pos h0, if_pos h0]
  rw [if_neg h0, if_neg h0]
  by_cases h1 : s = 1
  · rw [if_pos h1, if_pos h1]
  rw [if_neg h1, if_neg h1]
  by_cases h2 : s = 2
  · rw [if_pos h2, if_pos h2, hA (by omega) x hx hi]
  rw [if_neg h2, if_neg h2]
  by_cases h3 : s = 3
  · rw [if_pos h3, if_pos h3, hA (by omega) x hx hi, hB (by omega) x hx hi]
  rw [if_neg h3, if_neg h3]
  by_cases h4 : s = 4
  · rw [if_pos h4, if_pos h4, hA (by omega) x hx hi, hB (by omega) x hx hi]
  rw [if_neg h4, if_neg h4]
  by_cases h5 : s = 5
  · rw [if_pos h5, if_pos h5, hA (by omega) x hx hi, hB (by omega) x hx hi]
  rw [if_neg h5, if_neg h5]
  by_cases h6 : s = 6
  · rw [if_pos h6, if_pos h6]; exact qal_cg sz 0 (fun j _ hj => hsub (by omega) j (by omega))
  rw [if_neg h6, if_neg h6]
  by_cases h7 : s = 7
  · rw [if_pos h7, if_pos h7]; exact qex_cg sz 0 (fun j _ hj => hsub (by omega) j (by omega))
  rw [if_neg h7, if_neg h7]
  have hus := inr_u hi (hu (by omega))
  by_cases h8 : s = 8
  · rw [if_pos h8, if_pos h8]; exact qal_cg _ 0 (fun j _ hj => hsub (by omega) j (by omega))
  · rw [if_neg h8, if_neg h8]; exact qex_cg _ 0 (fun j _ hj => hsub (by omega) j (by omega))
theorem q_rem5 {x : Nat} (hx : x < 2 ^ 31) : x_rem (nI x) 5 = nI (x % 5) := pk_rem (d := 5) hx (by decide) (by decide)
theorem q_div5 {x : Nat} (hx : x < 2 ^ 31) : nI x / 5 = nI (x / 5) := pk_div (d := 5) hx (by decide) (by decide)
theorem q_div25 {x : Nat} (hx : x < 2 ^ 31) : nI x / 25 = nI (x / 25) := pk_div (d := 25) hx (by decide) (by decide)
theorem numC {x v : Nat} (hx : x < 125) (hv : v < 3) : fX0_number (nI x) (nI v) = some (nI (num x v)) := by
  rw [fX0_number_e]
  rcases (show v = 0 ∨ v = 1 ∨ v = 2 by omega) with rfl | rfl | rfl
  · rw [if_pos (by decide), x_dvI (by decide), q_rem5 (by omega), num, Nat.pow_zero, Nat.div_one]
  · rw [if_neg (by decide), if_pos (by decide), x_dvI (by decide), x_dvI (by decide), q_div5 (by omega), q_rem5 (by omega), num, Nat.pow_one]
  · rw [if_neg (by decide), if_neg (by decide), x_dvI (by decide), q_div25 (by omega), num, show 5 ^ 2 = 25 from rfl, Nat.mod_eq_of_lt (by omega)]
theorem numA {x : Nat} (w : Int32) : ∃ y, fX0_number (nI x) w = some y := by
  rw [fX0_number_e]
  split
  · exact ⟨_, x_dvI (by decide)⟩
  · split
    · exact ⟨_, (x_dvI (by decide)).trans (x_dvI (by decide))⟩
    · exact ⟨_, x_dvI (by decide)⟩
theorem stepC {v : Nat} (hv : v < 3) : fX0_step (nI v) = some (nI (5 ^ v)) := by
  rcases (show v = 0 ∨ v = 1 ∨ v = 2 by omega) with rfl | rfl | rfl <;> decide
theorem qbi_1 (b : Bool) : qbi b = 1 ↔ b = true := by cases b <;> decide
theorem qbi_0 (b : Bool) : qbi b = 0 ↔ b = false := by cases b <;> decide
/-- the class asks for a number below the bound -/
theorem somC {G : xG} {c x f v bd : Nat} {w : Int32} {A : Nat → Bool} (wb : Bool) (hw : w = qbi wb) (hc : c < 40) (hx : x < 125) (hv : v < 3) (hf : f < 40) (hbd : bd ≤ 5) (h3 : G 3 c = nI f) (h8 : ∀ y, y < 125 → G 8 (f * 125 + y) = qbi (A y)) : ∀ (k n N : Nat), n + k = bd → k < N → fX0_isSomewhere_l41 G (nI bd) (nI c) (nI x) (nI (num x v)) (nI (5 ^ v)) w N (nI n) = some (qbi (qex (fun n => A (sub5 x v n) == wb) k n)) := by
  subst hw
  intro k
  induction k with
  | zero =>
    intro n N h1 h2
    cases N with
    | zero => omega
    | succ N => rw [fX0_isSomewhere_l41_e, if_pos ((q_le (by omega) (by omega)).mpr (by omega))]; rfl
  | succ k ih =>
    intro n N h1 h2
    cases N with
    | zero => omega
    | succ N =>
      have s1 := sub_le hx hv
      have s2 := sub_lt (n := n) hx hv (by omega)
      have hidx : ((nI f * 125 + nI x) - nI (num x v) * nI (5 ^ v)) + nI n * nI (5 ^ v) = nI (f * 125 + sub5 x v n) := by
        rw [show nI f * 125 = nI (f * 125) from pk_mul f 125, nI_add, pk_mul, pk_mul, pk_sub (by omega), nI_add]
        congr 1
        rw [sub5]
        omega
      rw [fX0_isSomewhere_l41_e, if_neg (fun z => by have := (q_le (by omega) (by omega)).mp z; omega), q_cl (by omega), h3, hidx, q_ld (by omega) (by omega), q_cl (by omega), h8 _ s2, qex_s]
      by_cases he : A (sub5 x v n) = wb
      · rw [if_pos (by rw [he]), he]
        cases wb <;> rfl
      · rw [if_neg (fun z => he (by
          cases hA : A (sub5 x v n) <;> cases hW : wb <;> rw [hA, hW] at z <;> first | rfl | exact absurd z (by decide))), nI_1, ih (n + 1) N (by omega) (by omega)]
        have e : (A (sub5 x v n) == wb) = false := by
          cases hA : A (sub5 x v n) <;> cases hW : wb <;> first | rfl | (rw [hA, hW] at he; exact absurd rfl he)
        rw [e, Bool.false_or]
theorem somC2 {G : xG} {c x f v bd : Nat} {w : Int32} {A : Nat → Bool} (wb : Bool) (hw : w = qbi wb) (hc : c < 40) (hx : x < 125) (hv : v < 3) (hf : f < 40) (hbd : bd ≤ 5) (h1 : G 1 c = nI v) (h3 : G 3 c = nI f) (h8 : ∀ y, y < 125 → G 8 (f * 125 + y) = qbi (A y)) : fX0_isSomewhere G (nI c) (nI x) (nI bd) w = some (qbi (qex (fun n => A (sub5 x v n) == wb) bd 0)) := by
  rw [fX0_isSomewhere_e, q_ld hc (by omega), q_cl (by omega), h1, q_b1 (stepC hv), q_ld hc (by omega), q_b1 (numC hx hv)]
  exact somC wb hw hc hx hv hf hbd h3 h8 bd 0 4096 (by omega) (by omega)
theorem qex_t {P : Nat → Bool} (k i : Nat) : qex (fun n => P n == true) k i = qex P k i := qex_cg k i (fun j _ _ => by cases P j <;> rfl)
theorem qex_n {P : Nat → Bool} : ∀ (k i : Nat), (!qex (fun n => P n == false) k i) = qal P k i := by
  intro k
  induction k with
  | zero => intro i; rfl
  | succ k ih =>
    intro i
    rw [qex_s, qal_s, Bool.not_or, ih (i + 1)]
    cases P i <;> rfl
theorem not_qbi (b : Bool) : (if qbi b = 0 then some (1 : Int32) else some 0) = some (qbi (!b)) := by cases b <;> rfl
/-- one part in one cell, as the class finds it -/
theorem truC {G : xG} {c x s v u sz f h : Nat} {A B : Nat → Bool} (hc : c < 40) (hx : x < 125) (hsz : sz ≤ 5) (hs : s ≤ 9) (h0 : G 0 c = kc s) (hv : s ≤ 1 ∨ 6 ≤ s → v < 3 ∧ G 1 c = nI v) (hu : s ≤ 1 ∨ 8 ≤ s → u < 3 ∧ G 2 c = nI u) (hf : 2 ≤ s → f < 40 ∧ G 3 c = nI f ∧ ∀ y, y < 125 → G 8 (f * 125 + y) = qbi (A y)) (hh : 3 ≤ s ∧ s ≤ 5 → h < 40 ∧ G 4 c = nI h ∧ ∀ y, y < 125 → G 8 (h * 125 + y) = qbi (B y)) : fX0_truth G (nI c) (nI x) (nI sz) = some (qbi (ev s v u sz A B x)) := by
  obtain ⟨y1, n1⟩ := numA (x := x) (G 1 c)
  obtain ⟨y2, n2⟩ := numA (x := x) (G 2 c)
  rw [fX0_truth_e, q_ld hc (by omega), q_cl (by omega), q_b1 n1, q_ld hc (by omega), q_b1 n2, q_ld hc (by omega), h0]
  have num1 : s ≤ 1 ∨ 6 ≤ s → y1 = nI (num x v) := fun k => by
    obtain ⟨k1, k2⟩ := hv k
    rw [k2, numC hx k1] at n1
    exact (Option.some.inj n1).symm
  have num2 : s ≤ 1 ∨ 8 ≤ s → y2 = nI (num x u) := fun k => by
    obtain ⟨k1, k2⟩ := hu k
    rw [k2, numC hx k1] at n2
    exact (Option.some.inj n2).symm
  have nv := num_lt x v
  have nu := num_lt x u
  rcases (show s = 0 ∨ s = 1 ∨ s = 2 ∨ (3 ≤ s ∧ s ≤ 5) ∨ s = 6 ∨ s = 7 ∨ s = 8 ∨ s = 9 by omega) with rfl | rfl | rfl | h35 | rfl | rfl | rfl | rfl
  · rw [if_neg (by decide), if_pos (by decide), num1 (by omega), num2 (by omega), ev_0]
    by_cases hl : num x v < num x u
    · rw [if_neg (fun z => by have := (q_le (by omega) (by omega)).mp z; omega), decide_eq_true hl]; rfl
    · rw [if_pos ((q_le (by omega) (by omega)).mpr (by omega)), decide_eq_false hl]; rfl
  · rw [if_neg (by decide), if_neg (by decide), if_pos (by decide), num1 (by omega), num2 (by omega), ev_1]
    by_cases hl : num x v = num x u
    · rw [if_pos (by rw [hl]), decide_eq_true hl]; rfl
    · rw [if_neg (fun z => hl ((nI_eq (by omega) (by omega)).mp z)), decide_eq_false hl]; rfl
  · obtain ⟨f1, f2, f3⟩ := hf (by decide)
    rw [if_pos (by decide), q_ld hc (by omega), f2, show nI f * 125 = nI (f * 125) from pk_mul f 125, nI_add, q_ld (by omega) (by omega), q_cl (by omega), f3 x hx, not_qbi, ev_2]
  · obtain ⟨f1, f2, f3⟩ := hf (by omega)
    obtain ⟨g1, g2, g3⟩ := hh h35
    have hne : ¬ kc s = 33 ∧ ¬ kc s = 60 ∧ ¬ kc s = 61 ∧ ¬ kc s = 65 ∧ ¬ kc s = 69 ∧ ¬ kc s = 97 ∧ ¬ kc s = 101 := by
      rcases (show s = 3 ∨ s = 4 ∨ s = 5 by omega) with rfl | rfl | rfl <;> decide
    have hop : fX0_truthOfOperator G (nI c) (nI x) = some (qbi (ev s v u sz A B x)) := by
      rw [fX0_truthOfOperator_e, q_ld hc (by omega), q_cl (by omega), f2, show nI f * 125 = nI (f * 125) from pk_mul f 125, nI_add, q_ld (by omega) (by omega), q_ld hc (by omega), g2, show nI h * 125 = nI (h * 125) from pk_mul h 125, nI_add, q_ld (by omega) (by omega), q_ld hc (by omega), h0, q_cl (by omega), q_cl (by omega), f3 x hx, g3 x hx]
      rcases (show s = 3 ∨ s = 4 ∨ s = 5 by omega) with rfl | rfl | rfl
      · rw [if_pos (by decide), ev_3]
        cases A x <;> cases B x <;> rfl
      · rw [if_neg (by decide), if_pos (by decide), ev_4]
        cases A x <;> cases B x <;> rfl
      · rw [if_neg (by decide), if_neg (by decide), ev_5]
        cases A x <;> cases B x <;> rfl
    rw [if_neg hne.1, if_neg hne.2.1, if_neg hne.2.2.1, if_neg hne.2.2.2.1, if_neg hne.2.2.2.2.1, if_neg hne.2.2.2.2.2.1, if_neg hne.2.2.2.2.2.2, q_b1 hop, x_znq]
  · obtain ⟨f1, f2, f3⟩ := hf (by decide)
    obtain ⟨v1, v2⟩ := hv (by decide)
    rw [if_neg (by decide), if_neg (by decide), if_neg (by decide), if_pos (by decide), q_b1 (somC2 (A := A) (w := 0) false rfl hc hx v1 f1 hsz v2 f2 f3), not_qbi, qex_n, ev_6]
  · obtain ⟨f1, f2, f3⟩ := hf (by decide)
    obtain ⟨v1, v2⟩ := hv (by decide)
    rw [if_neg (by decide), if_neg (by decide), if_neg (by decide), if_neg (by decide), if_pos (by decide), q_b1 (somC2 (A := A) (w := 1) true rfl hc hx v1 f1 hsz v2 f2 f3), x_znq, qex_t, ev_7]
  · obtain ⟨f1, f2, f3⟩ := hf (by decide)
    obtain ⟨v1, v2⟩ := hv (by decide)
    rw [if_neg (by decide), if_neg (by decide), if_neg (by decide), if_neg (by decide), if_neg (by decide), if_pos (by decide), num2 (by decide), q_b1 (somC2 (A := A) (w := 0) false rfl hc hx v1 f1 (show num x u ≤ 5 by omega) v2 f2 f3), not_qbi, qex_n, ev_8]
  · obtain ⟨f1, f2, f3⟩ := hf (by decide)
    obtain ⟨v1, v2⟩ := hv (by decide)
    rw [if_neg (by decide), if_neg (by decide), if_neg (by decide), if_neg (by decide), if_neg (by decide), if_neg (by decide), if_pos (by decide), num2 (by decide), q_b1 (somC2 (A := A) (w := 1) true rfl hc hx v1 f1 (show num x u ≤ 5 by omega) v2 f2 f3), x_znq, qex_t, ev_9]
/-! the reference's way -/
theorem powM {v : Nat} (hv : v < 3) : fX6_power (nI v) = some (nI (5 ^ v)) := by
  rcases (show v = 0 ∨ v = 1 ∨ v = 2 by omega) with rfl | rfl | rfl <;> decide
theorem numM {x v : Nat} (hx : x < 125) (hv : v < 3) : fX6_numberAt (nI x) (nI v) = some (nI (num x v)) := by
  have hp := p5_le hv
  have hd : x / 5 ^ v ≤ x := Nat.div_le_self _ _
  rw [fX6_numberAt_e, q_b1 (powM hv), x_dvI (fun z => by have := (q_nI0 (by omega)).mp z; omega), x_dvI (by decide), pk_div (by omega) (by omega) (by omega), q_rem5 (by omega)]
  rfl
theorem forM {G : xG} {c x f v bd : Nat} {A : Nat → Bool} (hc : c < 40) (hx : x < 125) (hv : v < 3) (hf : f < 40) (hbd : bd ≤ 5) (h7 : G 7 c = nI v) (h5 : G 5 c = nI f) (h17 : ∀ y, y < 125 → G 17 (125 * f + y) = qbi (A y)) (al : Bool) : ∀ (k n N : Nat) (b : Bool), n + k = bd → k < N → fX6_isSoFor_l87 G (nI bd) (nI c) (nI x) (nI (num x v)) (nI (5 ^ v)) (qbi al) N (qbi b) (nI n) = some (qbi (if al = true then (b && qal (fun n => A (sub5 x v n)) k n) else (b || qex (fun n => A (sub5 x v n)) k n))) := by
  intro k
  induction k with
  | zero =>
    intro n N b h1 h2
    cases N with
    | zero => omega
    | succ N =>
      rw [fX6_isSoFor_l87_e, if_pos ((q_le (by omega) (by omega)).mpr (by omega)), x_znq]
      cases al <;> cases b <;> rfl
  | succ k ih =>
    intro n N b h1 h2
    cases N with
    | zero => omega
    | succ N =>
      have s1 := sub_le hx hv
      have s2 := sub_lt (n := n) hx hv (by omega)
      have hidx : ((125 * nI f) + (nI x - (nI (num x v) * nI (5 ^ v)))) + (nI n * nI (5 ^ v)) = nI (125 * f + sub5 x v n) := by
        rw [show 125 * nI f = nI (125 * f) from pk_mul 125 f, pk_mul, pk_mul, pk_sub s1, nI_add, nI_add]
        congr 1
        rw [sub5]
        omega
      have hj : ∀ b' : Bool, fX6_isSoFor_j164 (fX6_isSoFor_l87 G (nI bd) (nI c) (nI x) (nI (num x v)) (nI (5 ^ v)) (qbi al) N) (nI n) (qbi b') = some (qbi (if al = true then (b' && qal (fun n => A (sub5 x v n)) k (n + 1)) else (b' || qex (fun n => A (sub5 x v n)) k (n + 1)))) := fun b' => by
        rw [fX6_isSoFor_j164_e, nI_1, ih (n + 1) N b' (by omega) (by omega)]
      rw [fX6_isSoFor_l87_e, if_neg (fun z => by have := (q_le (by omega) (by omega)).mp z; omega), q_ld hc (by omega), q_ld hc (by omega), q_cl (by omega), h7, q_b1 (powM hv), h5, hidx, q_ld (by omega) (by omega), q_cl (by omega), h17 _ s2, qal_s, qex_s, fX6_isSoFor_j159_e, fX6_isSoFor_j145_e]
      cases al with
      | false =>
        rw [if_pos (show qbi false = 0 by decide), if_neg q_ft]
        cases b with
        | true =>
          rw [if_neg (show ¬ qbi true = 0 by decide)]
          exact (hj true).trans (by rw [if_neg q_ft] <;> rfl)
        | false =>
          rw [if_pos (show qbi false = 0 by decide)]
          cases hA : A (sub5 x v n) with
          | false =>
            rw [if_pos (show qbi false = 0 by decide)]
            exact (hj false).trans (by rw [if_neg q_ft] <;> rfl)
          | true =>
            rw [if_neg (show ¬ qbi true = 0 by decide)]
            exact (hj true).trans (by rw [if_neg q_ft] <;> rfl)
      | true =>
        rw [if_neg (show ¬ qbi true = 0 by decide), if_pos q_tt]
        cases b with
        | false =>
          rw [if_pos (show qbi false = 0 by decide)]
          exact (hj false).trans (by rw [if_pos q_tt] <;> rfl)
        | true =>
          rw [if_neg (show ¬ qbi true = 0 by decide)]
          cases hA : A (sub5 x v n) with
          | false =>
            rw [if_pos (show qbi false = 0 by decide)]
            exact (hj false).trans (by rw [if_pos q_tt] <;> rfl)
          | true =>
            rw [if_neg (show ¬ qbi true = 0 by decide)]
            exact (hj true).trans (by rw [if_pos q_tt] <;> rfl)
theorem forM2 {G : xG} {c x f v bd : Nat} {A : Nat → Bool} (hc : c < 40) (hx : x < 125) (hv : v < 3) (hf : f < 40) (hbd : bd ≤ 5) (h7 : G 7 c = nI v) (h5 : G 5 c = nI f) (h17 : ∀ y, y < 125 → G 17 (125 * f + y) = qbi (A y)) (al : Bool) : fX6_isSoFor_j54 G (nI c) (nI x) (qbi al) (nI bd) = some (qbi (if al = true then qal (fun n => A (sub5 x v n)) bd 0 else qex (fun n => A (sub5 x v n)) bd 0)) := by
  rw [fX6_isSoFor_j54_e, q_ld hc (by omega), q_cl (by omega), h7, q_b1 (numM hx hv), q_ld hc (by omega), q_b1 (powM hv)]
  refine (forM hc hx hv hf hbd h7 h5 h17 al bd 0 4096 al (by omega) (by omega)).trans ?_
  cases al with
  | true => rw [if_pos q_tt, if_pos q_tt, Bool.true_and]
  | false => rw [if_neg q_ft, if_neg q_ft, Bool.false_or]
theorem soM {G : xG} {c x s v u sz f h : Nat} {A B : Nat → Bool} (hc : c < 40) (hx : x < 125) (hsz : sz ≤ 5) (hs : s ≤ 9) (h4 : G 4 c = nI s) (hv : s ≤ 1 ∨ 6 ≤ s → v < 3 ∧ G 7 c = nI v) (hu : s ≤ 1 ∨ 8 ≤ s → u < 3 ∧ G 8 c = nI u) (hf : 2 ≤ s → f < 40 ∧ G 5 c = nI f ∧ ∀ y, y < 125 → G 17 (125 * f + y) = qbi (A y)) (hf1 : s ≤ 1 → G 5 c = -1) (hh : 3 ≤ s ∧ s ≤ 5 → h < 40 ∧ G 6 c = nI h ∧ ∀ y, y < 125 → G 17 (125 * h + y) = qbi (B y)) (hh1 : s ≤ 2 ∨ 6 ≤ s → G 6 c = -1) : fX6_isPartSo G (nI c) (nI x) (nI sz) = some (qbi (ev s v u sz A B x)) := by
  have nv := num_lt x v
  have nu := num_lt x u
  -- by the two values of its own ones
  have h70 : ∀ a b : Bool, (2 ≤ s → a = A x) → (3 ≤ s ∧ s ≤ 5 → b = B x) → fX6_isPartSo_j70 G (nI c) (nI x) (qbi a) (nI sz) (qbi b) = some (qbi (ev s v u sz A B x)) := fun a b ha hb => by
    rw [fX6_isPartSo_j70_e, q_ld hc (by omega), q_cl (by omega), h4]
    rcases (show s = 0 ∨ s = 1 ∨ s = 2 ∨ s = 3 ∨ s = 4 ∨ s = 5 ∨ 6 ≤ s by omega) with rfl | rfl | rfl | rfl | rfl | rfl | h6
    · obtain ⟨v1, v2⟩ := hv (by decide)
      obtain ⟨u1, u2⟩ := hu (by decide)
      rw [if_pos (by decide), q_ld hc (by omega), v2, q_b1 (numM hx v1), q_ld hc (by omega), u2, q_b1 (numM hx u1), ev_0]
      by_cases hl : num x v < num x u
      · rw [if_neg (fun z => by have := (q_le (by omega) (by omega)).mp z; omega), decide_eq_true hl]; rfl
      · rw [if_pos ((q_le (by omega) (by omega)).mpr (by omega)), decide_eq_false hl]; rfl
    · obtain ⟨v1, v2⟩ := hv (by decide)
      obtain ⟨u1, u2⟩ := hu (by decide)
      rw [if_neg (by decide), if_pos (by decide), q_ld hc (by omega), v2, q_b1 (numM hx v1), q_ld hc (by omega), u2, q_b1 (numM hx u1), ev_1]
      by_cases hl : num x v = num x u
      · rw [if_pos (by rw [hl]), decide_eq_true hl]; rfl
      · rw [if_neg (fun z => hl ((nI_eq (by omega) (by omega)).mp z)), decide_eq_false hl]; rfl
    · rw [if_neg (by decide), if_neg (by decide), if_pos (by decide), ev_2, ha (by decide), not_qbi]
    · rw [if_neg (by decide), if_neg (by decide), if_neg (by decide), if_pos (by decide), ev_3, ha (by decide), hb (by decide)]
      cases A x <;> cases B x <;> rfl
    · rw [if_neg (by decide), if_neg (by decide), if_neg (by decide), if_neg (by decide), if_pos (by decide), ev_4, ha (by decide), hb (by decide)]
      cases A x <;> cases B x <;> rfl
    · rw [if_neg (by decide), if_neg (by decide), if_neg (by decide), if_neg (by decide), if_neg (by decide), if_pos (by decide), ev_5, ha (by decide), hb (by decide)]
      cases A x <;> cases B x <;> rfl
    · obtain ⟨v1, v2⟩ := hv (Or.inr h6)
      obtain ⟨f1, f2, f3⟩ := hf (by omega)
      have hso : fX6_isSoFor G (nI c) (nI x) (nI sz) = some (qbi (ev s v u sz A B x)) := by
        rw [fX6_isSoFor_e, q_ld hc (by omega), q_cl (by omega), h4]
        rcases (show s = 6 ∨ s = 7 ∨ s = 8 ∨ s = 9 by omega) with rfl | rfl | rfl | rfl
        · rw [if_pos (by decide), fX6_isSoFor_j22_e, fX6_isSoFor_j27_e, q_ld hc (by omega), q_cl (by omega), h4, if_neg (by decide), ev_6]
          exact forM2 hc hx v1 f1 hsz v2 f2 f3 true
        · rw [if_neg (by decide), q_ld hc (by omega), if_neg (by decide), fX6_isSoFor_j27_e, q_ld hc (by omega), q_cl (by omega), h4, if_neg (by decide), ev_7]
          exact forM2 hc hx v1 f1 hsz v2 f2 f3 false
        · obtain ⟨u1, u2⟩ := hu (by decide)
          rw [if_neg (by decide), q_ld hc (by omega), if_pos (by decide), fX6_isSoFor_j22_e, fX6_isSoFor_j27_e, q_ld hc (by omega), q_cl (by omega), h4, if_pos (by decide), q_ld hc (by omega), u2, q_b1 (numM hx u1), ev_8]
          exact forM2 hc hx v1 f1 (show num x u ≤ 5 by omega) v2 f2 f3 true
        · obtain ⟨u1, u2⟩ := hu (by decide)
          rw [if_neg (by decide), q_ld hc (by omega), if_neg (by decide), fX6_isSoFor_j27_e, q_ld hc (by omega), q_cl (by omega), h4, if_pos (by decide), q_ld hc (by omega), u2, q_b1 (numM hx u1), ev_9]
          exact forM2 hc hx v1 f1 (show num x u ≤ 5 by omega) v2 f2 f3 false
      have hne : ∀ d : Nat, d < 6 → ¬ nI s = nI d := fun d hd z => by have := (nI_eq (by omega) (by omega)).mp z; omega
      rw [if_neg (by exact hne 0 (by decide)), if_neg (by exact hne 1 (by decide)), if_neg (by exact hne 2 (by decide)), if_neg (by exact hne 3 (by decide)), if_neg (by exact hne 4 (by decide)), if_neg (by exact hne 5 (by decide)), q_b1 hso, x_znq]
  have h34 : ∀ a : Bool, (2 ≤ s → a = A x) → fX6_isPartSo_j34 G (nI c) (nI x) (nI sz) (qbi a) = some (qbi (ev s v u sz A B x)) := fun a ha => by
    rw [fX6_isPartSo_j34_e, q_ld hc (by omega), q_cl (by omega)]
    by_cases h35 : 3 ≤ s ∧ s ≤ 5
    · obtain ⟨g1, g2, g3⟩ := hh h35
      rw [g2, if_neg (q_ne1 (by omega)), q_ld hc (by omega), show 125 * nI h = nI (125 * h) from pk_mul 125 h, nI_add, q_ld (by omega) (by omega), q_cl (by omega), g3 x hx]
      cases hB : B x with
      | false => rw [if_pos (show qbi false = 0 by decide), fX6_isPartSo_j69_e]; exact h70 a false ha (fun _ => hB.symm)
      | true => rw [if_neg (show ¬ qbi true = 0 by decide)]; exact h70 a true ha (fun _ => hB.symm)
    · rw [hh1 (by omega), if_pos rfl, fX6_isPartSo_j69_e]
      exact h70 a false ha (fun k => absurd k h35)
  rw [fX6_isPartSo_e, q_ld hc (by omega), q_cl (by omega)]
  by_cases h2 : 2 ≤ s
  · obtain ⟨f1, f2, f3⟩ := hf h2
    rw [f2, if_neg (q_ne1 (by omega)), q_ld hc (by omega), show 125 * nI f = nI (125 * f) from pk_mul 125 f, nI_add, q_ld (by omega) (by omega), q_cl (by omega), f3 x hx]
    cases hA : A x with
    | false => rw [if_pos (show qbi false = 0 by decide), fX6_isPartSo_j33_e]; exact h34 false (fun _ => hA.symm)
    | true => rw [if_neg (show ¬ qbi true = 0 by decide)]; exact h34 true (fun _ => hA.symm)
  · rw [hf1 (by omega), if_pos rfl, fX6_isPartSo_j33_e]
    exact h34 false (fun k => absurd k h2)
end QI
