section QP
/-! problems: told, multiplied, asked of -/
theorem q_any (x : Int32) : ∃ u : Nat, u < 2 ^ 32 ∧ x = nI u := by
  refine ⟨x.toBitVec.toNat, x.toBitVec.isLt, ?_⟩
  apply Int32.toBitVec_inj.1
  apply BitVec.eq_of_toNat_eq
  rw [pk_tn x.toBitVec.isLt]
theorem q_nI0 {u : Nat} (h : u < 2 ^ 32) : nI u = 0 ↔ u = 0 := by
  constructor
  · intro e
    have e2 := congrArg (fun x : Int32 => x.toBitVec.toNat) e
    simp only [pk_tn h] at e2
    exact e2
  · rintro rfl; rfl
/-- a bit below 16 of any int, by the machine's own shift -/
theorem q_bitA {u c : Nat} (hu : u < 2 ^ 32) (hc : c < 16) : (x_shr (nI u) (nI c) &&& 1) = if u.testBit c = true then 1 else 0 := by
  have h1 : (x_shr (nI u) (nI c) &&& 1) = nI ((x_shr (nI u) (nI c)).toBitVec.toNat % 2 ^ 1) := pk_and _ 1 (by decide)
  have h2 : (x_shr (nI u) (nI c)).toBitVec.getLsbD 0 = u.testBit c := by
    show (((nI u).toBitVec.sshiftRight (((nI c &&& 31).toBitVec.smod 32).toNat))).getLsbD 0 = u.testBit c
    rw [q_sl c (by omega), BitVec.getLsbD_sshiftRight]
    have e : (nI u).toBitVec.getLsbD c = u.testBit c := by
      show (nI u).toBitVec.toNat.testBit c = u.testBit c
      rw [pk_tn hu]
    simp only [Nat.add_zero, e]
    have hc2 : c < 32 := by omega
    simp [hc2]
  have h3 : (x_shr (nI u) (nI c)).toBitVec.toNat % 2 ^ 1 = if u.testBit c = true then 1 else 0 := by
    rw [← h2]
    show _ = if (x_shr (nI u) (nI c)).toBitVec.toNat.testBit 0 = true then 1 else 0
    rw [Nat.testBit_zero]
    generalize (x_shr (nI u) (nI c)).toBitVec.toNat = w
    by_cases h : w % 2 = 1
    · rw [decide_eq_true h, if_pos q_tt]; omega
    · rw [decide_eq_false h, if_neg q_ft]; omega
  rw [h1, h3]
  split <;> rfl
theorem q_sv {u i : Nat} (hu : u < 2 ^ 32) (hi : i < 8) : fX3_solving (nI u) (nI i) = some (nI (u / 2 ^ (4 * i) % 16)) := by
  rw [fX3_solving_e, show (4 : Int32) * nI i = nI (4 * i) from pk_mul 4 i, q_ush hu (by omega), pk_andN (Nat.lt_of_le_of_lt (Nat.div_le_self _ _) hu) 4 (by decide)]
theorem q_svb (u i b : Nat) : (u / 2 ^ (4 * i) % 16).testBit b = (decide (b < 4) && u.testBit (4 * i + b)) := by
  rw [show (16 : Nat) = 2 ^ 4 from rfl, Nat.testBit_mod_two_pow, Nat.testBit_div_two_pow, Nat.add_comm]
theorem q_isv {u i b : Nat} (hu : u < 2 ^ 32) (h : 4 * i + b < 16) : fX6_isSolved (nI u) (nI i) (nI b) = some (if u.testBit (4 * i + b) = true then 1 else 0) := by
  rw [fX6_isSolved_e, show (4 : Int32) * nI i = nI (4 * i) from pk_mul 4 i, nI_add, q_bitA hu h]
  by_cases hb : u.testBit (4 * i + b) = true
  · rw [if_pos hb, if_pos rfl]
  · rw [if_neg hb, if_neg (by decide)]
/-- a problem as it may be told: m instances, a answers -/
def qok (u m a : Nat) : Prop := (∀ i, i < m → ∃ b, b < a ∧ u.testBit (4 * i + b) = true) ∧ ∀ j, u.testBit j = true → j / 4 < m ∧ j % 4 < a
theorem q_t32 {u j : Nat} (hu : u < 2 ^ 32) (h : u.testBit j = true) : j < 32 := by
  rcases Nat.lt_or_ge j 32 with g | g
  · exact g
  · have e : u.testBit j = false := Nat.testBit_lt_two_pow (Nat.lt_of_lt_of_le hu (Nat.pow_le_pow_right (by decide) g))
    rw [e] at h; cases h
/-- the class's loop over the instances -/
def qcl (u a : Nat) : Nat → Nat → Bool
  | 0, _ => true
  | k + 1, i => if u / 2 ^ (4 * i) % 16 = 0 then false else if u / 2 ^ (4 * i) % 16 / 2 ^ a = 0 then qcl u a k (i + 1) else false
theorem q_arl {u m a : Nat} (hu : u < 2 ^ 32) (hm : m ≤ 4) (ha : a ≤ 4) : ∀ (k i N : Nat), i + k = m → k < N → fX3_areInRange_l22 (nI m) (nI u) (nI a) N (nI i) = if qcl u a k i = true then fX3_areInRange_x54 (nI u) (nI m) else some 0 := by
  intro k
  induction k with
  | zero =>
    intro i N h1 h2
    cases N with
    | zero => omega
    | succ N => rw [fX3_areInRange_l22_e, if_pos ((q_le (by omega) (by omega)).mpr (by omega))]; rfl
  | succ k ih =>
    intro i N h1 h2
    cases N with
    | zero => omega
    | succ N =>
      have hv : u / 2 ^ (4 * i) % 16 < 16 := Nat.mod_lt _ (by decide)
      have hd : u / 2 ^ (4 * i) % 16 / 2 ^ a ≤ u / 2 ^ (4 * i) % 16 := Nat.div_le_self _ _
      rw [fX3_areInRange_l22_e, if_neg (fun z => by have := (q_le (by omega) (by omega)).mp z; omega), q_b1 (q_sv hu (by omega)), qcl]
      by_cases h3 : u / 2 ^ (4 * i) % 16 = 0
      · rw [if_pos ((q_nI0 (by omega)).mpr h3), if_pos h3, if_neg (by decide)]
      · rw [if_neg (fun z => h3 ((q_nI0 (by omega)).mp z)), if_neg h3, q_ush (by omega) (by omega)]
        by_cases h4 : u / 2 ^ (4 * i) % 16 / 2 ^ a = 0
        · rw [if_pos ((q_nI0 (by omega)).mpr h4), if_pos h4, nI_1, ih (i + 1) N (by omega) (by omega)]
        · rw [if_neg (fun z => h4 ((q_nI0 (by omega)).mp z)), if_neg h4, if_neg (by decide)]
theorem qcl_iff {u a : Nat} (ha : a ≤ 4) : ∀ (k i : Nat), qcl u a k i = true ↔ ∀ j, i ≤ j → j < i + k → (∃ b, b < a ∧ u.testBit (4 * j + b) = true) ∧ ∀ b, b < 4 → u.testBit (4 * j + b) = true → b < a := by
  intro k
  induction k with
  | zero => intro i; exact ⟨fun _ j h1 h2 => by omega, fun _ => rfl⟩
  | succ k ih =>
    intro i
    rw [qcl]
    have key : (¬ u / 2 ^ (4 * i) % 16 = 0 ∧ u / 2 ^ (4 * i) % 16 / 2 ^ a = 0) ↔ ((∃ b, b < a ∧ u.testBit (4 * i + b) = true) ∧ ∀ b, b < 4 → u.testBit (4 * i + b) = true → b < a) := by
      constructor
      · rintro ⟨h1, h2⟩
        have hlt : ∀ b, b < 4 → u.testBit (4 * i + b) = true → b < a := by
          intro b hb hb2
          rcases Nat.lt_or_ge b a with g | g
          · exact g
          · have e : (u / 2 ^ (4 * i) % 16 / 2 ^ a).testBit (b - a) = true := by
              rw [Nat.testBit_div_two_pow, q_svb, show b - a + a = b by omega, hb2, decide_eq_true hb]; rfl
            rw [h2, Nat.zero_testBit] at e; cases e
        obtain ⟨b, hb⟩ := Nat.exists_testBit_of_ne_zero h1
        rw [q_svb, Bool.and_eq_true, decide_eq_true_eq] at hb
        exact ⟨⟨b, hlt b hb.1 hb.2, hb.2⟩, hlt⟩
      · rintro ⟨⟨b, hb, hb2⟩, h⟩
        refine ⟨fun e => ?_, ?_⟩
        · have e2 : (u / 2 ^ (4 * i) % 16).testBit b = true := by
            rw [q_svb, hb2, decide_eq_true (show b < 4 by omega)]; rfl
          rw [e, Nat.zero_testBit] at e2; cases e2
        · apply Nat.div_eq_of_lt
          apply Nat.lt_pow_two_of_testBit
          intro c hc
          rw [q_svb]
          by_cases h4 : c < 4
          · cases ht : u.testBit (4 * i + c) with
            | false => rw [Bool.and_false]
            | true => have := h c h4 ht; omega
          · rw [decide_eq_false h4]; rfl
    constructor
    · intro h j h1 h2
      by_cases c1 : u / 2 ^ (4 * i) % 16 = 0
      · rw [if_pos c1] at h; cases h
      · rw [if_neg c1] at h
        by_cases c2 : u / 2 ^ (4 * i) % 16 / 2 ^ a = 0
        · rw [if_pos c2] at h
          rcases Nat.lt_or_ge i j with g | g
          · exact (ih (i + 1)).mp h j g (by omega)
          · have e : j = i := by omega
            rw [e]; exact key.mp ⟨c1, c2⟩
        · rw [if_neg c2] at h; cases h
    · intro h
      obtain ⟨c1, c2⟩ := key.mpr (h i (Nat.le_refl _) (by omega))
      rw [if_neg c1, if_pos c2]
      exact (ih (i + 1)).mpr (fun j h1 h2 => h j (by omega) (by omega))
theorem q_btw {n k : Nat} (h : 1 ≤ n ∧ n ≤ k) (hk : k < 2 ^ 31) : fX5_isBetween 1 (nI n) (nI k) = some 1 := by
  rw [fX5_isBetween_e, if_neg (fun z => by have := (q_lt (b := 1) (by omega) (by omega)).mp z; omega), if_neg (fun z => by have := (q_lt (a := k) (b := n) (by omega) (by omega)).mp z; omega)]
theorem q_btn {x : Int32} {k : Nat} (hk : k < 2 ^ 31) (h : ¬ ∃ n, (1 ≤ n ∧ n ≤ k) ∧ x = nI n) : fX5_isBetween 1 x (nI k) = some 0 ∧ fX6_in x 1 (nI k) = some 0 := by
  rw [fX5_isBetween_e, fX6_in_e]
  by_cases h1 : x < 1
  · rw [if_pos h1]; exact ⟨rfl, rfl⟩
  · rw [if_neg h1]
    have h0 : ¬ x < 0 := fun z => h1 (Int32.lt_of_lt_of_le z (by decide))
    obtain ⟨n, hn, rfl⟩ := nI_of h0
    have hk2 : nI k < nI n := (q_lt hk hn).mpr (by
      rcases Nat.lt_or_ge k n with g | g
      · exact g
      · exact absurd ⟨n, ⟨by
          rcases Nat.lt_or_ge n 1 with g2 | g2
          · exact absurd ((q_lt (b := 1) (by omega) (by omega)).mpr g2) h1
          · exact g2, g⟩, rfl⟩ h)
    rw [if_pos hk2]; exact ⟨rfl, rfl⟩
theorem q_inw {n k : Nat} (h : 1 ≤ n ∧ n ≤ k) (hk : k < 2 ^ 31) : fX6_in (nI n) 1 (nI k) = some 1 := by
  rw [fX6_in_e, if_neg (fun z => by have := (q_lt (b := 1) (by omega) (by omega)).mp z; omega), if_neg (fun z => by have := (q_lt hk (by omega)).mp z; omega)]
theorem q_arc {u m a : Nat} (hu : u < 2 ^ 32) (hm : 1 ≤ m ∧ m ≤ 4) (ha : 1 ≤ a ∧ a ≤ 4) : (qok u m a → fX3_areInRange (nI m) (nI a) (nI u) = some 1) ∧ (¬ qok u m a → fX3_areInRange (nI m) (nI a) (nI u) = some 0) := by
  have h : fX3_areInRange (nI m) (nI a) (nI u) = if qcl u a m 0 = true then (if u / 2 ^ (4 * m) = 0 then some 1 else some 0) else some 0 := by
    rw [fX3_areInRange_e, q_b1 (show fX5_isBetween 1 (nI m) 4 = some 1 from q_btw hm (by decide)), if_neg q_10, q_b1 (show fX5_isBetween 1 (nI a) 4 = some 1 from q_btw ha (by decide)), if_neg q_10]
    refine (q_arl hu hm.2 ha.2 m 0 4096 (by omega) (by omega)).trans ?_
    by_cases c : qcl u a m 0 = true
    · have hd : u / 2 ^ (4 * m) ≤ u := Nat.div_le_self _ _
      rw [if_pos c, if_pos c, fX3_areInRange_x54_e, show (4 : Int32) * nI m = nI (4 * m) from pk_mul 4 m, q_ush hu (by omega)]
      by_cases c2 : u / 2 ^ (4 * m) = 0
      · rw [if_pos ((q_nI0 (by omega)).mpr c2), if_pos c2]
      · rw [if_neg (fun z => c2 ((q_nI0 (by omega)).mp z)), if_neg c2]
    · rw [if_neg c, if_neg c]
  rw [h]
  constructor
  · rintro ⟨k1, k2⟩
    rw [if_pos ((qcl_iff ha.2 m 0).mpr (fun j _ hj => ⟨k1 j (by omega), fun b hb hb2 => by have := k2 _ hb2; omega⟩)), if_pos]
    apply Nat.div_eq_of_lt
    apply Nat.lt_pow_two_of_testBit
    intro c hc
    cases ht : u.testBit c with
    | false => rfl
    | true => have := k2 c ht; omega
  · intro hn
    by_cases c : qcl u a m 0 = true
    · rw [if_pos c]
      by_cases c2 : u / 2 ^ (4 * m) = 0
      · exfalso
        apply hn
        have k := (qcl_iff ha.2 m 0).mp c
        refine ⟨fun i hi => (k i (Nat.zero_le _) (by omega)).1, fun j hj => ?_⟩
        have hlt : j < 4 * m := by
          rcases Nat.lt_or_ge j (4 * m) with g | g
          · exact g
          · have e : (u / 2 ^ (4 * m)).testBit (j - 4 * m) = true := by
              rw [Nat.testBit_div_two_pow, show j - 4 * m + 4 * m = j by omega]; exact hj
            rw [c2, Nat.zero_testBit] at e; cases e
        refine ⟨by omega, (k (j / 4) (Nat.zero_le _) (by omega)).2 (j % 4) (by omega) (by rw [show 4 * (j / 4) + j % 4 = j by omega]; exact hj)⟩
      · rw [if_neg c2]
    · rw [if_neg c]
/-- the reference's loops: what is cleared, what is seen -/
def qbi (b : Bool) : Int32 := if b = true then 1 else 0
def qcr (r c : Nat) : Nat := r &&& (2 ^ 32 - (2 ^ c + 1))
theorem qcr_b {r c : Nat} (hc : c < 32) (j : Nat) (hj : j < 32) : (qcr r c).testBit j = (r.testBit j && !decide (c = j)) := by
  rw [qcr, Nat.testBit_and, Nat.testBit_two_pow_sub_succ (Nat.pow_lt_pow_right (by decide) hc), Nat.testBit_two_pow, decide_eq_true hj, Bool.true_and]
theorem qcr_lt {r c : Nat} (h : r < 2 ^ 32) : qcr r c < 2 ^ 32 := Nat.lt_of_le_of_lt Nat.and_le_left h
theorem q_clr {r c : Nat} (hc : c < 16) : nI r &&& (x_shl 1 (nI c) ^^^ (-1)) = nI (qcr r c) := by
  have h2 : 2 ^ c < 2 ^ 32 := Nat.pow_lt_pow_right (by decide) (by omega)
  rw [q_shl1 (by omega)]
  have e : nI (2 ^ c) ^^^ (-1) = nI (2 ^ 32 - (2 ^ c + 1)) := by
    apply Int32.toBitVec_inj.1
    apply BitVec.eq_of_getLsbD_eq
    intro i hi
    show (BitVec.ofNat 32 (2 ^ c) ^^^ BitVec.allOnes 32).getLsbD i = (BitVec.ofNat 32 (2 ^ 32 - (2 ^ c + 1))).getLsbD i
    simp only [BitVec.getLsbD_xor, BitVec.getLsbD_ofNat, BitVec.getLsbD_allOnes, hi, decide_true, Bool.true_and, Nat.testBit_two_pow_sub_succ h2, Bool.xor_true]
  rw [e, q_and]
  rfl
def qrs (i : Nat) : Nat → Nat → Nat → Nat
  | 0, _, r => r
  | k + 1, b, r => qrs i k (b + 1) (qcr r (4 * i + b))
def qhs (u i : Nat) : Nat → Nat → Bool → Bool
  | 0, _, h => h
  | k + 1, b, h => qhs u i k (b + 1) (h || u.testBit (4 * i + b))
theorem q_l20 {u m a i : Nat} {v6 : Int32} (hu : u < 2 ^ 32) (ha : a ≤ 4) (hi : i < 4) (rec8 : Int32 → Int32 → Int32 → Option Int32) : ∀ (k b N r : Nat) (h : Bool), b + k = a → k < N → fX6_areAnswers_l20 rec8 (nI a) v6 (nI i) (nI u) N (nI r) (qbi h) (nI b) = fX6_areAnswers_x69 rec8 v6 (nI i) (nI (qrs i k b r)) (qbi (qhs u i k b h)) := by
  intro k
  induction k with
  | zero =>
    intro b N r h h1 h2
    cases N with
    | zero => omega
    | succ N => rw [fX6_areAnswers_l20_e, if_pos ((q_le (by omega) (by omega)).mpr (by omega))]; rfl
  | succ k ih =>
    intro b N r h h1 h2
    cases N with
    | zero => omega
    | succ N =>
      have hj : ∀ h', fX6_areAnswers_j47 (fX6_areAnswers_l20 rec8 (nI a) v6 (nI i) (nI u) N) (nI r) (nI i) (nI b) (qbi h') = fX6_areAnswers_x69 rec8 v6 (nI i) (nI (qrs i k (b + 1) (qcr r (4 * i + b)))) (qbi (qhs u i k (b + 1) h')) := fun h' => by
        rw [fX6_areAnswers_j47_e, show (4 : Int32) * nI i = nI (4 * i) from pk_mul 4 i, nI_add, q_clr (by omega), nI_1, ih (b + 1) N _ h' (by omega) (by omega)]
      rw [fX6_areAnswers_l20_e, if_neg (fun z => by have := (q_le (by omega) (by omega)).mp z; omega), qrs, qhs]
      cases h with
      | true =>
        rw [if_neg (show ¬ qbi true = 0 by decide), fX6_areAnswers_j42_e, Bool.true_or]
        exact hj true
      | false =>
        rw [if_pos (show qbi false = 0 by decide), q_b1 (q_isv hu (by omega)), Bool.false_or]
        cases hb : u.testBit (4 * i + b) with
        | true =>
          rw [if_pos rfl, if_neg q_10, fX6_areAnswers_j42_e]
          exact hj true
        | false =>
          rw [if_neg q_ft, if_pos rfl]
          exact hj false
def qra (a : Nat) : Nat → Nat → Nat → Nat
  | 0, _, r => r
  | k + 1, i, r => qra a k (i + 1) (qrs i a 0 r)
def qar (u a : Nat) : Nat → Nat → Bool → Bool
  | 0, _, v => v
  | k + 1, i, v => qar u a k (i + 1) (v && qhs u i a 0 false)
theorem q_l8 {u m a : Nat} (hu : u < 2 ^ 32) (hm : m ≤ 4) (ha : a ≤ 4) : ∀ (k i N r : Nat) (v : Bool), i + k = m → k < N → fX6_areAnswers_l8 (nI m) (nI a) (nI u) N (nI r) (qbi v) (nI i) = fX6_areAnswers_x92 (nI (qra a k i r)) (qbi (qar u a k i v)) := by
  intro k
  induction k with
  | zero =>
    intro i N r v h1 h2
    cases N with
    | zero => omega
    | succ N => rw [fX6_areAnswers_l8_e, if_pos ((q_le (by omega) (by omega)).mpr (by omega))]; rfl
  | succ k ih =>
    intro i N r v h1 h2
    cases N with
    | zero => omega
    | succ N =>
      rw [fX6_areAnswers_l8_e, if_neg (fun z => by have := (q_le (by omega) (by omega)).mp z; omega), qra, qar]
      refine (q_l20 (m := m) hu ha (by omega) _ a 0 4096 r false (by omega) (by omega)).trans ?_
      rw [fX6_areAnswers_x69_e]
      have e0 : fX6_areAnswers_j83 (fX6_areAnswers_l8 (nI m) (nI a) (nI u) N) (nI (qrs i a 0 r)) (nI i) = fX6_areAnswers_x92 (nI (qra a k (i + 1) (qrs i a 0 r))) (qbi (qar u a k (i + 1) false)) := by
        rw [fX6_areAnswers_j83_e, fX6_areAnswers_j84_e, nI_1]
        exact ih (i + 1) N _ false (by omega) (by omega)
      cases v with
      | false => rw [if_pos (show qbi false = 0 by decide), e0]; rfl
      | true =>
        rw [if_neg (show ¬ qbi true = 0 by decide)]
        cases hh : qhs u i a 0 false with
        | false => rw [if_pos (show qbi false = 0 by decide), e0]; rfl
        | true =>
          rw [if_neg (show ¬ qbi true = 0 by decide), fX6_areAnswers_j84_e, nI_1]
          exact ih (i + 1) N _ true (by omega) (by omega)
theorem qrs_b {i : Nat} (hi : i < 4) : ∀ (k b r : Nat), b + k ≤ 4 → ∀ j, j < 32 → (qrs i k b r).testBit j = (r.testBit j && !decide (4 * i + b ≤ j ∧ j < 4 * i + b + k)) := by
  intro k
  induction k with
  | zero =>
    intro b r _ j _
    rw [qrs, decide_eq_false (by omega)]
    simp
  | succ k ih =>
    intro b r h j hj
    rw [qrs, ih (b + 1) _ (by omega) j hj, qcr_b (by omega) j hj, Bool.and_assoc]
    congr 1
    by_cases h1 : 4 * i + b = j
    · rw [decide_eq_true h1, decide_eq_true (show 4 * i + b ≤ j ∧ j < 4 * i + b + (k + 1) by omega)]; rfl
    · rw [decide_eq_false h1]
      by_cases h2 : 4 * i + (b + 1) ≤ j ∧ j < 4 * i + (b + 1) + k
      · rw [decide_eq_true h2, decide_eq_true (show 4 * i + b ≤ j ∧ j < 4 * i + b + (k + 1) by omega)]; rfl
      · rw [decide_eq_false h2, decide_eq_false (show ¬ (4 * i + b ≤ j ∧ j < 4 * i + b + (k + 1)) by omega)]; rfl
theorem qrs_lt {i : Nat} : ∀ (k b r : Nat), r < 2 ^ 32 → qrs i k b r < 2 ^ 32 := by
  intro k
  induction k with
  | zero => intro b r h; exact h
  | succ k ih => intro b r h; exact ih _ _ (qcr_lt h)
theorem qhs_iff {u i : Nat} : ∀ (k b : Nat) (h : Bool), qhs u i k b h = true ↔ h = true ∨ ∃ c, b ≤ c ∧ c < b + k ∧ u.testBit (4 * i + c) = true := by
  intro k
  induction k with
  | zero => intro b h; exact ⟨Or.inl, fun g => g.elim id (fun ⟨c, h1, h2, _⟩ => by omega)⟩
  | succ k ih =>
    intro b h
    rw [qhs, ih, Bool.or_eq_true]
    constructor
    · rintro ((g | g) | ⟨c, h1, h2, h3⟩)
      · exact Or.inl g
      · exact Or.inr ⟨b, Nat.le_refl _, by omega, g⟩
      · exact Or.inr ⟨c, by omega, by omega, h3⟩
    · rintro (g | ⟨c, h1, h2, h3⟩)
      · exact Or.inl (Or.inl g)
      · rcases Nat.lt_or_ge b c with g | g
        · exact Or.inr ⟨c, g, by omega, h3⟩
        · have e : c = b := by omega
          rw [e] at h3; exact Or.inl (Or.inr h3)
theorem qar_iff {u a : Nat} : ∀ (k i : Nat) (v : Bool), qar u a k i v = true ↔ v = true ∧ ∀ j, i ≤ j → j < i + k → ∃ b, b < a ∧ u.testBit (4 * j + b) = true := by
  intro k
  induction k with
  | zero => intro i v; exact ⟨fun h => ⟨h, fun j h1 h2 => by omega⟩, fun h => h.1⟩
  | succ k ih =>
    intro i v
    rw [qar, ih, Bool.and_eq_true, qhs_iff]
    constructor
    · rintro ⟨⟨h1, h2⟩, h3⟩
      refine ⟨h1, fun j h4 h5 => ?_⟩
      rcases Nat.lt_or_ge i j with g | g
      · exact h3 j g (by omega)
      · have e : j = i := by omega
        rw [e]
        rcases h2 with h2 | ⟨c, c1, c2, c3⟩
        · cases h2
        · exact ⟨c, by omega, c3⟩
    · rintro ⟨h1, h2⟩
      obtain ⟨b, b1, b2⟩ := h2 i (Nat.le_refl _) (by omega)
      exact ⟨⟨h1, Or.inr ⟨b, Nat.zero_le _, by omega, b2⟩⟩, fun j h4 h5 => h2 j (by omega) (by omega)⟩
theorem qra_b {a : Nat} (ha : a ≤ 4) : ∀ (k i r : Nat), i + k ≤ 4 → ∀ j, j < 32 → (qra a k i r).testBit j = (r.testBit j && !decide (i ≤ j / 4 ∧ j / 4 < i + k ∧ j % 4 < a)) := by
  intro k
  induction k with
  | zero =>
    intro i r _ j _
    rw [qra, decide_eq_false (by omega)]
    simp
  | succ k ih =>
    intro i r h j hj
    rw [qra, ih (i + 1) _ (by omega) j hj, qrs_b (by omega) a 0 r (by omega) j hj, Bool.and_assoc]
    congr 1
    by_cases h1 : 4 * i + 0 ≤ j ∧ j < 4 * i + 0 + a
    · rw [decide_eq_true h1, decide_eq_true (show i ≤ j / 4 ∧ j / 4 < i + (k + 1) ∧ j % 4 < a by omega)]; rfl
    · rw [decide_eq_false h1]
      by_cases h2 : i + 1 ≤ j / 4 ∧ j / 4 < i + 1 + k ∧ j % 4 < a
      · rw [decide_eq_true h2, decide_eq_true (show i ≤ j / 4 ∧ j / 4 < i + (k + 1) ∧ j % 4 < a by omega)]; rfl
      · rw [decide_eq_false h2, decide_eq_false (show ¬ (i ≤ j / 4 ∧ j / 4 < i + (k + 1) ∧ j % 4 < a) by omega)]; rfl
theorem qra_lt {a : Nat} : ∀ (k i r : Nat), r < 2 ^ 32 → qra a k i r < 2 ^ 32 := by
  intro k
  induction k with
  | zero => intro i r h; exact h
  | succ k ih => intro i r h; exact ih _ _ (qrs_lt _ _ _ h)
theorem q_arm {u m a : Nat} (hu : u < 2 ^ 32) (hm : 1 ≤ m ∧ m ≤ 4) (ha : 1 ≤ a ∧ a ≤ 4) : (qok u m a → fX6_areAnswers (nI u) (nI m) (nI a) = some 1) ∧ (¬ qok u m a → fX6_areAnswers (nI u) (nI m) (nI a) = some 0) := by
  have h : fX6_areAnswers (nI u) (nI m) (nI a) = if qar u a m 0 true = true then (if qra a m 0 u = 0 then some 1 else some 0) else some 0 := by
    rw [fX6_areAnswers_e]
    refine (q_l8 hu hm.2 ha.2 m 0 4096 u true (by omega) (by omega)).trans ?_
    rw [fX6_areAnswers_x92_e]
    cases hq : qar u a m 0 true with
    | false => rw [if_pos (show qbi false = 0 by decide), if_neg (by decide)]
    | true =>
      rw [if_neg (show ¬ qbi true = 0 by decide), if_pos rfl]
      by_cases c : qra a m 0 u = 0
      · rw [if_pos ((q_nI0 (qra_lt _ _ _ hu)).mpr c), if_pos c]
      · rw [if_neg (fun z => c ((q_nI0 (qra_lt _ _ _ hu)).mp z)), if_neg c]
  have hz : qra a m 0 u = 0 ↔ ∀ j, u.testBit j = true → j / 4 < m ∧ j % 4 < a := by
    constructor
    · intro e j hj
      have hj32 := q_t32 hu hj
      have e2 := qra_b ha.2 m 0 u (by omega) j hj32
      rw [e, Nat.zero_testBit, hj, Bool.true_and] at e2
      by_cases c : 0 ≤ j / 4 ∧ j / 4 < 0 + m ∧ j % 4 < a
      · omega
      · rw [decide_eq_false c] at e2; cases e2
    · intro k
      apply Nat.eq_of_testBit_eq
      intro j
      rw [Nat.zero_testBit]
      rcases Nat.lt_or_ge j 32 with g | g
      · rw [qra_b ha.2 m 0 u (by omega) j g]
        cases ht : u.testBit j with
        | false => rfl
        | true => have := k j ht; rw [decide_eq_true (show 0 ≤ j / 4 ∧ j / 4 < 0 + m ∧ j % 4 < a by omega)]; rfl
      · exact Nat.testBit_lt_two_pow (Nat.lt_of_lt_of_le (qra_lt _ _ _ hu) (Nat.pow_le_pow_right (by decide) g))
  have ha2 : qar u a m 0 true = true ↔ ∀ i, i < m → ∃ b, b < a ∧ u.testBit (4 * i + b) = true := by
    rw [qar_iff]
    exact ⟨fun h i hi => h.2 i (Nat.zero_le _) (by omega), fun h => ⟨rfl, fun j _ hj => h j (by omega)⟩⟩
  rw [h]
  constructor
  · rintro ⟨k1, k2⟩
    rw [if_pos (ha2.mpr k1), if_pos (hz.mpr k2)]
  · intro hn
    by_cases c : qar u a m 0 true = true
    · rw [if_pos c, if_neg (fun c2 => hn ⟨ha2.mp c, hz.mp c2⟩)]
    · rw [if_neg c]
theorem q_hasN {F : xF} {n : Nat} (h : F 6 = nI n) (hn : n ≤ 6) (x : Int32) : fX3_hasNumber F x = some (if q_lo x n then 1 else 0) := by
  rw [fX3_hasNumber_e, h]; exact q_belowz (by omega) x
theorem q_isPb {F : xF} {n : Nat} (h : F 27 = nI n) (hn : n ≤ 6) (x : Int32) : fX6_isProblem F x = some (if q_lo x n then 1 else 0) := by
  rw [fX6_isProblem_e, h]; exact q_inz (by omega) x
theorem q_both {F : xF} {n : Nat} (h : F 6 = nI n) (hn : n ≤ 6) (x y : Int32) : fX3_hasBoth F x y = some (if q_lo x n then (if q_lo y n then 1 else 0) else 0) := by
  rw [fX3_hasBoth_e, q_b1 (q_hasN h hn x)]
  by_cases c1 : q_lo x n
  · rw [if_pos c1, if_neg q_10, if_pos c1, q_b1 (q_hasN h hn y)]
    by_cases c2 : q_lo y n
    · rw [if_pos c2, if_neg q_10]
    · rw [if_neg c2, if_pos rfl]
  · rw [if_neg c1, if_pos rfl, if_neg c1]
theorem qS_add {n : Nat} {I A S : Nat → Int32} (hn : n < 6) (h : ∀ j, j < n → qOne (I j) (A j) (S j)) {i a s : Int32} (h1 : qOne i a s) : qS (nI (n + 1)) (upd I n i) (upd A n a) (upd S n s) := by
  refine ⟨n + 1, rfl, by omega, fun j hj => ?_⟩
  by_cases e : j = n
  · subst e; rw [pk_us, pk_us, pk_us]; exact h1
  · rw [pk_un e, pk_un e, pk_un e]; exact h j (by omega)
/-- both add the same problem -/
theorem q_add {Fq : xF} {Gq : xG} {n : Nat} (h : Fq 6 = nI n) (hn : n < 6) (i a s : Int32) : fX3_add Fq Gq i a s = some (nI n, va_up Fq 6 (nI (n + 1)), va_up (va_up (va_up Gq 0 (upd (Gq 0) n i)) 1 (upd (Gq 1) n a)) 2 (upd (Gq 2) n s)) := by
  rw [fX3_add_e, h, q_ld hn (by omega), q_ld hn (by omega), q_ld hn (by omega), q_cl (by omega), nI_1]
theorem q_addM {F : xF} {G : xG} {n : Nat} (h : F 27 = nI n) (hn : n < 6) (i a s : Int32) : fX6_addProblem F G i a s = some (nI n, va_up F 27 (nI (n + 1)), va_up (va_up (va_up G 28 (upd (G 28) n i)) 29 (upd (G 29) n a)) 30 (upd (G 30) n s)) := by
  rw [fX6_addProblem_e, h, q_ld hn (by omega), q_ld hn (by omega), q_ld hn (by omega), q_cl (by omega), nI_1, nI_pred]
theorem o_problem (X : XT) : oL_problem (LRg X) := by
  intro Fp Gp Fo Go Fz Gz Fq Gq F G h p c s
  obtain ⟨hX, hZ, ⟨e6, g0, g1, g2, n, hn, hn6, ok⟩⟩ := h
  have f6 : Fq 6 = nI n := e6.trans hn
  have hQ : ∀ k, LQ Fq Gq (va_up F 0 k) G := fun k => ⟨e6, g0, g1, g2, n, hn, hn6, ok⟩
  have h58 : ∀ k : Int32, ¬ k = 0 → fX6_problem_j58 F G p c s k = some (0, va_up F 0 k, G) := fun k h => by
    rw [fX6_problem_j58_e, b_b2 (q_g1 F h), if_pos rfl]
  have bad : fX3_areInRange p c s = some 0 → fX6_problem F G p c s = fX6_problem_j31 F G p c s → ∃ (k r : Int32) (Fq' : xF) (Gq' : xG) (r' : Int32) (F' : xF) (G' : xG), (¬ k = 0 → ¬ k = 1 → k = 2) ∧ fX5_problem Fq Gq p c s = some (k, r, Fq', Gq') ∧ fX6_problem F G p c s = some (r', F', G') ∧ fX6_thrown F' = some k ∧ (k = 0 → r = r') ∧ LRg X Fp Gp Fo Go Fz Gz Fq' Gq' F' G' := fun h1 h2 => by
    refine ⟨1, 0, Fq, Gq, 0, va_up F 0 1, G, fun _ h => absurd rfl h, ?_, ?_, rfl, fun h => absurd h q_10, hX, hZ, hQ 1⟩
    · rw [fX5_problem_e, q_b1 h1, if_pos rfl]
    · rw [h2, fX6_problem_j31_e, fX6_problem_j32_e, if_pos rfl, h58 1 q_10]
  by_cases c1 : ∃ m, (1 ≤ m ∧ m ≤ 4) ∧ p = nI m
  rotate_left
  · obtain ⟨b1, b2⟩ := q_btn (k := 4) (by decide) c1
    refine bad ?_ ?_
    · rw [fX3_areInRange_e, q_b1 (show fX5_isBetween 1 p 4 = some 0 from b1), if_pos rfl]
    · rw [fX6_problem_e, q_b1 (show fX6_in p 1 4 = some 0 from b2), if_pos rfl]
  obtain ⟨m, hm, rfl⟩ := c1
  by_cases c2 : ∃ a, (1 ≤ a ∧ a ≤ 4) ∧ c = nI a
  rotate_left
  · obtain ⟨b1, b2⟩ := q_btn (k := 4) (by decide) c2
    refine bad ?_ ?_
    · rw [fX3_areInRange_e, q_b1 (show fX5_isBetween 1 (nI m) 4 = some 1 from q_btw hm (by decide)), if_neg q_10, q_b1 (show fX5_isBetween 1 c 4 = some 0 from b1), if_pos rfl]
    · rw [fX6_problem_e, q_b1 (show fX6_in (nI m) 1 4 = some 1 from q_inw hm (by decide)), if_neg q_10, q_b1 (show fX6_in c 1 4 = some 0 from b2), if_pos rfl]
  obtain ⟨a, ha, rfl⟩ := c2
  obtain ⟨u, hu, rfl⟩ := q_any s
  have hM : ∀ v : Int32, fX6_areAnswers (nI u) (nI m) (nI a) = some v → fX6_problem F G (nI m) (nI a) (nI u) = if v = 0 then fX6_problem_j31 F G (nI m) (nI a) (nI u) else fX6_problem_j32 F G (nI m) (nI a) (nI u) 1 := fun v hv => by
    rw [fX6_problem_e, q_b1 (show fX6_in (nI m) 1 4 = some 1 from q_inw hm (by decide)), if_neg q_10, q_b1 (show fX6_in (nI a) 1 4 = some 1 from q_inw ha (by decide)), if_neg q_10, q_b1 hv]
  by_cases c3 : qok u m a
  rotate_left
  · refine bad ((q_arc hu hm ha).2 c3) ?_
    rw [hM 0 ((q_arm hu hm ha).2 c3), if_pos rfl]
  have h1 := (q_arc hu hm ha).1 c3
  have h2 := hM 1 ((q_arm hu hm ha).1 c3)
  rw [if_neg q_10, fX6_problem_j32_e, if_neg q_10] at h2
  by_cases c4 : n = 6
  · subst c4
    refine ⟨2, 0, Fq, Gq, 0, va_up F 0 2, G, fun _ _ => rfl, ?_, ?_, rfl, fun h => absurd h (by decide), hX, hZ, hQ 2⟩
    · rw [fX5_problem_e, q_b1 h1, if_neg q_10, fX3_hasAll_e, f6, if_neg (by decide), q_b1 rfl, if_neg q_10]
    · rw [h2, hn, if_pos (by decide), h58 2 (by decide)]
  · have hn5 : n < 6 := by omega
    refine ⟨0, nI n, va_up Fq 6 (nI (n + 1)), va_up (va_up (va_up Gq 0 (upd (Gq 0) n (nI m))) 1 (upd (Gq 1) n (nI a))) 2 (upd (Gq 2) n (nI u)), nI n, va_up (va_up F 0 0) 27 (nI (n + 1)), va_up (va_up (va_up G 28 (upd (G 28) n (nI m))) 29 (upd (G 29) n (nI a))) 30 (upd (G 30) n (nI u)), fun h => absurd rfl h, ?_, ?_, rfl, fun _ => rfl, hX, hZ, ?_⟩
    · rw [fX5_problem_e, q_b1 h1, if_neg q_10, fX3_hasAll_e, f6, if_pos (by exact (q_lt (b := 6) (by omega) (by omega)).mpr hn5), q_b1 rfl, if_pos rfl, b_b3 (q_add f6 hn5 _ _ _)]
    · rw [h2, hn, if_neg (by exact fun z => c4 ((nI_eq (b := 6) (by omega) (by omega)).mp z)), fX6_problem_j58_e, b_b2 (q_g0 F), if_neg q_10, b_b3 (q_addM (F := va_up F 0 0) hn hn5 _ _ _)]
    · have hlt : u < 65536 := by
        apply Nat.lt_pow_two_of_testBit (n := 16)
        intro j hj
        cases ht : u.testBit j with
        | false => rfl
        | true => have := c3.2 j ht; omega
      have hq := qS_add hn5 ok (show qOne (nI m) (nI a) (nI u) from ⟨m, a, u, rfl, rfl, rfl, hm.1, hm.2, ha.1, ha.2, hlt, fun j _ hj => c3.2 j hj⟩)
      refine ⟨rfl, ?_, ?_, ?_, hq⟩
      · show upd (Gq 0) n (nI m) = upd (G 28) n (nI m); rw [g0]
      · show upd (Gq 1) n (nI a) = upd (G 29) n (nI a); rw [g1]
      · show upd (Gq 2) n (nI u) = upd (G 30) n (nI u); rw [g2]
theorem o_ofProblem (X : XT) : oL_ofProblem (LRg X) := by
  intro Fp Gp Fo Go Fz Gz Fq Gq F G h p c
  obtain ⟨hX, hZ, ⟨e6, g0, g1, g2, n, hn, hn6, ok⟩⟩ := h
  have f6 : Fq 6 = nI n := e6.trans hn
  have hQ : ∀ k, LQ Fq Gq (va_up F 0 k) G := fun k => ⟨e6, g0, g1, g2, n, hn, hn6, ok⟩
  have h29 : ∀ k : Int32, ¬ k = 0 → fX6_ofProblem_j29 F G c p k = some (0, va_up F 0 k) := fun k h => by
    rw [fX6_ofProblem_j29_e, b_b2 (q_g1 F h), if_pos rfl]
  by_cases c1 : q_lo p n
  rotate_left
  · refine ⟨1, 0, 0, va_up F 0 1, fun _ h => absurd rfl h, ?_, ?_, rfl, fun h => absurd h q_10, hX, hZ, hQ 1⟩
    · rw [fX5_ofProblem_e, q_b1 (q_hasN f6 hn6 p), if_neg c1, if_pos rfl]
    · rw [fX6_ofProblem_e, q_b1 (q_isPb hn hn6 p), if_neg c1, if_pos rfl, h29 1 q_10]
  have hin : fX6_in c 0 2 = some (if q_lo c 3 then 1 else 0) := q_in (n := 3) (by omega) c
  have hbl : fX5_isBelow c 3 = some (if q_lo c 3 then 1 else 0) := q_isBelow (n := 3) (by omega) c
  by_cases c2 : q_lo c 3
  rotate_left
  · refine ⟨2, 0, 0, va_up F 0 2, fun _ _ => rfl, ?_, ?_, rfl, fun h => absurd h (by decide), hX, hZ, hQ 2⟩
    · rw [fX5_ofProblem_e, q_b1 (q_hasN f6 hn6 p), if_pos c1, if_neg q_10, q_b1 hbl, if_neg c2, if_pos rfl]
    · rw [fX6_ofProblem_e, q_b1 (q_isPb hn hn6 p), if_pos c1, if_neg q_10, q_b1 hin, if_neg c2, if_pos rfl, h29 2 (by decide)]
  have hcl : fX5_ofProblem Fq Gq p c = x_b1 (fX3_tell Gq p c) (fun r8 => some (0, r8)) := by
    rw [fX5_ofProblem_e, q_b1 (q_hasN f6 hn6 p), if_pos c1, if_neg q_10, q_b1 hbl, if_pos c2, if_neg q_10]
  have hrf : fX6_ofProblem F G p c = (if c = 0 then x_ld p 6 (some (((G 28) p.toNatClampNeg), va_up F 0 0)) else (if c = 1 then x_ld p 6 (some (((G 29) p.toNatClampNeg), va_up F 0 0)) else x_ld p 6 (some (((G 30) p.toNatClampNeg), va_up F 0 0)))) := by
    rw [fX6_ofProblem_e, q_b1 (q_isPb hn hn6 p), if_pos c1, if_neg q_10, q_b1 hin, if_pos c2, if_neg q_10, fX6_ofProblem_j29_e, b_b2 (q_g0 F), if_neg q_10]
  obtain ⟨a, ha, rfl⟩ := c1
  have ha6 : a < 6 := by omega
  have fin : ∀ v : Int32, fX3_tell Gq (nI a) c = some v → fX6_ofProblem F G (nI a) c = some (v, va_up F 0 0) → ∃ (k r : Int32) (r' : Int32) (F' : xF), (¬ k = 0 → ¬ k = 1 → k = 2) ∧ fX5_ofProblem Fq Gq (nI a) c = some (k, r) ∧ fX6_ofProblem F G (nI a) c = some (r', F') ∧ fX6_thrown F' = some k ∧ (k = 0 → r = r') ∧ LRg X Fp Gp Fo Go Fz Gz Fq Gq F' G := fun v h1 h2 =>
    ⟨0, v, v, va_up F 0 0, fun h => absurd rfl h, by rw [hcl, q_b1 h1], h2, rfl, fun _ => rfl, hX, hZ, hQ 0⟩
  obtain ⟨cn, hc, rfl⟩ := c2
  rcases (show cn = 0 ∨ cn = 1 ∨ cn = 2 by omega) with rfl | rfl | rfl
  · refine fin (G 28 a) ?_ ?_
    · rw [fX3_tell_e, if_pos (by decide), q_ld ha6 (by omega), q_cl (by omega), g0]
    · rw [hrf, if_pos (by decide), q_ld ha6 (by omega), q_cl (by omega)]
  · refine fin (G 29 a) ?_ ?_
    · rw [fX3_tell_e, if_neg (by decide), if_pos (by decide), q_ld ha6 (by omega), q_cl (by omega), g1]
    · rw [hrf, if_neg (by decide), if_pos (by decide), q_ld ha6 (by omega), q_cl (by omega)]
  · refine fin (G 30 a) ?_ ?_
    · rw [fX3_tell_e, if_neg (by decide), if_neg (by decide), q_ld ha6 (by omega), q_cl (by omega), g2]
    · rw [hrf, if_neg (by decide), if_neg (by decide), q_ld ha6 (by omega), q_cl (by omega)]
end QP
