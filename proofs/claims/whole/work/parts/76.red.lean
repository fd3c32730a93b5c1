section QR2
/-! reductions -/
def qdv (b j c : Nat) : Bool := if (c + 1) % b ^ j = 0 then (if b ≤ c / b ^ j % b + 1 then decide ((c + 1) / b ^ j % b = 0 ∧ (c + 1) % b ^ (j + 1) = 0) else decide ((c + 1) / b ^ j % b = c / b ^ j % b + 1 ∧ ∀ k, k < 4 → (c + 1) / b ^ k % b = c / b ^ k % b ∨ k ≤ j)) else true
theorem q_dv0 : ∀ b, b < 4 → ∀ j, j < 4 → ∀ c, c < 256 → qdv (b + 1) j c = true := by decide +kernel
theorem q_dv1 (b : Nat) (hb : b < 5) (h1 : 1 ≤ b) (j : Nat) (hj : j < 4) (c : Nat) (hc : c < 256) (h2 : (c + 1) % b ^ j = 0) (h3 : b ≤ c / b ^ j % b + 1) : (c + 1) / b ^ j % b = 0 ∧ (c + 1) % b ^ (j + 1) = 0 := by
  have h := q_dv0 (b - 1) (by omega) j hj c hc
  rw [show b - 1 + 1 = b by omega, qdv, if_pos h2, if_pos h3, decide_eq_true_eq] at h
  exact h
theorem q_dv2 (b : Nat) (hb : b < 5) (h1 : 1 ≤ b) (j : Nat) (hj : j < 4) (c : Nat) (hc : c < 256) (h2 : (c + 1) % b ^ j = 0) (h3 : ¬ b ≤ c / b ^ j % b + 1) : (c + 1) / b ^ j % b = c / b ^ j % b + 1 ∧ ∀ k, k < 4 → j < k → (c + 1) / b ^ k % b = c / b ^ k % b := by
  have h := q_dv0 (b - 1) (by omega) j hj c hc
  rw [show b - 1 + 1 = b by omega, qdv, if_pos h2, if_neg h3, decide_eq_true_eq] at h
  exact ⟨h.1, fun k hk hjk => (h.2 k hk).elim id (fun g => absurd g (by omega))⟩
theorem q_advl {b n c : Nat} (hb : 1 ≤ b) (hb4 : b ≤ 4) (hn : n ≤ 4) (hc : c < 256) : ∀ (k j N : Nat) (g : Nat → Int32), j + k = n → k < N → (c + 1) % b ^ j = 0 → (∀ i, i < j → g i = nI ((c + 1) / b ^ i % b)) → (∀ i, j ≤ i → i < n → g i = nI (c / b ^ i % b)) →
    ∃ g', fX3_advance_l2 (nI n) 4 (nI b) N (nI j) g = some g' ∧ ∀ i, i < n → g' i = nI ((c + 1) / b ^ i % b) := by
  intro k
  induction k with
  | zero =>
    intro j N g h1 h2 h3 h4 h5
    cases N with
    | zero => omega
    | succ N => exact ⟨g, by rw [fX3_advance_l2_e, if_pos ((q_le (by omega) (by omega)).mpr (by omega))], fun i hi => h4 i (by omega)⟩
  | succ k ih =>
    intro j N g h1 h2 h3 h4 h5
    cases N with
    | zero => omega
    | succ N =>
      have hj := h5 j (Nat.le_refl _) (by omega)
      have hd : c / b ^ j % b < b := Nat.mod_lt _ hb
      by_cases hcar : b ≤ c / b ^ j % b + 1
      · obtain ⟨e1, e2⟩ := q_dv1 b (by omega) hb j (by omega) c hc h3 hcar
        obtain ⟨g', a1, a2⟩ := ih (j + 1) N (upd (upd g j (nI (c / b ^ j % b + 1))) j 0) (by omega) (by omega) e2 (fun i hi => by
          by_cases hij : i = j
          · subst hij; rw [pk_us, e1]; rfl
          · rw [pk_un hij, pk_un hij]; exact h4 i (by omega)) (fun i hi hi2 => by rw [pk_un (show i ≠ j by omega), pk_un (show i ≠ j by omega)]; exact h5 i (by omega) hi2)
        refine ⟨g', ?_, a2⟩
        rw [fX3_advance_l2_e, if_neg (fun z => by have := (q_le (a := n) (b := j) (by omega) (by omega)).mp z; omega), q_ld (by omega) (by omega), q_ld (by omega) (by omega), q_ld (by omega) (by omega), q_cl (by omega), hj, nI_1, pk_us, if_pos ((q_le (by omega) (by omega)).mpr hcar), q_ld (by omega) (by omega), nI_1]
        exact a1
      · obtain ⟨e1, e2⟩ := q_dv2 b (by omega) hb j (by omega) c hc h3 hcar
        refine ⟨upd g j (nI (c / b ^ j % b + 1)), ?_, fun i hi => ?_⟩
        · rw [fX3_advance_l2_e, if_neg (fun z => by have := (q_le (a := n) (b := j) (by omega) (by omega)).mp z; omega), q_ld (by omega) (by omega), q_ld (by omega) (by omega), q_ld (by omega) (by omega), q_cl (by omega), hj, nI_1, pk_us, if_neg (fun z => hcar ((q_le (by omega) (by omega)).mp z))]
        · rcases Nat.lt_trichotomy i j with g1 | g1 | g1
          · rw [pk_un (show i ≠ j by omega)]; exact h4 i g1
          · subst g1; rw [pk_us, e1]
          · rw [pk_un (show i ≠ j by omega), e2 i (by omega) g1]; exact h5 i (by omega) hi
theorem q_adv {b n c : Nat} {g : Nat → Int32} (hb : 1 ≤ b) (hb4 : b ≤ 4) (hn : n ≤ 4) (hc : c < 256) (h : ∀ i, i < n → g i = nI (c / b ^ i % b)) : ∃ g', fX3_advance 4 g (nI n) (nI b) = some g' ∧ ∀ i, i < n → g' i = nI ((c + 1) / b ^ i % b) := by
  rw [fX3_advance_e]
  exact q_advl hb hb4 hn hc n 0 4096 g (by omega) (by omega) (by rw [Nat.pow_zero, Nat.mod_one]) (fun i hi => absurd hi (Nat.not_lt_zero i)) (fun i _ hi => h i hi)
theorem q_clrl : ∀ (k j N : Nat) (g : Nat → Int32), j + k = 4 → k < N → ∃ g', fX3_clear_l2 4 N (nI j) g = some g' ∧ (∀ i, i < j → g' i = g i) ∧ ∀ i, j ≤ i → i < 4 → g' i = 0 := by
  intro k
  induction k with
  | zero =>
    intro j N g h1 h2
    cases N with
    | zero => omega
    | succ N => exact ⟨g, by rw [fX3_clear_l2_e, if_pos (by exact (q_le (a := 4) (b := j) (by omega) (by omega)).mpr (by omega))], fun _ _ => rfl, fun i hi hi2 => by omega⟩
  | succ k ih =>
    intro j N g h1 h2
    cases N with
    | zero => omega
    | succ N =>
      obtain ⟨g', a1, a2, a3⟩ := ih (j + 1) N (upd g j 0) (by omega) (by omega)
      refine ⟨g', ?_, fun i hi => by rw [a2 i (by omega), pk_un (by omega)], fun i hi hi2 => ?_⟩
      · rw [fX3_clear_l2_e, if_neg (fun z => by have := (q_le (a := 4) (b := j) (by omega) (by omega)).mp z; omega), q_ld (by omega) (by omega), q_cl (by omega), nI_1, a1]
      · rcases Nat.lt_or_ge j i with g1 | g1
        · exact a3 i g1 hi2
        · have e : i = j := by omega
          rw [a2 i (by omega), e, pk_us]
theorem q_clear (g : Nat → Int32) : ∃ g', fX3_clear 4 g = some g' ∧ ∀ i, i < 4 → g' i = 0 := by
  rw [fX3_clear_e]
  obtain ⟨g', a1, -, a3⟩ := q_clrl 4 0 4096 g (by omega) (by omega)
  exact ⟨g', a1, fun i hi => a3 i (Nat.zero_le _) hi⟩
theorem q_powl {b n : Nat} (hn : n ≤ 4) : ∀ (k j N v : Nat), j + k = n → k < N → fX3_power_l4 (nI n) (nI b) N (nI v) (nI j) = some (nI (v * b ^ k)) := by
  intro k
  induction k with
  | zero =>
    intro j N v h1 h2
    cases N with
    | zero => omega
    | succ N => rw [fX3_power_l4_e, if_pos ((q_le (by omega) (by omega)).mpr (by omega)), Nat.pow_zero, Nat.mul_one]
  | succ k ih =>
    intro j N v h1 h2
    cases N with
    | zero => omega
    | succ N => rw [fX3_power_l4_e, if_neg (fun z => by have := (q_le (by omega) (by omega)).mp z; omega), pk_mul, nI_1, ih (j + 1) N _ (by omega) (by omega), Nat.mul_assoc, Nat.pow_succ, Nat.mul_comm b]
theorem q_pow {b n : Nat} (hn : n ≤ 4) : fX3_power (nI b) (nI n) = some (nI (b ^ n)) := by
  rw [fX3_power_e]
  have h := q_powl (b := b) hn n 0 4096 1 (by omega) (by omega)
  rw [Nat.one_mul] at h
  exact h
theorem q_pw4 {b n : Nat} (hb : b ≤ 4) (hn : n ≤ 4) : b ^ n ≤ 256 := by
  have h1 : b ^ n ≤ 4 ^ n := Nat.pow_le_pow_left hb n
  have h2 : 4 ^ n ≤ 4 ^ 4 := Nat.pow_le_pow_right (by decide) hn
  omega
/-- what BACK gives for what solves, as bits -/
def qgf (sq t : Nat) (bk : Nat → Nat) : Nat → Nat → Nat → Nat
  | 0, _, v => v
  | k + 1, a, v => qgf sq t bk k (a + 1) (if sq.testBit (4 * t + a) = true then v ||| 2 ^ bk a else v)
theorem qgf_iff {sq t : Nat} {bk : Nat → Nat} : ∀ (k a v c : Nat), (qgf sq t bk k a v).testBit c = true ↔ v.testBit c = true ∨ ∃ x, a ≤ x ∧ x < a + k ∧ sq.testBit (4 * t + x) = true ∧ bk x = c := by
  intro k
  induction k with
  | zero => intro a v c; exact ⟨Or.inl, fun h => h.elim id (fun ⟨x, h1, h2, _⟩ => by omega)⟩
  | succ k ih =>
    intro a v c
    rw [qgf, ih]
    constructor
    · rintro (h | ⟨x, h1, h2, h3, h4⟩)
      · by_cases hs : sq.testBit (4 * t + a) = true
        · rw [if_pos hs, Nat.testBit_or, Bool.or_eq_true, Nat.testBit_two_pow, decide_eq_true_eq] at h
          rcases h with h | h
          · exact Or.inl h
          · exact Or.inr ⟨a, Nat.le_refl _, by omega, hs, h⟩
        · rw [if_neg hs] at h; exact Or.inl h
      · exact Or.inr ⟨x, by omega, by omega, h3, h4⟩
    · rintro (h | ⟨x, h1, h2, h3, h4⟩)
      · left
        by_cases hs : sq.testBit (4 * t + a) = true
        · rw [if_pos hs, Nat.testBit_or, h, Bool.true_or]
        · rw [if_neg hs]; exact h
      · rcases Nat.lt_or_ge a x with g | g
        · exact Or.inr ⟨x, g, by omega, h3, h4⟩
        · have e : x = a := by omega
          subst e
          left
          rw [if_pos h3, Nat.testBit_or, h4, Nat.testBit_two_pow_self, Bool.or_true]
theorem qgf_lt {sq t : Nat} {bk : Nat → Nat} (hb : ∀ a, a < 4 → bk a < 4) : ∀ (k a v : Nat), a + k ≤ 4 → v < 16 → qgf sq t bk k a v < 16 := by
  intro k
  induction k with
  | zero => intro a v _ h; exact h
  | succ k ih =>
    intro a v h1 h
    rw [qgf]
    apply ih (a + 1) _ (by omega)
    split
    · exact Nat.or_lt_two_pow (n := 4) h (Nat.pow_lt_pow_right (by decide) (hb a (by omega)))
    · exact h
/-- what is kept of the class's rows -/
def qsm (G G' : xG) : Prop := G' 0 = G 0 ∧ G' 1 = G 1 ∧ G' 2 = G 2
theorem q_givi {G : xG} {q aq sq t : Nat} {bk : Nat → Nat} (rec2 : Int32 → xG → Option xG) (hq : q < 6) (g1 : G 1 q = nI aq) (haq : aq ≤ 4) (hb : ∀ a, a < aq → G 3 a = nI (bk a) ∧ bk a < 4) (hs : sq < 65536) (ht : t < 4) : ∀ (k a N v : Nat), a + k = aq → k < N → fX3_give_l29 rec2 G (nI q) (nI t) (nI (sq / 2 ^ (4 * t) % 16)) N (nI v) (nI a) = rec2 (nI (t + 1)) (va_up G 5 (upd (G 5) t (nI (qgf sq t bk k a v)))) := by
  have hm : sq / 2 ^ (4 * t) % 16 < 16 := Nat.mod_lt _ (by decide)
  intro k
  induction k with
  | zero =>
    intro a N v h1 h2
    cases N with
    | zero => omega
    | succ N => rw [fX3_give_l29_e, q_ld hq (by omega), q_cl (by omega), g1, if_pos ((q_le (by omega) (by omega)).mpr (by omega)), fX3_give_x69_e, q_ld ht (by omega), q_cl (by omega), nI_1]; rfl
  | succ k ih =>
    intro a N v h1 h2
    cases N with
    | zero => omega
    | succ N =>
      obtain ⟨b1, b2⟩ := hb a (by omega)
      rw [fX3_give_l29_e, q_ld hq (by omega), q_cl (by omega), g1, if_neg (fun z => by have := (q_le (by omega) (by omega)).mp z; omega), q_bit (by omega) (by omega), q_svb, decide_eq_true (show a < 4 by omega), Bool.true_and, qgf]
      cases hc : sq.testBit (4 * t + a) with
      | false => rw [if_neg q_ft, if_pos rfl, if_neg q_ft, fX3_give_j63_e, nI_1, ih (a + 1) N v (by omega) (by omega)]
      | true => rw [if_pos q_tt, if_neg q_10, if_pos q_tt, q_ld (by omega) (by omega), fX3_give_j63_e, q_cl (by omega), b1, q_shl1 (by omega), q_or, nI_1, ih (a + 1) N _ (by omega) (by omega)]
theorem q_givo {G : xG} {q mq aq sq : Nat} {bk : Nat → Nat} (hq : q < 6) (g0 : G 0 q = nI mq) (g1 : G 1 q = nI aq) (g2 : G 2 q = nI sq) (hmq : mq ≤ 4) (haq : aq ≤ 4) (hb : ∀ a, a < aq → G 3 a = nI (bk a) ∧ bk a < 4) (hs : sq < 65536) : ∀ (k t N : Nat) (x : Nat → Int32), t + k = mq → k < N → (∀ i, i < t → x i = nI (qgf sq i bk aq 0 0)) → ∃ x', fX3_give_l2 (nI q) N (nI t) (va_up G 5 x) = some (va_up G 5 x') ∧ ∀ i, i < mq → x' i = nI (qgf sq i bk aq 0 0) := by
  intro k
  induction k with
  | zero =>
    intro t N x h1 h2 h3
    cases N with
    | zero => omega
    | succ N =>
      refine ⟨x, ?_, fun i hi => h3 i (by omega)⟩
      rw [fX3_give_l2_e, q_ld hq (by omega), q_cl (by omega), show (va_up G 5 x) 0 q = nI mq from g0, if_pos ((q_le (by omega) (by omega)).mpr (by omega))]
  | succ k ih =>
    intro t N x h1 h2 h3
    cases N with
    | zero => omega
    | succ N =>
      obtain ⟨x', a1, a2⟩ := ih (t + 1) N (upd x t (nI (qgf sq t bk aq 0 0))) (by omega) (by omega) (fun i hi => by
        by_cases e : i = t
        · subst e; rw [pk_us]
        · rw [pk_un e]; exact h3 i (by omega))
      refine ⟨x', ?_, a2⟩
      rw [fX3_give_l2_e, q_ld hq (by omega), q_cl (by omega), show (va_up G 5 x) 0 q = nI mq from g0, if_neg (fun z => by have := (q_le (by omega) (by omega)).mp z; omega), q_ld hq (by omega), show (va_up G 5 x) 2 q = nI sq from g2, q_b1 (q_sv (by omega) (by omega))]
      refine (q_givi (G := va_up G 5 x) _ hq g1 haq hb hs (by omega) aq 0 4096 0 (by omega) (by omega)).trans ?_
      rw [bx_uu, u_s]
      exact a1
theorem q_give {G : xG} {q mq aq sq : Nat} {bk : Nat → Nat} (hq : q < 6) (g0 : G 0 q = nI mq) (g1 : G 1 q = nI aq) (g2 : G 2 q = nI sq) (hmq : mq ≤ 4) (haq : aq ≤ 4) (hb : ∀ a, a < aq → G 3 a = nI (bk a) ∧ bk a < 4) (hs : sq < 65536) : ∃ x', fX3_give G (nI q) = some (va_up G 5 x') ∧ ∀ i, i < mq → x' i = nI (qgf sq i bk aq 0 0) := by
  have h := q_givo hq g0 g1 g2 hmq haq hb hs mq 0 4096 (G 5) (by omega) (by omega) (fun i hi => absurd hi (Nat.not_lt_zero i))
  rw [u_id] at h
  rw [fX3_give_e]
  exact h
/-- by code c the instance t of the other one serves the instance i -/
def qD (sp sq ap aq c i t : Nat) : Bool := decide (∀ a, a < aq → sq.testBit (4 * t + a) = true → sp.testBit (4 * i + c / ap ^ a % ap) = true)
theorem q_isb {G : xG} {p sp sq ap aq c i t : Nat} (hp : p < 6) (g2 : G 2 p = nI sp) (h5 : G 5 t = nI (qgf sq t (fun a => c / ap ^ a % ap) aq 0 0)) (hap : 1 ≤ ap) (hap4 : ap ≤ 4) (haq : aq ≤ 4) (hs : sp < 65536) (hi : i < 4) (ht : t < 4) : fX3_isSolvedBack G (nI p) (nI i) (nI t) = some (if qD sp sq ap aq c i t = true then 1 else 0) := by
  have hdg : ∀ a, c / ap ^ a % ap < 4 := fun a => Nat.lt_of_lt_of_le (Nat.mod_lt _ hap) hap4
  have hlt : qgf sq t (fun a => c / ap ^ a % ap) aq 0 0 < 16 := qgf_lt (fun a _ => hdg a) aq 0 0 (by omega) (by omega)
  have key : (nI (qgf sq t (fun a => c / ap ^ a % ap) aq 0 0) &&& (nI (sp / 2 ^ (4 * i) % 16) ^^^ (-1))) = 0 ↔ qD sp sq ap aq c i t = true := by
    rw [q_sub (by omega), qD, decide_eq_true_eq]
    constructor
    · intro h a ha hsa
      have h1 := h (c / ap ^ a % ap) (by have := hdg a; omega) ((qgf_iff aq 0 0 _).mpr (Or.inr ⟨a, Nat.zero_le _, by omega, hsa, rfl⟩))
      rw [q_svb, Bool.and_eq_true] at h1
      exact h1.2
    · intro h x hx hb
      rcases (qgf_iff aq 0 0 x).mp hb with h1 | ⟨a, -, h2, h3, h4⟩
      · rw [Nat.zero_testBit] at h1; cases h1
      · have h5 := h a (by omega) h3
        have h6 : c / ap ^ a % ap = x := h4
        rw [h6] at h5
        rw [q_svb, h5, decide_eq_true (show x < 4 by have := hdg a; omega)]
        rfl
  rw [fX3_isSolvedBack_e, q_ld ht (by omega), q_ld hp (by omega), q_cl (by omega), q_cl (by omega), g2, q_b1 (q_sv (by omega) (by omega)), h5]
  by_cases h : qD sp sq ap aq c i t = true
  · rw [if_pos (key.mpr h), if_pos h]
  · rw [if_neg (fun z => h (key.mp z)), if_neg h]
/-- the first of k from t on -/
def qft (D : Nat → Bool) : Nat → Nat → Option Nat
  | 0, _ => none
  | k + 1, t => if D t = true then some t else qft D k (t + 1)
theorem qft_some {D : Nat → Bool} : ∀ (k t r : Nat), qft D k t = some r → t ≤ r ∧ r < t + k ∧ D r = true := by
  intro k
  induction k with
  | zero => intro t r h; cases h
  | succ k ih =>
    intro t r h
    rw [qft] at h
    by_cases hd : D t = true
    · rw [if_pos hd] at h; cases h; exact ⟨Nat.le_refl _, by omega, hd⟩
    · rw [if_neg hd] at h
      obtain ⟨h1, h2, h3⟩ := ih _ _ h
      exact ⟨by omega, by omega, h3⟩
theorem qft_none {D : Nat → Bool} : ∀ (k t : Nat), qft D k t = none → ∀ r, t ≤ r → r < t + k → ¬ D r = true := by
  intro k
  induction k with
  | zero => intro t _ r h1 h2; omega
  | succ k ih =>
    intro t h r h1 h2
    rw [qft] at h
    by_cases hd : D t = true
    · rw [if_pos hd] at h; cases h
    · rw [if_neg hd] at h
      rcases Nat.lt_or_ge t r with g | g
      · exact ih _ h r g (by omega)
      · have e : r = t := by omega
        rw [e]; exact hd
theorem qft_snoc {D : Nat → Bool} : ∀ (k t : Nat), qft D (k + 1) t = match qft D k t with
    | some r => some r
    | none => if D (t + k) = true then some (t + k) else none := by
  intro k
  induction k with
  | zero => intro t; rfl
  | succ k ih =>
    intro t
    rw [qft, ih (t + 1)]
    by_cases hd : D t = true
    · rw [if_pos hd, qft, if_pos hd]
    · rw [if_neg hd, qft, if_neg hd, show t + 1 + k = t + (k + 1) by omega]
def qal (P : Nat → Bool) : Nat → Nat → Bool
  | 0, _ => true
  | k + 1, i => if P i = true then qal P k (i + 1) else false
theorem qal_iff {P : Nat → Bool} : ∀ (k i : Nat), qal P k i = true ↔ ∀ j, i ≤ j → j < i + k → P j = true := by
  intro k
  induction k with
  | zero => intro i; exact ⟨fun _ j h1 h2 => by omega, fun _ => rfl⟩
  | succ k ih =>
    intro i
    rw [qal]
    by_cases hp : P i = true
    · rw [if_pos hp, ih]
      constructor
      · intro h j h1 h2
        rcases Nat.lt_or_ge i j with g | g
        · exact h j g (by omega)
        · have e : j = i := by omega
          rw [e]; exact hp
      · intro h j h1 h2; exact h j (by omega) (by omega)
    · rw [if_neg hp]
      exact ⟨fun h => (by cases h), fun h => absurd (h i (Nat.le_refl _) (by omega)) hp⟩
theorem q_lfl {G : xG} {p q mq i : Nat} {D : Nat → Bool} (hq : q < 6) (g0 : G 0 q = nI mq) (hmq : mq ≤ 4) (hD : ∀ t, t < mq → fX3_isSolvedBack G (nI p) (nI i) (nI t) = some (if D t = true then 1 else 0)) : ∀ (k t N : Nat), t + k = mq → k < N → fX3_lowestForth_l3 G (nI q) (nI p) (nI i) N (nI t) = some (zix (-1) (qft D k t)) := by
  intro k
  induction k with
  | zero =>
    intro t N h1 h2
    cases N with
    | zero => omega
    | succ N => rw [fX3_lowestForth_l3_e, q_ld hq (by omega), q_cl (by omega), g0, if_pos ((q_le (by omega) (by omega)).mpr (by omega))]; rfl
  | succ k ih =>
    intro t N h1 h2
    cases N with
    | zero => omega
    | succ N =>
      rw [fX3_lowestForth_l3_e, q_ld hq (by omega), q_cl (by omega), g0, if_neg (fun z => by have := (q_le (by omega) (by omega)).mp z; omega), q_b1 (hD t (by omega)), qft]
      by_cases hd : D t = true
      · rw [if_pos hd, if_neg q_10, if_pos hd]; rfl
      · rw [if_neg hd, if_pos rfl, if_neg hd, nI_1, ih (t + 1) N (by omega) (by omega)]
theorem q_hfl {G : xG} {p q mp mq : Nat} {D : Nat → Nat → Bool} (hp : p < 6) (hq : q < 6) (g0p : G 0 p = nI mp) (g0 : G 0 q = nI mq) (hmp : mp ≤ 4) (hmq : mq ≤ 4) (hD : ∀ i t, i < mp → t < mq → fX3_isSolvedBack G (nI p) (nI i) (nI t) = some (if D i t = true then 1 else 0)) : ∀ (k i N : Nat), i + k = mp → k < N → fX3_hasForth_l2 G (nI p) (nI q) N (nI i) = some (if qal (fun i => (qft (D i) mq 0).isSome) k i = true then 1 else 0) := by
  intro k
  induction k with
  | zero =>
    intro i N h1 h2
    cases N with
    | zero => omega
    | succ N => rw [fX3_hasForth_l2_e, q_ld hp (by omega), q_cl (by omega), g0p, if_pos ((q_le (by omega) (by omega)).mpr (by omega))]; rfl
  | succ k ih =>
    intro i N h1 h2
    cases N with
    | zero => omega
    | succ N =>
      have hl : fX3_lowestForth G (nI p) (nI q) (nI i) = some (zix (-1) (qft (D i) mq 0)) := by
        rw [fX3_lowestForth_e]
        exact q_lfl hq g0 hmq (fun t ht => hD i t (by omega) ht) mq 0 4096 (by omega) (by omega)
      rw [fX3_hasForth_l2_e, q_ld hp (by omega), q_cl (by omega), g0p, if_neg (fun z => by have := (q_le (by omega) (by omega)).mp z; omega), q_b1 hl, qal]
      cases hf : qft (D i) mq 0 with
      | none => exact if_pos rfl
      | some r =>
        obtain ⟨-, h4, -⟩ := qft_some _ _ _ hf
        show (if nI r = -1 then some 0 else fX3_hasForth_l2 G (nI p) (nI q) N (nI i + 1)) = some (if qal (fun i => (qft (D i) mq 0).isSome) k (i + 1) = true then 1 else 0)
        rw [if_neg (q_ne1 (by omega)), nI_1, ih (i + 1) N (by omega) (by omega)]
theorem q_fdl {G : xG} {p mp : Nat} {f : Nat → Nat} {D : Nat → Nat → Bool} (hp : p < 6) (g0p : G 0 p = nI mp) (hmp : mp ≤ 4) (hf : ∀ i, i < mp → G 4 i = nI (f i)) (hD : ∀ i, i < mp → fX3_isSolvedBack G (nI p) (nI i) (nI (f i)) = some (if D i (f i) = true then 1 else 0)) : ∀ (k i N : Nat), i + k = mp → k < N → fX3_forthDoes_l2 G (nI p) N (nI i) = some (if qal (fun i => D i (f i)) k i = true then 1 else 0) := by
  intro k
  induction k with
  | zero =>
    intro i N h1 h2
    cases N with
    | zero => omega
    | succ N => rw [fX3_forthDoes_l2_e, q_ld hp (by omega), q_cl (by omega), g0p, if_pos ((q_le (by omega) (by omega)).mpr (by omega))]; rfl
  | succ k ih =>
    intro i N h1 h2
    cases N with
    | zero => omega
    | succ N =>
      rw [fX3_forthDoes_l2_e, q_ld hp (by omega), q_cl (by omega), g0p, if_neg (fun z => by have := (q_le (by omega) (by omega)).mp z; omega), q_ld (by omega) (by omega), q_cl (by omega), hf i (by omega), q_b1 (hD i (by omega)), qal]
      by_cases hd : D i (f i) = true
      · rw [if_pos hd, if_neg q_10, if_pos hd, nI_1, ih (i + 1) N (by omega) (by omega)]
      · rw [if_neg hd, if_pos rfl, if_neg hd, if_neg q_ft]
/-- the code of a map -/
def qen (b : Nat) (f : Nat → Nat) : Nat → Nat
  | 0 => 0
  | n + 1 => qen b f n + f n * b ^ n
theorem qen_lt {b : Nat} {f : Nat → Nat} : ∀ n, (∀ i, i < n → f i < b) → qen b f n < b ^ n := by
  intro n
  induction n with
  | zero => intro _; exact Nat.one_pos
  | succ n ih =>
    intro h
    have h1 := ih (fun i hi => h i (by omega))
    have h2 : (f n + 1) * b ^ n ≤ b * b ^ n := Nat.mul_le_mul_right _ (h n (by omega))
    rw [qen, Nat.pow_succ, Nat.mul_comm (b ^ n)]
    rw [Nat.add_mul, Nat.one_mul] at h2
    omega
theorem qen_dig {b : Nat} {f : Nat → Nat} (hb : 1 ≤ b) : ∀ n, (∀ i, i < n → f i < b) → ∀ i, i < n → qen b f n / b ^ i % b = f i := by
  intro n
  induction n with
  | zero => intro _ i hi; omega
  | succ n ih =>
    intro h i hi
    rw [qen]
    rcases Nat.lt_or_ge i n with g | g
    · obtain ⟨d, hd⟩ : ∃ d, n = i + (d + 1) := ⟨n - i - 1, by omega⟩
      have e : f n * b ^ n = b ^ i * (b * (f n * b ^ d)) := by
        rw [hd, Nat.pow_add, Nat.pow_succ]
        simp only [Nat.mul_assoc, Nat.mul_comm, Nat.mul_left_comm]
      rw [e, Nat.add_mul_div_left _ _ (Nat.pow_pos (by omega)), Nat.add_mul_mod_self_left]
      exact ih (fun i hi => h i (by omega)) i g
    · have e : i = n := by omega
      subst e
      rw [Nat.add_mul_div_right _ _ (Nat.pow_pos (by omega)), Nat.div_eq_of_lt (qen_lt i (fun j hj => h j (by omega))), Nat.zero_add, Nat.mod_eq_of_lt (h i (by omega))]
def qex (P : Nat → Bool) : Nat → Nat → Bool
  | 0, _ => false
  | k + 1, i => if P i = true then true else qex P k (i + 1)
theorem qex_iff {P : Nat → Bool} : ∀ (k i : Nat), qex P k i = true ↔ ∃ j, i ≤ j ∧ j < i + k ∧ P j = true := by
  intro k
  induction k with
  | zero => intro i; exact ⟨fun h => (by cases h), fun ⟨j, h1, h2, _⟩ => by omega⟩
  | succ k ih =>
    intro i
    rw [qex]
    by_cases hp : P i = true
    · rw [if_pos hp]; exact ⟨fun _ => ⟨i, Nat.le_refl _, by omega, hp⟩, fun _ => rfl⟩
    · rw [if_neg hp, ih]
      constructor
      · rintro ⟨j, h1, h2, h3⟩; exact ⟨j, by omega, by omega, h3⟩
      · rintro ⟨j, h1, h2, h3⟩
        rcases Nat.lt_or_ge i j with g | g
        · exact ⟨j, g, by omega, h3⟩
        · have e : j = i := by omega
          rw [e] at h3; exact absurd h3 hp
/-- some FORTH map does exactly if each instance has one that does -/
theorem q_some {mp mq : Nat} {D : Nat → Nat → Bool} (hmq : 1 ≤ mq) : qex (fun m => qal (fun i => D i (m / mq ^ i % mq)) mp 0) (mq ^ mp) 0 = qal (fun i => (qft (D i) mq 0).isSome) mp 0 := by
  have h : qex (fun m => qal (fun i => D i (m / mq ^ i % mq)) mp 0) (mq ^ mp) 0 = true ↔ qal (fun i => (qft (D i) mq 0).isSome) mp 0 = true := by
    rw [qex_iff, qal_iff]
    constructor
    · rintro ⟨m, -, h2, h3⟩ i h4 h5
      have h6 := (qal_iff mp 0).mp h3 i h4 h5
      show (qft (D i) mq 0).isSome = true
      cases hf : qft (D i) mq 0 with
      | some r => rfl
      | none => exact absurd h6 (qft_none _ _ hf _ (Nat.zero_le _) (by have := Nat.mod_lt (m / mq ^ i) hmq; omega))
    · intro h1
      have hf : ∀ i, i < mp → (qft (D i) mq 0).getD 0 < mq ∧ D i ((qft (D i) mq 0).getD 0) = true := fun i hi => by
        have h2 := h1 i (Nat.zero_le _) (by omega)
        cases hq : qft (D i) mq 0 with
        | none => rw [hq] at h2; cases h2
        | some r =>
          obtain ⟨-, h3, h4⟩ := qft_some _ _ _ hq
          exact ⟨by show r < mq; omega, h4⟩
      have hfl : ∀ i, i < mp → (fun i => (qft (D i) mq 0).getD 0) i < mq := fun i hi => (hf i hi).1
      refine ⟨qen mq (fun i => (qft (D i) mq 0).getD 0) mp, Nat.zero_le _, by have := qen_lt mp hfl; omega, (qal_iff mp 0).mpr (fun i _ hi => ?_)⟩
      show D i (qen mq (fun i => (qft (D i) mq 0).getD 0) mp / mq ^ i % mq) = true
      rw [qen_dig hmq mp hfl i (by omega)]
      exact (hf i (by omega)).2
  cases h1 : qex (fun m => qal (fun i => D i (m / mq ^ i % mq)) mp 0) (mq ^ mp) 0 with
  | true => rw [(h.mp h1)]
  | false =>
    cases h2 : qal (fun i => (qft (D i) mq 0).isSome) mp 0 with
    | false => rfl
    | true => rw [h.mpr h2] at h1; cases h1
theorem q_sfl {G : xG} {p q mp mq : Nat} {D : Nat → Nat → Bool} (hp : p < 6) (hq : q < 6) (g0p : G 0 p = nI mp) (g0 : G 0 q = nI mq) (hmp : mp ≤ 4) (hmq1 : 1 ≤ mq) (hmq : mq ≤ 4) (hD : ∀ y i t, i < mp → t < mq → fX3_isSolvedBack (va_up G 4 y) (nI p) (nI i) (nI t) = some (if D i t = true then 1 else 0)) : ∀ (k m N : Nat) (y : Nat → Int32), m + k = mq ^ mp → k < N → (∀ i, i < mp → y i = nI (m / mq ^ i % mq)) → ∃ y', fX3_someForthDoes_l26 (nI (mq ^ mp)) (nI p) (nI q) N (nI m) (va_up G 4 y) = some (if qex (fun m => qal (fun i => D i (m / mq ^ i % mq)) mp 0) k m = true then 1 else 0, va_up G 4 y') := by
  have hpw := q_pw4 hmq hmp
  intro k
  induction k with
  | zero =>
    intro m N y h1 h2 h3
    cases N with
    | zero => omega
    | succ N => exact ⟨y, by rw [fX3_someForthDoes_l26_e, if_pos ((q_le (by omega) (by omega)).mpr (by omega))]; rfl⟩
  | succ k ih =>
    intro m N y h1 h2 h3
    cases N with
    | zero => omega
    | succ N =>
      have hfd : fX3_forthDoes (va_up G 4 y) (nI p) = some (if qal (fun i => D i (m / mq ^ i % mq)) mp 0 = true then 1 else 0) := by
        rw [fX3_forthDoes_e]
        exact q_fdl (G := va_up G 4 y) (f := fun i => m / mq ^ i % mq) hp g0p hmp (fun i hi => h3 i hi) (fun i hi => hD y i _ hi (Nat.mod_lt _ hmq1)) mp 0 4096 (by omega) (by omega)
      by_cases hd : qal (fun i => D i (m / mq ^ i % mq)) mp 0 = true
      · refine ⟨y, ?_⟩
        rw [fX3_someForthDoes_l26_e, if_neg (fun z => by have := (q_le (by omega) (by omega)).mp z; omega), q_b1 hfd, if_pos hd, if_neg q_10, qex, if_pos hd, if_pos q_tt]
      · obtain ⟨y2, b1, b2⟩ := q_adv (g := y) hmq1 hmq hmp (show m < 256 by omega) h3
        obtain ⟨y', a1⟩ := ih (m + 1) N y2 (by omega) (by omega) b2
        refine ⟨y', ?_⟩
        rw [fX3_someForthDoes_l26_e, if_neg (fun z => by have := (q_le (by omega) (by omega)).mp z; omega), q_b1 hfd, if_neg hd, if_pos rfl, q_ld hp (by omega), q_ld hq (by omega), q_cl (by omega), q_cl (by omega)]
        show x_b1 (fX3_advance 4 y (G 0 p) (G 0 q)) (fun g16 => fX3_someForthDoes_l26 (nI (mq ^ mp)) (nI p) (nI q) N (nI m + 1) (va_up (va_up G 4 y) 4 g16)) = _
        rw [g0p, g0, q_b1 b1, bx_uu, nI_1, a1, qex, if_neg hd]
theorem q_sfd {G : xG} {p q mp mq : Nat} {D : Nat → Nat → Bool} (hp : p < 6) (hq : q < 6) (g0p : G 0 p = nI mp) (g0 : G 0 q = nI mq) (hmp : mp ≤ 4) (hmq1 : 1 ≤ mq) (hmq : mq ≤ 4) (hD : ∀ y i t, i < mp → t < mq → fX3_isSolvedBack (va_up G 4 y) (nI p) (nI i) (nI t) = some (if D i t = true then 1 else 0)) : ∃ y', fX3_someForthDoes G (nI p) (nI q) = some (if qal (fun i => (qft (D i) mq 0).isSome) mp 0 = true then 1 else 0, va_up G 4 y') := by
  obtain ⟨y0, c1, c2⟩ := q_clear (G 4)
  have hpw := q_pw4 hmq hmp
  obtain ⟨y', a1⟩ := q_sfl (D := D) hp hq g0p g0 hmp hmq1 hmq hD (mq ^ mp) 0 4096 y0 (by omega) (by omega) (fun i hi => by rw [c2 i (by omega), Nat.zero_div, Nat.zero_mod]; rfl)
  refine ⟨y', ?_⟩
  rw [fX3_someForthDoes_e, q_b1 c1, q_ld hq (by omega), q_ld hp (by omega), q_cl (by omega), q_cl (by omega), g0p, g0, q_b1 (q_pow hmp), ← q_some hmq1]
  exact a1
/-- whether a code does -/
def qP (sp sq ap aq mp mq c : Nat) : Bool := qal (fun i => (qft (qD sp sq ap aq c i) mq 0).isSome) mp 0
theorem q_lcl {G : xG} {p q mp mq ap aq sp sq : Nat} {w : Int32} (hw : w = 0 ∨ w = 1) (hp : p < 6) (hq : q < 6) (g0p : G 0 p = nI mp) (g0 : G 0 q = nI mq) (g1p : G 1 p = nI ap) (g1 : G 1 q = nI aq) (g2p : G 2 p = nI sp) (g2 : G 2 q = nI sq) (hmp : mp ≤ 4) (hmq1 : 1 ≤ mq) (hmq : mq ≤ 4) (hap1 : 1 ≤ ap) (hap : ap ≤ 4) (haq : aq ≤ 4) (hsp : sp < 65536) (hsq : sq < 65536) : ∀ (k c N : Nat) (H : xG), c + k = ap ^ aq → k < N → qsm G H → (∀ i, i < aq → H 3 i = nI (c / ap ^ i % ap)) → ∃ H', fX3_lowestCode_l27 (nI (ap ^ aq)) (nI q) w (nI p) N (nI c) H = some (zix (-1) (qft (qP sp sq ap aq mp mq) k c), H') ∧ qsm G H' ∧ ∀ r, qft (qP sp sq ap aq mp mq) k c = some r → ∀ i t, i < mp → t < mq → fX3_isSolvedBack H' (nI p) (nI i) (nI t) = some (if qD sp sq ap aq r i t = true then 1 else 0) := by
  have hpw := q_pw4 hap haq
  intro k
  induction k with
  | zero =>
    intro c N H h1 h2 h3 h4
    cases N with
    | zero => omega
    | succ N => exact ⟨H, by rw [fX3_lowestCode_l27_e, if_pos ((q_le (by omega) (by omega)).mpr (by omega))]; rfl, h3, fun r h => by cases h⟩
  | succ k ih =>
    intro c N H h1 h2 h3 h4
    cases N with
    | zero => omega
    | succ N =>
      have hdg : ∀ a, c / ap ^ a % ap < 4 := fun a => Nat.lt_of_lt_of_le (Nat.mod_lt _ hap1) hap
      obtain ⟨x', e1, e2⟩ := q_give (G := H) (q := q) (mq := mq) (aq := aq) (sq := sq) (bk := fun a => c / ap ^ a % ap) hq (by rw [h3.1]; exact g0) (by rw [h3.2.1]; exact g1) (by rw [h3.2.2]; exact g2) hmq haq (fun a ha => ⟨h4 a ha, hdg a⟩) hsq
      have hD : ∀ (K : xG), K 2 = H 2 → K 5 = x' → ∀ i t, i < mp → t < mq → fX3_isSolvedBack K (nI p) (nI i) (nI t) = some (if qD sp sq ap aq c i t = true then 1 else 0) := fun K k2 k5 i t hi ht =>
        q_isb hp (by rw [k2, h3.2.2]; exact g2p) (by rw [k5]; exact e2 t ht) hap1 hap haq hsp (by omega) (by omega)
      have hnext : ∀ (K : xG), qsm G K → K 3 = H 3 → ∃ H', fX3_lowestCode_j67 (fX3_lowestCode_l27 (nI (ap ^ aq)) (nI q) w (nI p) N) (nI q) (nI p) (nI c) K = some (zix (-1) (qft (qP sp sq ap aq mp mq) k (c + 1)), H') ∧ qsm G H' ∧ ∀ r, qft (qP sp sq ap aq mp mq) k (c + 1) = some r → ∀ i t, i < mp → t < mq → fX3_isSolvedBack H' (nI p) (nI i) (nI t) = some (if qD sp sq ap aq r i t = true then 1 else 0) := fun K kk k3 => by
        obtain ⟨y2, b1, b2⟩ := q_adv (g := H 3) hap1 hap haq (show c < 256 by omega) h4
        obtain ⟨H', a1, a2, a3⟩ := ih (c + 1) N (va_up K 3 y2) (by omega) (by omega) kk b2
        refine ⟨H', ?_, a2, a3⟩
        rw [fX3_lowestCode_j67_e, q_ld hq (by omega), q_ld hp (by omega), q_cl (by omega), q_cl (by omega), kk.2.1, g1, g1p, k3, q_b1 b1, nI_1, a1]
      have hstep : fX3_lowestCode_l27 (nI (ap ^ aq)) (nI q) w (nI p) (N + 1) (nI c) H = (if w = 0 then x_b1 (fX3_hasForth (va_up H 5 x') (nI p) (nI q)) (fun r19 => (if r19 = 0 then (fX3_lowestCode_j67 (fX3_lowestCode_l27 (nI (ap ^ aq)) (nI q) w (nI p) N) (nI q) (nI p) (nI c)) (va_up H 5 x') else some (nI c, va_up H 5 x'))) else x_b2 (fX3_someForthDoes (va_up H 5 x') (nI p) (nI q)) (fun r22 G23 => (if r22 = 0 then (fX3_lowestCode_j67 (fX3_lowestCode_l27 (nI (ap ^ aq)) (nI q) w (nI p) N) (nI q) (nI p) (nI c)) G23 else some (nI c, G23)))) := by
        rw [fX3_lowestCode_l27_e, if_neg (fun z => by have := (q_le (by omega) (by omega)).mp z; omega), q_b1 e1]
      have k0 : qsm G (va_up H 5 x') := h3
      have f0p : (va_up H 5 x') 0 p = nI mp := by show H 0 p = nI mp; rw [h3.1]; exact g0p
      have f0 : (va_up H 5 x') 0 q = nI mq := by show H 0 q = nI mq; rw [h3.1]; exact g0
      rw [hstep, qft]
      rcases hw with rfl | rfl
      · rw [if_pos rfl]
        have hh : fX3_hasForth (va_up H 5 x') (nI p) (nI q) = some (if qP sp sq ap aq mp mq c = true then 1 else 0) := by
          rw [fX3_hasForth_e]
          exact q_hfl hp hq f0p f0 hmp hmq (hD (va_up H 5 x') rfl u_s) mp 0 4096 (by omega) (by omega)
        rw [q_b1 hh]
        by_cases hd : qP sp sq ap aq mp mq c = true
        · rw [if_pos hd, if_neg q_10, if_pos hd]
          refine ⟨va_up H 5 x', rfl, k0, fun r h => ?_⟩
          cases h
          exact hD _ rfl u_s
        · rw [if_neg hd, if_pos rfl, if_neg hd]
          exact hnext _ k0 rfl
      · rw [if_neg q_10]
        obtain ⟨y', hh⟩ := q_sfd (G := va_up H 5 x') (D := qD sp sq ap aq c) hp hq f0p f0 hmp hmq1 hmq (fun y i t hi ht => hD (va_up (va_up H 5 x') 4 y) rfl rfl i t hi ht)
        rw [b_b2 hh]
        by_cases hd : qP sp sq ap aq mp mq c = true
        · rw [if_pos (show qal (fun i => (qft (qD sp sq ap aq c i) mq 0).isSome) mp 0 = true from hd), if_neg q_10, if_pos hd]
          refine ⟨va_up (va_up H 5 x') 4 y', rfl, k0, fun r h => ?_⟩
          cases h
          exact hD _ rfl rfl
        · rw [if_neg (show ¬ qal (fun i => (qft (qD sp sq ap aq c i) mq 0).isSome) mp 0 = true from hd), if_pos rfl, if_neg hd]
          exact hnext (va_up (va_up H 5 x') 4 y') k0 rfl
theorem q_lc {G : xG} {p q mp mq ap aq sp sq : Nat} {w : Int32} (hw : w = 0 ∨ w = 1) (hp : p < 6) (hq : q < 6) (g0p : G 0 p = nI mp) (g0 : G 0 q = nI mq) (g1p : G 1 p = nI ap) (g1 : G 1 q = nI aq) (g2p : G 2 p = nI sp) (g2 : G 2 q = nI sq) (hmp : mp ≤ 4) (hmq1 : 1 ≤ mq) (hmq : mq ≤ 4) (hap1 : 1 ≤ ap) (hap : ap ≤ 4) (haq : aq ≤ 4) (hsp : sp < 65536) (hsq : sq < 65536) : ∃ H', fX3_lowestCode G (nI p) (nI q) w = some (zix (-1) (qft (qP sp sq ap aq mp mq) (ap ^ aq) 0), H') ∧ qsm G H' ∧ ∀ r, qft (qP sp sq ap aq mp mq) (ap ^ aq) 0 = some r → ∀ i t, i < mp → t < mq → fX3_isSolvedBack H' (nI p) (nI i) (nI t) = some (if qD sp sq ap aq r i t = true then 1 else 0) := by
  obtain ⟨y0, c1, c2⟩ := q_clear (G 3)
  have hpw := q_pw4 hap haq
  obtain ⟨H', a1, a2, a3⟩ := q_lcl hw hp hq g0p g0 g1p g1 g2p g2 hmp hmq1 hmq hap1 hap haq hsp hsq (ap ^ aq) 0 4096 (va_up G 3 y0) (by omega) (by omega) ⟨rfl, rfl, rfl⟩ (fun i hi => by
    show y0 i = _
    rw [c2 i (by omega), Nat.zero_div, Nat.zero_mod]; rfl)
  refine ⟨H', ?_, a2, a3⟩
  rw [fX3_lowestCode_e, q_b1 c1, q_ld hp (by omega), q_ld hq (by omega), q_cl (by omega), q_cl (by omega), g1p, g1, q_b1 (q_pow haq)]
  exact a1
/-! the reference's way -/
theorem q_gvm {b : Nat} (hb : 1 ≤ b) (hb4 : b ≤ 4) {n : Nat} (hn : n ≤ 4) : ∀ (k j N v : Nat), j + k = n → k < N → v < 2 ^ 31 → fX6_given_l5 (nI n) (nI b) N (nI v) (nI j) = some (nI (v / b ^ k % b)) := by
  have nb : ¬ nI b = 0 := fun z => by have := (q_nI0 (by omega)).mp z; omega
  intro k
  induction k with
  | zero =>
    intro j N v h1 h2 hv
    cases N with
    | zero => omega
    | succ N => rw [fX6_given_l5_e, if_pos ((q_le (by omega) (by omega)).mpr (by omega)), x_dvI nb, show x_rem (nI v) (nI b) = nI (v % b) from pk_rem hv hb (by omega), Nat.pow_zero, Nat.div_one]
  | succ k ih =>
    intro j N v h1 h2 hv
    cases N with
    | zero => omega
    | succ N =>
      have hd : v / b ≤ v := Nat.div_le_self _ _
      rw [fX6_given_l5_e, if_neg (fun z => by have := (q_le (by omega) (by omega)).mp z; omega), x_dvI nb, pk_div hv hb (by omega), nI_1, ih (j + 1) N _ (by omega) (by omega) (by omega), Nat.div_div_eq_div_mul, Nat.pow_succ, Nat.mul_comm b]
theorem q_given {b n c : Nat} (hb : 1 ≤ b) (hb4 : b ≤ 4) (hn : n ≤ 4) (hc : c < 2 ^ 31) : fX6_given (nI c) (nI b) (nI n) = some (nI (c / b ^ n % b)) := by
  rw [fX6_given_e]
  exact q_gvm hb hb4 hn n 0 4096 c (by omega) (by omega) hc
def qDl (sp sq ap c i t : Nat) : Nat → Nat → Bool → Bool
  | 0, _, v => v
  | k + 1, a, v => qDl sp sq ap c i t k (a + 1) (v && (!sq.testBit (4 * t + a) || sp.testBit (4 * i + c / ap ^ a % ap)))
theorem qDl_iff {sp sq ap c i t : Nat} : ∀ (k a : Nat) (v : Bool), qDl sp sq ap c i t k a v = true ↔ v = true ∧ ∀ x, a ≤ x → x < a + k → sq.testBit (4 * t + x) = true → sp.testBit (4 * i + c / ap ^ x % ap) = true := by
  intro k
  induction k with
  | zero => intro a v; exact ⟨fun h => ⟨h, fun x h1 h2 => by omega⟩, fun h => h.1⟩
  | succ k ih =>
    intro a v
    rw [qDl, ih, Bool.and_eq_true]
    constructor
    · rintro ⟨⟨h1, h2⟩, h3⟩
      refine ⟨h1, fun x hx hx2 hb => ?_⟩
      rcases Nat.lt_or_ge a x with g | g
      · exact h3 x g (by omega) hb
      · have e : x = a := by omega
        subst e
        rw [hb] at h2
        exact h2
    · rintro ⟨h1, h2⟩
      refine ⟨⟨h1, ?_⟩, fun x hx hx2 hb => h2 x (by omega) (by omega) hb⟩
      cases hb : sq.testBit (4 * t + a) with
      | false => rfl
      | true => exact h2 a (Nat.le_refl _) (by omega) hb
theorem qDl_D {sp sq ap aq c i t : Nat} : qDl sp sq ap c i t aq 0 true = qD sp sq ap aq c i t := by
  have h : qDl sp sq ap c i t aq 0 true = true ↔ qD sp sq ap aq c i t = true := by
    rw [qDl_iff, qD, decide_eq_true_eq]
    exact ⟨fun h a ha hb => h.2 a (Nat.zero_le _) (by omega) hb, fun h => ⟨rfl, fun x _ hx hb => h x (by omega) hb⟩⟩
  cases h1 : qDl sp sq ap c i t aq 0 true with
  | true => rw [h.mp h1]
  | false =>
    cases h2 : qD sp sq ap aq c i t with
    | false => rfl
    | true => rw [h.mpr h2] at h1; cases h1
theorem q_sv24 {G : xG} {p q ap aq sp sq c i t : Nat} {v2 : Int32} (rec13 : Int32 → Int32 → Option Int32) (hp : p < 6) (hq : q < 6) (g1p : G 29 p = nI ap) (g1 : G 29 q = nI aq) (g2p : G 30 p = nI sp) (g2 : G 30 q = nI sq) (hap1 : 1 ≤ ap) (hap : ap ≤ 4) (haq : aq ≤ 4) (hsp : sp < 65536) (hsq : sq < 65536) (hc : c < 2 ^ 31) (hi : i < 4) (ht : t < 4) : ∀ (k a N : Nat) (v : Bool), a + k = aq → k < N → fX6_served_l24 rec13 G (nI q) (nI t) v2 (nI p) (nI c) (nI i) N (qbi v) (nI a) = fX6_served_x95 rec13 (nI t) v2 (qbi (qDl sp sq ap c i t k a v)) := by
  intro k
  induction k with
  | zero =>
    intro a N v h1 h2
    cases N with
    | zero => omega
    | succ N => rw [fX6_served_l24_e, q_ld hq (by omega), q_cl (by omega), g1, if_pos ((q_le (by omega) (by omega)).mpr (by omega))]; rfl
  | succ k ih =>
    intro a N v h1 h2
    cases N with
    | zero => omega
    | succ N =>
      have hdg : c / ap ^ a % ap < 4 := Nat.lt_of_lt_of_le (Nat.mod_lt _ hap1) hap
      have e0 : fX6_served_j86 (fX6_served_l24 rec13 G (nI q) (nI t) v2 (nI p) (nI c) (nI i) N) (nI a) = fX6_served_x95 rec13 (nI t) v2 (qbi (qDl sp sq ap c i t k (a + 1) false)) := by
        rw [fX6_served_j86_e, fX6_served_j87_e, nI_1]; exact ih (a + 1) N false (by omega) (by omega)
      have e1 : fX6_served_j82 (fX6_served_l24 rec13 G (nI q) (nI t) v2 (nI p) (nI c) (nI i) N) (nI a) = fX6_served_x95 rec13 (nI t) v2 (qbi (qDl sp sq ap c i t k (a + 1) true)) := by
        rw [fX6_served_j82_e, fX6_served_j87_e, nI_1]; exact ih (a + 1) N true (by omega) (by omega)
      rw [fX6_served_l24_e, q_ld hq (by omega), q_cl (by omega), g1, if_neg (fun z => by have := (q_le (by omega) (by omega)).mp z; omega), qDl]
      cases v with
      | false => rw [if_pos (show qbi false = 0 by decide), e0]; rfl
      | true =>
        rw [if_neg (show ¬ qbi true = 0 by decide), q_ld hq (by omega), g2, q_b1 (q_isv (by omega) (by omega))]
        cases hb : sq.testBit (4 * t + a) with
        | false => rw [if_neg q_ft, if_pos rfl, e1]; rfl
        | true =>
          rw [if_pos q_tt, if_neg q_10, q_ld hp (by omega), q_ld hp (by omega), q_cl (by omega), g1p, q_b1 (q_given hap1 hap (by omega) hc), g2p, q_b1 (q_isv (by omega) (by omega))]
          cases hb2 : sp.testBit (4 * i + c / ap ^ a % ap) with
          | false => rw [if_neg q_ft, if_pos rfl, e0]; rfl
          | true => rw [if_pos q_tt, if_neg q_10, e1]; rfl
theorem q_sv13 {G : xG} {p q ap aq sp sq c i mq : Nat} (hp : p < 6) (hq : q < 6) (g1p : G 29 p = nI ap) (g1 : G 29 q = nI aq) (g2p : G 30 p = nI sp) (g2 : G 30 q = nI sq) (hap1 : 1 ≤ ap) (hap : ap ≤ 4) (haq : aq ≤ 4) (hsp : sp < 65536) (hsq : sq < 65536) (hc : c < 2 ^ 31) (hi : i < 4) : ∀ (k N : Nat) (v : Int32), k ≤ 4 → k < N → fX6_served_l13 G (nI q) (nI p) (nI c) (nI i) N v (nI k + (-1)) = some (zix v (qft (qD sp sq ap aq c i) k 0)) := by
  intro k
  induction k with
  | zero =>
    intro N v h1 h2
    cases N with
    | zero => omega
    | succ N => rw [fX6_served_l13_e, if_pos (by decide)]; rfl
  | succ k ih =>
    intro N v h1 h2
    cases N with
    | zero => omega
    | succ N =>
      rw [fX6_served_l13_e, pk_m1, if_neg (q_lt0 (by omega))]
      refine (q_sv24 _ hp hq g1p g1 g2p g2 hap1 hap haq hsp hsq hc hi (by omega) aq 0 4096 true (by omega) (by omega)).trans ?_
      rw [fX6_served_x95_e, qDl_D, qft_snoc, Nat.zero_add]
      cases hd : qD sp sq ap aq c i k with
      | false =>
        rw [if_pos (show qbi false = 0 by decide), fX6_served_j107_e, ih N v (by omega) (by omega), if_neg q_ft]
        cases qft (qD sp sq ap aq c i) k 0 <;> rfl
      | true =>
        rw [if_neg (show ¬ qbi true = 0 by decide), fX6_served_j107_e, ih N (nI k) (by omega) (by omega), if_pos q_tt]
        cases qft (qD sp sq ap aq c i) k 0 <;> rfl
theorem q_served {G : xG} {p q ap aq sp sq c i mq : Nat} (hp : p < 6) (hq : q < 6) (g0 : G 28 q = nI mq) (g1p : G 29 p = nI ap) (g1 : G 29 q = nI aq) (g2p : G 30 p = nI sp) (g2 : G 30 q = nI sq) (hmq : mq ≤ 4) (hap1 : 1 ≤ ap) (hap : ap ≤ 4) (haq : aq ≤ 4) (hsp : sp < 65536) (hsq : sq < 65536) (hc : c < 2 ^ 31) (hi : i < 4) : fX6_served G (nI p) (nI q) (nI c) (nI i) = some (zix (-1) (qft (qD sp sq ap aq c i) mq 0)) := by
  rw [fX6_served_e, q_ld hq (by omega), q_cl (by omega), g0, q_m1]
  exact q_sv13 (mq := mq) hp hq g1p g1 g2p g2 hap1 hap haq hsp hsq hc hi mq 4096 (-1) hmq (by omega)
theorem q_co46 {G : xG} {p q ap aq sp sq c mp mq : Nat} (rec34 : Int32 → Option Int32) (hp : p < 6) (hq : q < 6) (g0p : G 28 p = nI mp) (g0 : G 28 q = nI mq) (g1p : G 29 p = nI ap) (g1 : G 29 q = nI aq) (g2p : G 30 p = nI sp) (g2 : G 30 q = nI sq) (hmp : mp ≤ 4) (hmq : mq ≤ 4) (hap1 : 1 ≤ ap) (hap : ap ≤ 4) (haq : aq ≤ 4) (hsp : sp < 65536) (hsq : sq < 65536) (hc : c < 2 ^ 31) : ∀ (k i N : Nat) (v : Bool), i + k = mp → k < N → fX6_codeOf_l46 rec34 G (nI p) (nI c) (nI q) N (qbi v) (nI i) = fX6_codeOf_x89 rec34 (nI c) (qbi (v && qal (fun i => (qft (qD sp sq ap aq c i) mq 0).isSome) k i)) := by
  intro k
  induction k with
  | zero =>
    intro i N v h1 h2
    cases N with
    | zero => omega
    | succ N =>
      rw [fX6_codeOf_l46_e, q_ld hp (by omega), q_cl (by omega), g0p, if_pos ((q_le (by omega) (by omega)).mpr (by omega)), qal, Bool.and_true]
  | succ k ih =>
    intro i N v h1 h2
    cases N with
    | zero => omega
    | succ N =>
      have e0 : fX6_codeOf_j80 (fX6_codeOf_l46 rec34 G (nI p) (nI c) (nI q) N) (nI i) = fX6_codeOf_x89 rec34 (nI c) (qbi false) := by
        rw [fX6_codeOf_j80_e, fX6_codeOf_j81_e, nI_1]
        exact (ih (i + 1) N false (by omega) (by omega)).trans (by rw [Bool.false_and])
      rw [fX6_codeOf_l46_e, q_ld hp (by omega), q_cl (by omega), g0p, if_neg (fun z => by have := (q_le (by omega) (by omega)).mp z; omega), qal]
      cases v with
      | false => rw [if_pos (show qbi false = 0 by decide), e0, Bool.false_and]
      | true =>
        rw [if_neg (show ¬ qbi true = 0 by decide), q_b1 (q_served hp hq g0 g1p g1 g2p g2 hmq hap1 hap haq hsp hsq hc (by omega)), Bool.true_and]
        cases hf : qft (qD sp sq ap aq c i) mq 0 with
        | none =>
          rw [if_pos (show zix (-1) none = -1 from rfl), e0, if_neg (show ¬ (none : Option Nat).isSome = true by decide)]
        | some r =>
          obtain ⟨-, h4, -⟩ := qft_some _ _ _ hf
          rw [if_neg (show ¬ zix (-1) (some r) = -1 from q_ne1 (by omega)), fX6_codeOf_j81_e, nI_1, if_pos (show (some r).isSome = true from rfl)]
          exact (ih (i + 1) N true (by omega) (by omega)).trans (by rw [Bool.true_and])
theorem q_co34 {G : xG} {p q ap aq sp sq mp mq : Nat} (hp : p < 6) (hq : q < 6) (g0p : G 28 p = nI mp) (g0 : G 28 q = nI mq) (g1p : G 29 p = nI ap) (g1 : G 29 q = nI aq) (g2p : G 30 p = nI sp) (g2 : G 30 q = nI sq) (hmp : mp ≤ 4) (hmq : mq ≤ 4) (hap1 : 1 ≤ ap) (hap : ap ≤ 4) (haq : aq ≤ 4) (hsp : sp < 65536) (hsq : sq < 65536) {K : Nat} (hK : K ≤ 256) : ∀ (k c N : Nat), c + k = K → k < N → fX6_codeOf_l34 G (nI K) (nI p) (nI q) N (nI c) = some (zix (-1) (qft (qP sp sq ap aq mp mq) k c)) := by
  intro k
  induction k with
  | zero =>
    intro c N h1 h2
    cases N with
    | zero => omega
    | succ N => rw [fX6_codeOf_l34_e, if_pos ((q_le (by omega) (by omega)).mpr (by omega))]; rfl
  | succ k ih =>
    intro c N h1 h2
    cases N with
    | zero => omega
    | succ N =>
      rw [fX6_codeOf_l34_e, if_neg (fun z => by have := (q_le (by omega) (by omega)).mp z; omega)]
      refine (q_co46 _ hp hq g0p g0 g1p g1 g2p g2 hmp hmq hap1 hap haq hsp hsq (by omega) mp 0 4096 true (by omega) (by omega)).trans ?_
      rw [Bool.true_and, fX6_codeOf_x89_e, qft]
      show (if qbi (qP sp sq ap aq mp mq c) = 0 then _ else _) = _
      cases hd : qP sp sq ap aq mp mq c with
      | false => rw [if_pos (show qbi false = 0 by decide), if_neg q_ft, nI_1, ih (c + 1) N (by omega) (by omega)]
      | true => rw [if_neg (show ¬ qbi true = 0 by decide), if_pos q_tt]; rfl
theorem q_co5 {G : xG} {p q ap aq : Nat} (hp : p < 6) (hq : q < 6) (g1p : G 29 p = nI ap) (g1 : G 29 q = nI aq) (haq : aq ≤ 4) : ∀ (k j N v : Nat), j + k = aq → k < N → fX6_codeOf_l5 G (nI q) (nI p) N (nI v) (nI j) = fX6_codeOf_x31 G (nI p) (nI q) (nI (v * ap ^ k)) := by
  intro k
  induction k with
  | zero =>
    intro j N v h1 h2
    cases N with
    | zero => omega
    | succ N => rw [fX6_codeOf_l5_e, q_ld hq (by omega), q_cl (by omega), g1, if_pos ((q_le (by omega) (by omega)).mpr (by omega)), Nat.pow_zero, Nat.mul_one]
  | succ k ih =>
    intro j N v h1 h2
    cases N with
    | zero => omega
    | succ N => rw [fX6_codeOf_l5_e, q_ld hq (by omega), q_cl (by omega), g1, if_neg (fun z => by have := (q_le (by omega) (by omega)).mp z; omega), q_ld hp (by omega), q_cl (by omega), g1p, pk_mul, nI_1, ih (j + 1) N _ (by omega) (by omega), Nat.mul_assoc, Nat.pow_succ, Nat.mul_comm ap]
theorem q_code {G : xG} {p q ap aq sp sq mp mq : Nat} (hp : p < 6) (hq : q < 6) (g0p : G 28 p = nI mp) (g0 : G 28 q = nI mq) (g1p : G 29 p = nI ap) (g1 : G 29 q = nI aq) (g2p : G 30 p = nI sp) (g2 : G 30 q = nI sq) (hmp : mp ≤ 4) (hmq : mq ≤ 4) (hap1 : 1 ≤ ap) (hap : ap ≤ 4) (haq : aq ≤ 4) (hsp : sp < 65536) (hsq : sq < 65536) : fX6_codeOf G (nI p) (nI q) = some (zix (-1) (qft (qP sp sq ap aq mp mq) (ap ^ aq) 0)) := by
  have hpw := q_pw4 hap haq
  have h := q_co5 (G := G) hp hq g1p g1 haq aq 0 4096 1 (by omega) (by omega)
  rw [Nat.one_mul] at h
  rw [fX6_codeOf_e]
  refine h.trans ?_
  rw [fX6_codeOf_x31_e]
  exact q_co34 hp hq g0p g0 g1p g1 g2p g2 hmp hmq hap1 hap haq hsp hsq hpw (ap ^ aq) 0 4096 (by omega) (by omega)
theorem q_qsmL {Fq : xF} {Gq H : xG} {F : xF} {G : xG} {n : Nat} (h : qsm Gq H) (e6 : Fq 6 = F 27) (g0 : Gq 0 = G 28) (g1 : Gq 1 = G 29) (g2 : Gq 2 = G 30) (hS : qS (F 27) (G 28) (G 29) (G 30)) (k : Int32) : LQ Fq H (va_up F 0 k) G := ⟨e6, h.1.trans g0, h.2.1.trans g1, h.2.2.trans g2, hS⟩
theorem o_reduces (X : XT) : oL_reduces (LRg X) := by
  intro Fp Gp Fo Go Fz Gz Fq Gq F G h p c
  obtain ⟨hX, hZ, ⟨e6, g0, g1, g2, n, hn, hn6, ok⟩⟩ := h
  have f6 : Fq 6 = nI n := e6.trans hn
  have hS : qS (F 27) (G 28) (G 29) (G 30) := ⟨n, hn, hn6, ok⟩
  have hQ : ∀ k, LQ Fq Gq (va_up F 0 k) G := fun k => ⟨e6, g0, g1, g2, n, hn, hn6, ok⟩
  have h22 : fX6_reduces_j21 F G p c = some (0, va_up F 0 1) := by
    rw [fX6_reduces_j21_e, fX6_reduces_j22_e, b_b2 (q_g1 F q_10), if_pos rfl]
  by_cases c1 : q_lo p n
  rotate_left
  · refine ⟨1, 0, Gq, 0, va_up F 0 1, fun _ => rfl, ?_, ?_, rfl, fun h => absurd h q_10, hX, hZ, hQ 1⟩
    · rw [fX5_reduces_e, q_b1 (q_both f6 hn6 p c), if_neg c1, if_pos rfl]
    · rw [fX6_reduces_e, q_b1 (q_isPb hn hn6 p), if_neg c1, if_pos rfl, h22]
  by_cases c2 : q_lo c n
  rotate_left
  · refine ⟨1, 0, Gq, 0, va_up F 0 1, fun _ => rfl, ?_, ?_, rfl, fun h => absurd h q_10, hX, hZ, hQ 1⟩
    · rw [fX5_reduces_e, q_b1 (q_both f6 hn6 p c), if_pos c1, if_neg c2, if_pos rfl]
    · rw [fX6_reduces_e, q_b1 (q_isPb hn hn6 p), if_pos c1, if_neg q_10, q_b1 (q_isPb hn hn6 c), if_neg c2, if_pos rfl, h22]
  have hc : fX5_reduces Fq Gq p c = x_b2 (fX3_lowestCode Gq p c 0) (fun r5 G6 => some (0, r5, G6)) := by
    rw [fX5_reduces_e, q_b1 (q_both f6 hn6 p c), if_pos c1, if_pos c2, if_neg q_10]
  have hm : fX6_reduces F G p c = x_b1 (fX6_codeOf G p c) (fun r9 => some (r9, va_up F 0 0)) := by
    rw [fX6_reduces_e, q_b1 (q_isPb hn hn6 p), if_pos c1, if_neg q_10, q_b1 (q_isPb hn hn6 c), if_pos c2, if_neg q_10, fX6_reduces_j22_e, b_b2 (q_g0 F), if_neg q_10]
  obtain ⟨p1, hp1, rfl⟩ := c1
  obtain ⟨p2, hp2, rfl⟩ := c2
  obtain ⟨m1, a1, s1, x1, x2, x3, x4, x5, x6, x7, x8, x9⟩ := ok p1 hp1
  obtain ⟨m2, a2, s2, y1, y2, y3, y4, y5, y6, y7, y8, y9⟩ := ok p2 hp2
  obtain ⟨H', l1, l2, -⟩ := q_lc (G := Gq) (w := 0) (Or.inl rfl) (show p1 < 6 by omega) (show p2 < 6 by omega) (by rw [g0]; exact x1) (by rw [g0]; exact y1) (by rw [g1]; exact x2) (by rw [g1]; exact y2) (by rw [g2]; exact x3) (by rw [g2]; exact y3) x5 y4 y5 x6 x7 y7 x8 y8
  refine ⟨0, _, H', _, va_up F 0 0, fun h => absurd rfl h, by rw [hc, b_b2 l1], by rw [hm, q_b1 (q_code (show p1 < 6 by omega) (show p2 < 6 by omega) x1 y1 x2 y2 x3 y3 x5 y5 x6 x7 y7 x8 y8)], rfl, fun _ => rfl, hX, hZ, q_qsmL (n := n) l2 e6 g0 g1 g2 hS 0⟩
theorem o_reducesAnew (X : XT) : oL_reducesAnew (LRg X) := by
  intro Fp Gp Fo Go Fz Gz Fq Gq F G h p c
  obtain ⟨hX, hZ, ⟨e6, g0, g1, g2, n, hn, hn6, ok⟩⟩ := h
  have f6 : Fq 6 = nI n := e6.trans hn
  have hS : qS (F 27) (G 28) (G 29) (G 30) := ⟨n, hn, hn6, ok⟩
  have hQ : ∀ k, LQ Fq Gq (va_up F 0 k) G := fun k => ⟨e6, g0, g1, g2, n, hn, hn6, ok⟩
  have h22 : fX6_reducesAnew_j21 F G p c = some (0, va_up F 0 1) := by
    rw [fX6_reducesAnew_j21_e, fX6_reducesAnew_j22_e, b_b2 (q_g1 F q_10), if_pos rfl]
  by_cases c1 : q_lo p n
  rotate_left
  · refine ⟨1, 0, Gq, 0, va_up F 0 1, fun _ => rfl, ?_, ?_, rfl, fun h => absurd h q_10, hX, hZ, hQ 1⟩
    · rw [fX5_reducesAnew_e, q_b1 (q_both f6 hn6 p c), if_neg c1, if_pos rfl]
    · rw [fX6_reducesAnew_e, q_b1 (q_isPb hn hn6 p), if_neg c1, if_pos rfl, h22]
  by_cases c2 : q_lo c n
  rotate_left
  · refine ⟨1, 0, Gq, 0, va_up F 0 1, fun _ => rfl, ?_, ?_, rfl, fun h => absurd h q_10, hX, hZ, hQ 1⟩
    · rw [fX5_reducesAnew_e, q_b1 (q_both f6 hn6 p c), if_pos c1, if_neg c2, if_pos rfl]
    · rw [fX6_reducesAnew_e, q_b1 (q_isPb hn hn6 p), if_pos c1, if_neg q_10, q_b1 (q_isPb hn hn6 c), if_neg c2, if_pos rfl, h22]
  have hc : fX5_reducesAnew Fq Gq p c = x_b2 (fX3_lowestCode Gq p c 1) (fun r5 G6 => some (0, r5, G6)) := by
    rw [fX5_reducesAnew_e, q_b1 (q_both f6 hn6 p c), if_pos c1, if_pos c2, if_neg q_10]
  have hm : fX6_reducesAnew F G p c = x_b1 (fX6_codeOf G p c) (fun r9 => some (r9, va_up F 0 0)) := by
    rw [fX6_reducesAnew_e, q_b1 (q_isPb hn hn6 p), if_pos c1, if_neg q_10, q_b1 (q_isPb hn hn6 c), if_pos c2, if_neg q_10, fX6_reducesAnew_j22_e, b_b2 (q_g0 F), if_neg q_10]
  obtain ⟨p1, hp1, rfl⟩ := c1
  obtain ⟨p2, hp2, rfl⟩ := c2
  obtain ⟨m1, a1, s1, x1, x2, x3, x4, x5, x6, x7, x8, x9⟩ := ok p1 hp1
  obtain ⟨m2, a2, s2, y1, y2, y3, y4, y5, y6, y7, y8, y9⟩ := ok p2 hp2
  obtain ⟨H', l1, l2, -⟩ := q_lc (G := Gq) (w := 1) (Or.inr rfl) (show p1 < 6 by omega) (show p2 < 6 by omega) (by rw [g0]; exact x1) (by rw [g0]; exact y1) (by rw [g1]; exact x2) (by rw [g1]; exact y2) (by rw [g2]; exact x3) (by rw [g2]; exact y3) x5 y4 y5 x6 x7 y7 x8 y8
  refine ⟨0, _, H', _, va_up F 0 0, fun h => absurd rfl h, by rw [hc, b_b2 l1], by rw [hm, q_b1 (q_code (show p1 < 6 by omega) (show p2 < 6 by omega) x1 y1 x2 y2 x3 y3 x5 y5 x6 x7 y7 x8 y8)], rfl, fun _ => rfl, hX, hZ, q_qsmL (n := n) l2 e6 g0 g1 g2 hS 0⟩
theorem o_forth (X : XT) : oL_forth (LRg X) := by
  intro Fp Gp Fo Go Fz Gz Fq Gq F G h p c ins
  obtain ⟨hX, hZ, ⟨e6, g0, g1, g2, n, hn, hn6, ok⟩⟩ := h
  have f6 : Fq 6 = nI n := e6.trans hn
  have hS : qS (F 27) (G 28) (G 29) (G 30) := ⟨n, hn, hn6, ok⟩
  have hQ : ∀ k, LQ Fq Gq (va_up F 0 k) G := fun k => ⟨e6, g0, g1, g2, n, hn, hn6, ok⟩
  have h36 : fX6_forth_j36 F G p c ins = some (0, va_up F 0 1) := by
    rw [fX6_forth_j36_e, fX6_forth_j37_e, if_pos rfl, fX6_forth_j50_e, b_b2 (q_g1 F q_10), if_pos rfl]
  by_cases c1 : q_lo p n
  rotate_left
  · refine ⟨1, 0, Gq, 0, va_up F 0 1, fun _ => rfl, ?_, ?_, rfl, fun h => absurd h q_10, hX, hZ, hQ 1⟩
    · rw [fX5_forth_e, q_b1 (q_both f6 hn6 p c), if_neg c1, if_pos rfl, fX5_forth_j24_e]
    · rw [fX6_forth_e, q_b1 (q_isPb hn hn6 p), if_neg c1, if_pos rfl, h36]
  by_cases c2 : q_lo c n
  rotate_left
  · refine ⟨1, 0, Gq, 0, va_up F 0 1, fun _ => rfl, ?_, ?_, rfl, fun h => absurd h q_10, hX, hZ, hQ 1⟩
    · rw [fX5_forth_e, q_b1 (q_both f6 hn6 p c), if_pos c1, if_neg c2, if_pos rfl, fX5_forth_j24_e]
    · rw [fX6_forth_e, q_b1 (q_isPb hn hn6 p), if_pos c1, if_neg q_10, q_b1 (q_isPb hn hn6 c), if_neg c2, if_pos rfl, h36]
  have hc : fX5_forth Fq Gq p c ins = x_b1 (fX3_hasInstance Gq p ins) (fun r5 => (if r5 = 0 then (fX5_forth_j24 Gq) else x_b2 (fX3_forthOf Gq p c ins) (fun r8 G9 => some (0, r8, G9)))) := by
    rw [fX5_forth_e, q_b1 (q_both f6 hn6 p c), if_pos c1, if_pos c2, if_neg q_10]
  have hm : fX6_forth F G p c ins = x_ld p 6 (x_b1 (fX6_in ins 0 (((G 28) p.toNatClampNeg) - 1)) (fun r21 => (if r21 = 0 then (fX6_forth_j36 F G p c ins) else (fX6_forth_j37 F G p c ins) 1))) := by
    rw [fX6_forth_e, q_b1 (q_isPb hn hn6 p), if_pos c1, if_neg q_10, q_b1 (q_isPb hn hn6 c), if_pos c2, if_neg q_10]
  obtain ⟨p1, hp1, rfl⟩ := c1
  obtain ⟨p2, hp2, rfl⟩ := c2
  obtain ⟨m1, a1, s1, x1, x2, x3, x4, x5, x6, x7, x8, x9⟩ := ok p1 hp1
  obtain ⟨m2, a2, s2, y1, y2, y3, y4, y5, y6, y7, y8, y9⟩ := ok p2 hp2
  have q1 : p1 < 6 := by omega
  have q2 : p2 < 6 := by omega
  have hI : fX3_hasInstance Gq (nI p1) ins = some (if q_lo ins m1 then 1 else 0) := by
    rw [fX3_hasInstance_e, q_ld q1 (by omega), q_cl (by omega), g0, x1]
    exact q_belowz (by omega) ins
  rw [q_b1 hI] at hc
  rw [q_ld q1 (by omega), q_cl (by omega), x1, q_b1 (q_in (by omega) ins)] at hm
  by_cases c3 : q_lo ins m1
  rotate_left
  · rw [if_neg c3, if_pos rfl, fX5_forth_j24_e] at hc
    rw [if_neg c3, if_pos rfl, h36] at hm
    exact ⟨1, 0, Gq, 0, va_up F 0 1, fun _ => rfl, hc, hm, rfl, fun h => absurd h q_10, hX, hZ, hQ 1⟩
  rw [if_pos c3, if_neg q_10] at hc
  rw [if_pos c3, if_neg q_10, fX6_forth_j37_e, if_neg q_10, fX6_forth_j50_e, b_b2 (q_g0 F), if_neg q_10, q_b1 (q_code q1 q2 x1 y1 x2 y2 x3 y3 x5 y5 x6 x7 y7 x8 y8)] at hm
  obtain ⟨i, hi, rfl⟩ := c3
  obtain ⟨H', l1, l2, l3⟩ := q_lc (G := Gq) (w := 0) (Or.inl rfl) q1 q2 (by rw [g0]; exact x1) (by rw [g0]; exact y1) (by rw [g1]; exact x2) (by rw [g1]; exact y2) (by rw [g2]; exact x3) (by rw [g2]; exact y3) x5 y4 y5 x6 x7 y7 x8 y8
  have hpw := q_pw4 x7 y7
  cases hr : qft (qP s1 s2 a1 a2 m1 m2) (a1 ^ a2) 0 with
  | none =>
    rw [hr] at l1 hm
    rw [if_pos (show zix (-1) none = -1 from rfl)] at hm
    refine ⟨0, -1, H', -1, va_up F 0 0, fun h => absurd rfl h, ?_, hm, rfl, fun _ => rfl, hX, hZ, q_qsmL (n := n) l2 e6 g0 g1 g2 hS 0⟩
    rw [hc, fX3_forthOf_e, b_b2 l1, if_pos (show zix (-1) none = -1 from rfl), b_b2 rfl]
  | some r =>
    have hD := l3 r hr
    obtain ⟨-, h4, -⟩ := qft_some _ _ _ hr
    rw [hr] at l1 hm
    have hne : ¬ zix (-1) (some r) = -1 := q_ne1 (by omega)
    rw [if_neg hne, q_b1 (show fX6_served G (nI p1) (nI p2) (zix (-1) (some r)) (nI i) = _ from q_served q1 q2 y1 x2 y2 x3 y3 y5 x6 x7 y7 x8 y8 (show r < 2 ^ 31 by omega) (by omega))] at hm
    have hl : fX3_lowestForth H' (nI p1) (nI p2) (nI i) = some (zix (-1) (qft (qD s1 s2 a1 a2 r i) m2 0)) := by
      rw [fX3_lowestForth_e]
      exact q_lfl q2 (by rw [l2.1, g0]; exact y1) y5 (fun t ht => hD i t hi ht) m2 0 4096 (by omega) (by omega)
    refine ⟨0, _, H', _, va_up F 0 0, fun h => absurd rfl h, ?_, hm, rfl, fun _ => rfl, hX, hZ, q_qsmL (n := n) l2 e6 g0 g1 g2 hS 0⟩
    rw [hc, fX3_forthOf_e, b_b2 l1, if_neg hne, q_b1 hl, b_b2 rfl]
end QR2
