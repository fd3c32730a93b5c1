section QB
/-! plain facts of small numbers and bits, for the pure side -/
theorem q_b1 {α γ : Type} {o : Option α} {a : α} {f : α → Option γ} (h : o = some a) : x_b1 o f = f a := by subst h; rfl
theorem q_ld {γ : Type} {k n : Nat} {o : Option γ} (h : k < n) (hn : n ≤ 5000) : x_ld (nI k) n o = o := x_ldI (vp_in_nI h (by omega))
theorem q_cl {k : Nat} (h : k < 2 ^ 31) : (nI k).toNatClampNeg = k := nI_clamp h
theorem q_m1 (x : Int32) : x - 1 = x + (-1) := Int32.sub_eq_add_neg x 1
theorem q_lt0 {k : Nat} (h : k < 2 ^ 31) : ¬ nI k < 0 := nI_pos h
theorem q_sl : ∀ n, n < 32 → ((nI n &&& 31).toBitVec.smod 32).toNat = n := by decide +kernel
theorem q_su : ∀ n, n < 32 → (((nI n).toUInt32 &&& Int32.toUInt32 31).toBitVec % 32).toNat = n := by decide +kernel
theorem q_shr {t c : Nat} (ht : t < 2 ^ 31) (hc : c < 32) : x_shr (nI t) (nI c) = nI (t / 2 ^ c) := pk_shrN ht _ c (q_sl c hc)
theorem q_ush {t c : Nat} (ht : t < 2 ^ 32) (hc : c < 32) : x_ush (nI t) (nI c) = nI (t / 2 ^ c) := pk_ushrN ht _ c (q_su c hc)
theorem q_shl {t c : Nat} (hc : c < 32) (h : t * 2 ^ c < 2 ^ 32) : x_shl (nI t) (nI c) = nI (t * 2 ^ c) := pk_shlN _ c (q_sl c hc) h
theorem q_shl1 {c : Nat} (hc : c < 31) : x_shl 1 (nI c) = nI (2 ^ c) := by
  have h := q_shl (t := 1) (c := c) (by omega) (by have := Nat.pow_lt_pow_right (a := 2) (by decide) hc; omega)
  rw [Nat.one_mul] at h
  exact h
theorem q_and (a b : Nat) : nI a &&& nI b = nI (a &&& b) := by
  apply Int32.toBitVec_inj.1
  show BitVec.ofNat 32 a &&& BitVec.ofNat 32 b = BitVec.ofNat 32 (a &&& b)
  apply BitVec.eq_of_getLsbD_eq
  intro i hi
  simp [hi]
theorem q_or (a b : Nat) : nI a ||| nI b = nI (a ||| b) := by
  apply Int32.toBitVec_inj.1
  show BitVec.ofNat 32 a ||| BitVec.ofNat 32 b = BitVec.ofNat 32 (a ||| b)
  apply BitVec.eq_of_getLsbD_eq
  intro i hi
  simp [hi]
theorem q_and1 {t : Nat} (ht : t < 2 ^ 32) : nI t &&& 1 = nI (t % 2) := pk_andN ht 1 (by decide)
theorem q_bit {t c : Nat} (ht : t < 2 ^ 31) (hc : c < 32) : x_shr (nI t) (nI c) &&& 1 = if t.testBit c then 1 else 0 := by
  have h1 : t / 2 ^ c ≤ t := Nat.div_le_self _ _
  rw [q_shr ht hc, q_and1 (by omega), Nat.testBit_eq_decide_div_mod_eq]
  rcases Nat.mod_two_eq_zero_or_one (t / 2 ^ c) with h | h
  · rw [h]; rfl
  · rw [h]; rfl
theorem q_bit0 {t c : Nat} (ht : t < 2 ^ 31) (hc : c < 32) : x_shr (nI t) (nI c) &&& 1 = 0 ↔ t.testBit c = false := by
  rw [q_bit ht hc]
  cases t.testBit c <;> decide
theorem q_bit1 {t c : Nat} (ht : t < 2 ^ 31) (hc : c < 32) : x_shr (nI t) (nI c) &&& 1 = 1 ↔ t.testBit c = true := by
  rw [q_bit ht hc]
  cases t.testBit c <;> decide
/-- what is in a and not in b -/
theorem q_sub {a b : Nat} (ha : a < 2 ^ 32) : nI a &&& (nI b ^^^ (-1)) = 0 ↔ ∀ i, i < 32 → a.testBit i = true → b.testBit i = true := by
  rw [← Int32.toBitVec_inj]
  have h : (nI a &&& (nI b ^^^ (-1))).toBitVec = BitVec.ofNat 32 a &&& (BitVec.ofNat 32 b ^^^ BitVec.allOnes 32) := rfl
  rw [h]
  constructor
  · intro e i hi ht
    have e1 := congrArg (fun v => v.getLsbD i) e
    have z : (0 : Int32).toBitVec.getLsbD i = false := BitVec.getLsbD_zero
    simp only [BitVec.getLsbD_and, BitVec.getLsbD_xor, BitVec.getLsbD_ofNat, BitVec.getLsbD_allOnes, hi, decide_true, Bool.true_and, ht, z] at e1
    cases hb : b.testBit i
    · rw [hb] at e1; simp at e1
    · rfl
  · intro e
    apply BitVec.eq_of_getLsbD_eq
    intro i hi
    have z : (0 : Int32).toBitVec.getLsbD i = false := BitVec.getLsbD_zero
    simp only [BitVec.getLsbD_and, BitVec.getLsbD_xor, BitVec.getLsbD_ofNat, BitVec.getLsbD_allOnes, hi, decide_true, Bool.true_and, z]
    cases ht : a.testBit i
    · rfl
    · rw [e i hi ht]; rfl
theorem q_lt {a b : Nat} (ha : a < 2 ^ 31) (hb : b < 2 ^ 31) : nI a < nI b ↔ a < b := nI_ltI ha hb
theorem q_le {a b : Nat} (ha : a < 2 ^ 31) (hb : b < 2 ^ 31) : nI a ≤ nI b ↔ a ≤ b := nI_leI ha hb
theorem q_ne1 {a : Nat} (ha : a < 2 ^ 31) : ¬ nI a = -1 := fun h => by
  have h1 := q_lt0 ha
  rw [h] at h1
  exact h1 (by decide)
/-- any int is a small number, or below 0 -/
theorem q_of (x : Int32) : x < 0 ∨ ∃ k : Nat, k < 2 ^ 31 ∧ x = nI k := by
  by_cases h : x < 0
  · exact Or.inl h
  · exact Or.inr (nI_of h)
/-- 0 ≤ x < n, as the class asks it -/
theorem q_below {n : Nat} (hn : n ≤ 2 ^ 30) (x : Int32) : (∃ k, k < n ∧ x = nI k) ∨ (x < 0 ∧ ∀ k, k < n → x ≠ nI k) ∨ (¬ x < 0 ∧ nI n ≤ x ∧ ∀ k, k < n → x ≠ nI k) := by
  rcases q_of x with h | ⟨k, hk, rfl⟩
  · exact Or.inr (Or.inl ⟨h, fun k hk e => q_lt0 (k := k) (by omega) (by rw [← e]; exact h)⟩)
  · rcases Nat.lt_or_ge k n with h | h
    · exact Or.inl ⟨k, h, rfl⟩
    · exact Or.inr (Or.inr ⟨q_lt0 hk, (q_le (by omega) hk).mpr h, fun j hj e => by
        have := (nI_eq hk (show j < 2 ^ 31 by omega)).mp e
        omega⟩)
theorem q_isBelow {n : Nat} (hn : n ≤ 2 ^ 30) (x : Int32) : fX5_isBelow x (nI n) = some (if ∃ k, k < n ∧ x = nI k then 1 else 0) := by
  rw [fX5_isBelow_e]
  rcases q_below hn x with ⟨k, hk, rfl⟩ | ⟨h, h2⟩ | ⟨h, h1, h2⟩
  · have e : ∃ j, j < n ∧ nI k = nI j := ⟨k, hk, rfl⟩
    have a1 := q_lt0 (k := k) (by omega)
    have a2 := (q_lt (a := k) (b := n) (by omega) (by omega)).mpr hk
    have a3 : ¬ nI n ≤ nI k := fun z => by
      have := (q_le (by omega) (by omega)).mp z
      omega
    simp [e, a1, a3]
  · have e : ¬ ∃ j, j < n ∧ x = nI j := fun ⟨j, hj, ej⟩ => h2 j hj ej
    simp [e, h]
  · have e : ¬ ∃ j, j < n ∧ x = nI j := fun ⟨j, hj, ej⟩ => h2 j hj ej
    simp [e, h, h1]
theorem q_zn0 : x_zn 0 = 0 := by decide
theorem q_zn1 : x_zn 1 = 1 := by decide
theorem q_znI {c : Prop} [Decidable c] : x_zn (if c then 1 else 0) = if c then 1 else 0 := by
  by_cases h : c
  · rw [if_pos h]; exact q_zn1
  · rw [if_neg h]; exact q_zn0
end QB
