section QR
/-! the relation of the class's state to the reference's, region by region; what both ask in the same words -/
theorem u_s {α : Type} {f : Nat → α} {k : Nat} {v : α} : va_up f k v k = v := if_pos rfl
theorem u_n {α : Type} {f : Nat → α} {k j : Nat} {v : α} (h : j ≠ k) : va_up f k v j = f j := if_neg h
theorem b_b2 {α β γ : Type} {o : Option (α × β)} {f : α → β → Option γ} {a0 : α} {a1 : β} (h : o = some (a0, a1)) : x_b2 o f = f a0 a1 := x_b2I h
theorem b_b3 {α β δ γ : Type} {o : Option (α × β × δ)} {f : α → β → δ → Option γ} {a0 : α} {a1 : β} {a2 : δ} (h : o = some (a0, a1, a2)) : x_b3 o f = f a0 a1 a2 := x_b3I h
/-- zoo: n principles, r rules, m models, all within bounds -/
def zS (n r m : Int32) (P C M : Nat → Int32) : Prop := ∃ np nr nm : Nat, n = nI np ∧ r = nI nr ∧ m = nI nm ∧ np ≤ 10 ∧ nr ≤ 30 ∧ nm ≤ 10 ∧ zok P C nr np ∧ ∀ j, j < nm → ∃ t, M j = nI t ∧ t < 2 ^ np
def LZ (Fz : xF) (Gz : xG) (F : xF) (G : xG) : Prop := Fz 6 = F 18 ∧ Fz 7 = F 21 ∧ Fz 8 = F 24 ∧ Gz 0 = G 19 ∧ Gz 1 = G 20 ∧ Gz 2 = G 22 ∧ Gz 3 = G 23 ∧ Gz 4 = G 25 ∧ zS (F 18) (F 21) (F 24) (G 22) (G 23) (G 25)
/-- one problem: instances, answers, what solves -/
def qOne (i a s : Int32) : Prop := ∃ m b t : Nat, i = nI m ∧ a = nI b ∧ s = nI t ∧ 1 ≤ m ∧ m ≤ 4 ∧ 1 ≤ b ∧ b ≤ 4 ∧ t < 65536 ∧ ∀ j, j < 16 → t.testBit j = true → j / 4 < m ∧ j % 4 < b
def qS (n : Int32) (I A S : Nat → Int32) : Prop := ∃ k : Nat, n = nI k ∧ k ≤ 6 ∧ ∀ j, j < k → qOne (I j) (A j) (S j)
def LQ (Fq : xF) (Gq : xG) (F : xF) (G : xG) : Prop := Fq 6 = F 27 ∧ Gq 0 = G 28 ∧ Gq 1 = G 29 ∧ Gq 2 = G 30 ∧ qS (F 27) (G 28) (G 29) (G 30)
/-- x is one of the numbers below n -/
abbrev q_lo (x : Int32) (n : Nat) : Prop := ∃ k, k < n ∧ x = nI k
theorem q_in {n : Nat} (hn : n ≤ 2 ^ 30) (x : Int32) : fX6_in x 0 (nI n - 1) = some (if q_lo x n then 1 else 0) := by
  rw [fX6_in_e]
  rcases q_below hn x with ⟨k, hk, rfl⟩ | ⟨h, h2⟩ | ⟨h, h1, h2⟩
  · obtain ⟨m, rfl⟩ : ∃ m, n = m + 1 := ⟨n - 1, by omega⟩
    rw [if_neg (q_lt0 (by omega)), nI_pred, if_neg (fun z => by have := (q_lt (a := m) (b := k) (by omega) (by omega)).mp z; omega), if_pos ⟨k, hk, rfl⟩]
  · rw [if_pos h, if_neg (show ¬ q_lo x n from fun ⟨j, hj, ej⟩ => h2 j hj ej)]
  · rw [if_neg h, if_neg (show ¬ q_lo x n from fun ⟨j, hj, ej⟩ => h2 j hj ej)]
    obtain ⟨k, hk, rfl⟩ := nI_of h
    have h3 : n ≤ k := (q_le (by omega) hk).mp h1
    refine if_pos ?_
    cases n with
    | zero =>
      rcases Int32.lt_or_le (nI 0 - 1) (nI k) with g | g
      · exact g
      · exfalso
        apply q_lt0 hk
        have e : nI 0 - 1 < 0 := by decide
        exact Int32.lt_of_le_of_lt g e
    | succ m =>
      rw [nI_pred]
      exact (q_lt (by omega) hk).mpr (by omega)
theorem q_inz {n : Nat} (hn : n ≤ 2 ^ 30) (x : Int32) : x_b1 (fX6_in x 0 (nI n - 1)) (fun r2 => some (x_zn r2)) = some (if q_lo x n then 1 else 0) := by
  rw [q_b1 (q_in hn x), q_znI]
theorem q_belowz {n : Nat} (hn : n ≤ 2 ^ 30) (x : Int32) : x_b1 (fX5_isBelow x (nI n)) (fun r2 => some (x_zn r2)) = some (if q_lo x n then 1 else 0) := by
  rw [q_b1 (q_isBelow hn x), q_znI]
/-- a set of n principles: the class asks it by a shift, the reference by its range -/
theorem q_uset {n : Nat} (hn : n ≤ 20) (x : Int32) : x_ush x (nI n) = 0 ↔ q_lo x (2 ^ n) := by
  have h := pk_ushr x (nI n) n (q_su n (by omega))
  have hx : x.toBitVec.toNat < 2 ^ 32 := x.toBitVec.isLt
  have h2 : 2 ^ n ≤ 2 ^ 20 := Nat.pow_le_pow_right (by decide) hn
  constructor
  · intro e
    have e2 : x.toBitVec.toNat / 2 ^ n = 0 := by rw [← h]; show (x_ush x (nI n)).toBitVec.toNat = 0; rw [e]; rfl
    refine ⟨x.toBitVec.toNat, by
      rcases Nat.lt_or_ge x.toBitVec.toNat (2 ^ n) with g | g
      · exact g
      · have := Nat.div_pos g (Nat.two_pow_pos n); omega, ?_⟩
    apply Int32.toBitVec_inj.1
    apply BitVec.eq_of_toNat_eq
    rw [pk_tn hx]
  · rintro ⟨k, hk, rfl⟩
    rw [q_ush (by omega) (by omega), Nat.div_eq_of_lt hk]
    rfl
theorem z_has {F : xF} {n : Nat} (h : F 6 = nI n) (hn : n ≤ 10) (x : Int32) : fX4_hasPrinciple F x = some (if q_lo x n then 1 else 0) := by
  rw [fX4_hasPrinciple_e, h]; exact q_belowz (by omega) x
theorem z_isP {F : xF} {n : Nat} (h : F 18 = nI n) (hn : n ≤ 10) (x : Int32) : fX6_isPrinciple F x = some (if q_lo x n then 1 else 0) := by
  rw [fX6_isPrinciple_e, h]; exact q_inz (by omega) x
theorem z_isSet {F : xF} {n : Nat} (h : F 6 = nI n) (hn : n ≤ 10) (x : Int32) : fX4_isSet F x = some (if q_lo x (2 ^ n) then 1 else 0) := by
  rw [fX4_isSet_e, h]
  by_cases hc : q_lo x (2 ^ n)
  · rw [if_pos ((q_uset (by omega) x).mpr hc), if_pos hc]
  · rw [if_neg (fun z => hc ((q_uset (by omega) x).mp z)), if_neg hc]
theorem z_isSetM {F : xF} {n : Nat} (h : F 18 = nI n) (hn : n ≤ 10) (x : Int32) : fX6_isSet F x = some (if q_lo x (2 ^ n) then 1 else 0) := by
  have := z_p10 hn
  rw [fX6_isSet_e, h, q_shl1 (by omega)]; exact q_inz (by omega) x
theorem q_at (x : Int32) : x &&& 1 = 0 ∨ x &&& 1 = 1 := by
  obtain ⟨j, hj, e⟩ := pk_andE x (m := 1) 1 (by decide)
  rcases (show j = 0 ∨ j = 1 by omega) with rfl | rfl
  · exact Or.inl e
  · exact Or.inr e
theorem q_a10 {x : Int32} : x &&& 1 = 1 ↔ ¬ x &&& 1 = 0 := by
  rcases q_at x with h | h <;> rw [h] <;> decide
theorem q_10 : ¬ (1 : Int32) = 0 := by decide
theorem q_ft : ¬ (false = true) := by decide
theorem q_tt : true = true := rfl
theorem q_loI {k n : Nat} (h : k < n) : q_lo (nI k) n := ⟨k, h, rfl⟩
theorem q_g0 (F : xF) : fX6_goesWell F 0 = some (1, va_up F 0 0) := by rw [fX6_goesWell_e, if_pos rfl]
theorem q_g1 (F : xF) {k : Int32} (h : ¬ k = 0) : fX6_goesWell F k = some (0, va_up F 0 k) := by rw [fX6_goesWell_e, if_neg h]
theorem q_30 {n m : Nat} (hn : n < 2 ^ 31) (hm : m < 2 ^ 31) : (nI n < nI m) = (n < m) := propext (q_lt hn hm)
end QR
