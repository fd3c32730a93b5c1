section QZ
/-! the zoo: rules, models, what a set proves; the class's and the reference's ways tied to one -/
abbrev zb (s p c : Int32) : Prop := (p &&& (s ^^^ (-1))) = 0 ∧ (x_shr s c &&& 1) = 0
theorem z_contains (s c : Int32) : fX4_contains s c = some (if (x_shr s c &&& 1) = 0 then 0 else 1) := by
  rw [fX4_contains_e]
  by_cases h : (x_shr s c &&& 1) = 0
  · rw [if_pos h, if_pos h]
  · rw [if_neg h, if_neg h]
theorem z_includes (s p : Int32) : fX4_includes s p = some (if (p &&& (s ^^^ (-1))) = 0 then 1 else 0) := by
  rw [fX4_includes_e]
  by_cases h : (p &&& (s ^^^ (-1))) = 0
  · rw [if_pos h, if_pos h]
  · rw [if_neg h, if_neg h]
theorem z_brings (s p c : Int32) : fX4_brings s p c = some (if zb s p c then 1 else 0) := by
  rw [fX4_brings_e, q_b1 (z_includes s p)]
  by_cases h1 : (p &&& (s ^^^ (-1))) = 0
  · rw [if_pos h1, if_neg (by decide), q_b1 (z_contains s c)]
    by_cases h2 : (x_shr s c &&& 1) = 0
    · rw [if_pos h2, if_pos rfl, if_pos ⟨h1, h2⟩]
    · rw [if_neg h2, if_neg (by decide), if_neg (fun h => h2 h.2)]
  · rw [if_neg h1, if_pos rfl, if_neg (fun h => h1 h.1)]
theorem z_breaks (s p c : Int32) : fX6_breaks s p c = some (if zb s p c then 1 else 0) := by
  rw [fX6_breaks_e]
  by_cases h1 : (p &&& (s ^^^ (-1))) = 0
  · by_cases h2 : (x_shr s c &&& 1) = 0
    · rw [if_pos h1, if_pos h2, if_pos ⟨h1, h2⟩]
    · rw [if_pos h1, if_neg h2, if_neg (fun h => h2 h.2)]
  · rw [if_neg h1, if_neg (fun h => h1 h.1)]
/-- the first rule from j on, of k, by which s gets more -/
def znx (P C : Nat → Int32) (s : Int32) : Nat → Nat → Option Nat
  | _, 0 => none
  | j, k + 1 => if zb s (P j) (C j) then some j else znx P C s (j + 1) k
def zix (d : Int32) (o : Option Nat) : Int32 := match o with
  | none => d
  | some r => nI r
theorem znx_lt {P C : Nat → Int32} {s : Int32} : ∀ (k j r : Nat), znx P C s j k = some r → j ≤ r ∧ r < j + k ∧ zb s (P r) (C r) := by
  intro k
  induction k with
  | zero => intro j r h; cases h
  | succ k ih =>
    intro j r h
    rw [znx] at h
    by_cases hz : zb s (P j) (C j)
    · rw [if_pos hz] at h
      cases h
      exact ⟨Nat.le_refl _, by omega, hz⟩
    · rw [if_neg hz] at h
      obtain ⟨h1, h2, h3⟩ := ih (j + 1) r h
      exact ⟨by omega, by omega, h3⟩
theorem znx_none {P C : Nat → Int32} {s : Int32} : ∀ (k j : Nat), znx P C s j k = none → ∀ r, j ≤ r → r < j + k → ¬ zb s (P r) (C r) := by
  intro k
  induction k with
  | zero => intro j h r h1 h2; omega
  | succ k ih =>
    intro j h r h1 h2
    rw [znx] at h
    by_cases hz : zb s (P j) (C j)
    · rw [if_pos hz] at h; cases h
    · rw [if_neg hz] at h
      rcases Nat.lt_or_ge j r with g | g
      · exact ih (j + 1) h r g (by omega)
      · have e : r = j := by omega
        rw [e]; exact hz
theorem znx_snoc {P C : Nat → Int32} {s : Int32} : ∀ (k j : Nat), znx P C s j (k + 1) = match znx P C s j k with
    | some r => some r
    | none => if zb s (P (j + k)) (C (j + k)) then some (j + k) else none := by
  intro k
  induction k with
  | zero => intro j; rfl
  | succ k ih =>
    intro j
    rw [znx, ih (j + 1)]
    by_cases hz : zb s (P j) (C j)
    · rw [if_pos hz, znx, if_pos hz]
    · rw [if_neg hz, znx, if_neg hz, show j + 1 + k = j + (k + 1) by omega]
theorem z_next_l {F : xF} {G : xG} {s : Int32} {R : Nat} (hF : F 7 = nI R) (hR : R ≤ 30) : ∀ (k j n : Nat), j + k = R → k < n → fX4_nextRule_l2 F G s n (nI j) = some (zix (-1) (znx (G 2) (G 3) s j k)) := by
  intro k
  induction k with
  | zero =>
    intro j n h1 h2
    cases n with
    | zero => omega
    | succ m => rw [fX4_nextRule_l2_e, hF, if_pos ((q_le (by omega) (by omega)).mpr (by omega))]; rfl
  | succ k ih =>
    intro j n h1 h2
    cases n with
    | zero => omega
    | succ m =>
      rw [fX4_nextRule_l2_e, hF, if_neg (fun z => by have := (q_le (by omega) (by omega)).mp z; omega), q_ld (by omega) (by omega), q_ld (by omega) (by omega), q_cl (by omega), q_b1 (z_brings _ _ _), znx]
      by_cases hz : zb s (G 2 j) (G 3 j)
      · rw [if_pos hz, if_pos hz, if_neg (by decide)]; rfl
      · rw [if_neg hz, if_neg hz, if_pos rfl, nI_1, ih (j + 1) m (by omega) (by omega)]
theorem z_next {F : xF} {G : xG} {s : Int32} {R : Nat} (hF : F 7 = nI R) (hR : R ≤ 30) : fX4_nextRule F G s = some (zix (-1) (znx (G 2) (G 3) s 0 R)) := by
  rw [fX4_nextRule_e]
  exact z_next_l hF hR R 0 4096 (by omega) (by omega)
theorem z_nextM_l {G : xG} {s : Int32} : ∀ (k n : Nat) (v : Int32), k ≤ 30 → k < n → fX6_nextRule_l9 G s n v (nI k + (-1)) = some (zix v (znx (G 22) (G 23) s 0 k)) := by
  intro k
  induction k with
  | zero =>
    intro n v h1 h2
    cases n with
    | zero => omega
    | succ m => rw [fX6_nextRule_l9_e, if_pos (by decide)]; rfl
  | succ k ih =>
    intro n v h1 h2
    cases n with
    | zero => omega
    | succ m =>
      rw [fX6_nextRule_l9_e, pk_m1, if_neg (q_lt0 (by omega)), q_ld (by omega) (by omega), q_ld (by omega) (by omega), q_cl (by omega), q_b1 (z_breaks _ _ _), znx_snoc, Nat.zero_add]
      by_cases hz : zb s (G 22 k) (G 23 k)
      · rw [if_pos hz, if_neg (by decide), fX6_nextRule_j37_e, ih m (nI k) (by omega) (by omega), if_pos hz]
        cases znx (G 22) (G 23) s 0 k <;> rfl
      · rw [if_neg hz, if_pos rfl, fX6_nextRule_j37_e, ih m v (by omega) (by omega), if_neg hz]
        cases znx (G 22) (G 23) s 0 k <;> rfl
theorem z_nextM {F : xF} {G : xG} {s : Int32} {R : Nat} (hF : F 21 = nI R) (hR : R ≤ 30) : fX6_nextRule F G s = some (zix (-1) (znx (G 22) (G 23) s 0 R)) := by
  rw [fX6_nextRule_e, hF, q_m1]
  exact z_nextM_l R 4096 (-1) hR (by omega)
/-- k steps at most towards what s proves -/
def zcl (P C : Nat → Int32) (R : Nat) : Nat → Int32 → Int32
  | 0, s => s
  | k + 1, s => match znx P C s 0 R with
    | none => s
    | some r => zcl P C R k (s ||| x_shl 1 (C r))
/-- how many of the first n principles are not in t -/
def zmu (t : Nat) : Nat → Nat
  | 0 => 0
  | i + 1 => zmu t i + if t.testBit i then 0 else 1
theorem zmu_le (t : Nat) : ∀ n, zmu t n ≤ n := by
  intro n
  induction n with
  | zero => exact Nat.le_refl _
  | succ n ih => rw [zmu]; split <;> omega
theorem zmu_mono {t t' : Nat} (h : ∀ i, t.testBit i = true → t'.testBit i = true) : ∀ n, zmu t' n ≤ zmu t n := by
  intro n
  induction n with
  | zero => exact Nat.le_refl _
  | succ n ih =>
    rw [zmu, zmu]
    by_cases h1 : t.testBit n = true
    · rw [if_pos h1, if_pos (h n h1)]; omega
    · rw [if_neg h1]; split <;> omega
theorem zmu_lt {t t' c : Nat} (h : ∀ i, t.testBit i = true → t'.testBit i = true) (h1 : t.testBit c = false) (h2 : t'.testBit c = true) : ∀ n, c < n → zmu t' n < zmu t n := by
  intro n
  induction n with
  | zero => intro hc; omega
  | succ n ih =>
    intro hc
    rw [zmu, zmu]
    have hm := zmu_mono h n
    rcases Nat.lt_or_ge c n with g | g
    · have := ih g
      by_cases h3 : t.testBit n = true
      · rw [if_pos h3, if_pos (h n h3)]; omega
      · rw [if_neg h3]; split <;> omega
    · have e : c = n := by omega
      subst e
      rw [h1, h2]
      simp
      omega
/-- the rules are of n principles -/
def zok (P C : Nat → Int32) (R n : Nat) : Prop := ∀ r, r < R → ∃ p c : Nat, P r = nI p ∧ p < 2 ^ n ∧ C r = nI c ∧ c < n
theorem z_or {t c n : Nat} (ht : t < 2 ^ n) (hc : c < n) (hn : n ≤ 10) : nI t ||| x_shl 1 (nI c) = nI (t ||| 2 ^ c) ∧ t ||| 2 ^ c < 2 ^ n := by
  refine ⟨by rw [q_shl1 (by omega), q_or], Nat.or_lt_two_pow ht (Nat.pow_lt_pow_right (by decide) hc)⟩
theorem z_p10 {n : Nat} (hn : n ≤ 10) : 2 ^ n ≤ 1024 := Nat.pow_le_pow_right (n := 2) (by decide) hn
theorem z_step {P C : Nat → Int32} {R n t r : Nat} (hn : n ≤ 10) (ok : zok P C R n) (ht : t < 2 ^ n) (h : znx P C (nI t) 0 R = some r) : ∃ t', nI t ||| x_shl 1 (C r) = nI t' ∧ t' < 2 ^ n ∧ zmu t' n < zmu t n ∧ (∀ i, t.testBit i = true → t'.testBit i = true) ∧ r < R := by
  obtain ⟨-, h2, h3⟩ := znx_lt R 0 r h
  obtain ⟨p, c, hp, hp2, hc, hc2⟩ := ok r (by omega)
  have hp10 := z_p10 hn
  obtain ⟨e1, e2⟩ := z_or ht hc2 hn
  have hb := (q_bit0 (t := t) (c := c) (by omega) (by omega)).mp (by rw [← hc]; exact h3.2)
  have hm : ∀ i, t.testBit i = true → (t ||| 2 ^ c).testBit i = true := fun i hi => by rw [Nat.testBit_or, hi]; rfl
  refine ⟨t ||| 2 ^ c, by rw [hc]; exact e1, e2, zmu_lt hm hb ?_ n hc2, hm, by omega⟩
  rw [Nat.testBit_or, Nat.testBit_two_pow_self, Bool.or_true]
/-- with as many steps as there are principles missing nothing more comes; more steps change nothing -/
theorem zcl_end {P C : Nat → Int32} {R n : Nat} (hn : n ≤ 10) (ok : zok P C R n) : ∀ (k t : Nat), t < 2 ^ n → zmu t n ≤ k → ∃ t', zcl P C R k (nI t) = nI t' ∧ t' < 2 ^ n ∧ znx P C (nI t') 0 R = none ∧ (∀ i, t.testBit i = true → t'.testBit i = true) := by
  intro k
  induction k with
  | zero =>
    intro t ht hm
    cases h : znx P C (nI t) 0 R with
    | none => exact ⟨t, rfl, ht, h, fun _ h => h⟩
    | some r =>
      obtain ⟨t', -, -, h3, -⟩ := z_step hn ok ht h
      omega
  | succ k ih =>
    intro t ht hm
    rw [zcl]
    cases h : znx P C (nI t) 0 R with
    | none => exact ⟨t, rfl, ht, h, fun _ h => h⟩
    | some r =>
      obtain ⟨t', h1, h2, h3, h4, -⟩ := z_step hn ok ht h
      obtain ⟨t2, g1, g2, g3, g4⟩ := ih t' h2 (by omega)
      exact ⟨t2, by rw [← g1, ← h1], g2, g3, fun i hi => g4 i (h4 i hi)⟩
theorem zcl_more {P C : Nat → Int32} {R n : Nat} (hn : n ≤ 10) (ok : zok P C R n) : ∀ (k k2 t : Nat), t < 2 ^ n → zmu t n ≤ k → k ≤ k2 → zcl P C R k2 (nI t) = zcl P C R k (nI t) := by
  intro k
  induction k with
  | zero =>
    intro k2 t ht hm hk
    cases h : znx P C (nI t) 0 R with
    | none =>
      cases k2 with
      | zero => rfl
      | succ k2 => rw [zcl, zcl, h]
    | some r =>
      obtain ⟨t', -, -, h3, -⟩ := z_step hn ok ht h
      omega
  | succ k ih =>
    intro k2 t ht hm hk
    cases k2 with
    | zero => omega
    | succ k2 =>
      rw [zcl, zcl]
      cases h : znx P C (nI t) 0 R with
      | none => rfl
      | some r =>
        obtain ⟨t', h1, h2, h3, h4, -⟩ := z_step hn ok ht h
        show zcl P C R k2 (nI t ||| x_shl 1 (C r)) = zcl P C R k (nI t ||| x_shl 1 (C r))
        rw [h1]
        exact ih k2 t' h2 (by omega) (by omega)
theorem z_clo_l {F : xF} {G : xG} {R n : Nat} (hF : F 7 = nI R) (hR : R ≤ 30) (hn : n ≤ 10) (ok : zok (G 2) (G 3) R n) : ∀ (k j N t : Nat), j + k = 10 → k < N → t < 2 ^ n → fX4_closure_l4 F G N (nI t) (nI j) = some (zcl (G 2) (G 3) R k (nI t)) := by
  intro k
  induction k with
  | zero =>
    intro j N t h1 h2 ht
    cases N with
    | zero => omega
    | succ N =>
      have e : j = 10 := by omega
      subst e
      rw [fX4_closure_l4_e, if_pos (by decide)]
      rfl
  | succ k ih =>
    intro j N t h1 h2 ht
    cases N with
    | zero => omega
    | succ N =>
      rw [fX4_closure_l4_e, if_neg (fun z => by have := (q_le (a := 10) (b := j) (by omega) (by omega)).mp z; omega), q_b1 (z_next hF hR), zcl]
      cases h : znx (G 2) (G 3) (nI t) 0 R with
      | none => exact if_pos rfl
      | some r =>
        obtain ⟨t', e1, e2, e3, e4, hr⟩ := z_step hn ok ht h
        show (if nI r = -1 then _ else x_ld (nI r) 30 (fX4_closure_l4 F G N (nI t ||| x_shl 1 (G 3 (nI r).toNatClampNeg)) (nI j + 1))) = some (zcl (G 2) (G 3) R k (nI t ||| x_shl 1 (G 3 r)))
        rw [if_neg (q_ne1 (by omega)), q_ld (by omega) (by omega), q_cl (by omega), e1, nI_1]
        exact ih (j + 1) N t' (by omega) (by omega) e2
theorem z_clo {F : xF} {G : xG} {R n t : Nat} (hF : F 7 = nI R) (hR : R ≤ 30) (hn : n ≤ 10) (ok : zok (G 2) (G 3) R n) (ht : t < 2 ^ n) : fX4_closure F G (nI t) = some (zcl (G 2) (G 3) R 10 (nI t)) := by
  rw [fX4_closure_e]
  exact z_clo_l hF hR hn ok 10 0 4096 t (by omega) (by omega) ht
theorem z_cloM_l {F : xF} {G : xG} {R n : Nat} (hF : F 21 = nI R) (hR : R ≤ 30) (hn : n ≤ 10) (ok : zok (G 22) (G 23) R n) : ∀ (k N t : Nat), zmu t n ≤ k → k < N → t < 2 ^ n → fX6_closed_l8 F G N (nI t) (zix (-1) (znx (G 22) (G 23) (nI t) 0 R)) = some (zcl (G 22) (G 23) R k (nI t)) := by
  intro k
  induction k with
  | zero =>
    intro N t h1 h2 ht
    cases N with
    | zero => omega
    | succ N =>
      cases h : znx (G 22) (G 23) (nI t) 0 R with
      | none => rw [fX6_closed_l8_e]; exact if_pos rfl
      | some r =>
        obtain ⟨t', -, -, h3, -⟩ := z_step hn ok ht h
        omega
  | succ k ih =>
    intro N t h1 h2 ht
    cases N with
    | zero => omega
    | succ N =>
      rw [fX6_closed_l8_e, zcl]
      cases h : znx (G 22) (G 23) (nI t) 0 R with
      | none => exact if_pos rfl
      | some r =>
        obtain ⟨t', e1, e2, e3, e4, hr⟩ := z_step hn ok ht h
        show (if nI r = -1 then _ else x_ld (nI r) 30 (x_b1 (fX6_nextRule F G (nI t ||| x_shl 1 (G 23 (nI r).toNatClampNeg))) (fun r8 => fX6_closed_l8 F G N (nI t ||| x_shl 1 (G 23 (nI r).toNatClampNeg)) r8))) = some (zcl (G 22) (G 23) R k (nI t ||| x_shl 1 (G 23 r)))
        rw [if_neg (q_ne1 (by omega)), q_ld (by omega) (by omega), q_cl (by omega), e1, q_b1 (z_nextM hF hR)]
        exact ih N t' (by omega) (by omega) e2
theorem z_cloM {F : xF} {G : xG} {R n t : Nat} (hF : F 21 = nI R) (hR : R ≤ 30) (hn : n ≤ 10) (ok : zok (G 22) (G 23) R n) (ht : t < 2 ^ n) : fX6_closed F G (nI t) = some (zcl (G 22) (G 23) R 10 (nI t)) := by
  rw [fX6_closed_e, q_b1 (z_nextM hF hR)]
  exact z_cloM_l hF hR hn ok 10 4096 t (by have := zmu_le t n; omega) (by omega) ht
/-- what a set proves is a set again, nothing more comes to it -/
theorem zcl_set {P C : Nat → Int32} {R n t : Nat} (hn : n ≤ 10) (ok : zok P C R n) (ht : t < 2 ^ n) : ∃ t', zcl P C R 10 (nI t) = nI t' ∧ t' < 2 ^ n ∧ znx P C (nI t') 0 R = none ∧ (∀ i, t.testBit i = true → t'.testBit i = true) :=
  zcl_end hn ok 10 t ht (by have := zmu_le t n; omega)
end QZ
