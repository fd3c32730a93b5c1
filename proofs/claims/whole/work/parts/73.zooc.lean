section QZC
/-! the least sets -/
def zpc (t : Nat) : Nat := t % 2 + t / 2 % 2 + t / 4 % 2 + t / 8 % 2 + t / 16 % 2 + t / 32 % 2 + t / 64 % 2 + t / 128 % 2 + t / 256 % 2 + t / 512 % 2
theorem zpc_le (t : Nat) : zpc t ≤ 10 := by unfold zpc; omega
set_option maxRecDepth 100000 in
theorem z_bc0 : ∀ a, a < 32 → ∀ b, b < 32 → fJ6_bitCount_0f7a4 (nI (32 * a + b)) = some (nI (zpc (32 * a + b))) := by decide +kernel
set_option maxRecDepth 100000 in
theorem z_bm0 : ∀ a, a < 32 → ∀ b, b < 32 → fX6_bits (nI (32 * a + b)) = some (nI (zpc (32 * a + b))) := by decide +kernel
theorem z_bc {t : Nat} (h : t < 1024) : fJ6_bitCount_0f7a4 (nI t) = some (nI (zpc t)) := by
  have e := z_bc0 (t / 32) (by omega) (t % 32) (by omega)
  rw [Nat.div_add_mod] at e
  exact e
theorem z_bm {t : Nat} (h : t < 1024) : fX6_bits (nI t) = some (nI (zpc t)) := by
  have e := z_bm0 (t / 32) (by omega) (t % 32) (by omega)
  rw [Nat.div_add_mod] at e
  exact e
/-- s is of the pool and proves g -/
def zgd (P C : Nat → Int32) (R g pool : Nat) (s : Nat) : Bool := if (nI s &&& (nI pool ^^^ (-1))) = 0 then (if (x_shr (zcl P C R 10 (nI s)) (nI g) &&& 1) = 0 then false else true) else false
def zlb (gd : Nat → Bool) : Nat → Nat → Option Nat → Option Nat
  | 0, _, b => b
  | k + 1, s, b => zlb gd k (s + 1) (if gd s = true then (match b with
    | none => some s
    | some b0 => if zpc s < zpc b0 then some s else some b0) else b)
theorem zlb_s (gd : Nat → Bool) (k s : Nat) (b : Option Nat) : zlb gd (k + 1) s b = zlb gd k (s + 1) (if gd s = true then (match b with
    | none => some s
    | some b0 => if zpc s < zpc b0 then some s else some b0) else b) := by cases b <;> rfl
def zbest (gd : Nat → Bool) (K : Nat) (o : Option Nat) : Prop := match o with
  | none => ∀ i, i < K → gd i = false
  | some b => b < K ∧ gd b = true ∧ (∀ i, i < K → gd i = true → zpc b ≤ zpc i) ∧ ∀ i, i < b → gd i = true → zpc b < zpc i
theorem zbest_one {gd : Nat → Bool} {K : Nat} {o1 o2 : Option Nat} (h1 : zbest gd K o1) (h2 : zbest gd K o2) : o1 = o2 := by
  cases o1 with
  | none =>
    cases o2 with
    | none => rfl
    | some b => have := h1 b h2.1; rw [h2.2.1] at this; cases this
  | some a =>
    cases o2 with
    | none => have := h2 a h1.1; rw [h1.2.1] at this; cases this
    | some b =>
      obtain ⟨a1, a2, a3, a4⟩ := h1
      obtain ⟨b1, b2, b3, b4⟩ := h2
      have x1 := a3 b b1 b2
      have x2 := b3 a a1 a2
      rcases Nat.lt_trichotomy a b with h | h | h
      · have := b4 a h a2; omega
      · rw [h]
      · have := a4 b h b2; omega
theorem zlb_best {gd : Nat → Bool} : ∀ (k s : Nat) (b : Option Nat), zbest gd s b → zbest gd (s + k) (zlb gd k s b) := by
  intro k
  induction k with
  | zero => intro s b h; exact h
  | succ k ih =>
    intro s b h
    rw [zlb_s, show s + (k + 1) = s + 1 + k by omega]
    apply ih
    cases hg : gd s with
    | false =>
      rw [if_neg (by decide)]
      cases b with
      | none =>
        intro i hi
        rcases Nat.lt_or_ge i s with g | g
        · exact h i g
        · have e : i = s := by omega
          rw [e]; exact hg
      | some b0 =>
        obtain ⟨a1, a2, a3, a4⟩ := h
        refine ⟨by omega, a2, fun i hi hgi => ?_, a4⟩
        rcases Nat.lt_or_ge i s with g | g
        · exact a3 i g hgi
        · have e : i = s := by omega
          rw [e, hg] at hgi; cases hgi
    | true =>
      rw [if_pos rfl]
      cases b with
      | none =>
        refine ⟨Nat.lt_succ_self s, hg, fun i hi hgi => ?_, fun i hi hgi => ?_⟩
        · rcases Nat.lt_or_ge i s with g | g
          · rw [h i g] at hgi; cases hgi
          · have e : i = s := by omega
            rw [e]; exact Nat.le_refl _
        · rw [h i hi] at hgi; cases hgi
      | some b0 =>
        obtain ⟨a1, a2, a3, a4⟩ := h
        show zbest gd (s + 1) (if zpc s < zpc b0 then some s else some b0)
        by_cases hc : zpc s < zpc b0
        · rw [if_pos hc]
          refine ⟨Nat.lt_succ_self s, hg, fun i hi hgi => ?_, fun i hi hgi => ?_⟩
          · rcases Nat.lt_or_ge i s with g | g
            · have := a3 i g hgi; omega
            · have e : i = s := by omega
              rw [e]; exact Nat.le_refl _
          · have := a3 i hi hgi; omega
        · rw [if_neg hc]
          refine ⟨by omega, a2, fun i hi hgi => ?_, a4⟩
          rcases Nat.lt_or_ge i s with g | g
          · exact a3 i g hgi
          · have e : i = s := by omega
            rw [e]; omega
theorem zlb_0 {gd : Nat → Bool} (K : Nat) : zbest gd K (zlb gd K 0 none) := by
  have h := zlb_best (gd := gd) K 0 none (fun i hi => absurd hi (Nat.not_lt_zero i))
  rw [Nat.zero_add] at h
  exact h
def zfs (gd : Nat → Bool) (c : Nat) : Nat → Nat → Option Nat
  | 0, _ => none
  | k + 1, s => if zpc s = c then (if gd s = true then some s else zfs gd c k (s + 1)) else zfs gd c k (s + 1)
theorem zfs_some {gd : Nat → Bool} {c : Nat} : ∀ (k s r : Nat), zfs gd c k s = some r → s ≤ r ∧ r < s + k ∧ zpc r = c ∧ gd r = true ∧ ∀ i, s ≤ i → i < r → gd i = true → zpc i ≠ c := by
  intro k
  induction k with
  | zero => intro s r h; cases h
  | succ k ih =>
    intro s r h
    rw [zfs] at h
    by_cases h1 : zpc s = c
    · rw [if_pos h1] at h
      by_cases h2 : gd s = true
      · rw [if_pos h2] at h
        cases h
        exact ⟨Nat.le_refl _, by omega, h1, h2, fun i a b => by omega⟩
      · rw [if_neg h2] at h
        obtain ⟨a1, a2, a3, a4, a5⟩ := ih _ _ h
        refine ⟨by omega, by omega, a3, a4, fun i b1 b2 b3 => ?_⟩
        rcases Nat.lt_or_ge s i with g | g
        · exact a5 i g b2 b3
        · have e : i = s := by omega
          rw [e] at b3; exact absurd b3 h2
    · rw [if_neg h1] at h
      obtain ⟨a1, a2, a3, a4, a5⟩ := ih _ _ h
      refine ⟨by omega, by omega, a3, a4, fun i b1 b2 b3 => ?_⟩
      rcases Nat.lt_or_ge s i with g | g
      · exact a5 i g b2 b3
      · have e : i = s := by omega
        rw [e]; exact h1
theorem zfs_none {gd : Nat → Bool} {c : Nat} : ∀ (k s : Nat), zfs gd c k s = none → ∀ i, s ≤ i → i < s + k → gd i = true → zpc i ≠ c := by
  intro k
  induction k with
  | zero => intro s _ i h1 h2; omega
  | succ k ih =>
    intro s h i b1 b2 b3
    rw [zfs] at h
    by_cases h1 : zpc s = c
    · rw [if_pos h1] at h
      by_cases h2 : gd s = true
      · rw [if_pos h2] at h; cases h
      · rw [if_neg h2] at h
        rcases Nat.lt_or_ge s i with g | g
        · exact ih _ h i g (by omega) b3
        · have e : i = s := by omega
          rw [e] at b3; exact absurd b3 h2
    · rw [if_neg h1] at h
      rcases Nat.lt_or_ge s i with g | g
      · exact ih _ h i g (by omega) b3
      · have e : i = s := by omega
        rw [e]; exact h1
def zls (gd : Nat → Bool) (K : Nat) : Nat → Nat → Option Nat
  | 0, _ => none
  | k + 1, c => match zfs gd c K 0 with
    | some s => some s
    | none => zls gd K k (c + 1)
theorem zls_best {gd : Nat → Bool} {K : Nat} : ∀ (k c : Nat), c + k = 11 → (∀ i, i < K → gd i = true → c ≤ zpc i) → zbest gd K (zls gd K k c) := by
  intro k
  induction k with
  | zero =>
    intro c h1 h2 i hi
    cases hg : gd i with
    | false => rfl
    | true => have := h2 i hi hg; have := zpc_le i; omega
  | succ k ih =>
    intro c h1 h2
    rw [zls]
    cases h : zfs gd c K 0 with
    | some s =>
      obtain ⟨a1, a2, a3, a4, a5⟩ := zfs_some _ _ _ h
      refine ⟨by omega, a4, fun i hi hg => by have := h2 i hi hg; omega, fun i hi hg => ?_⟩
      have := h2 i (by omega) hg
      have := a5 i (Nat.zero_le _) hi hg
      omega
    | none =>
      refine ih (c + 1) (by omega) (fun i hi hg => ?_)
      have := h2 i hi hg
      have := zfs_none _ _ h i (Nat.zero_le _) (by omega) hg
      omega
theorem z_gdc {P C : Nat → Int32} {R g pool s : Nat} : zgd P C R g pool s = true ↔ (nI s &&& (nI pool ^^^ (-1))) = 0 ∧ ¬ (x_shr (zcl P C R 10 (nI s)) (nI g) &&& 1) = 0 := by
  rw [zgd]
  by_cases h1 : (nI s &&& (nI pool ^^^ (-1))) = 0
  · rw [if_pos h1]
    by_cases h2 : (x_shr (zcl P C R 10 (nI s)) (nI g) &&& 1) = 0
    · rw [if_pos h2]; exact ⟨fun h => (by cases h), fun h => absurd h2 h.2⟩
    · rw [if_neg h2]; exact ⟨fun _ => ⟨h1, h2⟩, fun _ => rfl⟩
  · rw [if_neg h1]; exact ⟨fun h => (by cases h), fun h => absurd h.1 h1⟩
/-- the fewest, as the class counts it -/
def zfw : Option Nat → Nat
  | none => 11
  | some b => zpc b
theorem z_loa {F : xF} {G : xG} {R n g pool : Nat} (hF : F 7 = nI R) (hR : R ≤ 30) (hn : n ≤ 10) (ok : zok (G 2) (G 3) R n) (hp : pool < 2 ^ n) : ∀ (k s N : Nat) (b : Option Nat), s + k = pool + 1 → k < N → fX4_leastOfAll_l9 F G (nI pool) (nI g) N (zix (-1) b) (nI (zfw b)) (nI s) = some (zix (-1) (zlb (zgd (G 2) (G 3) R g pool) k s b)) := by
  have h10 := z_p10 hn
  intro k
  induction k with
  | zero =>
    intro s N b h1 h2
    cases N with
    | zero => omega
    | succ N => rw [fX4_leastOfAll_l9_e, if_pos ((q_lt (by omega) (by omega)).mpr (by omega))]; rfl
  | succ k ih =>
    intro s N b h1 h2
    cases N with
    | zero => omega
    | succ N =>
      rw [fX4_leastOfAll_l9_e, if_neg (fun z => by have := (q_lt (by omega) (by omega)).mp z; omega), q_b1 (z_bc (by omega)), q_b1 (z_includes _ _), zlb_s, zgd]
      by_cases c1 : (nI s &&& (nI pool ^^^ (-1))) = 0
      · rw [if_pos c1, if_neg q_10, if_pos c1, q_b1 (z_clo hF hR hn ok (by omega)), q_b1 (z_contains _ _)]
        by_cases c2 : (x_shr (zcl (G 2) (G 3) R 10 (nI s)) (nI g) &&& 1) = 0
        · rw [if_pos c2, if_pos rfl, if_pos c2, if_neg q_ft, fX4_leastOfAll_j58_e, nI_1, ih (s + 1) N b (by omega) (by omega)]
        · rw [if_neg c2, if_neg q_10, if_neg c2, if_pos q_tt]
          cases b with
          | none =>
            have h4 := zpc_le s
            rw [if_neg (fun z => by have := (q_le (a := 11) (b := zpc s) (by omega) (by omega)).mp z; omega), fX4_leastOfAll_j58_e, nI_1]
            exact ih (s + 1) N (some s) (by omega) (by omega)
          | some b0 =>
            have h4 := zpc_le s
            have h5 := zpc_le b0
            show (if nI (zpc b0) ≤ nI (zpc s) then _ else _) = some (zix (-1) (zlb (zgd (G 2) (G 3) R g pool) k (s + 1) (if zpc s < zpc b0 then some s else some b0)))
            by_cases c3 : zpc s < zpc b0
            · rw [if_neg (fun z => by have := (q_le (by omega) (by omega)).mp z; omega), if_pos c3, fX4_leastOfAll_j58_e, nI_1]
              exact ih (s + 1) N (some s) (by omega) (by omega)
            · rw [if_pos ((q_le (by omega) (by omega)).mpr (by omega)), if_neg c3, fX4_leastOfAll_j58_e, nI_1]
              exact ih (s + 1) N (some b0) (by omega) (by omega)
      · rw [if_neg c1, if_pos rfl, if_neg c1, if_neg q_ft, fX4_leastOfAll_j58_e, nI_1, ih (s + 1) N b (by omega) (by omega)]
theorem z_lom {F : xF} {G : xG} {R n g pool : Nat} (hF : F 21 = nI R) (hR : R ≤ 30) (hn : n ≤ 10) (ok : zok (G 22) (G 23) R n) (hp : pool < 2 ^ n) : ∀ (k s N : Nat) (b : Option Nat), s + k = pool + 1 → k < N → (∀ b0, b = some b0 → b0 < 1024) → fX6_leastOf_l42 F G (nI pool) (nI g) N (zix (-1) b) (nI s) = some (zix (-1) (zlb (zgd (G 22) (G 23) R g pool) k s b), F) := by
  have h10 := z_p10 hn
  intro k
  induction k with
  | zero =>
    intro s N b h1 h2 hb
    cases N with
    | zero => omega
    | succ N => rw [fX6_leastOf_l42_e, if_pos ((q_lt (by omega) (by omega)).mpr (by omega))]; rfl
  | succ k ih =>
    intro s N b h1 h2 hb
    cases N with
    | zero => omega
    | succ N =>
      have hs : ∀ b0, some s = some b0 → b0 < 1024 := fun b0 h => by cases h; omega
      have h80 : fX6_leastOf_j80 (fX6_leastOf_l42 F G (nI pool) (nI g) N) F G (nI s) (zix (-1) b) (nI g) = some (zix (-1) (zlb (zgd (G 22) (G 23) R g pool) k (s + 1) b), F) := by
        rw [fX6_leastOf_j80_e, fX6_leastOf_j81_e, if_pos rfl, fX6_leastOf_j107_e, fX6_leastOf_j109_e, nI_1, ih (s + 1) N b (by omega) (by omega) hb]
      have h76 : fX6_leastOf_j76 (fX6_leastOf_l42 F G (nI pool) (nI g) N) F G (nI s) (zix (-1) b) (nI g) = some (zix (-1) (zlb (zgd (G 22) (G 23) R g pool) k (s + 1) (if (x_shr (zcl (G 22) (G 23) R 10 (nI s)) (nI g) &&& 1) = 0 then b else some s)), F) := by
        rw [fX6_leastOf_j76_e, fX6_leastOf_j81_e, if_neg q_10, q_b1 (z_cloM hF hR hn ok (by omega))]
        by_cases c2 : (x_shr (zcl (G 22) (G 23) R 10 (nI s)) (nI g) &&& 1) = 0
        · rw [if_neg (fun z => q_a10.mp z c2), if_pos c2, fX6_leastOf_j107_e, fX6_leastOf_j109_e, nI_1, ih (s + 1) N b (by omega) (by omega) hb]
        · rw [if_pos (q_a10.mpr c2), if_neg c2, fX6_leastOf_j109_e, nI_1]
          exact ih (s + 1) N (some s) (by omega) (by omega) hs
      rw [fX6_leastOf_l42_e, if_neg (fun z => by have := (q_lt (by omega) (by omega)).mp z; omega), zlb_s, zgd]
      by_cases c1 : (nI s &&& (nI pool ^^^ (-1))) = 0
      · rw [if_pos c1, if_pos c1]
        cases b with
        | none =>
          rw [if_pos (show zix (-1) none = -1 from rfl), h76]
          by_cases c2 : (x_shr (zcl (G 22) (G 23) R 10 (nI s)) (nI g) &&& 1) = 0
          · rw [if_pos c2, if_pos c2, if_neg q_ft]
          · rw [if_neg c2, if_neg c2, if_pos q_tt]
        | some b0 =>
          have h3 := hb b0 rfl
          have h4 := zpc_le s
          have h5 := zpc_le b0
          rw [if_neg (show ¬ zix (-1) (some b0) = -1 from q_ne1 (by omega)), q_b1 (z_bm (by omega)), q_b1 (show fX6_bits (zix (-1) (some b0)) = some (nI (zpc b0)) from z_bm h3)]
          by_cases c3 : zpc s < zpc b0
          · rw [if_neg (fun z => by have := (q_le (by omega) (by omega)).mp z; omega), h76]
            by_cases c2 : (x_shr (zcl (G 22) (G 23) R 10 (nI s)) (nI g) &&& 1) = 0
            · rw [if_pos c2, if_pos c2, if_neg q_ft]
            · rw [if_neg c2, if_neg c2, if_pos q_tt]
              show _ = some (zix (-1) (zlb _ k (s + 1) (if zpc s < zpc b0 then some s else some b0)), F)
              rw [if_pos c3]
          · rw [if_pos ((q_le (by omega) (by omega)).mpr (by omega)), h80]
            by_cases c2 : (x_shr (zcl (G 22) (G 23) R 10 (nI s)) (nI g) &&& 1) = 0
            · rw [if_pos c2, if_neg q_ft]
            · rw [if_neg c2, if_pos q_tt]
              show _ = some (zix (-1) (zlb _ k (s + 1) (if zpc s < zpc b0 then some s else some b0)), F)
              rw [if_neg c3]
      · rw [if_neg c1, if_neg c1, if_neg q_ft, h80]
theorem z_lbs_l {F : xF} {G : xG} {R n g pool c : Nat} (hF : F 7 = nI R) (hR : R ≤ 30) (hn : n ≤ 10) (ok : zok (G 2) (G 3) R n) (hp : pool < 2 ^ n) (hc : c ≤ 10) (rec16 : Int32 → Option Int32) : ∀ (k s N : Nat), s + k = pool + 1 → k < N → fX4_leastBySize_l25 rec16 F G (nI pool) (nI c) (nI g) N (nI s) = match zfs (zgd (G 2) (G 3) R g pool) c k s with
    | some r => some (nI r)
    | none => rec16 (nI (c + 1)) := by
  have h10 := z_p10 hn
  intro k
  induction k with
  | zero =>
    intro s N h1 h2
    cases N with
    | zero => omega
    | succ N => rw [fX4_leastBySize_l25_e, if_pos ((q_lt (by omega) (by omega)).mpr (by omega)), fX4_leastBySize_x71_e, nI_1]; rfl
  | succ k ih =>
    intro s N h1 h2
    cases N with
    | zero => omega
    | succ N =>
      have h4 := zpc_le s
      rw [fX4_leastBySize_l25_e, if_neg (fun z => by have := (q_lt (by omega) (by omega)).mp z; omega), q_b1 (z_bc (by omega)), zfs, zgd]
      by_cases c0 : zpc s = c
      · rw [if_pos (congrArg nI c0), if_pos c0, q_b1 (z_includes _ _)]
        by_cases c1 : (nI s &&& (nI pool ^^^ (-1))) = 0
        · rw [if_pos c1, if_neg q_10, if_pos c1, q_b1 (z_clo hF hR hn ok (by omega)), q_b1 (z_contains _ _)]
          by_cases c2 : (x_shr (zcl (G 2) (G 3) R 10 (nI s)) (nI g) &&& 1) = 0
          · rw [if_pos c2, if_pos rfl, if_pos c2, if_neg q_ft, fX4_leastBySize_j65_e, nI_1, ih (s + 1) N (by omega) (by omega)]
          · rw [if_neg c2, if_neg q_10, if_neg c2, if_pos q_tt]
        · rw [if_neg c1, if_pos rfl, if_neg c1, if_neg q_ft, fX4_leastBySize_j65_e, nI_1, ih (s + 1) N (by omega) (by omega)]
      · rw [if_neg (fun z => c0 ((nI_eq (by omega) (by omega)).mp z)), if_neg c0, fX4_leastBySize_j65_e, nI_1, ih (s + 1) N (by omega) (by omega)]
theorem z_lbs {F : xF} {G : xG} {R n g pool : Nat} (hF : F 7 = nI R) (hR : R ≤ 30) (hn : n ≤ 10) (ok : zok (G 2) (G 3) R n) (hp : pool < 2 ^ n) : ∀ (k c N : Nat), c + k = 11 → k < N → fX4_leastBySize_l16 F G (nI pool) (nI g) N (nI c) = some (zix (-1) (zls (zgd (G 2) (G 3) R g pool) (pool + 1) k c)) := by
  have h10 := z_p10 hn
  intro k
  induction k with
  | zero =>
    intro c N h1 h2
    cases N with
    | zero => omega
    | succ N => rw [fX4_leastBySize_l16_e, if_pos (by exact (q_lt (a := 10) (by omega) (by omega)).mpr (by omega))]; rfl
  | succ k ih =>
    intro c N h1 h2
    cases N with
    | zero => omega
    | succ N =>
      rw [fX4_leastBySize_l16_e, if_neg (fun z => by have := (q_lt (a := 10) (by omega) (by omega)).mp z; omega), zls]
      refine (z_lbs_l hF hR hn ok hp (by omega) _ (pool + 1) 0 4096 (by omega) (by omega)).trans ?_
      cases zfs (zgd (G 2) (G 3) R g pool) c (pool + 1) 0 with
      | some r => rfl
      | none => exact ih (c + 1) N (by omega) (by omega)
/-- what proves within a closed set stays within it -/
theorem zcl_mono {P C : Nat → Int32} {R n u : Nat} (hn : n ≤ 10) (ok : zok P C R n) (hu : u < 2 ^ n) (hc : znx P C (nI u) 0 R = none) : ∀ (k s : Nat), s < 2 ^ n → (∀ i, s.testBit i = true → u.testBit i = true) → ∃ s', zcl P C R k (nI s) = nI s' ∧ s' < 2 ^ n ∧ ∀ i, s'.testBit i = true → u.testBit i = true := by
  have h10 := z_p10 hn
  intro k
  induction k with
  | zero => intro s h1 h2; exact ⟨s, rfl, h1, h2⟩
  | succ k ih =>
    intro s h1 h2
    rw [zcl]
    cases h : znx P C (nI s) 0 R with
    | none => exact ⟨s, rfl, h1, h2⟩
    | some r =>
      obtain ⟨-, r2, r3⟩ := znx_lt R 0 r h
      obtain ⟨p, c, hp, hp2, hcr, hc2⟩ := ok r (by omega)
      obtain ⟨e1, e2⟩ := z_or h1 hc2 hn
      have hnb := znx_none R 0 hc r (Nat.zero_le _) (by omega)
      rw [hp, hcr] at r3 hnb
      have hsub := (q_sub (a := p) (b := s) (by omega)).mp r3.1
      have hin : (nI p &&& (nI u ^^^ (-1))) = 0 := (q_sub (by omega)).mpr (fun i hi hb => h2 i (hsub i hi hb))
      have hbu : u.testBit c = true := by
        cases hb : u.testBit c with
        | true => rfl
        | false => exact absurd ⟨hin, (q_bit0 (by omega) (by omega)).mpr hb⟩ hnb
      have hz : zcl P C R k (nI s ||| x_shl 1 (C r)) = zcl P C R k (nI (s ||| 2 ^ c)) := by rw [hcr, e1]
      show ∃ s', zcl P C R k (nI s ||| x_shl 1 (C r)) = nI s' ∧ _
      rw [hz]
      refine ih (s ||| 2 ^ c) e2 (fun i hi => ?_)
      rw [Nat.testBit_or] at hi
      by_cases hic : i = c
      · rw [hic]; exact hbu
      · rw [Nat.testBit_two_pow_of_ne (fun e => hic e.symm), Bool.or_false] at hi
        exact h2 i hi
theorem z_gd_pool {P C : Nat → Int32} {R n g pool s : Nat} (hn : n ≤ 10) (ok : zok P C R n) (hg : g < n) (hp : pool < 2 ^ n) (hs : s < 2 ^ n) (h : zgd P C R g pool s = true) : ¬ (x_shr (zcl P C R 10 (nI pool)) (nI g) &&& 1) = 0 := by
  have h10 := z_p10 hn
  obtain ⟨h1, h2⟩ := z_gdc.mp h
  obtain ⟨u, u1, u2, u3, u4⟩ := zcl_set hn ok hp
  have hsub := (q_sub (a := s) (b := pool) (by omega)).mp h1
  have hs32 : ∀ i, s.testBit i = true → i < 32 := fun i hi => by
    rcases Nat.lt_or_ge i 32 with g | g
    · exact g
    · have e : s.testBit i = false := Nat.testBit_lt_two_pow (Nat.lt_of_lt_of_le (show s < 2 ^ 32 by omega) (Nat.pow_le_pow_right (by decide) g))
      rw [e] at hi; cases hi
  obtain ⟨s', s1, s2, s3⟩ := zcl_mono hn ok u2 u3 10 s hs (fun i hi => u4 i (hsub i (hs32 i hi) hi))
  rw [s1, q_bit0 (by omega) (by omega)] at h2
  rw [u1, q_bit0 (by omega) (by omega)]
  have hb : s'.testBit g = true := by
    cases hb : s'.testBit g with
    | true => rfl
    | false => exact absurd hb h2
  rw [s3 g hb]
  decide
theorem z_least {F : xF} {G : xG} {R n g pool : Nat} (hF : F 7 = nI R) (hR : R ≤ 30) (hn : n ≤ 10) (ok : zok (G 2) (G 3) R n) (hg : g < n) (hp : pool < 2 ^ n) : fX4_leastBySize F G (nI g) (nI pool) = some (zix (-1) (zlb (zgd (G 2) (G 3) R g pool) (pool + 1) 0 none)) := by
  have hb := zlb_0 (gd := zgd (G 2) (G 3) R g pool) (pool + 1)
  rw [fX4_leastBySize_e, q_b1 (z_clo hF hR hn ok hp), q_b1 (z_contains _ _)]
  by_cases h : (x_shr (zcl (G 2) (G 3) R 10 (nI pool)) (nI g) &&& 1) = 0
  · rw [if_pos h, if_pos rfl]
    have e : zlb (zgd (G 2) (G 3) R g pool) (pool + 1) 0 none = none := zbest_one hb (o2 := none) (fun i hi => by
      cases hz : zgd (G 2) (G 3) R g pool i with
      | false => rfl
      | true => exact absurd h (z_gd_pool hn ok hg hp (by omega) hz))
    rw [e]; rfl
  · rw [if_neg h, if_neg q_10]
    refine (z_lbs hF hR hn ok hp 11 0 4096 (by omega) (by omega)).trans ?_
    rw [zbest_one (zls_best (gd := zgd (G 2) (G 3) R g pool) (K := pool + 1) 11 0 (by omega) (fun i _ _ => Nat.zero_le _)) hb]
theorem z_leastM {F : xF} {G : xG} {n R : Nat} (hn' : F 18 = nI n) (hF : F 21 = nI R) (hR : R ≤ 30) (hn : n ≤ 10) (ok : zok (G 22) (G 23) R n) (p c : Int32) :
    fX6_leastOf F G p c = if q_lo p n then (if q_lo c (2 ^ n) then fX6_leastOf_l42 (va_up F 0 0) G c p 4096 (-1) 0 else some (0, va_up F 0 2)) else some (0, va_up F 0 1) := by
  have h28 : ∀ k : Int32, ¬ k = 0 → fX6_leastOf_j28 F G c p k = some (0, va_up F 0 k) := fun k h => by
    rw [fX6_leastOf_j28_e, b_b2 (q_g1 F h), if_pos rfl]
  rw [fX6_leastOf_e, q_b1 (z_isP hn' hn p)]
  by_cases c1 : q_lo p n
  · rw [if_pos c1, if_neg q_10, if_pos c1, q_b1 (z_isSetM hn' hn c)]
    by_cases c2 : q_lo c (2 ^ n)
    · rw [if_pos c2, if_neg q_10, if_pos c2, fX6_leastOf_j28_e, b_b2 (q_g0 F), if_neg q_10]
    · rw [if_neg c2, if_pos rfl, if_neg c2, h28 2 (by decide)]
  · rw [if_neg c1, if_pos rfl, if_neg c1, h28 1 q_10]
theorem o_least (X : XT) : oL_least (LRg X) := by
  intro Fp Gp Fo Go Fz Gz Fq Gq F G h p c
  obtain ⟨hX, ⟨e6, e7, e8, g0, g1, g2, g3, g4, np, nr, nm, hn, hr, hm, hn10, hr30, hm10, ok, okm⟩, hQ⟩ := h
  have f6 : Fz 6 = nI np := e6.trans hn
  have f7 : Fz 7 = nI nr := e7.trans hr
  have hZ : ∀ k, LZ Fz Gz (va_up F 0 k) G := fun k => ⟨e6, e7, e8, g0, g1, g2, g3, g4, np, nr, nm, hn, hr, hm, hn10, hr30, hm10, ok, okm⟩
  by_cases c1 : q_lo p np
  rotate_left
  · refine ⟨1, 0, 0, va_up F 0 1, fun _ h => absurd rfl h, ?_, ?_, rfl, fun h => absurd h q_10, hX, hZ 1, hQ⟩
    · rw [fX5_least_e, q_b1 (z_has f6 hn10 p), if_neg c1, if_pos rfl]
    · rw [fX6_least_e, z_leastM hn hr hr30 hn10 ok, if_neg c1, b_b2 rfl]
  by_cases c2 : q_lo c (2 ^ np)
  rotate_left
  · refine ⟨2, 0, 0, va_up F 0 2, fun _ _ => rfl, ?_, ?_, rfl, fun h => absurd h (by decide), hX, hZ 2, hQ⟩
    · rw [fX5_least_e, q_b1 (z_has f6 hn10 p), if_pos c1, if_neg q_10, q_b1 (z_isSet f6 hn10 c), if_neg c2, if_pos rfl]
    · rw [fX6_least_e, z_leastM hn hr hr30 hn10 ok, if_pos c1, if_neg c2, b_b2 rfl]
  obtain ⟨g, hg, rfl⟩ := c1
  obtain ⟨pool, hp, rfl⟩ := c2
  have h10 := z_p10 hn10
  refine ⟨0, zix (-1) (zlb (zgd (G 22) (G 23) nr g pool) (pool + 1) 0 none), zix (-1) (zlb (zgd (G 22) (G 23) nr g pool) (pool + 1) 0 none), va_up F 0 0, fun h => absurd rfl h, ?_, ?_, rfl, fun _ => rfl, hX, hZ 0, hQ⟩
  · rw [fX5_least_e, q_b1 (z_has f6 hn10 _), if_pos (q_loI hg), if_neg q_10, q_b1 (z_isSet f6 hn10 _), if_pos (q_loI hp), if_neg q_10, q_b1 (z_least f7 hr30 hn10 (by rw [g2, g3]; exact ok) hg hp), g2, g3]
  · rw [fX6_least_e, z_leastM hn hr hr30 hn10 ok, if_pos (q_loI hg), if_pos (q_loI hp)]
    exact b_b2 (z_lom (F := va_up F 0 0) hr hr30 hn10 ok hp (pool + 1) 0 4096 none (by omega) (by omega) (fun b0 h => (by cases h)))
theorem o_leastAnew (X : XT) : oL_leastAnew (LRg X) := by
  intro Fp Gp Fo Go Fz Gz Fq Gq F G h p c
  obtain ⟨hX, ⟨e6, e7, e8, g0, g1, g2, g3, g4, np, nr, nm, hn, hr, hm, hn10, hr30, hm10, ok, okm⟩, hQ⟩ := h
  have f6 : Fz 6 = nI np := e6.trans hn
  have f7 : Fz 7 = nI nr := e7.trans hr
  have hZ : ∀ k, LZ Fz Gz (va_up F 0 k) G := fun k => ⟨e6, e7, e8, g0, g1, g2, g3, g4, np, nr, nm, hn, hr, hm, hn10, hr30, hm10, ok, okm⟩
  by_cases c1 : q_lo p np
  rotate_left
  · refine ⟨1, 0, 0, va_up F 0 1, fun _ h => absurd rfl h, ?_, ?_, rfl, fun h => absurd h q_10, hX, hZ 1, hQ⟩
    · rw [fX5_leastAnew_e, q_b1 (z_has f6 hn10 p), if_neg c1, if_pos rfl]
    · rw [fX6_leastAnew_e, z_leastM hn hr hr30 hn10 ok, if_neg c1, b_b2 rfl]
  by_cases c2 : q_lo c (2 ^ np)
  rotate_left
  · refine ⟨2, 0, 0, va_up F 0 2, fun _ _ => rfl, ?_, ?_, rfl, fun h => absurd h (by decide), hX, hZ 2, hQ⟩
    · rw [fX5_leastAnew_e, q_b1 (z_has f6 hn10 p), if_pos c1, if_neg q_10, q_b1 (z_isSet f6 hn10 c), if_neg c2, if_pos rfl]
    · rw [fX6_leastAnew_e, z_leastM hn hr hr30 hn10 ok, if_pos c1, if_neg c2, b_b2 rfl]
  obtain ⟨g, hg, rfl⟩ := c1
  obtain ⟨pool, hp, rfl⟩ := c2
  have h10 := z_p10 hn10
  refine ⟨0, zix (-1) (zlb (zgd (G 22) (G 23) nr g pool) (pool + 1) 0 none), zix (-1) (zlb (zgd (G 22) (G 23) nr g pool) (pool + 1) 0 none), va_up F 0 0, fun h => absurd rfl h, ?_, ?_, rfl, fun _ => rfl, hX, hZ 0, hQ⟩
  · rw [fX5_leastAnew_e, q_b1 (z_has f6 hn10 _), if_pos (q_loI hg), if_neg q_10, q_b1 (z_isSet f6 hn10 _), if_pos (q_loI hp), if_neg q_10, fX4_leastOfAll_e]
    refine (q_b1 (z_loa f7 hr30 hn10 (by rw [g2, g3]; exact ok) hp (pool + 1) 0 4096 none (by omega) (by omega))).trans ?_
    rw [g2, g3]
  · rw [fX6_leastAnew_e, z_leastM hn hr hr30 hn10 ok, if_pos (q_loI hg), if_pos (q_loI hp)]
    exact b_b2 (z_lom (F := va_up F 0 0) hr hr30 hn10 ok hp (pool + 1) 0 4096 none (by omega) (by omega) (fun b0 h => (by cases h)))
end QZC
