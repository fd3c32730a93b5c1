section QZB
/-! proof -/
theorem u_id {α : Type} (f : Nat → α) (k : Nat) : va_up f k (f k) = f := by
  funext j
  by_cases h : j = k
  · subst h; exact u_s
  · exact u_n h
/-- the steps from s until g is there, k at most -/
def zps (P C : Nat → Int32) (R : Nat) (g : Int32) : Nat → Int32 → Option (List Nat)
  | 0, _ => some []
  | k + 1, s => if (x_shr s g &&& 1) = 0 then (match znx P C s 0 R with
    | none => none
    | some r => (zps P C R g k (s ||| x_shl 1 (C r))).map (List.cons r)) else some []
theorem zmu_0 {t : Nat} : ∀ n, zmu t n = 0 → ∀ i, i < n → t.testBit i = true := by
  intro n
  induction n with
  | zero => intro _ i h; omega
  | succ n ih =>
    intro h i hi
    rw [zmu] at h
    by_cases hn : t.testBit n = true
    · rw [if_pos hn] at h
      rcases Nat.lt_or_ge i n with g | g
      · exact ih (by omega) i g
      · have e : i = n := by omega
        rw [e]; exact hn
    · rw [if_neg hn] at h; omega
theorem zps_iff {P C : Nat → Int32} {R n g : Nat} (hn : n ≤ 10) (ok : zok P C R n) (hg : g < n) : ∀ (k t : Nat), t < 2 ^ n → zmu t n ≤ k → ((∃ L, zps P C R (nI g) k (nI t) = some L) ↔ ¬ (x_shr (zcl P C R k (nI t)) (nI g) &&& 1) = 0) := by
  have hp := z_p10 hn
  intro k
  induction k with
  | zero =>
    intro t ht hm
    have hb := zmu_0 (t := t) n (by omega) g hg
    constructor
    · intro _ h
      rw [zcl, q_bit0 (by omega) (by omega), hb] at h
      cases h
    · intro _; exact ⟨[], rfl⟩
  | succ k ih =>
    intro t ht hm
    by_cases hb : (x_shr (nI t) (nI g) &&& 1) = 0
    · rw [zps, if_pos hb, zcl]
      cases h : znx P C (nI t) 0 R with
      | none =>
        constructor
        · rintro ⟨L, hL⟩; cases hL
        · intro h; exact absurd hb h
      | some r =>
        obtain ⟨t', e1, e2, e3, e4, e5⟩ := z_step hn ok ht h
        have := ih t' e2 (by omega)
        show (∃ L, (zps P C R (nI g) k (nI t ||| x_shl 1 (C r))).map (List.cons r) = some L) ↔ ¬ (x_shr (zcl P C R k (nI t ||| x_shl 1 (C r))) (nI g) &&& 1) = 0
        rw [e1, ← this]
        constructor
        · rintro ⟨L, hL⟩
          cases hz : zps P C R (nI g) k (nI t') with
          | none => rw [hz] at hL; cases hL
          | some L' => exact ⟨L', rfl⟩
        · rintro ⟨L, hL⟩
          rw [hL]; exact ⟨r :: L, rfl⟩
    · rw [zps, if_neg hb]
      refine ⟨fun _ => ?_, fun _ => ⟨[], rfl⟩⟩
      obtain ⟨t', e1, e2, e3, e4⟩ := zcl_end hn ok (k + 1) t ht hm
      rw [e1, q_bit0 (by omega) (by omega)]
      rw [q_bit0 (by omega) (by omega)] at hb
      have h1 : t.testBit g = true := by
        cases hc : t.testBit g
        · exact absurd hc hb
        · rfl
      rw [e4 g h1]
      decide
theorem zps_len {P C : Nat → Int32} {R : Nat} {g : Int32} : ∀ (k : Nat) (s : Int32) (L : List Nat), zps P C R g k s = some L → L.length ≤ k ∧ ∀ i, i < L.length → L.getD i 0 < R := by
  intro k
  induction k with
  | zero => intro s L h; rw [zps] at h; cases h; exact ⟨Nat.le_refl _, fun i hi => absurd hi (Nat.not_lt_zero i)⟩
  | succ k ih =>
    intro s L h
    rw [zps] at h
    by_cases hb : (x_shr s g &&& 1) = 0
    · rw [if_pos hb] at h
      cases hz : znx P C s 0 R with
      | none => rw [hz] at h; cases h
      | some r =>
        rw [hz] at h
        cases hy : zps P C R g k (s ||| x_shl 1 (C r)) with
        | none => simp only [hy] at h; cases h
        | some L' =>
          simp only [hy, Option.map_some] at h
          cases h
          obtain ⟨h1, h2⟩ := ih _ _ hy
          obtain ⟨-, h3, -⟩ := znx_lt R 0 r hz
          refine ⟨by simp only [List.length_cons]; omega, fun i hi => ?_⟩
          cases i with
          | zero => show r < R; omega
          | succ i => exact h2 i (by simp only [List.length_cons] at hi; omega)
    · rw [if_neg hb] at h; cases h; exact ⟨Nat.zero_le _, fun i hi => absurd hi (Nat.not_lt_zero i)⟩
/-- a list of numbers, written from j on -/
def zwr : (Nat → Int32) → Nat → List Nat → Nat → Int32
  | g, _, [] => g
  | g, j, r :: L => zwr (upd g j (nI r)) (j + 1) L
theorem zwr_lo : ∀ (L : List Nat) (g : Nat → Int32) (j i : Nat), i < j → zwr g j L i = g i := by
  intro L
  induction L with
  | nil => intro g j i _; rfl
  | cons r L ih => intro g j i h; rw [zwr, ih _ _ _ (by omega), pk_un (by omega)]
theorem zwr_at : ∀ (L : List Nat) (g : Nat → Int32) (j i : Nat), i < L.length → zwr g j L (j + i) = nI (L.getD i 0) := by
  intro L
  induction L with
  | nil => intro g j i h; exact absurd h (Nat.not_lt_zero i)
  | cons r L ih =>
    intro g j i h
    rw [zwr]
    cases i with
    | zero =>
      show zwr (upd g j (nI r)) (j + 1) L j = nI r
      rw [zwr_lo _ _ _ _ (show j < j + 1 by omega), pk_us]
    | succ i =>
      rw [show j + (i + 1) = j + 1 + i by omega, ih _ _ i (by simp only [List.length_cons] at h; omega)]
      rfl
theorem z_tk {F : xF} {G : xG} {R n g : Nat} (hF : F 7 = nI R) (hR : R ≤ 30) (hn : n ≤ 10) (ok : zok (G 2) (G 3) R n) (hg : g < n) : ∀ (k j N t : Nat) (g5 : Nat → Int32), j + k = 10 → k < N → t < 2 ^ n → zmu t n ≤ k →
    (∀ L, zps (G 2) (G 3) R (nI g) k (nI t) = some L → fX4_takeSteps_l5 F (nI g) N (nI t) (nI j) (va_up G 5 g5) = some (nI (j + L.length), va_up G 5 (zwr g5 j L))) ∧
    (zps (G 2) (G 3) R (nI g) k (nI t) = none → ∃ g5', fX4_takeSteps_l5 F (nI g) N (nI t) (nI j) (va_up G 5 g5) = some (-1, va_up G 5 g5')) := by
  intro k
  induction k with
  | zero =>
    intro j N t g5 h1 h2 ht hm
    cases N with
    | zero => omega
    | succ N =>
      have e : j = 10 := by omega
      subst e
      refine ⟨fun L hL => ?_, fun h => by rw [zps] at h; cases h⟩
      rw [zps] at hL
      cases hL
      rw [fX4_takeSteps_l5_e, if_pos (by decide)]
      rfl
  | succ k ih =>
    intro j N t g5 h1 h2 ht hm
    cases N with
    | zero => omega
    | succ N =>
      have hstep : fX4_takeSteps_l5 F (nI g) (N + 1) (nI t) (nI j) (va_up G 5 g5) = (if (x_shr (nI t) (nI g) &&& 1) = 0 then x_b1 (fX4_nextRule F (va_up G 5 g5) (nI t)) (fun r9 => (if r9 = (-1) then some ((-1), va_up G 5 g5) else x_ld (nI j) 10 (x_ld r9 30 ((fX4_takeSteps_l5 F (nI g) N) (nI t ||| (x_shl 1 ((G 3) r9.toNatClampNeg))) (nI j + 1) (va_up (va_up G 5 g5) 5 (upd g5 (nI j).toNatClampNeg r9)))))) else some (nI j, va_up G 5 g5)) := by
        rw [fX4_takeSteps_l5_e, if_neg (fun z => by have := (q_le (a := 10) (b := j) (by omega) (by omega)).mp z; omega), q_b1 (z_contains _ _)]
        by_cases hb : (x_shr (nI t) (nI g) &&& 1) = 0
        · rw [if_pos hb, if_pos rfl, if_pos hb]; rfl
        · rw [if_neg hb, if_neg q_10, if_neg hb]
      rw [hstep, zps]
      by_cases hb : (x_shr (nI t) (nI g) &&& 1) = 0
      · rw [if_pos hb, if_pos hb, q_b1 (show fX4_nextRule F (va_up G 5 g5) (nI t) = some (zix (-1) (znx (G 2) (G 3) (nI t) 0 R)) from z_next hF hR)]
        cases h : znx (G 2) (G 3) (nI t) 0 R with
        | none =>
          refine ⟨fun L hL => (by cases hL), fun _ => ⟨g5, if_pos rfl⟩⟩
        | some r =>
          obtain ⟨t', e1, e2, e3, e4, hr⟩ := z_step hn ok ht h
          have e5 : (if zix (-1) (some r) = -1 then some ((-1 : Int32), va_up G 5 g5) else x_ld (nI j) 10 (x_ld (zix (-1) (some r)) 30 ((fX4_takeSteps_l5 F (nI g) N) (nI t ||| (x_shl 1 ((G 3) (zix (-1) (some r)).toNatClampNeg))) (nI j + 1) (va_up (va_up G 5 g5) 5 (upd g5 (nI j).toNatClampNeg (zix (-1) (some r))))))) = fX4_takeSteps_l5 F (nI g) N (nI t') (nI (j + 1)) (va_up G 5 (upd g5 j (nI r))) := by
            show (if nI r = -1 then _ else x_ld (nI j) 10 (x_ld (nI r) 30 ((fX4_takeSteps_l5 F (nI g) N) (nI t ||| (x_shl 1 ((G 3) (nI r).toNatClampNeg))) (nI j + 1) (va_up (va_up G 5 g5) 5 (upd g5 (nI j).toNatClampNeg (nI r)))))) = _
            rw [if_neg (q_ne1 (by omega)), q_ld (by omega) (by omega), q_ld (by omega) (by omega), q_cl (by omega), q_cl (by omega), e1, nI_1, bx_uu]
          rw [e5]
          obtain ⟨i1, i2⟩ := ih (j + 1) N t' (upd g5 j (nI r)) (by omega) (by omega) e2 (by omega)
          show (∀ L, (zps (G 2) (G 3) R (nI g) k (nI t ||| x_shl 1 (G 3 r))).map (List.cons r) = some L → _) ∧ ((zps (G 2) (G 3) R (nI g) k (nI t ||| x_shl 1 (G 3 r))).map (List.cons r) = none → _)
          rw [e1]
          cases hz : zps (G 2) (G 3) R (nI g) k (nI t') with
          | none => exact ⟨fun L hL => (by cases hL), fun _ => i2 hz⟩
          | some L' =>
            refine ⟨fun L hL => ?_, fun h => by cases h⟩
            cases hL
            rw [i1 L' hz, List.length_cons, show j + 1 + L'.length = j + (L'.length + 1) by omega]
            rfl
      · rw [if_neg hb, if_neg hb]
        refine ⟨fun L hL => ?_, fun h => by cases h⟩
        cases hL
        rfl
/-- of the steps below k whether the i-th is needed, w being wanted -/
def zkp (P C : Nat → Int32) (st : Nat → Nat) : Nat → Int32 → Nat → Bool
  | 0, _, _ => false
  | k + 1, w, i => if (x_shr w (C (st k)) &&& 1) = 0 then zkp P C st k w i else if i = k then true else zkp P C st k (w ||| P (st k)) i
theorem zkp_hi {P C : Nat → Int32} {st : Nat → Nat} : ∀ (k : Nat) (w : Int32) (i : Nat), k ≤ i → zkp P C st k w i = false := by
  intro k
  induction k with
  | zero => intro w i _; rfl
  | succ k ih =>
    intro w i h
    rw [zkp, ih _ i (by omega), ih _ i (by omega), if_neg (show ¬ i = k by omega)]
    split <;> rfl
def zmk (P C : Nat → Int32) (st : Nat → Nat) : Nat → Int32 → Nat → Nat
  | 0, _, d => d
  | k + 1, w, d => if (x_shr w (C (st k)) &&& 1) = 0 then zmk P C st k w d else zmk P C st k (w ||| P (st k)) (d ||| 2 ^ k)
theorem zmk_bit {P C : Nat → Int32} {st : Nat → Nat} : ∀ (k : Nat) (w : Int32) (d i : Nat), (zmk P C st k w d).testBit i = (d.testBit i || zkp P C st k w i) := by
  intro k
  induction k with
  | zero => intro w d i; rw [zmk, zkp, Bool.or_false]
  | succ k ih =>
    intro w d i
    rw [zmk, zkp]
    by_cases h : (x_shr w (C (st k)) &&& 1) = 0
    · rw [if_pos h, if_pos h, ih]
    · rw [if_neg h, if_neg h, ih, Nat.testBit_or]
      by_cases hi : i = k
      · subst hi
        rw [if_pos rfl, Nat.testBit_two_pow_self]; simp
      · rw [if_neg hi, Nat.testBit_two_pow_of_ne (fun e => hi e.symm), Bool.or_false]
theorem zmk_lt {P C : Nat → Int32} {st : Nat → Nat} : ∀ (k : Nat) (w : Int32) (d : Nat), k ≤ 10 → d < 1024 → zmk P C st k w d < 1024 := by
  intro k
  induction k with
  | zero => intro w d _ h; exact h
  | succ k ih =>
    intro w d hk h
    rw [zmk]
    split
    · exact ih _ _ (by omega) h
    · exact ih _ _ (by omega) (Nat.or_lt_two_pow (n := 10) h (by have := z_pw (a := k) (n := 10) (by omega); omega))
theorem z_nd {G : xG} {st : Nat → Nat} {R : Nat} (hR : R ≤ 30) : ∀ (k N : Nat) (w : Int32) (d : Nat), k ≤ 10 → k < N → (∀ i, i < k → G 5 i = nI (st i) ∧ st i < R) → fX4_neededSteps_l12 G N w (nI d) (nI k + (-1)) = some (nI (zmk (G 2) (G 3) st k w d)) := by
  intro k
  induction k with
  | zero =>
    intro N w d _ h2 _
    cases N with
    | zero => omega
    | succ N => rw [fX4_neededSteps_l12_e, if_pos (by decide)]; rfl
  | succ k ih =>
    intro N w d h1 h2 hs
    cases N with
    | zero => omega
    | succ N =>
      obtain ⟨s1, s2⟩ := hs k (by omega)
      rw [fX4_neededSteps_l12_e, pk_m1, if_neg (q_lt0 (by omega)), q_ld (by omega) (by omega), q_cl (by omega), s1, q_ld (by omega) (by omega), q_cl (by omega), q_b1 (z_contains _ _), zmk]
      by_cases h : (x_shr w (G 3 (st k)) &&& 1) = 0
      · rw [if_pos h, if_pos h, if_pos rfl, fX4_neededSteps_j59_e, ih N w d (by omega) (by omega) (fun i hi => hs i (by omega))]
      · rw [if_neg h, if_neg h, if_neg q_10, q_ld (by omega) (by omega), fX4_neededSteps_j59_e, q_shl1 (by omega), q_or, ih N _ _ (by omega) (by omega) (fun i hi => hs i (by omega))]
/-- the a-th kept one of k from j on -/
def zsl (kp : Nat → Bool) : Nat → Nat → Nat → Option Nat
  | _, 0, _ => none
  | j, k + 1, a => if kp j = true then (match a with
    | 0 => some j
    | a + 1 => zsl kp (j + 1) k a) else zsl kp (j + 1) k a
theorem zsl_z {kp : Nat → Bool} {j k : Nat} (h : kp j = true) : zsl kp j (k + 1) 0 = some j := by rw [zsl, if_pos h]
theorem zsl_p {kp : Nat → Bool} {j k a : Nat} (h : kp j = true) : zsl kp j (k + 1) (a + 1) = zsl kp (j + 1) k a := by rw [zsl, if_pos h]
theorem zsl_f {kp : Nat → Bool} {j k a : Nat} (h : kp j = false) : zsl kp j (k + 1) a = zsl kp (j + 1) k a := by
  cases a with
  | zero => rw [zsl, if_neg (by rw [h]; decide)]
  | succ a => rw [zsl, if_neg (by rw [h]; decide)]
theorem zsl_some {kp : Nat → Bool} : ∀ (k j a i : Nat), zsl kp j k a = some i → j ≤ i ∧ i < j + k ∧ kp i = true := by
  intro k
  induction k with
  | zero => intro j a i h; cases h
  | succ k ih =>
    intro j a i h
    cases hk : kp j with
    | true =>
      cases a with
      | zero => rw [zsl_z hk] at h; cases h; exact ⟨Nat.le_refl _, by omega, hk⟩
      | succ a => rw [zsl_p hk] at h; obtain ⟨h1, h2, h3⟩ := ih (j + 1) a i h; exact ⟨by omega, by omega, h3⟩
    | false =>
      rw [zsl_f hk] at h
      obtain ⟨h1, h2, h3⟩ := ih (j + 1) a i h
      exact ⟨by omega, by omega, h3⟩
theorem zsl_none {kp : Nat → Bool} : ∀ (k j a : Nat), (∀ i, j ≤ i → kp i = false) → zsl kp j k a = none := by
  intro k
  induction k with
  | zero => intro j a _; rfl
  | succ k ih =>
    intro j a h
    rw [zsl_f (h j (Nat.le_refl _)), ih (j + 1) a (fun i hi => h i (by omega))]
theorem zsl_ext {kp : Nat → Bool} {m : Nat} : ∀ (k j a : Nat), (∀ i, j + k ≤ i → kp i = false) → zsl kp j (k + m) a = zsl kp j k a := by
  intro k
  induction k with
  | zero =>
    intro j a h
    rw [Nat.zero_add, zsl_none m j a (fun i hi => h i (by omega))]
    rfl
  | succ k ih =>
    intro j a h
    rw [show k + 1 + m = (k + m) + 1 by omega]
    cases hk : kp j with
    | true =>
      cases a with
      | zero => rw [zsl_z hk, zsl_z hk]
      | succ a => rw [zsl_p hk, zsl_p hk]; exact ih (j + 1) a (fun i hi => h i (by omega))
    | false => rw [zsl_f hk, zsl_f hk, ih (j + 1) a (fun i hi => h i (by omega))]
theorem zsl_cg {kp kp' : Nat → Bool} (h : ∀ i, kp i = kp' i) (j k a : Nat) : zsl kp j k a = zsl kp' j k a := by
  have e : kp = kp' := funext h
  rw [e]
/-- the value behind a place, if there is one -/
def zat (g : Nat → Int32) (o : Option Nat) : Int32 := match o with
  | none => -1
  | some i => g i
theorem z_ns {G : xG} {d a : Nat} (hd : d < 1024) (ha : a < 2 ^ 31) : ∀ (k j N h : Nat), j + k = 10 → k < N → h ≤ a → h ≤ j → fX4_neededStep_l5 G (nI d) (nI a) N (nI h) (nI j) = some (zat (G 5) (zsl (fun i => d.testBit i) j k (a - h))) := by
  intro k
  induction k with
  | zero =>
    intro j N h h1 h2 h3 h4
    cases N with
    | zero => omega
    | succ N =>
      have e : j = 10 := by omega
      subst e
      rw [fX4_neededStep_l5_e, if_pos (by decide)]
      rfl
  | succ k ih =>
    intro j N h h1 h2 h3 h4
    cases N with
    | zero => omega
    | succ N =>
      rw [fX4_neededStep_l5_e, if_neg (fun z => by have := (q_le (a := 10) (b := j) (by omega) (by omega)).mp z; omega), q_b1 (z_contains _ _), q_bit (by omega) (by omega)]
      cases hb : d.testBit j with
      | false =>
        rw [if_neg q_ft, if_pos rfl, if_pos rfl, zsl_f (kp := fun i => d.testBit i) hb, fX4_neededStep_j37_e, nI_1, ih (j + 1) N h (by omega) (by omega) h3 (by omega)]
      | true =>
        rw [if_pos q_tt, if_neg q_10, if_neg q_10]
        by_cases he : h = a
        · subst he
          rw [if_pos rfl, fX4_neededStep_x26_e, q_ld (by omega) (by omega), q_cl (by omega), Nat.sub_self, zsl_z (kp := fun i => d.testBit i) hb]
          rfl
        · rw [if_neg (fun z => he ((nI_eq (by omega) ha).mp z)), fX4_neededStep_j37_e, nI_1, nI_1, ih (j + 1) N (h + 1) (by omega) (by omega) (by omega) (by omega)]
          obtain ⟨b, hb2⟩ : ∃ b, a - h = b + 1 := ⟨a - h - 1, by omega⟩
          rw [hb2, zsl_p (kp := fun i => d.testBit i) hb, show a - (h + 1) = b by omega]
/-- the class's way to a step of a proof -/
theorem z_prs {F : xF} {G : xG} {R n g t a : Nat} (hF : F 7 = nI R) (hR : R ≤ 30) (hn : n ≤ 10) (ok : zok (G 2) (G 3) R n) (hg : g < n) (ht : t < 2 ^ n) (ha : a < 2 ^ 31) :
    (∀ L, zps (G 2) (G 3) R (nI g) 10 (nI t) = some L → ∃ g5, fX4_proofStep F G (nI t) (nI g) (nI a) = some (zat (fun i => nI (L.getD i 0)) (zsl (zkp (G 2) (G 3) (fun i => L.getD i 0) L.length (x_shl 1 (nI g))) 0 L.length a), va_up G 5 g5)) ∧
    (zps (G 2) (G 3) R (nI g) 10 (nI t) = none → ∃ g5, fX4_proofStep F G (nI t) (nI g) (nI a) = some (-1, va_up G 5 g5)) := by
  have hz := zmu_le t n
  obtain ⟨h1, h2⟩ := z_tk hF hR hn ok hg 10 0 4096 t (G 5) (by omega) (by omega) ht (by omega)
  rw [u_id, nI_0] at h1 h2
  refine ⟨fun L hL => ?_, fun h => ?_⟩
  · obtain ⟨l1, l2⟩ := zps_len _ _ _ hL
    have hst : ∀ i, i < L.length → (va_up G 5 (zwr (G 5) 0 L)) 5 i = nI (L.getD i 0) ∧ L.getD i 0 < R := fun i hi => ⟨by
      rw [u_s]
      have := zwr_at L (G 5) 0 i hi
      rw [Nat.zero_add] at this
      exact this, l2 i hi⟩
    refine ⟨zwr (G 5) 0 L, ?_⟩
    rw [fX4_proofStep_e, fX4_takeSteps_e, b_b2 (h1 L hL), Nat.zero_add, if_neg (q_ne1 (by omega)), fX4_neededSteps_e, q_m1, q_b1 (show fX4_neededSteps_l12 (va_up G 5 (zwr (G 5) 0 L)) 4096 (x_shl 1 (nI g)) 0 (nI L.length + (-1)) = _ from z_nd (st := fun i => L.getD i 0) hR L.length 4096 (x_shl 1 (nI g)) 0 (by omega) (by omega) hst), fX4_neededStep_e]
    have hlt := zmk_lt (P := G 2) (C := G 3) (st := fun i => L.getD i 0) L.length (x_shl 1 (nI g)) 0 (by omega) (by omega)
    refine (q_b1 (z_ns (G := va_up G 5 (zwr (G 5) 0 L)) hlt ha 10 0 4096 0 (by omega) (by omega) (by omega) (by omega))).trans ?_
    rw [Nat.sub_zero]
    congr 2
    have e1 : zsl (fun i => (zmk (G 2) (G 3) (fun i => L.getD i 0) L.length (x_shl 1 (nI g)) 0).testBit i) 0 10 a = zsl (zkp (G 2) (G 3) (fun i => L.getD i 0) L.length (x_shl 1 (nI g))) 0 L.length a := by
      rw [zsl_cg (kp' := zkp (G 2) (G 3) (fun i => L.getD i 0) L.length (x_shl 1 (nI g))) (fun i => by rw [zmk_bit, Nat.zero_testBit, Bool.false_or])]
      obtain ⟨m, hm⟩ := Nat.exists_eq_add_of_le l1
      rw [hm]
      exact zsl_ext L.length 0 a (fun i hi => zkp_hi _ _ i (by omega))
    have e2 : ∀ o, zsl (zkp (G 2) (G 3) (fun i => L.getD i 0) L.length (x_shl 1 (nI g))) 0 L.length a = o → zat ((va_up G 5 (zwr (G 5) 0 L)) 5) o = zat (fun i => nI (L.getD i 0)) o := fun o ho => by
      cases o with
      | none => rfl
      | some i =>
        obtain ⟨-, h4, -⟩ := zsl_some _ _ _ _ ho
        exact (hst i (by omega)).1
    show zat _ (zsl (fun i => (zmk (G 2) (G 3) (fun i => L.getD i 0) L.length (x_shl 1 (nI g)) 0).testBit i) 0 10 a) = _
    rw [e1]
    exact e2 _ rfl
  · obtain ⟨g5, h3⟩ := h2 h
    exact ⟨g5, by rw [fX4_proofStep_e, fX4_takeSteps_e, b_b2 h3, if_pos rfl]⟩
theorem z_tkM {F : xF} {G : xG} {R n g : Nat} (hF : F 21 = nI R) (hR : R ≤ 30) (hn : n ≤ 10) (ok : zok (G 22) (G 23) R n) (hg : g < n) : ∀ (k j N t : Nat) (gs : Nat → Int32), j + k ≤ 10 → k < N → t < 2 ^ n → zmu t n ≤ k →
    ∀ L, zps (G 22) (G 23) R (nI g) k (nI t) = some L → fX6_prove_l5 F (nI g) N (nI t) (nI j) (va_up G 26 gs) = fX6_prove_x48 (nI g) (nI (j + L.length)) (va_up G 26 (zwr gs j L)) := by
  have hp := z_p10 hn
  intro k
  induction k with
  | zero =>
    intro j N t gs h1 h2 ht hm L hL
    cases N with
    | zero => omega
    | succ N =>
      rw [zps] at hL
      cases hL
      have hb := zmu_0 (t := t) n (by omega) g hg
      rw [fX6_prove_l5_e, if_neg (fun z => by rw [q_bit0 (by omega) (by omega), hb] at z; cases z)]
      rfl
  | succ k ih =>
    intro j N t gs h1 h2 ht hm L hL
    cases N with
    | zero => omega
    | succ N =>
      rw [zps] at hL
      rw [fX6_prove_l5_e]
      by_cases hb : (x_shr (nI t) (nI g) &&& 1) = 0
      · rw [if_pos hb] at hL
        rw [if_pos hb, q_b1 (show fX6_nextRule F (va_up G 26 gs) (nI t) = some (zix (-1) (znx (G 22) (G 23) (nI t) 0 R)) from z_nextM hF hR)]
        cases h : znx (G 22) (G 23) (nI t) 0 R with
        | none => rw [h] at hL; cases hL
        | some r =>
          rw [h] at hL
          obtain ⟨t', e1, e2, e3, e4, hr⟩ := z_step hn ok ht h
          have hL2 : (zps (G 22) (G 23) R (nI g) k (nI t')).map (List.cons r) = some L := by rw [← e1]; exact hL
          cases hz : zps (G 22) (G 23) R (nI g) k (nI t') with
          | none => rw [hz] at hL2; cases hL2
          | some L' =>
            rw [hz] at hL2
            cases hL2
            have i1 := ih (j + 1) N t' (upd gs j (nI r)) (by omega) (by omega) e2 (by omega) L' hz
            rw [List.length_cons, show j + (L'.length + 1) = j + 1 + L'.length by omega]
            show _ = fX6_prove_x48 (nI g) (nI (j + 1 + L'.length)) (va_up G 26 (zwr (upd gs j (nI r)) (j + 1) L'))
            rw [← i1]
            show x_ld (nI j) 30 (x_ld (nI j) 30 (x_ld (upd gs (nI j).toNatClampNeg (nI r) (nI j).toNatClampNeg) 30 (fX6_prove_l5 F (nI g) N (nI t ||| x_shl 1 (G 23 (upd gs (nI j).toNatClampNeg (nI r) (nI j).toNatClampNeg).toNatClampNeg)) (nI j + 1) (va_up (va_up G 26 gs) 26 (upd gs (nI j).toNatClampNeg (nI r)))))) = _
            rw [q_ld (by omega) (by omega), q_ld (by omega) (by omega), q_cl (by omega), pk_us, q_ld (by omega) (by omega), q_cl (by omega), e1, nI_1, bx_uu]
      · rw [if_neg hb] at hL
        cases hL
        rw [if_neg hb]
        rfl
theorem z_ndM {G : xG} {st : Nat → Nat} {R : Nat} {v1 : Int32} (hR : R ≤ 30) : ∀ (k N : Nat) (w : Int32) (g : Nat → Int32), k ≤ 10 → k < N → (∀ i, i < k → g i = nI (st i) ∧ st i < R) → fX6_prove_l59 v1 N w (nI k + (-1)) (va_up G 26 g) = fX6_prove_x147 v1 (va_up G 26 (fun i => if i < k then (if zkp (G 22) (G 23) st k w i = true then g i else -1) else g i)) := by
  intro k
  induction k with
  | zero =>
    intro N w g _ h2 _
    cases N with
    | zero => omega
    | succ N =>
      rw [fX6_prove_l59_e, if_pos (by decide)]
      congr 1
  | succ k ih =>
    intro N w g h1 h2 hs
    cases N with
    | zero => omega
    | succ N =>
      obtain ⟨s1, s2⟩ := hs k (by omega)
      rw [fX6_prove_l59_e, pk_m1, if_neg (q_lt0 (by omega)), q_ld (by omega) (by omega), q_cl (by omega)]
      show x_ld (g k) 30 (if (x_shr w (G 23 (g k).toNatClampNeg) &&& 1) = 1 then fX6_prove_j90 (fX6_prove_l59 v1 N) (va_up G 26 g) (nI k) w 1 else fX6_prove_j90 (fX6_prove_l59 v1 N) (va_up G 26 g) (nI k) w 0) = _
      rw [s1, q_ld (by omega) (by omega), q_cl (by omega)]
      by_cases h : (x_shr w (G 23 (st k)) &&& 1) = 0
      · rw [if_neg (fun z => q_a10.mp z h), fX6_prove_j90_e, if_pos rfl, fX6_prove_j115_e, if_pos rfl, fX6_prove_j140_e, q_ld (by omega) (by omega), q_cl (by omega), show w ||| 0 = w from Int32.or_zero, bx_uu]
        show fX6_prove_l59 v1 N w (nI k + (-1)) (va_up G 26 (upd g k (-1))) = _
        rw [ih N w (upd g k (-1)) (by omega) (by omega) (fun i hi => by rw [pk_un (show i ≠ k by omega)]; exact hs i (by omega))]
        congr 2
        funext i
        rw [zkp, if_pos h]
        rcases Nat.lt_trichotomy i k with g1 | g1 | g1
        · rw [if_pos g1, if_pos (show i < k + 1 by omega), pk_un (show i ≠ k by omega)]
        · subst g1
          rw [if_neg (Nat.lt_irrefl _), if_pos (Nat.lt_succ_self _), pk_us, zkp_hi _ _ _ (Nat.le_refl _), if_neg (by decide)]
        · rw [if_neg (show ¬ i < k by omega), if_neg (show ¬ i < k + 1 by omega), pk_un (show i ≠ k by omega)]
      · rw [if_pos (q_a10.mpr h), fX6_prove_j90_e, if_neg q_10, q_ld (by omega) (by omega), q_cl (by omega)]
        show x_ld (g k) 30 (fX6_prove_j115 (fX6_prove_l59 v1 N) (va_up G 26 g) 1 (nI k) w (G 22 (g k).toNatClampNeg)) = _
        rw [s1, q_ld (by omega) (by omega), q_cl (by omega), fX6_prove_j115_e, if_neg q_10, q_ld (by omega) (by omega), q_cl (by omega), fX6_prove_j140_e, q_ld (by omega) (by omega), q_cl (by omega), bx_uu]
        show fX6_prove_l59 v1 N (w ||| G 22 (st k)) (nI k + (-1)) (va_up G 26 (upd g k (g k))) = _
        rw [ih N _ (upd g k (g k)) (by omega) (by omega) (fun i hi => by rw [pk_un (show i ≠ k by omega)]; exact hs i (by omega))]
        congr 2
        funext i
        rw [zkp, if_neg h]
        rcases Nat.lt_trichotomy i k with g1 | g1 | g1
        · rw [if_pos g1, if_pos (show i < k + 1 by omega), pk_un (show i ≠ k by omega), if_neg (show ¬ i = k by omega)]
        · subst g1
          rw [if_neg (Nat.lt_irrefl _), if_pos (Nat.lt_succ_self _), pk_us, if_pos rfl, if_pos rfl]
        · rw [if_neg (show ¬ i < k by omega), if_neg (show ¬ i < k + 1 by omega), pk_un (show i ≠ k by omega)]
theorem z_cmM {G : xG} {st : Nat → Nat} {kp : Nat → Bool} {n : Nat} (hn : n ≤ 10) (hst : ∀ i, i < n → st i < 30) : ∀ (k j h N : Nat) (g : Nat → Int32), j + k = n → h ≤ j → k < N → (∀ i, j ≤ i → i < n → g i = if kp i = true then nI (st i) else -1) →
    ∃ (H : Nat) (g' : Nat → Int32), fX6_prove_l153 (nI n) N (nI h) (nI j) (va_up G 26 g) = some (nI H, va_up G 26 g') ∧ h ≤ H ∧ H ≤ n ∧ (∀ a, a < h → g' a = g a) ∧ (∀ a, h ≤ a → a < H → ∃ i, zsl kp j k (a - h) = some i ∧ g' a = nI (st i)) ∧ (∀ a, H ≤ a → zsl kp j k (a - h) = none) := by
  intro k
  induction k with
  | zero =>
    intro j h N g h1 h2 h3 hg
    cases N with
    | zero => omega
    | succ N =>
      refine ⟨h, g, ?_, Nat.le_refl _, by omega, fun _ _ => rfl, fun a _ _ => by omega, fun a _ => rfl⟩
      rw [fX6_prove_l153_e, if_pos ((q_le (by omega) (by omega)).mpr (by omega))]
  | succ k ih =>
    intro j h N g h1 h2 h3 hg
    cases N with
    | zero => omega
    | succ N =>
      have hj := hg j (Nat.le_refl _) (by omega)
      cases hk : kp j with
      | true =>
        rw [hk, if_pos rfl] at hj
        obtain ⟨H, g', a1, a2, a3, a4, a5, a6⟩ := ih (j + 1) (h + 1) N (upd g h (g j)) (by omega) (by omega) (by omega) (fun i hi hi2 => by rw [pk_un (show i ≠ h by omega)]; exact hg i (by omega) hi2)
        refine ⟨H, g', ?_, by omega, a3, fun a ha => by rw [a4 a (by omega), pk_un (show a ≠ h by omega)], fun a ha hb => ?_, fun a ha => ?_⟩
        · rw [fX6_prove_l153_e, if_neg (fun z => by have := (q_le (by omega) (by omega)).mp z; omega), q_ld (by omega) (by omega), q_cl (by omega)]
          show (if g j = -1 then _ else x_ld (nI j) 30 (x_ld (nI h) 30 (fX6_prove_j188 (fX6_prove_l153 (nI n) N) (nI j) (nI h + 1) (va_up (va_up G 26 g) 26 (upd g (nI h).toNatClampNeg (g j)))))) = _
          rw [if_neg (fun z => by rw [hj] at z; exact q_ne1 (by have := hst j (by omega); omega) z), q_ld (by omega) (by omega), q_ld (by omega) (by omega), q_cl (by omega), fX6_prove_j188_e, nI_1, nI_1, bx_uu, a1]
        · rcases Nat.lt_or_ge h a with g1 | g1
          · obtain ⟨i, e1, e2⟩ := a5 a (by omega) hb
            refine ⟨i, ?_, e2⟩
            obtain ⟨b, hb2⟩ : ∃ b, a - h = b + 1 := ⟨a - h - 1, by omega⟩
            rw [hb2, zsl_p hk]
            rw [show a - (h + 1) = b by omega] at e1
            exact e1
          · have e : a = h := by omega
            subst e
            refine ⟨j, ?_, ?_⟩
            · rw [Nat.sub_self, zsl_z hk]
            · rw [a4 a (by omega), pk_us, hj]
        · have e1 := a6 a ha
          obtain ⟨b, hb2⟩ : ∃ b, a - h = b + 1 := ⟨a - h - 1, by omega⟩
          rw [hb2, zsl_p hk]
          rw [show a - (h + 1) = b by omega] at e1
          exact e1
      | false =>
        rw [hk, if_neg (by decide)] at hj
        obtain ⟨H, g', a1, a2, a3, a4, a5, a6⟩ := ih (j + 1) h N g (by omega) (by omega) (by omega) (fun i hi hi2 => hg i (by omega) hi2)
        refine ⟨H, g', ?_, a2, a3, a4, fun a ha hb => ?_, fun a ha => ?_⟩
        · rw [fX6_prove_l153_e, if_neg (fun z => by have := (q_le (by omega) (by omega)).mp z; omega), q_ld (by omega) (by omega), q_cl (by omega)]
          show (if g j = -1 then fX6_prove_j188 (fX6_prove_l153 (nI n) N) (nI j) (nI h) (va_up G 26 g) else _) = _
          rw [if_pos hj, fX6_prove_j188_e, nI_1, a1]
        · rw [zsl_f hk]; exact a5 a ha hb
        · rw [zsl_f hk]; exact a6 a ha
/-- the reference's way to a proof -/
theorem z_pvM {F : xF} {G : xG} {R n g t : Nat} (hF : F 21 = nI R) (hR : R ≤ 30) (hn : n ≤ 10) (ok : zok (G 22) (G 23) R n) (hg : g < n) (ht : t < 2 ^ n) {L : List Nat} (hL : zps (G 22) (G 23) R (nI g) 10 (nI t) = some L) :
    ∃ (H : Nat) (g' : Nat → Int32), fX6_prove F G (nI t) (nI g) = some (nI H, va_up G 26 g') ∧ H ≤ 10 ∧ (∀ a, a < H → ∃ i, zsl (zkp (G 22) (G 23) (fun i => L.getD i 0) L.length (x_shl 1 (nI g))) 0 L.length a = some i ∧ g' a = nI (L.getD i 0)) ∧ (∀ a, H ≤ a → zsl (zkp (G 22) (G 23) (fun i => L.getD i 0) L.length (x_shl 1 (nI g))) 0 L.length a = none) := by
  have hz := zmu_le t n
  obtain ⟨l1, l2⟩ := zps_len _ _ _ hL
  have h1 := z_tkM hF hR hn ok hg 10 0 4096 t (G 26) (by omega) (by omega) ht (by omega) L hL
  rw [u_id, Nat.zero_add, nI_0] at h1
  have hst : ∀ i, i < L.length → zwr (G 26) 0 L i = nI (L.getD i 0) ∧ L.getD i 0 < R := fun i hi => ⟨by
    have := zwr_at L (G 26) 0 i hi
    rw [Nat.zero_add] at this
    exact this, l2 i hi⟩
  have h2 := z_ndM (G := G) (v1 := nI L.length) (st := fun i => L.getD i 0) hR L.length 4096 (x_shl 1 (nI g)) (zwr (G 26) 0 L) (by omega) (by omega) hst
  obtain ⟨H, g', a1, -, a3, -, a5, a6⟩ := z_cmM (G := G) (n := L.length) (st := fun i => L.getD i 0) (kp := zkp (G 22) (G 23) (fun i => L.getD i 0) L.length (x_shl 1 (nI g))) (by omega) (fun i hi => by have := l2 i hi; omega) L.length 0 0 4096 (fun i => if i < L.length then (if zkp (G 22) (G 23) (fun i => L.getD i 0) L.length (x_shl 1 (nI g)) i = true then zwr (G 26) 0 L i else -1) else zwr (G 26) 0 L i) (by omega) (by omega) (by omega) (fun i _ hi => by
    show (if i < L.length then _ else _) = _
    rw [if_pos hi, (hst i hi).1])
  refine ⟨H, g', ?_, by omega, fun a ha => a5 a (Nat.zero_le _) ha, fun a ha => a6 a ha⟩
  rw [fX6_prove_e, h1, fX6_prove_x48_e, q_m1, h2, fX6_prove_x147_e]
  exact a1
theorem o_proof (X : XT) : oL_proof (LRg X) := by
  intro Fp Gp Fo Go Fz Gz Fq Gq F G h p c at0
  obtain ⟨hX, ⟨e6, e7, e8, g0, g1, g2, g3, g4, np, nr, nm, hn, hr, hm, hn10, hr30, hm10, ok, okm⟩, hQ⟩ := h
  have f6 : Fz 6 = nI np := e6.trans hn
  have f7 : Fz 7 = nI nr := e7.trans hr
  have hZ : ∀ k, LZ Fz Gz (va_up F 0 k) G := fun k => ⟨e6, e7, e8, g0, g1, g2, g3, g4, np, nr, nm, hn, hr, hm, hn10, hr30, hm10, ok, okm⟩
  have hZ2 : ∀ g5 k, LZ Fz (va_up Gz 5 g5) (va_up F 0 k) G := fun g5 k => ⟨e6, e7, e8, g0, g1, g2, g3, g4, np, nr, nm, hn, hr, hm, hn10, hr30, hm10, ok, okm⟩
  have hZ3 : ∀ g5 g6 k, LZ Fz (va_up Gz 5 g5) (va_up F 0 k) (va_up G 26 g6) := fun g5 g6 k => ⟨e6, e7, e8, g0, g1, g2, g3, g4, np, nr, nm, hn, hr, hm, hn10, hr30, hm10, ok, okm⟩
  have h42 : ∀ k : Int32, ¬ k = 0 → fX6_proof_j42 F G p c at0 k = some (0, va_up F 0 k, G) := fun k h => by
    rw [fX6_proof_j42_e, b_b2 (q_g1 F h), if_pos rfl]
  by_cases c1 : q_lo c np
  rotate_left
  · refine ⟨1, 0, Gz, 0, va_up F 0 1, G, fun _ h => absurd rfl h, ?_, ?_, rfl, fun h => absurd h q_10, hX, hZ 1, hQ⟩
    · rw [fX5_proof_e, q_b1 (z_has f6 hn10 c), if_neg c1, if_pos rfl, fX5_proof_j15_e]
    · rw [fX6_proof_e, q_b1 (z_isP hn hn10 c), if_neg c1, if_pos rfl, fX6_proof_j16_e, fX6_proof_j17_e, if_pos rfl, h42 1 q_10]
  by_cases ca : at0 < 0
  · refine ⟨1, 0, Gz, 0, va_up F 0 1, G, fun _ h => absurd rfl h, ?_, ?_, rfl, fun h => absurd h q_10, hX, hZ 1, hQ⟩
    · rw [fX5_proof_e, q_b1 (z_has f6 hn10 c), if_pos c1, if_neg q_10, if_neg (Int32.not_le.mpr ca), fX5_proof_j15_e]
    · rw [fX6_proof_e, q_b1 (z_isP hn hn10 c), if_pos c1, if_neg q_10, if_pos ca, fX6_proof_j16_e, fX6_proof_j17_e, if_pos rfl, h42 1 q_10]
  have cb : 0 ≤ at0 := Int32.not_lt.mp ca
  by_cases c2 : q_lo p (2 ^ np)
  rotate_left
  · refine ⟨2, 0, Gz, 0, va_up F 0 2, G, fun _ _ => rfl, ?_, ?_, rfl, fun h => absurd h (by decide), hX, hZ 2, hQ⟩
    · rw [fX5_proof_e, q_b1 (z_has f6 hn10 c), if_pos c1, if_neg q_10, if_pos cb, q_b1 (z_isSet f6 hn10 p), if_neg c2, if_pos rfl]
    · rw [fX6_proof_e, q_b1 (z_isP hn hn10 c), if_pos c1, if_neg q_10, if_neg ca, fX6_proof_j17_e, if_neg q_10, q_b1 (z_isSetM hn hn10 p), if_neg c2, if_pos rfl, h42 2 (by decide)]
  have hcl : fX5_proof Fz Gz p c at0 = x_b2 (fX4_proofStep Fz Gz p c at0) (fun r9 G10 => some (0, r9, G10)) := by
    rw [fX5_proof_e, q_b1 (z_has f6 hn10 c), if_pos c1, if_neg q_10, if_pos cb, q_b1 (z_isSet f6 hn10 p), if_pos c2, if_neg q_10]
  have hrf : fX6_proof F G p c at0 = x_b1 (fX6_closed (va_up F 0 0) G p) (fun r10 => (if ((x_shr r10 c) &&& 1) = 0 then some ((-1), va_up F 0 0, G) else x_b2 (fX6_prove (va_up F 0 0) G p c) (fun r13 G14 => (if r13 ≤ at0 then some ((-1), va_up F 0 0, G14) else x_ld at0 30 (some (((G14 26) at0.toNatClampNeg), va_up F 0 0, G14)))))) := by
    rw [fX6_proof_e, q_b1 (z_isP hn hn10 c), if_pos c1, if_neg q_10, if_neg ca, fX6_proof_j17_e, if_neg q_10, q_b1 (z_isSetM hn hn10 p), if_pos c2, if_neg q_10, fX6_proof_j42_e, b_b2 (q_g0 F), if_neg q_10]
  obtain ⟨cn, hcn, rfl⟩ := c1
  obtain ⟨t, ht, rfl⟩ := c2
  obtain ⟨a, ha, rfl⟩ := nI_of ca
  have hz := zmu_le t np
  obtain ⟨p1, p2⟩ := z_prs (F := Fz) (G := Gz) (a := a) f7 hr30 hn10 (by rw [g2, g3]; exact ok) hcn ht ha
  rw [g2, g3] at p1 p2
  have hiff := zps_iff hn10 ok hcn 10 t ht (by omega)
  have hclo := z_cloM (F := va_up F 0 0) hr hr30 hn10 ok ht
  cases hL : zps (G 22) (G 23) nr (nI cn) 10 (nI t) with
  | none =>
    have hb : (x_shr (zcl (G 22) (G 23) nr 10 (nI t)) (nI cn) &&& 1) = 0 := by
      rcases q_at (x_shr (zcl (G 22) (G 23) nr 10 (nI t)) (nI cn)) with h | h
      · exact h
      · obtain ⟨L, hL2⟩ := hiff.mpr (q_a10.mp h)
        rw [hL] at hL2; cases hL2
    obtain ⟨g5, hp⟩ := p2 hL
    refine ⟨0, -1, va_up Gz 5 g5, -1, va_up F 0 0, G, fun h => absurd rfl h, ?_, ?_, rfl, fun _ => rfl, hX, hZ2 g5 0, hQ⟩
    · rw [hcl, b_b2 hp]
    · rw [hrf, q_b1 hclo, if_pos hb]
  | some L =>
    have hb : ¬ (x_shr (zcl (G 22) (G 23) nr 10 (nI t)) (nI cn) &&& 1) = 0 := hiff.mp ⟨L, hL⟩
    obtain ⟨g5, hp⟩ := p1 L hL
    obtain ⟨H, g', a1, a2, a3, a4⟩ := z_pvM (F := va_up F 0 0) hr hr30 hn10 ok hcn ht hL
    refine ⟨0, zat (fun i => nI (L.getD i 0)) (zsl (zkp (G 22) (G 23) (fun i => L.getD i 0) L.length (x_shl 1 (nI cn))) 0 L.length a), va_up Gz 5 g5, zat (fun i => nI (L.getD i 0)) (zsl (zkp (G 22) (G 23) (fun i => L.getD i 0) L.length (x_shl 1 (nI cn))) 0 L.length a), va_up F 0 0, va_up G 26 g', fun h => absurd rfl h, ?_, ?_, rfl, fun _ => rfl, hX, hZ3 g5 g' 0, hQ⟩
    · rw [hcl, b_b2 hp]
    · rw [hrf, q_b1 hclo, if_neg hb, b_b2 a1]
      rcases Nat.lt_or_ge a H with h | h
      · obtain ⟨i, e1, e2⟩ := a3 a h
        rw [if_neg (fun z => by have := (q_le (by omega) (by omega)).mp z; omega), q_ld (by omega) (by omega), q_cl (by omega), e1]
        show some (g' a, _, _) = _
        rw [e2]
        rfl
      · rw [if_pos ((q_le (by omega) (by omega)).mpr h), a4 a h]
        rfl
end QZB
