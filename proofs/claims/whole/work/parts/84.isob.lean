section QIB
/-! all parts in all cells, both; then the whole page -/
def FD (m : Nat → Option Nat) (Go G : xG) (c r s v u f rf h rh : Nat) : Prop := s ≤ 9 ∧ Go 0 c = kc s ∧ G 4 r = nI s
  ∧ (s ≤ 1 ∨ 6 ≤ s → v < 3 ∧ Go 1 c = nI v ∧ G 7 r = nI v)
  ∧ (s ≤ 1 ∨ 8 ≤ s → u < 3 ∧ Go 2 c = nI u ∧ G 8 r = nI u)
  ∧ (2 ≤ s → c < f ∧ rf < r ∧ m f = some rf ∧ Go 3 c = nI f ∧ G 5 r = nI rf)
  ∧ (s ≤ 1 → G 5 r = -1)
  ∧ (3 ≤ s ∧ s ≤ 5 → c < h ∧ rh < r ∧ m h = some rh ∧ Go 4 c = nI h ∧ G 6 r = nI rh)
  ∧ (s ≤ 2 ∨ 6 ≤ s → G 6 r = -1)
theorem CP_FD {m : Nat → Option Nat} {Go G : xG} {c r : Nat} (h : CP m Go G c r) : ∃ s v u f rf g rg, FD m Go G c r s v u f rf g rg := by
  obtain ⟨s, a1, a2, a3, -, -, -, a7, a8, a9, a10, a11, a12⟩ := h
  obtain ⟨v, hv⟩ : ∃ v, (s ≤ 1 ∨ 6 ≤ s → v < 3 ∧ Go 1 c = nI v ∧ G 7 r = nI v) := by
    by_cases k : s ≤ 1 ∨ 6 ≤ s
    · obtain ⟨v, h⟩ := a7 k; exact ⟨v, fun _ => h⟩
    · exact ⟨0, fun z => absurd z k⟩
  obtain ⟨u, hu⟩ : ∃ u, (s ≤ 1 ∨ 8 ≤ s → u < 3 ∧ Go 2 c = nI u ∧ G 8 r = nI u) := by
    by_cases k : s ≤ 1 ∨ 8 ≤ s
    · obtain ⟨v, h⟩ := a8 k; exact ⟨v, fun _ => h⟩
    · exact ⟨0, fun z => absurd z k⟩
  obtain ⟨f, rf, hf⟩ : ∃ f rf, (2 ≤ s → c < f ∧ rf < r ∧ m f = some rf ∧ Go 3 c = nI f ∧ G 5 r = nI rf) := by
    by_cases k : 2 ≤ s
    · obtain ⟨f, rf, h⟩ := a9 k; exact ⟨f, rf, fun _ => h⟩
    · exact ⟨0, 0, fun z => absurd z k⟩
  obtain ⟨g, rg, hg⟩ : ∃ f rf, (3 ≤ s ∧ s ≤ 5 → c < f ∧ rf < r ∧ m f = some rf ∧ Go 4 c = nI f ∧ G 6 r = nI rf) := by
    by_cases k : 3 ≤ s ∧ s ≤ 5
    · obtain ⟨f, rf, h⟩ := a11 k; exact ⟨f, rf, fun _ => h⟩
    · exact ⟨0, 0, fun z => absurd z k⟩
  exact ⟨s, v, u, f, rf, g, rg, a1, a2, a3, hv, hu, hf, a10, hg, a12⟩
theorem l16C {m : Nat → Option Nat} {Go G : xG} {n c r s v u f rf h rh sz : Nat} {tv : Nat → Nat → Bool} (rec8 : Int32 → xG → Option (Int32 × xG)) (hn : n ≤ 40) (hc : c < n) (hsz : sz ≤ 5) (hm : ∀ x y, m x = some y → x < n) (d : FD m Go G c r s v u f rf h rh) : ∀ (k x N : Nat) (g : Nat → Int32), x + k = 125 → k < N → (∀ c', c < c' → c' < n → ∀ y, y < 125 → g (c' * 125 + y) = qbi (tv c' y)) → (∀ y, y < x → g (c * 125 + y) = qbi (ev s v u sz (tv f) (tv h) y)) →
    ∃ g', fX0_isTrue_l16 rec8 (nI c) (nI sz) N (nI x) (va_up Go 8 g) = rec8 (nI c + (-1)) (va_up Go 8 g') ∧ (∀ c', c < c' → c' < n → ∀ y, y < 125 → g' (c' * 125 + y) = qbi (tv c' y)) ∧ ∀ y, y < 125 → g' (c * 125 + y) = qbi (ev s v u sz (tv f) (tv h) y) := by
  obtain ⟨d1, d2, -, d4, d5, d6, -, d8, -⟩ := d
  intro k
  induction k with
  | zero =>
    intro x N g h1 h2 h3 h4
    cases N with
    | zero => omega
    | succ N =>
      refine ⟨g, ?_, h3, fun y hy => h4 y (by omega)⟩
      rw [fX0_isTrue_l16_e, if_pos (by exact (q_le (a := 125) (b := x) (by omega) (by omega)).mpr (by omega)), fX0_isTrue_x51_e]
  | succ k ih =>
    intro x N g h1 h2 h3 h4
    cases N with
    | zero => omega
    | succ N =>
      have ht : fX0_truth (va_up Go 8 g) (nI c) (nI x) (nI sz) = some (qbi (ev s v u sz (tv f) (tv h) x)) := truC (G := va_up Go 8 g) (by omega) (by omega) hsz d1 d2 (fun k => ⟨(d4 k).1, (d4 k).2.1⟩) (fun k => ⟨(d5 k).1, (d5 k).2.1⟩) (fun k => by
          obtain ⟨f1, f2, f3, f4, -⟩ := d6 k
          have := hm _ _ f3
          exact ⟨by omega, f4, fun y hy => h3 f f1 this y hy⟩) (fun k => by
          obtain ⟨f1, f2, f3, f4, -⟩ := d8 k
          have := hm _ _ f3
          exact ⟨by omega, f4, fun y hy => h3 h f1 this y hy⟩)
      have e1 : nI c * 125 + nI x = nI (c * 125 + x) := by rw [show nI c * 125 = nI (c * 125) from pk_mul c 125, nI_add]
      obtain ⟨g', a1, a2, a3⟩ := ih (x + 1) N (upd g (c * 125 + x) (qbi (ev s v u sz (tv f) (tv h) x))) (by omega) (by omega) (fun c' hc1 hc2 y hy => by rw [pk_un (show c' * 125 + y ≠ c * 125 + x by omega)]; exact h3 c' hc1 hc2 y hy) (fun y hy => by
        by_cases e : y = x
        · subst e; rw [pk_us]
        · rw [pk_un (show c * 125 + y ≠ c * 125 + x by omega)]; exact h4 y (by omega))
      refine ⟨g', ?_, a2, a3⟩
      rw [fX0_isTrue_l16_e, if_neg (fun z => by have := (q_le (a := 125) (b := x) (by omega) (by omega)).mp z; omega), q_b1 ht, e1, q_ld (by omega) (by omega), q_cl (by omega), x_znq, nI_1, bx_uu, u_s]
      exact a1
def TVE (m : Nat → Option Nat) (Go G : xG) (sz : Nat) (tv : Nat → Nat → Bool) (c : Nat) : Prop := ∀ r, m c = some r → ∃ s v u f rf h rh, FD m Go G c r s v u f rf h rh ∧ ∀ x, x < 125 → tv c x = ev s v u sz (tv f) (tv h) x
theorem l8C {m : Nat → Option Nat} {Go G : xG} {n sz : Nat} {p2 p3 p4 : Int32} (hn : n ≤ 40) (hsz : sz ≤ 5) (hm : ∀ x y, m x = some y → x < n) (hal : ∀ c, c < n → ∃ r, m c = some r) (hcp : ∀ c r, m c = some r → CP m Go G c r) : ∀ (k N : Nat) (g : Nat → Int32) (tv : Nat → Nat → Bool), k ≤ n → k < N → (∀ c', k ≤ c' → c' < n → ∀ y, y < 125 → g (c' * 125 + y) = qbi (tv c' y)) → (∀ c', k ≤ c' → c' < n → TVE m Go G sz tv c') →
    ∃ (g' : Nat → Int32) (tv' : Nat → Nat → Bool), fX0_isTrue_l8 p2 p3 p4 (nI sz) N (nI k + (-1)) (va_up Go 8 g) = fX0_isTrue_x57 p2 p3 p4 (va_up Go 8 g') ∧ (∀ c', c' < n → ∀ y, y < 125 → g' (c' * 125 + y) = qbi (tv' c' y)) ∧ ∀ c', c' < n → TVE m Go G sz tv' c' := by
  intro k
  induction k with
  | zero =>
    intro N g tv h1 h2 h3 h4
    cases N with
    | zero => omega
    | succ N =>
      refine ⟨g, tv, ?_, fun c hc => h3 c (Nat.zero_le _) hc, fun c hc => h4 c (Nat.zero_le _) hc⟩
      rw [fX0_isTrue_l8_e, if_pos (by decide)]
  | succ k ih =>
    intro N g tv h1 h2 h3 h4
    cases N with
    | zero => omega
    | succ N =>
      obtain ⟨r, hr⟩ := hal k (by omega)
      obtain ⟨s, v, u, f, rf, h, rh, d⟩ := CP_FD (hcp k r hr)
      obtain ⟨g1, b1, b2, b3⟩ := l16C (tv := tv) (fX0_isTrue_l8 p2 p3 p4 (nI sz) N) hn (show k < n by omega) hsz hm d 125 0 4096 g (by omega) (by omega) (fun c' h5 h6 => h3 c' (by omega) h6) (fun y hy => absurd hy (Nat.not_lt_zero y))
      have hE : ∀ c', c' ≠ k → va_up tv k (ev s v u sz (tv f) (tv h)) c' = tv c' := fun c' hc => u_n hc
      have hev : ∀ s' v' u' f' h' x, (2 ≤ s' → f' ≠ k) → (3 ≤ s' ∧ s' ≤ 5 → h' ≠ k) → ev s' v' u' sz (va_up tv k (ev s v u sz (tv f) (tv h)) f') (va_up tv k (ev s v u sz (tv f) (tv h)) h') x = ev s' v' u' sz (tv f') (tv h') x := fun s' v' u' f' h' x hf hh => by
        by_cases c1 : 2 ≤ s'
        · rw [hE f' (hf c1)]
          by_cases c2 : 3 ≤ s' ∧ s' ≤ 5
          · rw [hE h' (hh c2)]
          · unfold ev
            rw [if_neg (show ¬ s' = 3 by omega), if_neg (show ¬ s' = 4 by omega), if_neg (show ¬ s' = 5 by omega), if_neg (show ¬ s' = 3 by omega), if_neg (show ¬ s' = 4 by omega), if_neg (show ¬ s' = 5 by omega)]
        · rcases (show s' = 0 ∨ s' = 1 by omega) with rfl | rfl <;> rfl
      have hne : ∀ c', k < c' → c' < n → TVE m Go G sz (va_up tv k (ev s v u sz (tv f) (tv h))) c' := fun c' h5 h6 r' hr' => by
        obtain ⟨s', v', u', f', rf', h', rh', d', e'⟩ := h4 c' (by omega) h6 r' hr'
        refine ⟨s', v', u', f', rf', h', rh', d', fun x hx => ?_⟩
        rw [hev _ _ _ _ _ _ (fun q => by have := (d'.2.2.2.2.2.1 q).1; omega) (fun q => by have := (d'.2.2.2.2.2.2.2.1 q).1; omega), hE c' (by omega)]
        exact e' x hx
      obtain ⟨g', tv', a1, a2, a3⟩ := ih N g1 (va_up tv k (ev s v u sz (tv f) (tv h))) (by omega) (by omega) (fun c' h5 h6 y hy => by
          by_cases e : c' = k
          · subst e; rw [u_s]; exact b3 y hy
          · rw [hE c' e]; exact b2 c' (by omega) h6 y hy) (fun c' h5 h6 => by
          by_cases e : c' = k
          · subst e
            intro r' hr'
            have er : r' = r := by rw [hr] at hr'; exact (Option.some.inj hr').symm
            subst er
            refine ⟨s, v, u, f, rf, h, rh, d, fun x hx => ?_⟩
            rw [hev _ _ _ _ _ _ (fun q => by have := (d.2.2.2.2.2.1 q).1; omega) (fun q => by have := (d.2.2.2.2.2.2.2.1 q).1; omega), u_s]
          · exact hne c' (by omega) h6)
      refine ⟨g', tv', ?_, a2, a3⟩
      rw [fX0_isTrue_l8_e, pk_m1, if_neg (q_lt0 (by omega))]
      exact b1.trans a1
/-! the reference -/
def RDt (G : xG) (r s v u rf rh : Nat) : Prop := s ≤ 9 ∧ G 4 r = nI s ∧ (s ≤ 1 ∨ 6 ≤ s → v < 3 ∧ G 7 r = nI v) ∧ (s ≤ 1 ∨ 8 ≤ s → u < 3 ∧ G 8 r = nI u) ∧ (2 ≤ s → rf < r ∧ G 5 r = nI rf) ∧ (s ≤ 1 → G 5 r = -1) ∧ (3 ≤ s ∧ s ≤ 5 → rh < r ∧ G 6 r = nI rh) ∧ (s ≤ 2 ∨ 6 ≤ s → G 6 r = -1)
theorem FD_R {m : Nat → Option Nat} {Go G : xG} {c r s v u f rf h rh : Nat} (d : FD m Go G c r s v u f rf h rh) : RDt G r s v u rf rh := by
  obtain ⟨d1, d2, d3, d4, d5, d6, d7, d8, d9⟩ := d
  exact ⟨d1, d3, fun k => ⟨(d4 k).1, (d4 k).2.2⟩, fun k => ⟨(d5 k).1, (d5 k).2.2⟩, fun k => ⟨(d6 k).2.1, (d6 k).2.2.2.2⟩, d7, fun k => ⟨(d8 k).2.1, (d8 k).2.2.2.2⟩, d9⟩
theorem qbi_inj {a b : Bool} (h : qbi a = qbi b) : a = b := by cases a <;> cases b <;> first | rfl | exact absurd h (by decide)
theorem soR {G : xG} {r s v u rf rh sz x : Nat} {tm : Nat → Nat → Bool} {t : Nat → Int32} (hr : r < 40) (hx : x < 125) (hsz : sz ≤ 5) (d : RDt G r s v u rf rh) (ht : ∀ r', r' < r → ∀ y, y < 125 → t (125 * r' + y) = qbi (tm r' y)) : fX6_isPartSo (va_up G 17 t) (nI r) (nI x) (nI sz) = some (qbi (ev s v u sz (tm rf) (tm rh) x)) := by
  obtain ⟨d1, d2, d3, d4, d5, d6, d7, d8⟩ := d
  exact soM (G := va_up G 17 t) hr hx hsz d1 d2 d3 d4 (fun k => ⟨by have := (d5 k).1; omega, (d5 k).2, fun y hy => ht rf (d5 k).1 y hy⟩) d6 (fun k => ⟨by have := (d7 k).1; omega, (d7 k).2, fun y hy => ht rh (d7 k).1 y hy⟩) d8
theorem l12M {G : xG} {r s v u rf rh sz : Nat} {tm : Nat → Nat → Bool} (rec2 : Int32 → xG → Option xG) (hr : r < 40) (hsz : sz ≤ 5) (d : RDt G r s v u rf rh) : ∀ (k x N : Nat) (t : Nat → Int32), x + k = 125 → k < N → (∀ r', r' < r → ∀ y, y < 125 → t (125 * r' + y) = qbi (tm r' y)) → (∀ y, y < x → t (125 * r + y) = qbi (inr sz y && ev s v u sz (tm rf) (tm rh) y)) →
    ∃ t', fX6_fill_l12 rec2 (nI r) (nI sz) N (nI x) (va_up G 17 t) = rec2 (nI (r + 1)) (va_up G 17 t') ∧ (∀ r', r' < r → ∀ y, y < 125 → t' (125 * r' + y) = qbi (tm r' y)) ∧ ∀ y, y < 125 → t' (125 * r + y) = qbi (inr sz y && ev s v u sz (tm rf) (tm rh) y) := by
  intro k
  induction k with
  | zero =>
    intro x N t h1 h2 h3 h4
    cases N with
    | zero => omega
    | succ N =>
      refine ⟨t, ?_, h3, fun y hy => h4 y (by omega)⟩
      rw [fX6_fill_l12_e, if_pos (by exact (q_le (a := 125) (b := x) (by omega) (by omega)).mpr (by omega)), fX6_fill_x89_e, nI_1]
  | succ k ih =>
    intro x N t h1 h2 h3 h4
    cases N with
    | zero => omega
    | succ N =>
      have hso := soR hr (show x < 125 by omega) hsz d h3
      have e1 : 125 * nI r + nI x = nI (125 * r + x) := by rw [show 125 * nI r = nI (125 * r) from pk_mul 125 r, nI_add]
      obtain ⟨t', a1, a2, a3⟩ := ih (x + 1) N (upd t (125 * r + x) (qbi (inr sz x && ev s v u sz (tm rf) (tm rh) x))) (by omega) (by omega) (fun r' hr1 y hy => by rw [pk_un (show 125 * r' + y ≠ 125 * r + x by omega)]; exact h3 r' hr1 y hy) (fun y hy => by
        by_cases e : y = x
        · subst e; rw [pk_us]
        · rw [pk_un (show 125 * r + y ≠ 125 * r + x by omega)]; exact h4 y (by omega))
      refine ⟨t', ?_, a2, a3⟩
      have h82 : ∀ b : Bool, (inr sz x && ev s v u sz (tm rf) (tm rh) x) = b → fX6_fill_j82 (fX6_fill_l12 rec2 (nI r) (nI sz) N) (va_up G 17 t) (nI r) (nI x) (qbi b) = rec2 (nI (r + 1)) (va_up G 17 t') := fun b hb => by
        rw [fX6_fill_j82_e, e1, q_ld (by omega) (by omega), q_cl (by omega), x_znq, nI_1, bx_uu, u_s, ← hb]
        exact a1
      have h49 : inr sz x = false → fX6_fill_j49 (fX6_fill_l12 rec2 (nI r) (nI sz) N) (va_up G 17 t) (nI r) (nI x) (nI sz) = rec2 (nI (r + 1)) (va_up G 17 t') := fun hi => by
        rw [fX6_fill_j49_e, fX6_fill_j50_e, if_pos rfl, fX6_fill_j81_e]
        exact h82 false (by rw [hi, Bool.false_and])
      have n0 := num_lt x 0
      have n1 := num_lt x 1
      have n2 := num_lt x 2
      rw [fX6_fill_l12_e, if_neg (fun z => by have := (q_le (a := 125) (b := x) (by omega) (by omega)).mp z; omega), q_b1 (show fX6_numberAt (nI x) 0 = some (nI (num x 0)) from numM (by omega) (v := 0) (by decide))]
      by_cases i0 : num x 0 < sz
      rotate_left
      · rw [if_pos ((q_le (by omega) (by omega)).mpr (by omega))]
        exact h49 (by rw [inr, decide_eq_false i0, Bool.false_and])
      rw [if_neg (fun z => by have := (q_le (by omega) (by omega)).mp z; omega), q_b1 (show fX6_numberAt (nI x) 1 = some (nI (num x 1)) from numM (by omega) (v := 1) (by decide))]
      by_cases i1 : num x 1 < sz
      rotate_left
      · rw [if_pos ((q_le (by omega) (by omega)).mpr (by omega))]
        exact h49 (by rw [inr, decide_eq_false i1, Bool.false_and, Bool.and_false])
      rw [if_neg (fun z => by have := (q_le (by omega) (by omega)).mp z; omega), q_b1 (show fX6_numberAt (nI x) 2 = some (nI (num x 2)) from numM (by omega) (v := 2) (by decide))]
      by_cases i2 : num x 2 < sz
      rotate_left
      · rw [if_pos ((q_le (by omega) (by omega)).mpr (by omega))]
        exact h49 (by rw [inr, decide_eq_false i2, Bool.and_false, Bool.and_false])
      have hi : inr sz x = true := by rw [inr, decide_eq_true i0, decide_eq_true i1, decide_eq_true i2]; rfl
      rw [if_neg (fun z => by have := (q_le (by omega) (by omega)).mp z; omega), fX6_fill_j50_e, if_neg q_10, q_b1 hso]
      cases he : ev s v u sz (tm rf) (tm rh) x with
      | false =>
        rw [if_pos (show qbi false = 0 by decide), fX6_fill_j81_e]
        exact h82 false (by rw [hi, he]; rfl)
      | true =>
        rw [if_neg (show ¬ qbi true = 0 by decide)]
        exact h82 true (by rw [hi, he]; rfl)
def TME (G : xG) (sz : Nat) (tm : Nat → Nat → Bool) (r : Nat) : Prop := ∀ s v u rf rh, RDt G r s v u rf rh → ∀ x, x < 125 → tm r x = (inr sz x && ev s v u sz (tm rf) (tm rh) x)
theorem l2M {G : xG} {F : xF} {q sz : Nat} (hF : F 3 = nI q) (hq : q ≤ 40) (hsz : sz ≤ 5) (hd : ∀ r, r < q → ∃ s v u rf rh, RDt G r s v u rf rh) : ∀ (k r N : Nat) (t : Nat → Int32) (tm : Nat → Nat → Bool), r + k = q → k < N → (∀ r', r' < r → ∀ y, y < 125 → t (125 * r' + y) = qbi (tm r' y)) → (∀ r', r' < r → TME G sz tm r') →
    ∃ (t' : Nat → Int32) (tm' : Nat → Nat → Bool), fX6_fill_l2 F (nI sz) N (nI r) (va_up G 17 t) = some (va_up G 17 t') ∧ (∀ r', r' < q → ∀ y, y < 125 → t' (125 * r' + y) = qbi (tm' r' y)) ∧ ∀ r', r' < q → TME G sz tm' r' := by
  intro k
  induction k with
  | zero =>
    intro r N t tm h1 h2 h3 h4
    cases N with
    | zero => omega
    | succ N =>
      refine ⟨t, tm, ?_, fun r' hr => h3 r' (by omega), fun r' hr => h4 r' (by omega)⟩
      rw [fX6_fill_l2_e, hF, if_pos ((q_le (by omega) (by omega)).mpr (by omega))]
  | succ k ih =>
    intro r N t tm h1 h2 h3 h4
    cases N with
    | zero => omega
    | succ N =>
      obtain ⟨s, v, u, rf, rh, d⟩ := hd r (by omega)
      obtain ⟨t1, b1, b2, b3⟩ := l12M (tm := tm) (fX6_fill_l2 F (nI sz) N) (show r < 40 by omega) hsz d 125 0 4096 t (by omega) (by omega) h3 (fun y hy => absurd hy (Nat.not_lt_zero y))
      have hE : ∀ r', r' ≠ r → va_up tm r (fun x => inr sz x && ev s v u sz (tm rf) (tm rh) x) r' = tm r' := fun r' hr => u_n hr
      have hev : ∀ s' v' u' f' h' x, (2 ≤ s' → f' ≠ r) → (3 ≤ s' ∧ s' ≤ 5 → h' ≠ r) → ev s' v' u' sz (va_up tm r (fun x => inr sz x && ev s v u sz (tm rf) (tm rh) x) f') (va_up tm r (fun x => inr sz x && ev s v u sz (tm rf) (tm rh) x) h') x = ev s' v' u' sz (tm f') (tm h') x := fun s' v' u' f' h' x hf hh => by
        by_cases c1 : 2 ≤ s'
        · rw [hE f' (hf c1)]
          by_cases c2 : 3 ≤ s' ∧ s' ≤ 5
          · rw [hE h' (hh c2)]
          · unfold ev
            rw [if_neg (show ¬ s' = 3 by omega), if_neg (show ¬ s' = 4 by omega), if_neg (show ¬ s' = 5 by omega), if_neg (show ¬ s' = 3 by omega), if_neg (show ¬ s' = 4 by omega), if_neg (show ¬ s' = 5 by omega)]
        · rcases (show s' = 0 ∨ s' = 1 by omega) with rfl | rfl <;> rfl
      obtain ⟨t', tm', a1, a2, a3⟩ := ih (r + 1) N t1 (va_up tm r (fun x => inr sz x && ev s v u sz (tm rf) (tm rh) x)) (by omega) (by omega) (fun r' hr y hy => by
          by_cases e : r' = r
          · subst e; rw [u_s]; exact b3 y hy
          · rw [hE r' e]; exact b2 r' (by omega) y hy) (fun r' hr s' v' u' rf' rh' d' x hx => by
          rw [hev _ _ _ _ _ _ (fun q => by have := (d'.2.2.2.2.1 q).1; omega) (fun q => by have := (d'.2.2.2.2.2.2.1 q).1; omega)]
          by_cases e : r' = r
          · subst e
            rw [u_s]
            have e1 := soR (show r' < 40 by omega) hx hsz d h3
            have e2 := soR (show r' < 40 by omega) hx hsz d' h3
            rw [e1] at e2
            have e3 := qbi_inj (Option.some.inj e2)
            show (inr sz x && ev s v u sz (tm rf) (tm rh) x) = _
            rw [e3]
          · rw [hE r' e]
            exact h4 r' (by omega) s' v' u' rf' rh' d' x hx)
      refine ⟨t', tm', ?_, a2, a3⟩
      rw [fX6_fill_l2_e, hF, if_neg (fun z => by have := (q_le (by omega) (by omega)).mp z; omega)]
      exact b1.trans a1
/-- a part and its like are so in the same cells of the world -/
theorem same {m : Nat → Option Nat} {Go G : xG} {n q sz : Nat} {tv tm : Nat → Nat → Bool} (hsz : sz ≤ 5) (hm : ∀ x y, m x = some y → x < n ∧ y < q) (hv : ∀ c, c < n → TVE m Go G sz tv c) (ht : ∀ r, r < q → TME G sz tm r) : ∀ (k c r : Nat), c + k = n → m c = some r → ∀ x, x < 125 → inr sz x = true → tv c x = tm r x := by
  intro k
  induction k using Nat.strongRecOn with
  | ind k ih =>
    intro c r hk hr x hx hi
    obtain ⟨hc, hq⟩ := hm c r hr
    obtain ⟨s, v, u, f, rf, h, rh, d, e⟩ := hv c hc r hr
    rw [e x hx, ht r hq s v u rf rh (FD_R d) x hx, hi, Bool.true_and]
    obtain ⟨d1, -, -, d4, d5, d6, -, d8, -⟩ := d
    refine ev_cg hx hsz hi (fun k => (d4 k).1) (fun k => (d5 k).1) d1 (fun h2 y hy hiy => ?_) (fun h2 y hy hiy => ?_)
    · obtain ⟨f1, f2, f3, -⟩ := d6 h2
      have := (hm f rf f3).1
      exact ih (n - f) (by omega) f rf (by omega) f3 y hy hiy
    · obtain ⟨f1, f2, f3, -⟩ := d8 h2
      have := (hm h rh f3).1
      exact ih (n - h) (by omega) h rh (by omega) f3 y hy hiy
def cellok (x y z : Nat) : Bool := decide (x + 5 * y + 25 * z < 125) && (decide (num (x + 5 * y + 25 * z) 0 = x) && (decide (num (x + 5 * y + 25 * z) 1 = y) && decide (num (x + 5 * y + 25 * z) 2 = z)))
theorem cellok0 : ∀ x, x < 5 → ∀ y, y < 5 → ∀ z, z < 5 → cellok x y z = true := by decide +kernel
theorem iso {k : Nat} {pg : Nat → Int32} {Fo : xF} {Gp Go : xG} {F' : xF} {G' : xG} (h : WH k pg Fo Gp Go F' G') {sz x y z : Nat} (hsz : sz ≤ 5) (hx : x < sz) (hy : y < sz) (hz : z < sz) : ∃ (b : Bool) (g' t' : Nat → Int32) (r : Nat), fX0_isTrue Fo Go (nI sz) (nI x) (nI y) (nI z) = some (qbi b, va_up Go 8 g') ∧ fX6_fill F' G' (nI sz) = some (va_up G' 17 t') ∧ F' 3 = nI (r + 1) ∧ r < 40 ∧ x + 5 * y + 25 * z < 125 ∧ t' (125 * r + (x + 5 * y + 25 * z)) = qbi b := by
  obtain ⟨m, st, n, r, B, m0, f9, -, d3⟩ := h
  obtain ⟨b1, b2, b3, b4, b5, -⟩ := B
  have hm : ∀ x y, m x = some y → x < n ∧ y < r + 1 := fun x y h => ⟨(b3 x y h).1, (b3 x y h).2.1⟩
  have hal : ∀ c, c < n → ∃ r, m c = some r := fun c hc => by
    cases hmc : m c with
    | some r => exact ⟨r, rfl⟩
    | none => obtain ⟨i, hi, -⟩ := b5 c hc hmc; exact absurd hi (Nat.not_lt_zero i)
  obtain ⟨g', tv, c1, c2, c3⟩ := l8C (G := G') (p2 := nI x) (p3 := nI y) (p4 := nI z) b2 hsz (fun x y h => (hm x y h).1) hal (fun c r h => (b3 c r h).2.2) n 4096 (Go 8) (fun _ _ => false) (Nat.le_refl n) (by omega) (fun c' h1 h2 => by omega) (fun c' h1 h2 => by omega)
  obtain ⟨t', tm, e1, e2, e3⟩ := l2M (F := F') (G := G') d3 (show r + 1 ≤ 40 by omega) hsz (fun r' hr => by
    obtain ⟨c, hc⟩ := b4 r' hr
    obtain ⟨s, v, u, f, rf, h, rh, d⟩ := CP_FD (b3 c r' hc).2.2
    exact ⟨s, v, u, rf, rh, FD_R d⟩) (r + 1) 0 4096 (G' 17) (fun _ _ => false) (by omega) (by omega) (fun r' hr => absurd hr (Nat.not_lt_zero r')) (fun r' hr => absurd hr (Nat.not_lt_zero r'))
  rw [u_id] at c1 e1
  have hco := cellok0 x (by omega) y (by omega) z (by omega)
  rw [cellok, Bool.and_eq_true, Bool.and_eq_true, Bool.and_eq_true, decide_eq_true_eq, decide_eq_true_eq, decide_eq_true_eq, decide_eq_true_eq] at hco
  obtain ⟨k1, k2, k3, k4⟩ := hco
  have hi : inr sz (x + 5 * y + 25 * z) = true := by
    rw [inr, k2, k3, k4, decide_eq_true hx, decide_eq_true hy, decide_eq_true hz]; rfl
  have hn1 : 0 < n := (hm 0 r m0).1
  refine ⟨tv 0 (x + 5 * y + 25 * z), g', t', r, ?_, ?_, d3, by omega, k1, ?_⟩
  · rw [fX0_isTrue_e, f9, q_m1, c1, fX0_isTrue_x57_e, q_b1 (show fX0_step 0 = some 1 from rfl), q_b1 (show fX0_step 1 = some 5 from rfl), q_b1 (show fX0_step 2 = some 25 from rfl), show nI x * 1 = nI (x * 1) from pk_mul x 1, show nI y * 5 = nI (y * 5) from pk_mul y 5, show nI z * 25 = nI (z * 25) from pk_mul z 25, nI_add, nI_add, show x * 1 + y * 5 + z * 25 = x + 5 * y + 25 * z by omega, q_ld (by omega) (by omega), q_cl (by omega), u_s]
    have := c2 0 hn1 _ k1
    rw [Nat.zero_mul, Nat.zero_add] at this
    rw [this, x_znq]
  · rw [fX6_fill_e]; exact e1
  · rw [e2 r (Nat.lt_succ_self r) _ k1, same hsz hm c3 e3 n 0 r (by omega) m0 _ k1 hi]
/-- how many quantifiers the page has -/
theorem q_isq (x : Int32) : ∃ r, fX6_kindOf x = some r ∧ fX6_in r 6 9 = some (nI (isq x)) := by
  rw [fX6_kindOf_e]
  by_cases h1 : x = 33
  · subst h1; exact ⟨2, rfl, rfl⟩
  rw [if_neg h1]
  by_cases h2 : x = 38
  · subst h2; exact ⟨3, rfl, rfl⟩
  rw [if_neg h2]
  by_cases h3 : x = 40
  · subst h3; exact ⟨10, rfl, rfl⟩
  rw [if_neg h3]
  by_cases h4 : x = 60
  · subst h4; exact ⟨0, rfl, rfl⟩
  rw [if_neg h4]
  by_cases h5 : x = 61
  · subst h5; exact ⟨1, rfl, rfl⟩
  rw [if_neg h5]
  by_cases h6 : x = 62
  · subst h6; exact ⟨5, rfl, rfl⟩
  rw [if_neg h6]
  by_cases h7 : x = 65
  · subst h7; exact ⟨6, rfl, rfl⟩
  rw [if_neg h7]
  by_cases h8 : x = 69
  · subst h8; exact ⟨7, rfl, rfl⟩
  rw [if_neg h8]
  by_cases h9 : x = 97
  · subst h9; exact ⟨8, rfl, rfl⟩
  rw [if_neg h9]
  by_cases h10 : x = 101
  · subst h10; exact ⟨9, rfl, rfl⟩
  rw [if_neg h10]
  have hq : isq x = 0 := if_neg (fun h => by rcases h with h | h | h | h <;> contradiction)
  by_cases h11 : x = 124
  · rw [if_pos h11, hq]; exact ⟨4, rfl, rfl⟩
  · rw [if_neg h11, hq]; exact ⟨-1, rfl, rfl⟩
theorem qntM {F : xF} {G : xG} {k : Nat} {pg : Nat → Int32} (h1 : F 1 = nI k) (h2 : G 2 = pg) (hk : k ≤ 40) : ∀ (i j N : Nat), j + i = k → i < N → fX6_quantifiers_l4 F G N (nI (qct pg j)) (nI j) = some (nI (qct pg k)) := by
  intro i
  induction i with
  | zero =>
    intro j N e1 e2
    cases N with
    | zero => omega
    | succ N =>
      have e : j = k := by omega
      subst e
      rw [fX6_quantifiers_l4_e, h1, if_pos ((q_le (by omega) (by omega)).mpr (Nat.le_refl _))]
  | succ i ih =>
    intro j N e1 e2
    cases N with
    | zero => omega
    | succ N =>
      obtain ⟨r, r1, r2⟩ := q_isq (pg j)
      have hq : isq (pg j) = 0 ∨ isq (pg j) = 1 := by unfold isq; split <;> omega
      have hnx := ih (j + 1) N (by omega) (by omega)
      rw [qct] at hnx
      rw [fX6_quantifiers_l4_e, h1, if_neg (fun z => by have := (q_le (by omega) (by omega)).mp z; omega), q_ld (by omega) (by omega), q_cl (by omega), h2, q_b1 r1, q_b1 r2]
      rcases hq with hq | hq
      · rw [hq] at hnx ⊢
        rw [if_pos (by decide), fX6_quantifiers_j37_e, Int32.add_zero, nI_1]
        exact hnx
      · rw [hq] at hnx ⊢
        rw [if_neg (by decide), fX6_quantifiers_j37_e, nI_1, nI_1]
        exact hnx
theorem qct_le (pg : Nat → Int32) : ∀ k, qct pg k ≤ k := by
  intro k
  induction k with
  | zero => exact Nat.le_refl _
  | succ k ih =>
    have hq : isq (pg k) ≤ 1 := by unfold isq; split <;> omega
    rw [qct]; omega
theorem o_isSo : oL_isSo (LRg LPg) := by
  intro Fp Gp Fo Go Fz Gz Fq Gq F G h p1 p2 p3 p4
  have bad1 : fX5_isSo Fp Fo Go p1 p2 p3 p4 = fX5_isSo_j34 Go → fX6_isSo F G p1 p2 p3 p4 = fX6_isSo_j47 F G p1 p2 p3 p4 → ∃ (k r : Int32) (Go' : xG) (r' : Int32) (F' : xF) (G' : xG), (¬ k = 0 → ¬ k = 1 → k = 2) ∧ fX5_isSo Fp Fo Go p1 p2 p3 p4 = some (k, r, Go') ∧ fX6_isSo F G p1 p2 p3 p4 = some (r', F', G') ∧ fX6_thrown F' = some k ∧ (k = 0 → r = r') ∧ LRg LPg Fp Gp Fo Go' Fz Gz Fq Gq F' G' := fun k1 k2 => by
    refine ⟨1, 0, Go, 0, va_up F 0 1, G, fun _ h => absurd rfl h, ?_, ?_, rfl, fun h => absurd h q_10, h⟩
    · rw [k1, fX5_isSo_j34_e]
    · rw [k2, fX6_isSo_j47_e, fX6_isSo_j48_e, if_pos rfl, fX6_isSo_j81_e, b_b2 (q_g1 F q_10), if_pos rfl]
  by_cases c1 : ∃ n, (1 ≤ n ∧ n ≤ 5) ∧ p1 = nI n
  rotate_left
  · obtain ⟨b1, b2⟩ := q_btn (k := 5) (by decide) c1
    refine bad1 ?_ ?_
    · rw [fX5_isSo_e, q_b1 (show fX5_isBetween 1 p1 5 = some 0 from b1), if_pos rfl]
    · rw [fX6_isSo_e, q_b1 (show fX6_in p1 1 5 = some 0 from b2), if_pos rfl]
  obtain ⟨sz, hsz, rfl⟩ := c1
  have a1 : fX5_isBetween 1 (nI sz) 5 = some 1 := q_btw hsz (by decide)
  have a2 : fX6_in (nI sz) 1 5 = some 1 := q_inw hsz (by decide)
  have hbl : ∀ x, fX5_isBelow x (nI sz) = some (if q_lo x sz then 1 else 0) := fun x => q_isBelow (by omega) x
  have hin : ∀ x, fX6_in x 0 (nI sz - 1) = some (if q_lo x sz then 1 else 0) := fun x => q_in (by omega) x
  by_cases c2 : q_lo p2 sz
  rotate_left
  · refine bad1 ?_ ?_
    · rw [fX5_isSo_e, q_b1 a1, if_neg q_10, q_b1 (hbl p2), if_neg c2, if_pos rfl]
    · rw [fX6_isSo_e, q_b1 a2, if_neg q_10, q_b1 (hin p2), if_neg c2, if_pos rfl]
  by_cases c3 : q_lo p3 sz
  rotate_left
  · refine bad1 ?_ ?_
    · rw [fX5_isSo_e, q_b1 a1, if_neg q_10, q_b1 (hbl p2), if_pos c2, if_neg q_10, q_b1 (hbl p3), if_neg c3, if_pos rfl]
    · rw [fX6_isSo_e, q_b1 a2, if_neg q_10, q_b1 (hin p2), if_pos c2, if_neg q_10, q_b1 (hin p3), if_neg c3, if_pos rfl]
  by_cases c4 : q_lo p4 sz
  rotate_left
  · refine bad1 ?_ ?_
    · rw [fX5_isSo_e, q_b1 a1, if_neg q_10, q_b1 (hbl p2), if_pos c2, if_neg q_10, q_b1 (hbl p3), if_pos c3, if_neg q_10, q_b1 (hbl p4), if_neg c4, if_pos rfl]
    · rw [fX6_isSo_e, q_b1 a2, if_neg q_10, q_b1 (hin p2), if_pos c2, if_neg q_10, q_b1 (hin p3), if_pos c3, if_neg q_10, q_b1 (hin p4), if_neg c4, if_pos rfl]
  obtain ⟨w, F', G', e1, e2, e3, e4, e5⟩ := ifm h.1 (F := F) (G := G) rfl rfl
  have h' := LR_fr h e4
  have hcl : fX5_isSo Fp Fo Go (nI sz) p2 p3 p4 = (if w = 0 then (fX5_isSo_j69 Go) else (if (Fo 10) ≤ 6 then x_b2 (fX0_isTrue Fo Go (nI sz) p2 p3 p4) (fun r18 G19 => some (0, x_zn r18, G19)) else (fX5_isSo_j69 Go))) := by
    rw [fX5_isSo_e, q_b1 a1, if_neg q_10, q_b1 (hbl p2), if_pos c2, if_neg q_10, q_b1 (hbl p3), if_pos c3, if_neg q_10, q_b1 (hbl p4), if_pos c4, if_neg q_10, q_b1 e2]
  have hrf : fX6_isSo F G (nI sz) p2 p3 p4 = (if w = 0 then (fX6_isSo_j80 F' G' (nI sz) p2 p3 p4) else x_b1 (fX6_quantifiers F' G') (fun r21 => (if 6 < r21 then (fX6_isSo_j80 F' G' (nI sz) p2 p3 p4) else (fX6_isSo_j81 (nI sz) p2 p3 p4) 0 F' G'))) := by
    rw [fX6_isSo_e, q_b1 a2, if_neg q_10, q_b1 (hin p2), if_pos c2, if_neg q_10, q_b1 (hin p3), if_pos c3, if_neg q_10, q_b1 (hin p4), if_pos c4, if_neg q_10, fX6_isSo_j48_e, if_neg q_10, b_b3 e1]
  have h80 : fX6_isSo_j80 F' G' (nI sz) p2 p3 p4 = some (0, va_up F' 0 2, G') := by
    rw [fX6_isSo_j80_e, fX6_isSo_j81_e, b_b2 (q_g1 F' (by decide)), if_pos rfl]
  have bad2 : fX5_isSo Fp Fo Go (nI sz) p2 p3 p4 = some (2, 0, Go) → fX6_isSo F G (nI sz) p2 p3 p4 = some (0, va_up F' 0 2, G') → ∃ (k r : Int32) (Go' : xG) (r' : Int32) (F' : xF) (G' : xG), (¬ k = 0 → ¬ k = 1 → k = 2) ∧ fX5_isSo Fp Fo Go (nI sz) p2 p3 p4 = some (k, r, Go') ∧ fX6_isSo F G (nI sz) p2 p3 p4 = some (r', F', G') ∧ fX6_thrown F' = some k ∧ (k = 0 → r = r') ∧ LRg LPg Fp Gp Fo Go' Fz Gz Fq Gq F' G' := fun k1 k2 =>
    ⟨2, 0, Go, 0, va_up F' 0 2, G', fun _ _ => rfl, k1, k2, rfl, fun h => absurd h (by decide), h'⟩
  rcases e3 with rfl | rfl
  · refine bad2 ?_ ?_
    · rw [hcl, if_pos rfl, fX5_isSo_j69_e]
    · rw [hrf, if_pos rfl, h80]
  rw [if_neg q_10] at hcl hrf
  obtain ⟨k, k1, k2, hw⟩ := e5 rfl
  have hw0 := hw
  obtain ⟨m, st, n, r, -, -, -, f10, -⟩ := hw0
  have hf1 : F' 1 = nI k := (e4.1 1 (by decide) (by decide) (by decide)).trans k1
  have hqn : fX6_quantifiers F' G' = some (nI (qct (G 2) k)) := by
    rw [fX6_quantifiers_e]
    exact qntM (pg := G 2) hf1 (e4.2 2 (by decide)) k2 k 0 4096 (by omega) (by omega)
  have hle := qct_le (G 2) k
  rw [q_b1 hqn] at hrf
  rw [f10] at hcl
  by_cases c5 : qct (G 2) k ≤ 6
  rotate_left
  · refine bad2 ?_ ?_
    · rw [hcl, if_neg (by exact fun z => c5 ((q_le (b := 6) (by omega) (by omega)).mp z)), fX5_isSo_j69_e]
    · rw [hrf, if_pos (by exact (q_lt (a := 6) (by omega) (by omega)).mpr (by omega)), h80]
  rw [if_pos (by exact (q_le (b := 6) (by omega) (by omega)).mpr c5)] at hcl
  rw [if_neg (by exact fun z => by have := (q_lt (a := 6) (by omega) (by omega)).mp z; omega), fX6_isSo_j81_e, b_b2 (q_g0 F'), if_neg q_10] at hrf
  obtain ⟨x, hx, rfl⟩ := c2
  obtain ⟨y, hy, rfl⟩ := c3
  obtain ⟨z, hz, rfl⟩ := c4
  have hw2 : WH k (G 2) Fo Gp Go (va_up F' 0 0) G' := hw
  obtain ⟨b, g', t', r2, i1, i2, i3, i4, i5, i6⟩ := iso hw2 hsz.2 hx hy hz
  rw [b_b2 i1, x_znq] at hcl
  have hidx : ((125 * (va_up F' 0 0 3 - 1) + nI x) + 5 * nI y) + 25 * nI z = nI (125 * r2 + (x + 5 * y + 25 * z)) := by
    rw [i3, nI_pred, show 125 * nI r2 = nI (125 * r2) from pk_mul 125 r2, show 5 * nI y = nI (5 * y) from pk_mul 5 y, show 25 * nI z = nI (25 * z) from pk_mul 25 z, nI_add, nI_add, nI_add]
    congr 1
    omega
  rw [q_b1 i2, hidx, q_ld (by omega) (by omega), q_cl (by omega), u_s, i6, x_znq] at hrf
  exact ⟨0, qbi b, va_up Go 8 g', qbi b, va_up F' 0 0, va_up G' 17 t', fun h => absurd rfl h, hcl, hrf, rfl, fun _ => rfl, h'.1, h'.2.1, h'.2.2⟩
end QIB
