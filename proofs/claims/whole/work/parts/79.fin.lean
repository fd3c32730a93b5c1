section QF
/-! what the class has read so far against what the reference reads: parts that are whole, parts that wait -/
/-- the whole part c of the class is the part r of the reference -/
def CP (m : Nat → Option Nat) (Go G : xG) (c r : Nat) : Prop :=
  ∃ s, s ≤ 9 ∧ Go 0 c = kc s ∧ G 4 r = nI s ∧ Go 5 c = G 9 r ∧ Go 6 c = G 10 r ∧ Go 7 c = G 11 r
  ∧ (s ≤ 1 ∨ 6 ≤ s → ∃ v, v < 3 ∧ Go 1 c = nI v ∧ G 7 r = nI v)
  ∧ (s ≤ 1 ∨ 8 ≤ s → ∃ u, u < 3 ∧ Go 2 c = nI u ∧ G 8 r = nI u)
  ∧ (2 ≤ s → ∃ f rf, c < f ∧ rf < r ∧ m f = some rf ∧ Go 3 c = nI f ∧ G 5 r = nI rf)
  ∧ (s ≤ 1 → G 5 r = -1)
  ∧ (3 ≤ s ∧ s ≤ 5 → ∃ g rg, c < g ∧ rg < r ∧ m g = some rg ∧ Go 4 c = nI g ∧ G 6 r = nI rg)
  ∧ (s ≤ 2 ∨ 6 ≤ s → G 6 r = -1)
theorem CP_mono {m m' : Nat → Option Nat} {Go Go' G G' : xG} {c r : Nat} (hm : ∀ x y, m x = some y → m' x = some y) (h1 : ∀ k, Go' k c = Go k c) (h2 : ∀ k, 4 ≤ k → k ≤ 11 → G' k r = G k r) (h : CP m Go G c r) : CP m' Go' G' c r := by
  obtain ⟨s, a1, a2, a3, a4, a5, a6, a7, a8, a9, a10, a11, a12⟩ := h
  refine ⟨s, a1, by rw [h1]; exact a2, by rw [h2 4 (by decide) (by decide)]; exact a3, by rw [h1, h2 9 (by decide) (by decide)]; exact a4, by rw [h1, h2 10 (by decide) (by decide)]; exact a5, by rw [h1, h2 11 (by decide) (by decide)]; exact a6, fun h => ?_, fun h => ?_, fun h => ?_, fun h => by rw [h2 5 (by decide) (by decide)]; exact a10 h, fun h => ?_, fun h => by rw [h2 6 (by decide) (by decide)]; exact a12 h⟩
  · rw [h1, h2 7 (by decide) (by decide)]; exact a7 h
  · rw [h1, h2 8 (by decide) (by decide)]; exact a8 h
  · obtain ⟨f, rf, b1, b2, b3, b4, b5⟩ := a9 h
    exact ⟨f, rf, b1, b2, hm _ _ b3, by rw [h1]; exact b4, by rw [h2 5 (by decide) (by decide)]; exact b5⟩
  · obtain ⟨f, rf, b1, b2, b3, b4, b5⟩ := a11 h
    exact ⟨f, rf, b1, b2, hm _ _ b3, by rw [h1]; exact b4, by rw [h2 6 (by decide) (by decide)]; exact b5⟩
/-- n parts begun, q of them whole, b waiting, one in the other -/
def PB (m : Nat → Option Nat) (st : Nat → Nat) (n q b : Nat) (ar : Nat → Int32) (Go G : xG) : Prop :=
  q + b = n ∧ n ≤ 40
  ∧ (∀ c r, m c = some r → c < n ∧ r < q ∧ CP m Go G c r)
  ∧ (∀ r, r < q → ∃ c, m c = some r)
  ∧ (∀ c, c < n → m c = none → ∃ i, i < b ∧ st i = c)
  ∧ (∀ i, i < b → st i < n ∧ m (st i) = none)
  ∧ (∀ i j, i < j → j < b → st i < st j)
  ∧ (0 < b → st 0 = 0 ∧ ar 0 = -1)
  ∧ (∀ i, i + 1 < b → ar (st (i + 1)) = nI (st i))
theorem PB_mono {m : Nat → Option Nat} {st : Nat → Nat} {n q b : Nat} {ar : Nat → Int32} {Go Go' G G' : xG} (B : PB m st n q b ar Go G) (h1 : ∀ x y, m x = some y → ∀ k, Go' k x = Go k x) (h2 : ∀ k r, r < q → 4 ≤ k → k ≤ 11 → G' k r = G k r) : PB m st n q b ar Go' G' := by
  obtain ⟨b1, b2, b3, b4, b5⟩ := B
  refine ⟨b1, b2, fun c r h => ?_, b4, b5⟩
  obtain ⟨c1, c2, c3⟩ := b3 c r h
  exact ⟨c1, c2, CP_mono (fun _ _ h => h) (h1 c r h) (fun k k1 k2 => h2 k r c2 k1 k2) c3⟩
/-- the part c of the class that waits for more is the i-th of the reference that has begun -/
def OE (m : Nat → Option Nat) (Go G : xG) (c i : Nat) : Prop :=
  ∃ s, G 13 i = nI s ∧ ((s = 2 ∧ Go 0 c = kc 2 ∧ G 14 i = -1 ∧ G 15 i = -1)
    ∨ (s = 10 ∧ Go 0 c = 40)
    ∨ (3 ≤ s ∧ s ≤ 5 ∧ Go 0 c = kc s ∧ ∃ f rf, c < f ∧ m f = some rf ∧ Go 3 c = nI f ∧ G 14 i = nI rf)
    ∨ (6 ≤ s ∧ s ≤ 7 ∧ Go 0 c = kc s ∧ G 15 i = -1 ∧ ∃ v, v < 3 ∧ Go 1 c = nI v ∧ G 14 i = nI v)
    ∨ (8 ≤ s ∧ s ≤ 9 ∧ Go 0 c = kc s ∧ ∃ v u, v < 3 ∧ u < 3 ∧ Go 1 c = nI v ∧ G 14 i = nI v ∧ Go 2 c = nI u ∧ G 15 i = nI u))
theorem OE_mono {m m' : Nat → Option Nat} {Go Go' G G' : xG} {c i : Nat} (hm : ∀ x y, m x = some y → m' x = some y) (h1 : ∀ k, Go' k c = Go k c) (h2 : ∀ k, 13 ≤ k → k ≤ 15 → G' k i = G k i) (h : OE m Go G c i) : OE m' Go' G' c i := by
  obtain ⟨s, a1, a2⟩ := h
  have e13 := h2 13 (by decide) (by decide)
  have e14 := h2 14 (by decide) (by decide)
  have e15 := h2 15 (by decide) (by decide)
  refine ⟨s, e13.trans a1, ?_⟩
  rw [h1, h1, h1, h1, e14, e15]
  rcases a2 with a | a | a | a | a
  · exact Or.inl a
  · exact Or.inr (Or.inl a)
  · obtain ⟨b1, b2, b3, f, rf, c1, c2, c3, c4⟩ := a
    exact Or.inr (Or.inr (Or.inl ⟨b1, b2, b3, f, rf, c1, hm _ _ c2, c3, c4⟩))
  · exact Or.inr (Or.inr (Or.inr (Or.inl a)))
  · exact Or.inr (Or.inr (Or.inr (Or.inr a)))
theorem w3_ne {Go : xG} {c x : Nat} {S P W : Int32} (h : x ≠ c) (k : Nat) : w3 Go c S P W k x = Go k x := by
  show (if k = 7 then upd (Go 7) c W else if k = 6 then upd (Go 6) c P else if k = 5 then upd (Go 5) c S else Go k) x = Go k x
  by_cases h7 : k = 7
  · subst h7; rw [if_pos rfl, pk_un h]
  · rw [if_neg h7]
    by_cases h6 : k = 6
    · subst h6; rw [if_pos rfl, pk_un h]
    · rw [if_neg h6]
      by_cases h5 : k = 5
      · subst h5; rw [if_pos rfl, pk_un h]
      · rw [if_neg h5]
theorem w3_lo {Go : xG} {c : Nat} {S P W : Int32} {k : Nat} (h : k < 5) : w3 Go c S P W k = Go k := by
  show (if k = 7 then upd (Go 7) c W else if k = 6 then upd (Go 6) c P else if k = 5 then upd (Go 5) c S else Go k) = Go k
  rw [if_neg (by omega), if_neg (by omega), if_neg (by omega)]
theorem va_ne {G : xG} {a q r : Nat} {v : Int32} (h : r ≠ q) (k : Nat) : va_up G a (upd (G a) q v) k r = G k r := by
  by_cases hk : k = a
  · subst hk; rw [u_s, pk_un h]
  · rw [u_n hk]
theorem w3m_ne {G : xG} {q r : Nat} {S P W : Int32} (h : r ≠ q) (k : Nat) : w3m G q S P W k r = G k r := by
  show (if k = 11 then upd (G 11) q W else if k = 10 then upd (G 10) q P else if k = 9 then upd (G 9) q S else G k) r = G k r
  by_cases h7 : k = 11
  · subst h7; rw [if_pos rfl, pk_un h]
  · rw [if_neg h7]
    by_cases h6 : k = 10
    · subst h6; rw [if_pos rfl, pk_un h]
    · rw [if_neg h6]
      by_cases h5 : k = 9
      · subst h5; rw [if_pos rfl, pk_un h]
      · rw [if_neg h5]
theorem w3m_lo {G : xG} {q : Nat} {S P W : Int32} {k : Nat} (h : k < 9 ∨ 11 < k) : w3m G q S P W k = G k := by
  show (if k = 11 then upd (G 11) q W else if k = 10 then upd (G 10) q P else if k = 9 then upd (G 9) q S else G k) = G k
  rw [if_neg (by omega), if_neg (by omega), if_neg (by omega)]
theorem m5_lo {G : xG} {q : Nat} {s L R V U : Int32} {k : Nat} (h : k < 4 ∨ 8 < k) : m5 G q s L R V U k = G k := by
  show (if k = 8 then upd (G 8) q U else if k = 7 then upd (G 7) q V else if k = 6 then upd (G 6) q R else if k = 5 then upd (G 5) q L else if k = 4 then upd (G 4) q s else G k) = G k
  rw [if_neg (by omega), if_neg (by omega), if_neg (by omega), if_neg (by omega), if_neg (by omega)]
theorem m5_ne {G : xG} {q r : Nat} {s L R V U : Int32} (h : r ≠ q) (k : Nat) : m5 G q s L R V U k r = G k r := by
  show (if k = 8 then upd (G 8) q U else if k = 7 then upd (G 7) q V else if k = 6 then upd (G 6) q R else if k = 5 then upd (G 5) q L else if k = 4 then upd (G 4) q s else G k) r = G k r
  by_cases h8 : k = 8
  · subst h8; rw [if_pos rfl, pk_un h]
  · rw [if_neg h8]
    by_cases h7 : k = 7
    · subst h7; rw [if_pos rfl, pk_un h]
    · rw [if_neg h7]
      by_cases h6 : k = 6
      · subst h6; rw [if_pos rfl, pk_un h]
      · rw [if_neg h6]
        by_cases h5 : k = 5
        · subst h5; rw [if_pos rfl, pk_un h]
        · rw [if_neg h5]
          by_cases h4 : k = 4
          · subst h4; rw [if_pos rfl, pk_un h]
          · rw [if_neg h4]
/-- a part that has all it needs -/
def RD (m : Nat → Option Nat) (Go : xG) (c s : Nat) (L R V U : Int32) : Prop := s ≤ 9 ∧ Go 0 c = kc s
  ∧ (s ≤ 1 ∨ 6 ≤ s → ∃ v, v < 3 ∧ Go 1 c = nI v ∧ V = nI v) ∧ (2 ≤ s ∧ s ≤ 5 → V = -1)
  ∧ (s ≤ 1 ∨ 8 ≤ s → ∃ u, u < 3 ∧ Go 2 c = nI u ∧ U = nI u) ∧ (2 ≤ s ∧ s ≤ 7 → U = -1)
  ∧ (2 ≤ s → ∃ f rf, c < f ∧ m f = some rf ∧ Go 3 c = nI f ∧ L = nI rf) ∧ (s ≤ 1 → L = -1)
  ∧ (3 ≤ s ∧ s ≤ 5 → ∃ g rg, c < g ∧ m g = some rg ∧ Go 4 c = nI g ∧ R = nI rg) ∧ (s ≤ 2 ∨ 6 ≤ s → R = -1)
theorem CP_num {m : Nat → Option Nat} {Go G : xG} {c r : Nat} (h : CP m Go G c r) : Go 5 c = G 9 r ∧ Go 6 c = G 10 r ∧ Go 7 c = G 11 r := by
  obtain ⟨s, a1, a2, a3, a4, a5, a6, -⟩ := h
  exact ⟨a4, a5, a6⟩
theorem wm1 {m : Nat → Option Nat} {st : Nat → Nat} {n q b c s : Nat} {ar : Nat → Int32} {Go G : xG} {F : xF} {L R V U : Int32} (B : PB m st n q b ar Go G) (hc : c < 40) (hq : q < 40) (hF : F 3 = nI q) (h : RD m Go c s L R V U) : ∃ S P W, fX0_weigh Go (nI c) = some (w3 Go c S P W) ∧ fX6_make F G (nI s) L R V U = some (nI q, va_up F 3 (nI (q + 1)), w3m (m5 G q (nI s) L R V U) q S P W) := by
  obtain ⟨b1, b2, b3, -⟩ := B
  obtain ⟨h1, h2, h3, h4, h5, h6, h7, h8, h9, h10⟩ := h
  by_cases k1 : s ≤ 1
  · obtain ⟨v, v1, v2, v3⟩ := h3 (Or.inl k1)
    obtain ⟨u, u1, u2, u3⟩ := h5 (Or.inl k1)
    refine ⟨_, _, _, we_atom hc k1 h2 v2 u2, ?_⟩
    exact mk5 hF hq _ _ _ _ _ (me_atom hq k1 m5_4 (by rw [m5_5, h8 k1]) (by rw [m5_7, v3]) (by rw [m5_8, u3]) v1 u1)
  obtain ⟨f, rf, f1, f2, f3, f4⟩ := h7 (by omega)
  obtain ⟨f5, f6, f7⟩ := b3 f rf f2
  obtain ⟨e5, e6, e7⟩ := CP_num f7
  have d9 : (m5 G q (nI s) L R V U) 9 rf = Go 5 f := by rw [m5_lo (by omega), e5]
  have d10 : (m5 G q (nI s) L R V U) 10 rf = Go 6 f := by rw [m5_lo (by omega), e6]
  have d11 : (m5 G q (nI s) L R V U) 11 rf = Go 7 f := by rw [m5_lo (by omega), e7]
  by_cases k2 : s = 2
  · subst k2
    refine ⟨_, _, _, we_not hc (by omega) h2 f3, mk5 hF hq _ _ _ _ _ ?_⟩
    have hm := me_not (f := rf) hq (by omega) (m5_4 (G := G) (q := q) (L := L) (R := R) (V := V) (U := U)) (by rw [m5_5, f4]) (by rw [m5_7, h4 (by omega)]) (by rw [m5_8, h6 (by omega)])
    rw [d9, d10, d11] at hm
    exact hm
  by_cases k3 : s ≤ 5
  · obtain ⟨g, rg, g1, g2, g3, g4⟩ := h9 (by omega)
    obtain ⟨g5, g6, g7⟩ := b3 g rg g2
    obtain ⟨i5, i6, i7⟩ := CP_num g7
    have j9 : (m5 G q (nI s) L R V U) 9 rg = Go 5 g := by rw [m5_lo (by omega), i5]
    have j10 : (m5 G q (nI s) L R V U) 10 rg = Go 6 g := by rw [m5_lo (by omega), i6]
    have j11 : (m5 G q (nI s) L R V U) 11 rg = Go 7 g := by rw [m5_lo (by omega), i7]
    refine ⟨_, _, _, we_op hc (by omega) (by omega) ⟨by omega, k3⟩ h2 f3 g3, mk5 hF hq _ _ _ _ _ ?_⟩
    have hm := me_op (f := rf) (g := rg) (s := s) hq (by omega) (by omega) ⟨by omega, k3⟩ (m5_4 (G := G) (q := q) (L := L) (R := R) (V := V) (U := U)) (by rw [m5_5, f4]) (by rw [m5_6, g4]) (by rw [m5_7, h4 (by omega)]) (by rw [m5_8, h6 (by omega)])
    rw [d9, d10, d11, j9, j10, j11] at hm
    exact hm
  · obtain ⟨v, v1, v2, v3⟩ := h3 (by omega)
    have hm := me_q (f := rf) (s := s) (v := v) (U := U) hq (by omega) ⟨by omega, h1⟩ v1 (m5_4 (G := G) (q := q) (L := L) (R := R) (V := V) (U := U)) (by rw [m5_5, f4]) (by rw [m5_7, v3]) m5_8
    rw [d9, d10, d11] at hm
    by_cases k6 : s = 6
    · have hw := we_q (s := s) (v := v) (u := 0) hc (show f < 40 by omega) ⟨by omega, h1⟩ h2 f3 v2 (fun z => by omega)
      rw [if_pos k6] at hw hm
      exact ⟨_, _, _, hw, mk5 hF hq _ _ _ _ _ hm⟩
    by_cases k7 : s = 7
    · have hw := we_q (s := s) (v := v) (u := 0) hc (show f < 40 by omega) ⟨by omega, h1⟩ h2 f3 v2 (fun z => by omega)
      rw [if_neg k6, if_pos k7] at hw hm
      exact ⟨_, _, _, hw, mk5 hF hq _ _ _ _ _ hm⟩
    obtain ⟨u, u1, u2, u3⟩ := h5 (by omega)
    have hw := we_q (s := s) (v := v) (u := u) hc (show f < 40 by omega) ⟨by omega, h1⟩ h2 f3 v2 (fun _ => u2)
    rw [if_neg k6, if_neg k7] at hw hm
    rw [u3, if_neg (q_ne1 (by omega))] at hm
    rw [u3]
    exact ⟨_, _, _, hw, mk5 hF hq _ _ _ _ _ hm⟩
/-- the part on top is whole with it -/
theorem wmk {m : Nat → Option Nat} {st : Nat → Nat} {n q a c s : Nat} {ar : Nat → Int32} {Go G : xG} {F : xF} {L R V U : Int32} (B : PB m st n q (a + 1) ar Go G) (hc : st a = c) (hF : F 3 = nI q) (h : RD m Go c s L R V U) : ∃ S P W, fX0_weigh Go (nI c) = some (w3 Go c S P W) ∧ fX6_make F G (nI s) L R V U = some (nI q, va_up F 3 (nI (q + 1)), w3m (m5 G q (nI s) L R V U) q S P W) ∧ PB (va_up m c (some q)) st n (q + 1) a ar (w3 Go c S P W) (w3m (m5 G q (nI s) L R V U) q S P W) ∧ (∀ x y, m x = some y → va_up m c (some q) x = some y) := by
  have B0 := B
  obtain ⟨b1, b2, b3, b4, b5, b6, b7, b8, b9⟩ := B
  obtain ⟨c1, c2⟩ := b6 a (by omega)
  rw [hc] at c1 c2
  obtain ⟨S, P, W, e1, e2⟩ := wm1 B0 (show c < 40 by omega) (show q < 40 by omega) hF h
  have hm : ∀ x y, m x = some y → va_up m c (some q) x = some y := fun x y hxy => by
    rw [u_n (fun e => by rw [e, c2] at hxy; cases hxy)]; exact hxy
  refine ⟨S, P, W, e1, e2, ⟨by omega, b2, fun x y hxy => ?_, fun r hr => ?_, fun x hx hxy => ?_, fun i hi => ?_, fun i j hi hj => b7 i j hi (by omega), fun ha => b8 (by omega), fun i hi => b9 i (by omega)⟩, hm⟩
  · by_cases hx : x = c
    · subst hx
      rw [u_s] at hxy
      cases hxy
      refine ⟨c1, Nat.lt_succ_self _, ?_⟩
      obtain ⟨h1, h2, h3, h4, h5, h6, h7, h8, h9, h10⟩ := h
      have g4 : w3m (m5 G q (nI s) L R V U) q S P W 4 q = nI s := by rw [w3m_lo (by omega)]; exact m5_4
      have g5 : w3m (m5 G q (nI s) L R V U) q S P W 5 q = L := by rw [w3m_lo (by omega)]; exact m5_5
      have g6 : w3m (m5 G q (nI s) L R V U) q S P W 6 q = R := by rw [w3m_lo (by omega)]; exact m5_6
      have g7 : w3m (m5 G q (nI s) L R V U) q S P W 7 q = V := by rw [w3m_lo (by omega)]; exact m5_7
      have g8 : w3m (m5 G q (nI s) L R V U) q S P W 8 q = U := by rw [w3m_lo (by omega)]; exact m5_8
      have g9 : w3m (m5 G q (nI s) L R V U) q S P W 9 q = S := by show upd _ q S q = S; rw [pk_us]
      have g10 : w3m (m5 G q (nI s) L R V U) q S P W 10 q = P := by show upd _ q P q = P; rw [pk_us]
      have g11 : w3m (m5 G q (nI s) L R V U) q S P W 11 q = W := by show upd _ q W q = W; rw [pk_us]
      have w5 : w3 Go x S P W 5 x = S := by show upd _ x S x = S; rw [pk_us]
      have w6 : w3 Go x S P W 6 x = P := by show upd _ x P x = P; rw [pk_us]
      have w7 : w3 Go x S P W 7 x = W := by show upd _ x W x = W; rw [pk_us]
      have wl : ∀ k, k < 5 → w3 Go x S P W k x = Go k x := fun k hk => by rw [w3_lo hk]
      refine ⟨s, h1, by rw [wl 0 (by decide)]; exact h2, g4, by rw [w5, g9], by rw [w6, g10], by rw [w7, g11], fun hs => ?_, fun hs => ?_, fun hs => ?_, fun hs => by rw [g5]; exact h8 hs, fun hs => ?_, fun hs => by rw [g6]; exact h10 hs⟩
      · obtain ⟨v, v1, v2, v3⟩ := h3 hs
        exact ⟨v, v1, by rw [wl 1 (by decide)]; exact v2, by rw [g7]; exact v3⟩
      · obtain ⟨v, v1, v2, v3⟩ := h5 hs
        exact ⟨v, v1, by rw [wl 2 (by decide)]; exact v2, by rw [g8]; exact v3⟩
      · obtain ⟨f, rf, v1, v2, v3, v4⟩ := h7 hs
        exact ⟨f, rf, v1, (b3 f rf v2).2.1, hm _ _ v2, by rw [wl 3 (by decide)]; exact v3, by rw [g5]; exact v4⟩
      · obtain ⟨f, rf, v1, v2, v3, v4⟩ := h9 hs
        exact ⟨f, rf, v1, (b3 f rf v2).2.1, hm _ _ v2, by rw [wl 4 (by decide)]; exact v3, by rw [g6]; exact v4⟩
    · rw [u_n hx] at hxy
      obtain ⟨d1, d2, d3⟩ := b3 x y hxy
      exact ⟨d1, by omega, CP_mono hm (w3_ne hx) (fun k k1 k2 => by rw [w3m_ne (show y ≠ q by omega), m5_ne (show y ≠ q by omega)]) d3⟩
  · rcases Nat.lt_or_ge r q with g | g
    · obtain ⟨x, hx⟩ := b4 r g
      exact ⟨x, hm x r hx⟩
    · have e : r = q := by omega
      exact ⟨c, by rw [u_s, e]⟩
  · by_cases hxc : x = c
    · rw [hxc, u_s] at hxy; cases hxy
    · rw [u_n hxc] at hxy
      obtain ⟨i, hi, hix⟩ := b5 x hx hxy
      rcases Nat.lt_or_ge i a with g | g
      · exact ⟨i, g, hix⟩
      · have e : i = a := by omega
        rw [e, hc] at hix; exact absurd hix.symm hxc
  · obtain ⟨d1, d2⟩ := b6 i (by omega)
    refine ⟨d1, ?_⟩
    have := b7 i a hi (by omega)
    rw [u_n (show st i ≠ c by omega)]
    exact d2
/-- what the class waits for, by what the reference looks for -/
def duo : Nat → Int32
  | 0 => 0
  | 1 => 1
  | 2 => 2
  | 3 => 3
  | 4 => 3
  | 5 => 4
  | 6 => 5
  | 7 => 6
  | _ => 7
def topc (st : Nat → Nat) : Nat → Int32
  | 0 => -1
  | a + 1 => nI (st a)
/-- the part on top, if it waits for a letter -/
def TT (lk : Nat) (m : Nat → Option Nat) (Go G : xG) (c i : Nat) : Prop :=
  (lk = 1 ∧ G 13 i = nI 0 ∧ ∃ v, v < 3 ∧ Go 1 c = nI v ∧ G 14 i = nI v)
  ∨ (lk = 2 ∧ ∃ s, s ≤ 1 ∧ Go 0 c = kc s ∧ G 13 i = nI s ∧ ∃ v, v < 3 ∧ Go 1 c = nI v ∧ G 14 i = nI v)
  ∨ (lk = 3 ∧ ∃ s, 6 ≤ s ∧ s ≤ 7 ∧ Go 0 c = kc s ∧ G 13 i = nI s ∧ G 15 i = -1)
  ∨ (lk = 4 ∧ ∃ s, 8 ≤ s ∧ s ≤ 9 ∧ Go 0 c = kc s ∧ G 13 i = nI s)
  ∨ (lk = 5 ∧ ∃ s, 8 ≤ s ∧ s ≤ 9 ∧ Go 0 c = kc s ∧ G 13 i = nI s ∧ ∃ v, v < 3 ∧ Go 1 c = nI v ∧ G 14 i = nI v)
  ∨ (lk = 6 ∧ ∃ f rf, c < f ∧ m f = some rf ∧ Go 3 c = nI f ∧ G 14 i = nI rf)
  ∨ (lk = 7 ∧ ∃ s, 3 ≤ s ∧ s ≤ 5 ∧ Go 0 c = kc s ∧ G 13 i = nI s ∧ ∃ f rf, c < f ∧ m f = some rf ∧ Go 3 c = nI f ∧ G 14 i = nI rf ∧ ∃ g rg, c < g ∧ m g = some rg ∧ Go 4 c = nI g ∧ G 15 i = nI rg)
def TP (lk : Nat) (m : Nat → Option Nat) (st : Nat → Nat) (q b : Nat) (Go G : xG) : Prop :=
  (lk = 0 ∧ ∀ i, i < b → OE m Go G (st i) i)
  ∨ (lk = 8 ∧ b = 0 ∧ ∃ r, m 0 = some r ∧ r + 1 = q)
  ∨ (∃ a, b = a + 1 ∧ (∀ i, i < a → OE m Go G (st i) i) ∧ TT lk m Go G (st a) a)
/-- what reading leaves as it was -/
def rfr (F : xF) (G : xG) (F' : xF) (G' : xG) : Prop := (∀ j, j ≠ 3 → j ≠ 12 → j ≠ 16 → F' j = F j) ∧ ∀ j, j < 4 ∨ 15 < j → G' j = G j
theorem rfr_refl (F : xF) (G : xG) : rfr F G F G := ⟨fun _ _ _ _ => rfl, fun _ _ => rfl⟩
theorem rfr_trans {F F1 F2 : xF} {G G1 G2 : xG} (h1 : rfr F G F1 G1) (h2 : rfr F1 G1 F2 G2) : rfr F G F2 G2 := ⟨fun j a b c => (h2.1 j a b c).trans (h1.1 j a b c), fun j h => (h2.2 j h).trans (h1.2 j h)⟩
theorem rfr_F {F F' : xF} {G G' : xG} (h : rfr F G F' G') {k : Nat} (hk : k = 3 ∨ k = 12 ∨ k = 16) (v : Int32) : rfr F G (va_up F' k v) G' := ⟨fun j a b c => by rw [u_n (by omega)]; exact h.1 j a b c, h.2⟩
theorem rfr_G {F F' : xF} {G G' : xG} (h : rfr F G F' G') {k : Nat} (hk : 4 ≤ k ∧ k ≤ 15) (v : Nat → Int32) : rfr F G F' (va_up G' k v) := ⟨h.1, fun j a => by rw [u_n (by omega)]; exact h.2 j a⟩
theorem rfr_m {F F' : xF} {G G' : xG} (h : rfr F G F' G') {q : Nat} {s L R V U S P W : Int32} : rfr F G F' (w3m (m5 G' q s L R V U) q S P W) := ⟨h.1, fun j a => by rw [w3m_lo (by omega), m5_lo (by omega)]; exact h.2 j a⟩
/-- the class's way on, once a part is weighed -/
def xon (Gp : xG) (N : Nat) (c : Nat) (t : Int32) (Go : xG) (Fp : xF) : Option (xF × xG) := if (Gp 1) c = (-1) then some ((va_up Fp 5 ((Gp 1) c)), Go) else x_b2 (fX2_dueBehindPart (va_up Fp 5 ((Gp 1) c)) Go (nI c)) (fun r12 G13 => (fX2_finish_l7 Gp N) ((Gp 1) c) (t + 1) G13 (va_up (va_up Fp 5 ((Gp 1) c)) 4 r12))
theorem fin_w {Gp Go Go' : xG} {Fp : xF} {N c t : Nat} (hc : c < 40) (ht : t < 40) (h4 : Fp 4 = 7) (hw : fX0_weigh Go (nI c) = some Go') : fX2_finish_l7 Gp (N + 1) (nI c) (nI t) Go Fp = xon Gp N c (nI t) Go' Fp := by
  rw [fX2_finish_l7_e, if_neg (fun z => by have := (q_le (a := 40) (b := t) (by omega) (by omega)).mp z; omega), if_pos h4, q_b1 hw, q_ld hc (by omega), q_cl (by omega)]
  rfl
theorem fin (st : Nat → Nat) (n : Nat) (Gp : xG) : ∀ (b : Nat) (m : Nat → Option Nat) (q : Nat) (Go G : xG) (Fp F : xF) (c r t N N' : Nat), PB m st n q b (Gp 1) Go G → (∀ i, i < b → OE m Go G (st i) i) → m c = some r → r + 1 = q → (b = 0 → c = 0 ∧ Gp 1 c = -1) → (∀ a, b = a + 1 → Gp 1 c = nI (st a) ∧ st a < c) → Fp 4 = 7 → F 3 = nI q → F 12 = nI b → t + b < 40 → b < N → b < N' →
    ∃ (m' : Nat → Option Nat) (q' b' lk : Nat) (Fp' F' : xF) (Go' G' : xG), xon Gp N c (nI t) Go Fp = some (Fp', Go') ∧ fX6_end_l2 N' (nI r) F G = some (F', G') ∧ PB m' st n q' b' (Gp 1) Go' G' ∧ TP lk m' st q' b' Go' G' ∧ (6 ≤ lk ∧ lk ≤ 8) ∧ Fp' 4 = duo lk ∧ Fp' 5 = topc st b' ∧ F' 3 = nI q' ∧ F' 12 = nI b' ∧ F' 16 = nI lk ∧ Fp' 2 = Fp 2 ∧ Fp' 3 = Fp 3 ∧ rfr F G F' G' := by
  intro b
  induction b with
  | zero =>
    intro m q Go G Fp F c r t N N' B hO hm hr h0 hs h4 h3 h12 ht hN hN'
    cases N' with
    | zero => omega
    | succ N' =>
      obtain ⟨hc, hac⟩ := h0 rfl
      refine ⟨m, q, 0, 8, va_up Fp 5 (-1), va_up F 16 8, Go, G, ?_, ?_, B, Or.inr (Or.inl ⟨rfl, rfl, r, by rw [← hc]; exact hm, hr⟩), by decide, h4, u_s, h3, h12, rfl, rfl, rfl, rfr_F (rfr_refl F G) (by omega) 8⟩
      · rw [xon, hac, if_pos rfl]
      · rw [fX6_end_l2_e, h12, if_pos (by decide), fX6_end_x92_e, h12, if_pos (by decide)]
  | succ a ih =>
    intro m q Go G Fp F c r t N N' B hO hm hr h0 hs h4 h3 h12 ht hN hN'
    cases N with
    | zero => omega
    | succ N =>
    cases N' with
    | zero => omega
    | succ N' =>
      obtain ⟨hac, hpc⟩ := hs a rfl
      have B0 := B
      obtain ⟨b1, b2, b3, b4, b5, b6, b7, b8, b9⟩ := B
      obtain ⟨p1, p2⟩ := b6 a (by omega)
      obtain ⟨c1, c2, -⟩ := b3 c r hm
      generalize hp : st a = p at *
      have hk : ∀ x y, m x = some y → x ≠ p := fun x y h e => by rw [e, p2] at h; cases h
      have hsi : ∀ i, i < a → st i ≠ p := fun i hi => by have := b7 i a hi (by omega); omega
      obtain ⟨s, s13, hcase⟩ := hO a (by omega)
      rw [hp] at hcase
      have hF1 : F 12 - 1 = nI a := by rw [h12, nI_pred]
      -- the class's step to the part around
      have hx : ∀ (w : Int32) (X : xG), fX2_dueBehindPart (va_up Fp 5 (nI p)) Go (nI c) = some (w, X) → xon Gp (N + 1) c (nI t) Go Fp = fX2_finish_l7 Gp (N + 1) (nI p) (nI (t + 1)) X (va_up (va_up Fp 5 (nI p)) 4 w) := fun w X h => by
        rw [xon, hac, if_neg (q_ne1 (by omega)), b_b2 h, nI_1]
      have hout : ∀ (w : Int32) (X : xG), ¬ w = 7 → fX2_dueBehindPart (va_up Fp 5 (nI p)) Go (nI c) = some (w, X) → xon Gp (N + 1) c (nI t) Go Fp = some (va_up (va_up Fp 5 (nI p)) 4 w, X) := fun w X hw h => by
        rw [hx w X h, fX2_finish_l7_e, if_neg (fun z => by have := (q_le (a := 40) (b := t + 1) (by omega) (by omega)).mp z; omega), u_s, if_neg hw]
      -- the reference's step, where it goes on
      have hgo : ∀ (X : xG), fX2_dueBehindPart (va_up Fp 5 (nI p)) Go (nI c) = some (7, X) → (∀ x, x ≠ p → ∀ k, X k x = Go k x) → RD m X p s (nI r) (-1) (G 14 a) (G 15 a) → (s = 2 ∨ (6 ≤ s ∧ s ≤ 9)) → ∃ (m' : Nat → Option Nat) (q' b' lk : Nat) (Fp' F' : xF) (Go' G' : xG), xon Gp (N + 1) c (nI t) Go Fp = some (Fp', Go') ∧ fX6_end_l2 (N' + 1) (nI r) F G = some (F', G') ∧ PB m' st n q' b' (Gp 1) Go' G' ∧ TP lk m' st q' b' Go' G' ∧ (6 ≤ lk ∧ lk ≤ 8) ∧ Fp' 4 = duo lk ∧ Fp' 5 = topc st b' ∧ F' 3 = nI q' ∧ F' 12 = nI b' ∧ F' 16 = nI lk ∧ Fp' 2 = Fp 2 ∧ Fp' 3 = Fp 3 ∧ rfr F G F' G' := fun X h1 h2 h3x h4x => by
        have BX : PB m st n q (a + 1) (Gp 1) X G := PB_mono B0 (fun x y hxy => h2 x (hk x y hxy)) (fun _ _ _ _ _ => rfl)
        obtain ⟨S, P, W, e1, e2, e3, e4⟩ := wmk (F := va_up F 12 (nI a)) BX hp h3 h3x
        obtain ⟨m', q', b', lk, Fp', F', Go', G', i1, i2, i3⟩ := ih (va_up m p (some q)) (q + 1) (w3 X p S P W) (w3m (m5 G q (nI s) (nI r) (-1) (G 14 a) (G 15 a)) q S P W) (va_up (va_up Fp 5 (nI p)) 4 7) (va_up (va_up F 12 (nI a)) 3 (nI (q + 1))) p q (t + 1) N N' e3 (fun i hi => OE_mono e4 (fun k => by rw [w3_ne (hsi i hi), h2 _ (hsi i hi)]) (fun k k1 k2 => by rw [w3m_lo (by omega), m5_lo (by omega)]) (hO i (by omega))) u_s rfl (fun ha => by
            subst ha
            obtain ⟨z1, z2⟩ := b8 (by omega)
            rw [hp] at z1
            exact ⟨z1, by rw [z1]; exact z2⟩) (fun a' ha => by
            subst ha
            have z := b9 a' (by omega)
            rw [hp] at z
            exact ⟨z, by have := b7 a' (a' + 1) (by omega) (by omega); omega⟩) rfl rfl rfl (by omega) (by omega) (by omega)
        obtain ⟨j1, j2, j3, j4, j5, j6, j7, j8, j9, j10, j11⟩ := i3
        refine ⟨m', q', b', lk, Fp', F', Go', G', ?_, ?_, j1, j2, j3, j4, j5, j6, j7, j8, j9.trans rfl, j10.trans rfl, rfr_trans (rfr_m (rfr_F (rfr_F (rfr_refl F G) (by omega) (nI a)) (by omega) (nI (q + 1)))) j11⟩
        · rw [hx 7 X h1, fin_w (by omega) (by omega) rfl e1, i1]
        · have hj : fX6_end_j45 (fX6_end_l2 N') F G (nI r) = some (F', G') := by
            rw [fX6_end_j45_e, hF1, q_ld (by omega) (by omega), q_ld (by omega) (by omega), q_ld (by omega) (by omega), q_cl (by omega), s13, b_b3 e2, i2]
          rw [fX6_end_l2_e, h12, if_neg (nI_nle (by omega) (by omega)), ← h12, hF1, q_ld (by omega) (by omega), q_ld (by omega) (by omega), q_cl (by omega), s13]
          by_cases e : s = 2
          · rw [if_pos (by exact congrArg nI e), hj]
          · rw [if_neg (by exact fun z => e ((nI_eq (b := 2) (by omega) (by omega)).mp z)), fX6_in_e, if_neg (fun z => by have := (q_lt (a := s) (b := 6) (by omega) (by omega)).mp z; omega), if_neg (fun z => by have := (q_lt (a := 9) (b := s) (by omega) (by omega)).mp z; omega), q_b1 rfl, if_neg q_10, hj]
      -- the reference's step, where it stops
      have hstop : ∀ (F' : xF) (G' : xG), (3 ≤ s ∧ s ≤ 5 ∨ s = 10) → fX6_end_x92 (nI r) F G = some (F', G') → fX6_end_l2 (N' + 1) (nI r) F G = some (F', G') := fun F' G' h1 h2 => by
        rw [fX6_end_l2_e, h12, if_neg (nI_nle (by omega) (by omega)), ← h12, hF1, q_ld (by omega) (by omega), q_ld (by omega) (by omega), q_cl (by omega), s13, if_neg (by exact fun z => absurd ((nI_eq (b := 2) (by omega) (by omega)).mp z) (by omega)), fX6_in_e]
        rcases h1 with h1 | h1
        · rw [if_pos (by exact (q_lt (b := 6) (by omega) (by omega)).mpr (by omega)), q_b1 rfl, if_pos rfl, h2]
        · rw [if_neg (fun z => by have := (q_lt (a := s) (b := 6) (by omega) (by omega)).mp z; omega), if_pos (by exact (q_lt (a := 9) (by omega) (by omega)).mpr (by omega)), q_b1 rfl, if_pos rfl, h2]
      have h12n : ¬ F 12 = 0 := by rw [h12]; exact nI_ne0 (by omega) (by omega)
      have hX3 : ∀ x, x ≠ p → ∀ k, (va_up Go 3 (upd (Go 3) p (nI c))) k x = Go k x := fun x hx k => va_ne hx k
      have hdue : ∀ (k0 : Int32), Go 0 p = k0 → fX0_isOperator k0 = some 0 → fX2_dueBehindPart (va_up Fp 5 (nI p)) Go (nI c) = some (if k0 = 40 then 5 else 7, va_up Go 3 (upd (Go 3) p (nI c))) := fun k0 h1 h2 => by
        rw [fX2_dueBehindPart_e, u_s, q_ld (by omega) (by omega), q_cl (by omega), h1, q_b1 h2, if_pos rfl, q_ld (by omega) (by omega), q_ld (by omega) (by omega)]
        split <;> rfl
      have hf3 : (va_up Go 3 (upd (Go 3) p (nI c))) 3 p = nI c := by show upd (Go 3) p (nI c) p = nI c; rw [pk_us]
      rcases hcase with ⟨rfl, k0, k14, k15⟩ | ⟨rfl, k0⟩ | ⟨t1, t2, k0, f, rf, f1, f2, f3, f4⟩ | ⟨t1, t2, k0, k15, v, v1, v2, v3⟩ | ⟨t1, t2, k0, v, u, v1, u1, v2, v3, u2, u3⟩
      · have hd := hdue (kc 2) k0 rfl
        rw [if_neg (by decide)] at hd
        exact hgo _ hd hX3 ⟨by decide, k0, fun h => by omega, fun _ => k14, fun h => by omega, fun _ => k15, fun _ => ⟨c, r, hpc, hm, hf3, rfl⟩, fun h => by omega, fun h => by omega, fun _ => rfl⟩ (Or.inl rfl)
      · have hd := hdue 40 k0 rfl
        rw [if_pos rfl] at hd
        refine ⟨m, q, a + 1, 6, va_up (va_up Fp 5 (nI p)) 4 5, va_up F 16 6, va_up Go 3 (upd (Go 3) p (nI c)), va_up G 14 (upd (G 14) a (nI r)), hout 5 _ (by decide) hd, ?_, PB_mono B0 (fun x y hxy => hX3 x (hk x y hxy)) (fun k r' _ k1 k2 => by rw [u_n (by omega)]), Or.inr (Or.inr ⟨a, rfl, fun i hi => OE_mono (fun _ _ h => h) (hX3 _ (hsi i hi)) (fun k k1 k2 => va_ne (show i ≠ a by omega) k) (hO i (by omega)), ?_⟩), by decide, rfl, ?_, h3, h12, rfl, rfl, rfl, rfr_G (rfr_F (rfr_refl F G) (by omega) 6) (by omega) _⟩
        · apply hstop _ _ (Or.inr rfl)
          rw [fX6_end_x92_e, if_neg h12n, hF1, q_ld (by omega) (by omega), q_cl (by omega), s13, if_pos (by decide), q_ld (by omega) (by omega)]
        · rw [hp]
          exact Or.inr (Or.inr (Or.inr (Or.inr (Or.inr (Or.inl ⟨rfl, c, r, hpc, hm, hf3, by show upd (G 14) a (nI r) a = nI r; rw [pk_us]⟩)))))
        · show nI p = topc st (a + 1); rw [topc, hp]
      · have hop : fX0_isOperator (kc s) = some 1 := by
          rcases (show s = 3 ∨ s = 4 ∨ s = 5 by omega) with rfl | rfl | rfl <;> rfl
        have hd : fX2_dueBehindPart (va_up Fp 5 (nI p)) Go (nI c) = some (6, va_up Go 4 (upd (Go 4) p (nI c))) := by
          rw [fX2_dueBehindPart_e, u_s, q_ld (by omega) (by omega), q_cl (by omega), k0, q_b1 hop, if_neg q_10, q_ld (by omega) (by omega)]
        have hX4 : ∀ x, x ≠ p → ∀ k, (va_up Go 4 (upd (Go 4) p (nI c))) k x = Go k x := fun x hx k => va_ne hx k
        refine ⟨m, q, a + 1, 7, va_up (va_up Fp 5 (nI p)) 4 6, va_up F 16 7, va_up Go 4 (upd (Go 4) p (nI c)), va_up G 15 (upd (G 15) a (nI r)), hout 6 _ (by decide) hd, ?_, PB_mono B0 (fun x y hxy => hX4 x (hk x y hxy)) (fun k r' _ k1 k2 => by rw [u_n (by omega)]), Or.inr (Or.inr ⟨a, rfl, fun i hi => OE_mono (fun _ _ h => h) (hX4 _ (hsi i hi)) (fun k k1 k2 => va_ne (show i ≠ a by omega) k) (hO i (by omega)), ?_⟩), by decide, rfl, ?_, h3, h12, rfl, rfl, rfl, rfr_G (rfr_F (rfr_refl F G) (by omega) 7) (by omega) _⟩
        · apply hstop _ _ (Or.inl ⟨t1, t2⟩)
          rw [fX6_end_x92_e, if_neg h12n, hF1, q_ld (by omega) (by omega), q_cl (by omega), s13, if_neg (by exact fun z => absurd ((nI_eq (b := 10) (by omega) (by omega)).mp z) (by omega)), q_ld (by omega) (by omega)]
        · rw [hp]
          exact Or.inr (Or.inr (Or.inr (Or.inr (Or.inr (Or.inr ⟨rfl, s, t1, t2, k0, s13, f, rf, f1, f2, f3, f4, c, r, hpc, hm, by show upd (Go 4) p (nI c) p = nI c; rw [pk_us], by show upd (G 15) a (nI r) a = nI r; rw [pk_us]⟩)))))
        · show nI p = topc st (a + 1); rw [topc, hp]
      · have hop : fX0_isOperator (kc s) = some 0 ∧ ¬ kc s = 40 := by
          rcases (show s = 6 ∨ s = 7 by omega) with rfl | rfl <;> exact ⟨rfl, by decide⟩
        have hd := hdue (kc s) k0 hop.1
        rw [if_neg hop.2] at hd
        exact hgo _ hd hX3 ⟨by omega, k0, fun _ => ⟨v, v1, v2, v3⟩, fun h => by omega, fun h => by omega, fun _ => k15, fun _ => ⟨c, r, hpc, hm, hf3, rfl⟩, fun h => by omega, fun h => by omega, fun _ => rfl⟩ (Or.inr ⟨t1, by omega⟩)
      · have hop : fX0_isOperator (kc s) = some 0 ∧ ¬ kc s = 40 := by
          rcases (show s = 8 ∨ s = 9 by omega) with rfl | rfl <;> exact ⟨rfl, by decide⟩
        have hd := hdue (kc s) k0 hop.1
        rw [if_neg hop.2] at hd
        exact hgo _ hd hX3 ⟨by omega, k0, fun _ => ⟨v, v1, v2, v3⟩, fun h => by omega, fun _ => ⟨u, u1, u2, u3⟩, fun h => by omega, fun _ => ⟨c, r, hpc, hm, hf3, rfl⟩, fun h => by omega, fun h => by omega, fun _ => rfl⟩ (Or.inr ⟨by omega, t2⟩)
end QF
