section QSB
/-! one letter read by both, where a part waits for it -/
theorem LT_nv {ch : Int32} (h : LT ch) (hv : ¬ ∃ v, v < 3 ∧ ch = nI (120 + v)) : NV ch := by
  rcases h with h | rfl | rfl | rfl | rfl | rfl | rfl | rfl | rfl | rfl | rfl | rfl | rfl
  · exact absurd h hv
  all_goals exact ⟨rfl, rfl⟩
/-- the class's case, by what is due -/
theorem tk1 {Fp : xF} {Gp : xG} {Fo : xF} {Go : xG} {ch : Int32} (h4 : Fp 4 = 1) : fX2_takes Fp Gp Fo Go ch = (if ch = 60 then (fX2_takes_j67 Fp Go Gp Fo ch) else (if ch = 61 then (fX2_takes_j67 Fp Go Gp Fo ch) else (fX2_takes_j72 Fp Go Gp Fo ch) 0)) := by
  rw [fX2_takes_e, if_neg (by rw [h4]; decide), if_pos h4]
theorem tk2 {Fp : xF} {Gp : xG} {Fo : xF} {Go : xG} {ch : Int32} (h4 : Fp 4 = 2) : fX2_takes Fp Gp Fo Go ch = x_b3 (fX2_takesLimit Fp Go ch 7) (fun r18 F19 G20 => some (x_zn r18, F19, Gp, Fo, G20)) := by
  rw [fX2_takes_e, if_neg (by rw [h4]; decide), if_neg (by rw [h4]; decide), if_pos h4]
theorem tk3 {Fp : xF} {Gp : xG} {Fo : xF} {Go : xG} {ch : Int32} (h4 : Fp 4 = 3) : fX2_takes Fp Gp Fo Go ch = x_b3 (fX2_takesVariable Fp Go ch) (fun r23 F24 G25 => some (x_zn r23, F24, Gp, Fo, G25)) := by
  rw [fX2_takes_e, if_neg (by rw [h4]; decide), if_neg (by rw [h4]; decide), if_neg (by rw [h4]; decide), if_pos h4]
theorem tk4 {Fp : xF} {Gp : xG} {Fo : xF} {Go : xG} {ch : Int32} (h4 : Fp 4 = 4) : fX2_takes Fp Gp Fo Go ch = x_b3 (fX2_takesLimit Fp Go ch 0) (fun r28 F29 G30 => some (x_zn r28, F29, Gp, Fo, G30)) := by
  rw [fX2_takes_e, if_neg (by rw [h4]; decide), if_neg (by rw [h4]; decide), if_neg (by rw [h4]; decide), if_neg (by rw [h4]; decide), if_pos h4]
theorem tk5 {Fp : xF} {Gp : xG} {Fo : xF} {Go : xG} {ch : Int32} (h4 : Fp 4 = 5) : fX2_takes Fp Gp Fo Go ch = x_b1 (fX0_isOperator ch) (fun r33 => x_b3 (fX2_takesKind Fp Go r33 ch 0) (fun r35 F36 G37 => some (x_zn r35, F36, Gp, Fo, G37))) := by
  rw [fX2_takes_e, if_neg (by rw [h4]; decide), if_neg (by rw [h4]; decide), if_neg (by rw [h4]; decide), if_neg (by rw [h4]; decide), if_neg (by rw [h4]; decide), if_pos h4]
theorem tk6 {Fp : xF} {Gp : xG} {Fo : xF} {Go : xG} {ch : Int32} (h4 : Fp 4 = 6) : fX2_takes Fp Gp Fo Go ch = x_b2 (fX2_takesClose Fp ch) (fun r40 F41 => some (x_zn r40, F41, Gp, Fo, Go)) := by
  rw [fX2_takes_e, if_neg (by rw [h4]; decide), if_neg (by rw [h4]; decide), if_neg (by rw [h4]; decide), if_neg (by rw [h4]; decide), if_neg (by rw [h4]; decide), if_neg (by rw [h4]; decide), if_pos h4]
theorem tk7 {Fp : xF} {Gp : xG} {Fo : xF} {Go : xG} {ch : Int32} (h4 : Fp 4 = 7) : fX2_takes Fp Gp Fo Go ch = some (0, Fp, Gp, Fo, Go) := by
  rw [fX2_takes_e, if_neg (by rw [h4]; decide), if_neg (by rw [h4]; decide), if_neg (by rw [h4]; decide), if_neg (by rw [h4]; decide), if_neg (by rw [h4]; decide), if_neg (by rw [h4]; decide), if_neg (by rw [h4]; decide)]
theorem limY {Fp : xF} {Go : xG} {ch d : Int32} {c v : Nat} (h5 : Fp 5 = nI c) (hc : c < 40) (hv : fX2_isVariable ch = some 1) (he : ch - 120 = nI v) : fX2_takesLimit Fp Go ch d = some (1, va_up Fp 4 d, va_up Go 2 (upd (Go 2) c (nI v))) := by
  rw [fX2_takesLimit_e, q_b1 hv, if_neg q_10, h5, q_ld hc (by omega), q_cl (by omega), he]
theorem limN {Fp : xF} {Go : xG} {ch d : Int32} (hv : fX2_isVariable ch = some 0) : fX2_takesLimit Fp Go ch d = some (0, Fp, Go) := by
  rw [fX2_takesLimit_e, q_b1 hv, if_pos rfl]
theorem kndY {Fp : xF} {Go : xG} {ch d : Int32} {c : Nat} (h5 : Fp 5 = nI c) (hc : c < 40) : fX2_takesKind Fp Go 1 ch d = some (1, va_up Fp 4 d, va_up Go 0 (upd (Go 0) c (x_cn ch))) := by
  rw [fX2_takesKind_e, if_neg q_10, h5, q_ld hc (by omega), q_cl (by omega), q_zn1]
theorem kndN {Fp : xF} {Go : xG} {ch d : Int32} : fX2_takesKind Fp Go 0 ch d = some (0, Fp, Go) := by
  rw [fX2_takesKind_e, if_pos rfl, q_zn0]
theorem varY {Fp : xF} {Go : xG} {ch w : Int32} {c v : Nat} (h5 : Fp 5 = nI c) (hc : c < 40) (hv : fX2_isVariable ch = some 1) (he : ch - 120 = nI v) (hb : fX0_isBounded (Go 0 c) = some w) : fX2_takesVariable Fp Go ch = some (1, va_up Fp 4 (if w = 0 then 0 else 4), va_up Go 1 (upd (Go 1) c (nI v))) := by
  rw [fX2_takesVariable_e, q_b1 hv, if_neg q_10, h5, q_ld hc (by omega), q_ld hc (by omega), q_cl (by omega), q_b1 hb, he]
  split <;> rfl
theorem varN {Fp : xF} {Go : xG} {ch : Int32} (hv : fX2_isVariable ch = some 0) : fX2_takesVariable Fp Go ch = some (0, Fp, Go) := by
  rw [fX2_takesVariable_e, q_b1 hv, if_pos rfl]
/-- the reference's case, by what it looks for -/
theorem gk {F : xF} {G : xG} {ch r : Int32} {lk : Nat} (hr : fX6_kindOf ch = some r) (h16 : F 16 = nI lk) (hl : lk = 2 ∨ lk = 3 ∨ lk = 4 ∨ lk = 5) : fX6_goesOn F G ch = x_b3 (fX6_names F G ch) (fun r14 F15 G16 => some (x_zn r14, F15, G16)) := by
  rw [fX6_goesOn_e, q_b1 hr, h16]
  rcases hl with rfl | rfl | rfl | rfl
  · rw [if_neg (by decide), if_neg (by decide), if_pos (by decide)]
  · rw [if_neg (by decide), if_neg (by decide), if_neg (by decide), if_pos (by decide)]
  · rw [if_neg (by decide), if_neg (by decide), if_neg (by decide), if_neg (by decide), if_pos (by decide)]
  · rw [if_neg (by decide), if_neg (by decide), if_neg (by decide), if_neg (by decide), if_neg (by decide), if_pos (by decide)]
theorem namN {F : xF} {G : xG} {ch : Int32} (hv : fX6_variableOf ch = some (-1)) : fX6_names F G ch = some (0, F, G) := by
  rw [fX6_names_e, q_b1 hv, if_pos rfl]
theorem nam5 {F : xF} {G : xG} {ch : Int32} {v a : Nat} (hvl : v < 3) (hv : fX6_variableOf ch = some (nI v)) (h16 : F 16 = nI 5) (h12 : F 12 - 1 = nI a) (ha : a < 41) : fX6_names F G ch = some (1, va_up F 16 0, va_up G 15 (upd (G 15) a (nI v))) := by
  rw [fX6_names_e, q_b1 hv, if_neg (q_ne1 (by omega)), h16, if_neg (by decide), if_pos (by decide), h12, q_ld ha (by omega), q_cl (by omega)]
theorem nam3 {F : xF} {G : xG} {ch : Int32} {v a : Nat} (hvl : v < 3) (hv : fX6_variableOf ch = some (nI v)) (h16 : F 16 = nI 3) (h12 : F 12 - 1 = nI a) (ha : a < 41) : fX6_names F G ch = some (1, va_up F 16 0, va_up G 14 (upd (G 14) a (nI v))) := by
  rw [fX6_names_e, q_b1 hv, if_neg (q_ne1 (by omega)), h16, if_neg (by decide), if_neg (by decide), h12, q_ld ha (by omega), if_neg (by decide), q_cl (by omega)]
theorem nam4 {F : xF} {G : xG} {ch : Int32} {v a : Nat} (hvl : v < 3) (hv : fX6_variableOf ch = some (nI v)) (h16 : F 16 = nI 4) (h12 : F 12 - 1 = nI a) (ha : a < 41) : fX6_names F G ch = some (1, va_up F 16 5, va_up G 14 (upd (G 14) a (nI v))) := by
  rw [fX6_names_e, q_b1 hv, if_neg (q_ne1 (by omega)), h16, if_neg (by decide), if_neg (by decide), h12, q_ld ha (by omega), if_pos (by decide), q_cl (by omega)]
/-- the part on top goes on: both go on -/
theorem go1 {k qn : Nat} {ch : Int32} {Fp Fo F : xF} {Gp Go P1 G G1 : xG} {m : Nat → Option Nat} {st : Nat → Nat} {n q a lk' : Nat} (B : PB m st n q (a + 1) (Gp 1) Go G) (hO : ∀ i, i < a → OE m Go G (st i) i) (h3 : Fp 3 = -1) (h5 : Fp 5 = nI (st a)) (hnk : n ≤ k) (h9 : Fo 9 = nI n) (h10 : Fo 10 = nI qn) (g3 : F 3 = nI q) (g12 : F 12 = nI (a + 1))
    (ht : fX2_takes Fp Gp Fo Go ch = some (1, va_up Fp 4 (duo lk'), Gp, Fo, P1)) (hd7 : ¬ duo lk' = 7) (hP1 : ∀ x, x ≠ st a → ∀ k, P1 k x = Go k x)
    (hg : fX6_goesOn F G ch = some (1, va_up F 16 (nI lk'), G1)) (hG1 : ∀ k, k < 13 ∨ 15 < k → G1 k = G k) (hG2 : ∀ i, i ≠ a → ∀ k, G1 k i = G k i) (hq : isq ch = 0)
    (hnew : lk' = 0 ∧ OE m P1 G1 (st a) a ∨ TT lk' m P1 G1 (st a) a) : GO k qn ch Fp Gp Fo Go F G := by
  have hsi : ∀ i, i < a → st i ≠ st a := fun i hi => by have := B.2.2.2.2.2.2.1 i a hi (by omega); omega
  have hcn : ∀ x y, m x = some y → x ≠ st a := fun x y h e => by rw [e, (B.2.2.2.2.2.1 a (by omega)).2] at h; cases h
  have hOE : ∀ i, i < a → OE m P1 G1 (st i) i := fun i hi => OE_mono (fun _ _ h => h) (hP1 _ (hsi i hi)) (fun k _ _ => hG2 i (by omega) k) (hO i hi)
  have hB : PB m st n q (a + 1) (Gp 1) P1 G1 := PB_mono B (fun x y h => hP1 x (hcn x y h)) (fun k r _ k1 k2 => by rw [hG1 k (by omega)])
  refine ⟨va_up Fp 4 (duo lk'), Gp, Fo, P1, va_up F 16 (nI lk'), G1, ty_go h3 ht hd7 rfl, h3, hg, ⟨m, st, n, q, a + 1, lk', hB, ?_, rfl, h5, h9, by rw [hq]; exact h10, g3, g12, rfl, by omega, fun _ h => by omega⟩, ⟨fun j _ _ h => u_n h, fun j hj => hG1 j (by omega)⟩⟩
  rcases hnew with ⟨e, h⟩ | h
  · refine Or.inl ⟨e, fun i hi => ?_⟩
    by_cases e2 : i = a
    · subst e2; exact h
    · exact hOE i (by omega)
  · exact Or.inr (Or.inr ⟨a, rfl, hOE, h⟩)
/-- the part on top is whole: both go on -/
theorem go2 {k qn : Nat} {ch : Int32} {Fp Fo F F1 : xF} {Gp Go P1 G G1 : xG} {m : Nat → Option Nat} {st : Nat → Nat} {n q a s : Nat} {L R V U : Int32} (B : PB m st n q (a + 1) (Gp 1) P1 G) (hO : ∀ i, i < a → OE m P1 G (st i) i) (hRD : RD m P1 (st a) s L R V U) (h3 : Fp 3 = -1) (h5 : Fp 5 = nI (st a)) (hnk : n ≤ k) (h9 : Fo 9 = nI n) (h10 : Fo 10 = nI qn) (g3 : F 3 = nI q)
    (ht : fX2_takes Fp Gp Fo Go ch = some (1, va_up Fp 4 7, Gp, Fo, P1)) (hq : isq ch = 0)
    (hg : ∀ (F1 : xF) (G1 : xG) (F' : xF) (G' : xG), fX6_make (va_up F 12 (nI a)) G (nI s) L R V U = some (nI q, F1, G1) → fX6_end F1 G1 (nI q) = some (F', G') → fX6_goesOn F G ch = some (1, F', G')) : GO k qn ch Fp Gp Fo Go F G := by
  obtain ⟨F2, G2, m', q', b', lk, Fp', F', Go', G', e1, e2, e3, e4, e5, e6, e7, e8, e9, e10, e11, e12, e13, e14⟩ := fini (Fp := va_up Fp 4 7) B hO hRD rfl h5 g3
  refine ⟨Fp', Gp, Fo, Go', F', G', ty_fin h3 ht rfl e3 (e12.trans rfl), e13.trans h3, hg F2 G2 F' G' e1 e2, ⟨m', st, n, q', b', lk, e4, e5, e7, e8, h9, by rw [hq]; exact h10, e9, e10, e11, by omega, fun h => by omega⟩, e14⟩
/-- a letter for a part that waits -/
theorem stT {k qn : Nat} {ch : Int32} {Fp Fo F : xF} {Gp Go G : xG} {m : Nat → Option Nat} {st : Nat → Nat} {n q a lk : Nat} (B : PB m st n q (a + 1) (Gp 1) Go G) (hO : ∀ i, i < a → OE m Go G (st i) i) (hT : TT lk m Go G (st a) a) (h3 : Fp 3 = -1) (h4 : Fp 4 = duo lk) (h5 : Fp 5 = nI (st a)) (h9 : Fo 9 = nI n) (h10 : Fo 10 = nI qn) (g3 : F 3 = nI q) (g12 : F 12 = nI (a + 1)) (g16 : F 16 = nI lk) (hnk : n ≤ k) (hl : LT ch) : GO k qn ch Fp Gp Fo Go F G ∨ NO ch Fp Gp Fo Go F G := by
  have hb : a < 41 := by have := B.1; have := B.2.1; omega
  have hc : st a < 40 := by have := B.2.1; have := (B.2.2.2.2.2.1 a (by omega)).1; omega
  have gm : F 12 - 1 = nI a := by rw [g12, nI_pred]
  have fr16 : ∀ w, rfr F G (va_up F 16 w) G := fun w => rfr_F (rfr_refl F G) (by omega) w
  have hsi : ∀ i, i < a → st i ≠ st a := fun i hi => by have := B.2.2.2.2.2.2.1 i a hi (by omega); omega
  have hcn : ∀ x y, m x = some y → x ≠ st a := fun x y h e => by rw [e, (B.2.2.2.2.2.1 a (by omega)).2] at h; cases h
  have hkd : ∃ r, fX6_kindOf ch = some r := by
    rcases hl with ⟨v, hv, e⟩ | rfl | rfl | rfl | rfl | rfl | rfl | rfl | rfl | rfl | rfl | rfl | rfl
    · exact ⟨_, (vl hv e).1⟩
    all_goals exact ⟨_, rfl⟩
  obtain ⟨r, hr⟩ := hkd
  have uc : ∀ (A w : Nat) (x : Int32), (va_up Go A (upd (Go A) (st a) x)) A (st a) = x := fun A w x => by rw [u_s, pk_us]
  have un : ∀ (A K : Nat) (x : Int32), K ≠ A → (va_up Go A (upd (Go A) (st a) x)) K (st a) = Go K (st a) := fun A K x h => by rw [u_n h]
  have gs : ∀ (A : Nat) (x : Int32), (va_up G A (upd (G A) a x)) A a = x := fun A x => by rw [u_s, pk_us]
  have gn : ∀ (A K : Nat) (x : Int32), K ≠ A → (va_up G A (upd (G A) a x)) K a = G K a := fun A K x h => by rw [u_n h]
  have gl : ∀ (A : Nat) (x : Int32), 13 ≤ A → A ≤ 15 → ∀ K, K < 13 ∨ 15 < K → (va_up G A (upd (G A) a x)) K = G K := fun A x a1 a2 K hK => u_n (by omega)
  rcases hT with ⟨rfl, t13, v, v1, v2, v3⟩ | ⟨rfl, s, s1, s2, s3, v, v1, v2, v3⟩ | ⟨rfl, s, s1, s2, s3, s4, s5⟩ | ⟨rfl, s, s1, s2, s3, s4⟩ | ⟨rfl, s, s1, s2, s3, s4, v, v1, v2, v3⟩ | ⟨rfl, f, rf, f1, f2, f3, f4⟩ | ⟨rfl, s, s1, s2, s3, s4, f, rf, f1, f2, f3, f4, g, rg, w1, w2, w3, w4⟩
  · -- a relation
    have hgo : ∀ r', fX6_kindOf ch = some r' → fX6_goesOn F G ch = (if r' = 0 then some (1, (va_up F 16 2), (va_up G 13 (upd (G 13) a r'))) else (if r' = 1 then some (1, (va_up F 16 2), (va_up G 13 (upd (G 13) a r'))) else some (0, (va_up F 16 2), (va_up G 13 (upd (G 13) a r'))))) := fun r' h => by
      rw [fX6_goesOn_e, q_b1 h, g16, if_neg (by decide), if_pos (by decide), gm, q_ld hb (by omega), q_cl (by omega)]
    have good : ∀ s, s ≤ 1 → ch = kc s → fX6_kindOf ch = some (nI s) → (ch = 60 ∨ ch = 61) → x_cn ch = ch → isq ch = 0 → GO k qn ch Fp Gp Fo Go F G := fun s hs e hk h67 hcn2 hq => by
      have ht : fX2_takes Fp Gp Fo Go ch = some (1, va_up Fp 4 (duo 2), Gp, Fo, va_up Go 0 (upd (Go 0) (st a) (x_cn ch))) := by
        have hj : fX2_takes_j67 Fp Go Gp Fo ch = some (1, va_up Fp 4 (duo 2), Gp, Fo, va_up Go 0 (upd (Go 0) (st a) (x_cn ch))) := by
          rw [fX2_takes_j67_e, fX2_takes_j72_e, b_b3 (kndY h5 hc), q_zn1]; rfl
        rw [tk1 h4, hj]
        rcases h67 with h | h
        · rw [if_pos h]
        · rw [if_neg (by rw [h]; decide), if_pos h]
      refine go1 (lk' := 2) (P1 := va_up Go 0 (upd (Go 0) (st a) (x_cn ch))) (G1 := va_up G 13 (upd (G 13) a (nI s))) B hO h3 h5 hnk h9 h10 g3 g12 ht (by decide) (fun x hx k => va_ne hx k) ?_ (gl 13 _ (by decide) (by decide)) (fun i hi k => va_ne hi k) hq (Or.inr (Or.inr (Or.inl ⟨rfl, s, hs, ?_, gs 13 _, v, v1, ?_, ?_⟩)))
      · rw [hgo _ hk]
        rcases (show s = 0 ∨ s = 1 by omega) with rfl | rfl
        · rw [if_pos (by decide)]; rfl
        · rw [if_neg (by decide), if_pos (by decide)]; rfl
      · rw [uc 0 0, hcn2, e]
      · rw [un 0 1 _ (by decide)]; exact v2
      · rw [gn 13 14 _ (by decide)]; exact v3
    have bad : ¬ ch = 60 → ¬ ch = 61 → ¬ r = 0 → ¬ r = 1 → NO ch Fp Gp Fo Go F G := fun n1 n2 n3 n4 => by
      refine ⟨ty_no h3 ?_, _, _, ?_, rfr_G (k := 13) (fr16 2) (by omega) (upd (G 13) a r)⟩
      · rw [tk1 h4, if_neg n1, if_neg n2, fX2_takes_j72_e, b_b3 kndN, q_zn0]
      · rw [hgo r hr, if_neg n3, if_neg n4]
    rcases hl with ⟨v', hv', e⟩ | rfl | rfl | rfl | rfl | rfl | rfl | rfl | rfl | rfl | rfl | rfl | rfl
    · right
      have hr2 := (vl hv' e).1
      rw [hr] at hr2
      cases hr2
      refine bad ?_ ?_ (by decide) (by decide) <;> (subst e; rcases (show v' = 0 ∨ v' = 1 ∨ v' = 2 by omega) with rfl | rfl | rfl <;> decide)
    · right; cases hr; exact bad (by decide) (by decide) (by decide) (by decide)
    · right; cases hr; exact bad (by decide) (by decide) (by decide) (by decide)
    · right; cases hr; exact bad (by decide) (by decide) (by decide) (by decide)
    · right; cases hr; exact bad (by decide) (by decide) (by decide) (by decide)
    · right; cases hr; exact bad (by decide) (by decide) (by decide) (by decide)
    · right; cases hr; exact bad (by decide) (by decide) (by decide) (by decide)
    · right; cases hr; exact bad (by decide) (by decide) (by decide) (by decide)
    · right; cases hr; exact bad (by decide) (by decide) (by decide) (by decide)
    · right; cases hr; exact bad (by decide) (by decide) (by decide) (by decide)
    · right; cases hr; exact bad (by decide) (by decide) (by decide) (by decide)
    · left; exact good 0 (by decide) rfl rfl (Or.inl rfl) (by decide) (by decide)
    · left; exact good 1 (by decide) rfl rfl (Or.inr rfl) (by decide) (by decide)
  · -- the right variable of an atom
    by_cases hv' : ∃ v, v < 3 ∧ ch = nI (120 + v)
    · obtain ⟨u, u1, e⟩ := hv'
      obtain ⟨a1, a2, a3, a4, a5, a6, a7, a8, a9⟩ := vl u1 e
      left
      have ht : fX2_takes Fp Gp Fo Go ch = some (1, va_up Fp 4 7, Gp, Fo, va_up Go 2 (upd (Go 2) (st a) (nI u))) := by
        rw [tk2 h4, b_b3 (limY h5 hc a3 a4), q_zn1]
      refine go2 (s := s) (L := -1) (R := -1) (V := G 14 a) (U := nI u) (P1 := va_up Go 2 (upd (Go 2) (st a) (nI u))) (F1 := F) (G1 := G) (PB_mono B (fun x y h => fun k => va_ne (hcn x y h) k) (fun _ _ _ _ _ => rfl)) (fun i hi => OE_mono (fun _ _ h => h) (fun k => va_ne (hsi i hi) k) (fun _ _ _ => rfl) (hO i hi)) ⟨by omega, by rw [un 2 0 _ (by decide)]; exact s2, fun _ => ⟨v, v1, by rw [un 2 1 _ (by decide)]; exact v2, v3⟩, fun h => by omega, fun _ => ⟨u, u1, uc 2 0 _, rfl⟩, fun h => by omega, fun h => by omega, fun _ => rfl, fun h => by omega, fun _ => rfl⟩ h3 h5 hnk h9 h10 g3 ht a9 (fun F1 G1 F' G' e1 e2 => ?_)
      rw [gk a1 g16 (Or.inl rfl), fX6_names_e, q_b1 a2, if_neg (q_ne1 (by omega)), g16, if_pos (by decide), gm, q_ld hb (by omega), q_ld hb (by omega), q_cl (by omega), s3, b_b3 e1, b_b2 e2, b_b3 rfl, q_zn1]
    · right
      obtain ⟨n1, n2⟩ := LT_nv hl hv'
      refine ⟨ty_no h3 ?_, F, G, ?_, rfr_refl F G⟩
      · rw [tk2 h4, b_b3 (limN n2), q_zn0]
      · rw [gk hr g16 (Or.inl rfl), b_b3 (namN n1), q_zn0]
  · -- the variable of A or E
    by_cases hv' : ∃ v, v < 3 ∧ ch = nI (120 + v)
    · obtain ⟨u, u1, e⟩ := hv'
      obtain ⟨a1, a2, a3, a4, a5, a6, a7, a8, a9⟩ := vl u1 e
      left
      have hbd : fX0_isBounded (Go 0 (st a)) = some 0 := by
        rw [s3]; rcases (show s = 6 ∨ s = 7 by omega) with rfl | rfl <;> rfl
      have ht : fX2_takes Fp Gp Fo Go ch = some (1, va_up Fp 4 (duo 0), Gp, Fo, va_up Go 1 (upd (Go 1) (st a) (nI u))) := by
        rw [tk3 h4, b_b3 (varY h5 hc a3 a4 hbd), q_zn1, if_pos rfl]; rfl
      refine go1 (lk' := 0) (P1 := va_up Go 1 (upd (Go 1) (st a) (nI u))) (G1 := va_up G 14 (upd (G 14) a (nI u))) B hO h3 h5 hnk h9 h10 g3 g12 ht (by decide) (fun x hx k => va_ne hx k) ?_ (gl 14 _ (by decide) (by decide)) (fun i hi k => va_ne hi k) a9 (Or.inl ⟨rfl, s, ?_, Or.inr (Or.inr (Or.inr (Or.inl ⟨s1, s2, ?_, ?_, u, u1, uc 1 0 _, gs 14 _⟩)))⟩)
      · rw [gk a1 g16 (Or.inr (Or.inl rfl)), b_b3 (nam3 u1 a2 g16 gm hb), q_zn1]; rfl
      · rw [gn 14 13 _ (by decide)]; exact s4
      · rw [un 1 0 _ (by decide)]; exact s3
      · rw [gn 14 15 _ (by decide)]; exact s5
    · right
      obtain ⟨n1, n2⟩ := LT_nv hl hv'
      refine ⟨ty_no h3 ?_, F, G, ?_, rfr_refl F G⟩
      · rw [tk3 h4, b_b3 (varN n2), q_zn0]
      · rw [gk hr g16 (Or.inr (Or.inl rfl)), b_b3 (namN n1), q_zn0]
  · -- the variable of a or e
    by_cases hv' : ∃ v, v < 3 ∧ ch = nI (120 + v)
    · obtain ⟨u, u1, e⟩ := hv'
      obtain ⟨a1, a2, a3, a4, a5, a6, a7, a8, a9⟩ := vl u1 e
      left
      have hbd : fX0_isBounded (Go 0 (st a)) = some 1 := by
        rw [s3]; rcases (show s = 8 ∨ s = 9 by omega) with rfl | rfl <;> rfl
      have ht : fX2_takes Fp Gp Fo Go ch = some (1, va_up Fp 4 (duo 5), Gp, Fo, va_up Go 1 (upd (Go 1) (st a) (nI u))) := by
        rw [tk3 h4, b_b3 (varY h5 hc a3 a4 hbd), q_zn1, if_neg q_10]; rfl
      refine go1 (lk' := 5) (P1 := va_up Go 1 (upd (Go 1) (st a) (nI u))) (G1 := va_up G 14 (upd (G 14) a (nI u))) B hO h3 h5 hnk h9 h10 g3 g12 ht (by decide) (fun x hx k => va_ne hx k) ?_ (gl 14 _ (by decide) (by decide)) (fun i hi k => va_ne hi k) a9 (Or.inr (Or.inr (Or.inr (Or.inr (Or.inr (Or.inl ⟨rfl, s, s1, s2, ?_, ?_, u, u1, uc 1 0 _, gs 14 _⟩))))))
      · rw [gk a1 g16 (Or.inr (Or.inr (Or.inl rfl))), b_b3 (nam4 u1 a2 g16 gm hb), q_zn1]; rfl
      · rw [un 1 0 _ (by decide)]; exact s3
      · rw [gn 14 13 _ (by decide)]; exact s4
    · right
      obtain ⟨n1, n2⟩ := LT_nv hl hv'
      refine ⟨ty_no h3 ?_, F, G, ?_, rfr_refl F G⟩
      · rw [tk3 h4, b_b3 (varN n2), q_zn0]
      · rw [gk hr g16 (Or.inr (Or.inr (Or.inl rfl))), b_b3 (namN n1), q_zn0]
  · -- the second variable of a or e
    by_cases hv' : ∃ v, v < 3 ∧ ch = nI (120 + v)
    · obtain ⟨u, u1, e⟩ := hv'
      obtain ⟨a1, a2, a3, a4, a5, a6, a7, a8, a9⟩ := vl u1 e
      left
      have ht : fX2_takes Fp Gp Fo Go ch = some (1, va_up Fp 4 (duo 0), Gp, Fo, va_up Go 2 (upd (Go 2) (st a) (nI u))) := by
        rw [tk4 h4, b_b3 (limY h5 hc a3 a4), q_zn1]; rfl
      refine go1 (lk' := 0) (P1 := va_up Go 2 (upd (Go 2) (st a) (nI u))) (G1 := va_up G 15 (upd (G 15) a (nI u))) B hO h3 h5 hnk h9 h10 g3 g12 ht (by decide) (fun x hx k => va_ne hx k) ?_ (gl 15 _ (by decide) (by decide)) (fun i hi k => va_ne hi k) a9 (Or.inl ⟨rfl, s, ?_, Or.inr (Or.inr (Or.inr (Or.inr ⟨s1, s2, ?_, v, u, v1, u1, ?_, ?_, uc 2 0 _, gs 15 _⟩)))⟩)
      · rw [gk a1 g16 (Or.inr (Or.inr (Or.inr rfl))), b_b3 (nam5 u1 a2 g16 gm hb), q_zn1]; rfl
      · rw [gn 15 13 _ (by decide)]; exact s4
      · rw [un 2 0 _ (by decide)]; exact s3
      · rw [un 2 1 _ (by decide)]; exact v2
      · rw [gn 15 14 _ (by decide)]; exact v3
    · right
      obtain ⟨n1, n2⟩ := LT_nv hl hv'
      refine ⟨ty_no h3 ?_, F, G, ?_, rfr_refl F G⟩
      · rw [tk4 h4, b_b3 (limN n2), q_zn0]
      · rw [gk hr g16 (Or.inr (Or.inr (Or.inr rfl))), b_b3 (namN n1), q_zn0]
  · -- an operator
    have hgo : ∀ r', fX6_kindOf ch = some r' → fX6_goesOn F G ch = x_b1 (fX6_in r' 3 5) (fun r35 => some (x_zn r35, (va_up F 16 0), (va_up G 13 (upd (G 13) a r')))) := fun r' h => by
      rw [fX6_goesOn_e, q_b1 h, g16, if_neg (by decide), if_neg (by decide), if_neg (by decide), if_neg (by decide), if_neg (by decide), if_neg (by decide), if_pos (by decide), gm, q_ld hb (by omega), q_cl (by omega)]
    have good : ∀ s, 3 ≤ s → s ≤ 5 → ch = kc s → fX6_kindOf ch = some (nI s) → fX0_isOperator ch = some 1 → fX6_in (nI s) 3 5 = some 1 → x_cn ch = ch → isq ch = 0 → GO k qn ch Fp Gp Fo Go F G := fun s hs1 hs2 e hk hop hin hcn2 hq => by
      have ht : fX2_takes Fp Gp Fo Go ch = some (1, va_up Fp 4 (duo 0), Gp, Fo, va_up Go 0 (upd (Go 0) (st a) (x_cn ch))) := by
        rw [tk5 h4, q_b1 hop, b_b3 (kndY h5 hc), q_zn1]; rfl
      refine go1 (lk' := 0) (P1 := va_up Go 0 (upd (Go 0) (st a) (x_cn ch))) (G1 := va_up G 13 (upd (G 13) a (nI s))) B hO h3 h5 hnk h9 h10 g3 g12 ht (by decide) (fun x hx k => va_ne hx k) ?_ (gl 13 _ (by decide) (by decide)) (fun i hi k => va_ne hi k) hq (Or.inl ⟨rfl, s, gs 13 _, Or.inr (Or.inr (Or.inl ⟨hs1, hs2, ?_, f, rf, f1, f2, ?_, ?_⟩))⟩)
      · rw [hgo _ hk, q_b1 hin, q_zn1]; rfl
      · rw [uc 0 0, hcn2, e]
      · rw [un 0 3 _ (by decide)]; exact f3
      · rw [gn 13 14 _ (by decide)]; exact f4
    have bad : fX0_isOperator ch = some 0 → fX6_in r 3 5 = some 0 → NO ch Fp Gp Fo Go F G := fun n1 n2 => by
      refine ⟨ty_no h3 ?_, _, _, ?_, rfr_G (k := 13) (fr16 0) (by omega) (upd (G 13) a r)⟩
      · rw [tk5 h4, q_b1 n1, b_b3 kndN, q_zn0]
      · rw [hgo r hr, q_b1 n2, q_zn0]
    rcases hl with ⟨v', hv', e⟩ | rfl | rfl | rfl | rfl | rfl | rfl | rfl | rfl | rfl | rfl | rfl | rfl
    · right
      have hr2 := (vl hv' e).1
      rw [hr] at hr2
      cases hr2
      refine bad ?_ (by decide)
      subst e; rcases (show v' = 0 ∨ v' = 1 ∨ v' = 2 by omega) with rfl | rfl | rfl <;> decide
    · right; cases hr; exact bad rfl rfl
    · right; cases hr; exact bad rfl rfl
    · right; cases hr; exact bad rfl rfl
    · right; cases hr; exact bad rfl rfl
    · right; cases hr; exact bad rfl rfl
    · right; cases hr; exact bad rfl rfl
    · right; cases hr; exact bad rfl rfl
    · left; exact good 3 (by decide) (by decide) rfl rfl rfl (by decide) (by decide) (by decide)
    · left; exact good 4 (by decide) (by decide) rfl rfl rfl (by decide) (by decide) (by decide)
    · left; exact good 5 (by decide) (by decide) rfl rfl rfl (by decide) (by decide) (by decide)
    · right; cases hr; exact bad rfl rfl
    · right; cases hr; exact bad rfl rfl
  · -- the end of a bracket
    have hgo : fX6_goesOn F G ch = (if ch = 41 then x_ld ((F 12) - 1) 41 (x_ld ((F 12) - 1) 41 (x_ld ((F 12) - 1) 41 (x_b3 (fX6_make (va_up F 12 ((F 12) - 1)) G ((G 13) ((F 12) - 1).toNatClampNeg) ((G 14) ((F 12) - 1).toNatClampNeg) ((G 15) ((F 12) - 1).toNatClampNeg) (-1) (-1)) (fun r45 F46 G47 => x_b2 (fX6_end F46 G47 r45) (fun F49 G50 => (fX6_goesOn_j175 ch) F49 G50))))) else (fX6_goesOn_j175 ch) F G) := by
      rw [fX6_goesOn_e, q_b1 hr, g16, if_neg (by decide), if_neg (by decide), if_neg (by decide), if_neg (by decide), if_neg (by decide), if_neg (by decide), if_neg (by decide), if_pos (by decide)]
    by_cases h41 : ch = 41
    · left
      have ht : fX2_takes Fp Gp Fo Go ch = some (1, va_up Fp 4 7, Gp, Fo, Go) := by
        rw [tk6 h4, fX2_takesClose_e, if_pos h41, b_b2 rfl, q_zn1]
      refine go2 (s := s) (L := G 14 a) (R := G 15 a) (V := -1) (U := -1) (P1 := Go) (F1 := F) (G1 := G) B hO ⟨by omega, s3, fun h => by omega, fun _ => rfl, fun h => by omega, fun _ => rfl, fun _ => ⟨f, rf, f1, f2, f3, f4⟩, fun h => by omega, fun _ => ⟨g, rg, w1, w2, w3, w4⟩, fun h => by omega⟩ h3 h5 hnk h9 h10 g3 ht (by rw [h41]; decide) (fun F1 G1 F' G' e1 e2 => ?_)
      rw [hgo, if_pos h41, gm, q_ld hb (by omega), q_ld hb (by omega), q_ld hb (by omega), q_cl (by omega), s4, b_b3 e1, b_b2 e2, fX6_goesOn_j175_e, if_pos h41]
    · right
      refine ⟨ty_no h3 ?_, F, G, ?_, rfr_refl F G⟩
      · rw [tk6 h4, fX2_takesClose_e, if_neg h41, b_b2 rfl, q_zn0]
      · rw [hgo, if_neg h41, fX6_goesOn_j175_e, if_neg h41]
/-- one letter: both go on, or both see that it is none -/
theorem step1 {k qn : Nat} {ch : Int32} {Fp Fo F : xF} {Gp Go G : xG} (h : PR k qn Fp Gp Fo Go F G) (h3 : Fp 3 = -1) (hk : k < 40) (hl : LT ch) : GO k qn ch Fp Gp Fo Go F G ∨ NO ch Fp Gp Fo Go F G := by
  obtain ⟨m, st, n, q, b, lk, B, T, e4, e5, e9, e10, f3, f12, f16, hnk, h0⟩ := h
  rcases T with ⟨rfl, hO⟩ | ⟨rfl, rfl, r, hr⟩ | ⟨a, rfl, hO, hT⟩
  · exact st0 B hO (h0 rfl) h3 e4 e5 e9 e10 f3 f12 f16 hnk hk hl
  · right
    refine ⟨ty_no h3 (tk7 e4), F, G, ?_, rfr_refl F G⟩
    have hkd : ∃ r, fX6_kindOf ch = some r := by
      rcases hl with ⟨v, hv, e⟩ | rfl | rfl | rfl | rfl | rfl | rfl | rfl | rfl | rfl | rfl | rfl | rfl
      · exact ⟨_, (vl hv e).1⟩
      all_goals exact ⟨_, rfl⟩
    obtain ⟨r, hr⟩ := hkd
    rw [fX6_goesOn_e, q_b1 hr, f16, if_neg (by decide), if_neg (by decide), if_neg (by decide), if_neg (by decide), if_neg (by decide), if_neg (by decide), if_neg (by decide), if_neg (by decide), if_pos (by decide)]
  · exact stT B hO hT h3 e4 e5 e9 e10 f3 f12 f16 hnk hl
end QSB
