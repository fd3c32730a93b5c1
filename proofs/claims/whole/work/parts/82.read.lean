section QRD
/-! the page -/
def rst (F : xF) : xF := va_up (va_up (va_up F 3 0) 12 0) 16 0
/-- k letters of w are read well, from F and G on -/
def RW (w : Nat → Int32) (F : xF) (G : xG) : Nat → xF → xG → Prop
  | 0, F', G' => F' = F ∧ G' = G
  | k + 1, F', G' => ∃ F1 G1, RW w F G k F1 G1 ∧ fX6_goesOn F1 G1 (w k) = some (1, F', G') ∧ rfr F1 G1 F' G'
theorem RW_fr {w : Nat → Int32} {F : xF} {G : xG} : ∀ (k : Nat) (F' : xF) (G' : xG), RW w F G k F' G' → rfr F G F' G' := by
  intro k
  induction k with
  | zero => rintro F' G' ⟨rfl, rfl⟩; exact rfr_refl _ _
  | succ k ih => rintro F' G' ⟨F1, G1, h1, -, h3⟩; exact rfr_trans (ih F1 G1 h1) h3
theorem RW_cg {w w' : Nat → Int32} {F : xF} {G : xG} : ∀ (k : Nat) (F' : xF) (G' : xG), (∀ j, j < k → w j = w' j) → RW w F G k F' G' → RW w' F G k F' G' := by
  intro k
  induction k with
  | zero => intro F' G' _ h; exact h
  | succ k ih =>
    rintro F' G' hw ⟨F1, G1, h1, h2, h3⟩
    exact ⟨F1, G1, ih F1 G1 (fun j hj => hw j (by omega)) h1, by rw [← hw k (by omega)]; exact h2, h3⟩
def qct (w : Nat → Int32) : Nat → Nat
  | 0 => 0
  | k + 1 => qct w k + isq (w k)
theorem qct_cg {w w' : Nat → Int32} : ∀ k, (∀ j, j < k → w j = w' j) → qct w k = qct w' k := by
  intro k
  induction k with
  | zero => intro _; rfl
  | succ k ih => intro h; rw [qct, qct, ih (fun j hj => h j (by omega)), h k (by omega)]
/-- the page of both -/
def LPg : XT := fun Fp Gp Fo Go ls pg => ∃ k : Nat, k ≤ 40 ∧ ls = nI k ∧ Fp 2 = nI k ∧
  ((Fp 3 = -1 ∧ ∀ F G, ∃ F' G', RW pg (rst F) G k F' G' ∧ PR k (qct pg k) Fp Gp Fo Go F' G')
  ∨ (∃ e, e < k ∧ Fp 3 = nI e ∧ ∀ F G, ∃ F1 G1 F2 G2, RW pg (rst F) G e F1 G1 ∧ fX6_goesOn F1 G1 (pg e) = some (0, F2, G2) ∧ rfr F1 G1 F2 G2))
theorem rst_fr (F : xF) (G : xG) : rfr F G (rst F) G := rfr_F (rfr_F (rfr_F (rfr_refl F G) (by omega) 0) (by omega) 0) (by omega) 0
theorem rd_go {w : Nat → Int32} {F : xF} {G : xG} {k : Nat} (h1 : F 1 = nI k) (h2 : G 2 = w) (hk : k ≤ 40) : ∀ (j : Nat) (F1 : xF) (G1 : xG) (N : Nat), j ≤ k → RW w F G j F1 G1 → fX6_read_l17 (N + j) 0 F G = fX6_read_l17 N (nI j) F1 G1 := by
  intro j
  induction j with
  | zero => rintro F1 G1 N _ ⟨rfl, rfl⟩; rfl
  | succ j ih =>
    rintro F2 G2 N hj ⟨F1, G1, e1, e2, e3⟩
    have hf := RW_fr j F1 G1 e1
    have f1 : F1 1 = nI k := (hf.1 1 (by decide) (by decide) (by decide)).trans h1
    have g2 : G1 2 = w := (hf.2 2 (by decide)).trans h2
    have h := ih F1 G1 (N + 1) (by omega) e1
    rw [show N + 1 + j = N + (j + 1) by omega] at h
    rw [h, fX6_read_l17_e, f1, if_neg (fun z => by have := (q_le (by omega) (by omega)).mp z; omega), q_ld (by omega) (by omega), q_cl (by omega), g2, b_b3 e2, if_neg q_10, nI_1]
theorem rd_yes {w : Nat → Int32} {F : xF} {G : xG} {k : Nat} (h1 : F 1 = nI k) (h2 : G 2 = w) (hk : k ≤ 40) {F1 : xF} {G1 : xG} (h : RW w (rst F) G k F1 G1) : fX6_read F G = some (nI k, F1, G1) := by
  have hf := RW_fr k F1 G1 h
  have f1 : F1 1 = nI k := (hf.1 1 (by decide) (by decide) (by decide)).trans h1
  have e := rd_go (F := rst F) (w := w) (k := k) h1 h2 hk k F1 G1 (4096 - k) (Nat.le_refl _) h
  rw [show 4096 - k + k = 4096 by omega] at e
  rw [fX6_read_e]
  refine e.trans ?_
  rw [show 4096 - k = 4095 - k + 1 by omega, fX6_read_l17_e, f1, if_pos ((q_le (by omega) (by omega)).mpr (Nat.le_refl _))]
theorem rd_no {w : Nat → Int32} {F : xF} {G : xG} {k e : Nat} (h1 : F 1 = nI k) (h2 : G 2 = w) (hk : k ≤ 40) (he : e < k) {F1 F2 : xF} {G1 G2 : xG} (h : RW w (rst F) G e F1 G1) (hg : fX6_goesOn F1 G1 (w e) = some (0, F2, G2)) : fX6_read F G = some (nI e, F2, G2) := by
  have hf := RW_fr e F1 G1 h
  have f1 : F1 1 = nI k := (hf.1 1 (by decide) (by decide) (by decide)).trans h1
  have g2 : G1 2 = w := (hf.2 2 (by decide)).trans h2
  have e2 := rd_go (F := rst F) (w := w) (k := k) h1 h2 hk e F1 G1 (4096 - e) (by omega) h
  rw [show 4096 - e + e = 4096 by omega] at e2
  rw [fX6_read_e]
  refine e2.trans ?_
  rw [show 4096 - e = 4095 - e + 1 by omega, fX6_read_l17_e, f1, if_neg (fun z => by have := (q_le (by omega) (by omega)).mp z; omega), q_ld (by omega) (by omega), q_cl (by omega), g2, b_b3 hg, if_pos rfl]
/-- what both know when the page is a formula -/
def WH (k : Nat) (pg : Nat → Int32) (Fo : xF) (Gp Go : xG) (F' : xF) (G' : xG) : Prop := ∃ (m : Nat → Option Nat) (st : Nat → Nat) (n r : Nat), PB m st n (r + 1) 0 (Gp 1) Go G' ∧ m 0 = some r ∧ Fo 9 = nI n ∧ Fo 10 = nI (qct pg k) ∧ F' 3 = nI (r + 1)
theorem PR_lk {k qn lk : Nat} {m : Nat → Option Nat} {st : Nat → Nat} {q b : Nat} {Go G : xG} (h : TP lk m st q b Go G) : lk = 8 ∨ (lk < 8 ∧ ¬ duo lk = 7 ∧ ¬ nI lk = 8) := by
  have key : ∀ l, l < 8 → (l < 8 ∧ ¬ duo l = 7 ∧ ¬ nI l = 8) := fun l hl => ⟨hl, by
    rcases (show l = 0 ∨ l = 1 ∨ l = 2 ∨ l = 3 ∨ l = 4 ∨ l = 5 ∨ l = 6 ∨ l = 7 by omega) with rfl | rfl | rfl | rfl | rfl | rfl | rfl | rfl <;> decide, fun z => by have := (nI_eq (b := 8) (by omega) (by omega)).mp z; omega⟩
  rcases h with ⟨rfl, -⟩ | ⟨rfl, -⟩ | ⟨a, -, -, hT⟩
  · exact Or.inr (key 0 (by decide))
  · exact Or.inl rfl
  · right
    rcases hT with ⟨rfl, -⟩ | ⟨rfl, -⟩ | ⟨rfl, -⟩ | ⟨rfl, -⟩ | ⟨rfl, -⟩ | ⟨rfl, -⟩ | ⟨rfl, -⟩ <;> exact key _ (by decide)
/-- whether the page is a formula -/
theorem ifm {Fp Fo : xF} {Gp Go : xG} {ls : Int32} {pg : Nat → Int32} (h : LPg Fp Gp Fo Go ls pg) {F : xF} {G : xG} (h1 : F 1 = ls) (h2 : G 2 = pg) : ∃ (w : Int32) (F' : xF) (G' : xG), fX6_isFormula F G = some (w, F', G') ∧ fX2_isFormula Fp = some w ∧ (w = 0 ∨ w = 1) ∧ rfr F G F' G' ∧ (w = 1 → ∃ k : Nat, ls = nI k ∧ k ≤ 40 ∧ WH k pg Fo Gp Go F' G') := by
  obtain ⟨k, hk, rfl, f2, hc⟩ := h
  rcases hc with ⟨f3, hc⟩ | ⟨e, he, f3, hc⟩
  · obtain ⟨F', G', r1, m, st, n, q, b, lk, B, T, e4, e5, e9, e10, d3, d12, d16, hnk, h0⟩ := hc F G
    have hrd := rd_yes h1 h2 hk r1
    have hf := rfr_trans (rst_fr F G) (RW_fr k F' G' r1)
    have f1 : F' 1 = nI k := (hf.1 1 (by decide) (by decide) (by decide)).trans h1
    rcases PR_lk (k := k) (qn := 0) T with rfl | ⟨l1, l2, l3⟩
    · refine ⟨1, F', G', ?_, ?_, Or.inr rfl, hf, fun _ => ⟨k, rfl, hk, ?_⟩⟩
      · rw [fX6_isFormula_e, b_b3 hrd, f1, if_pos rfl, d16, if_pos (by decide)]
      · rw [fX2_isFormula_e, if_pos f3, e4, if_pos (by decide)]
      · rcases T with ⟨h, -⟩ | ⟨-, rfl, r, t1, t2⟩ | ⟨a, -, -, hT⟩
        · cases h
        · subst t2
          exact ⟨m, st, n, r, B, t1, e9, e10, d3⟩
        · rcases hT with ⟨h, -⟩ | ⟨h, -⟩ | ⟨h, -⟩ | ⟨h, -⟩ | ⟨h, -⟩ | ⟨h, -⟩ | ⟨h, -⟩ <;> cases h
    · refine ⟨0, F', G', ?_, ?_, Or.inl rfl, hf, fun h => absurd h.symm q_10⟩
      · rw [fX6_isFormula_e, b_b3 hrd, f1, if_pos rfl, d16, if_neg l3]
      · rw [fX2_isFormula_e, if_pos f3, e4, if_neg l2]
  · obtain ⟨F1, G1, F2, G2, r1, r2, r3⟩ := hc F G
    have hrd := rd_no h1 h2 hk he r1 r2
    have hf := rfr_trans (rfr_trans (rst_fr F G) (RW_fr e F1 G1 r1)) r3
    have f1 : F2 1 = nI k := (hf.1 1 (by decide) (by decide) (by decide)).trans h1
    refine ⟨0, F2, G2, ?_, ?_, Or.inl rfl, hf, fun h => absurd h.symm q_10⟩
    · rw [fX6_isFormula_e, b_b3 hrd, f1, if_neg (fun z => by have := (nI_eq (by omega) (by omega)).mp z; omega)]
    · rw [fX2_isFormula_e, f3, if_neg (q_ne1 (by omega))]
theorem LZ_fr {Fz : xF} {Gz : xG} {F F' : xF} {G G' : xG} (h : LZ Fz Gz F G) (hr : rfr F G F' G') : LZ Fz Gz F' G' := by
  obtain ⟨e6, e7, e8, g0, g1, g2, g3, g4, z⟩ := h
  have f : ∀ j, 16 < j → F' j = F j := fun j hj => hr.1 j (by omega) (by omega) (by omega)
  have g : ∀ j, 16 < j → G' j = G j := fun j hj => hr.2 j (by omega)
  refine ⟨e6.trans (f 18 (by decide)).symm, e7.trans (f 21 (by decide)).symm, e8.trans (f 24 (by decide)).symm, g0.trans (g 19 (by decide)).symm, g1.trans (g 20 (by decide)).symm, g2.trans (g 22 (by decide)).symm, g3.trans (g 23 (by decide)).symm, g4.trans (g 25 (by decide)).symm, ?_⟩
  rw [f 18 (by decide), f 21 (by decide), f 24 (by decide), g 22 (by decide), g 23 (by decide), g 25 (by decide)]
  exact z
theorem LQ_fr {Fq : xF} {Gq : xG} {F F' : xF} {G G' : xG} (h : LQ Fq Gq F G) (hr : rfr F G F' G') : LQ Fq Gq F' G' := by
  obtain ⟨e6, g0, g1, g2, z⟩ := h
  have f : ∀ j, 16 < j → F' j = F j := fun j hj => hr.1 j (by omega) (by omega) (by omega)
  have g : ∀ j, 16 < j → G' j = G j := fun j hj => hr.2 j (by omega)
  refine ⟨e6.trans (f 27 (by decide)).symm, g0.trans (g 28 (by decide)).symm, g1.trans (g 29 (by decide)).symm, g2.trans (g 30 (by decide)).symm, ?_⟩
  rw [f 27 (by decide), g 28 (by decide), g 29 (by decide), g 30 (by decide)]
  exact z
theorem LX_fr {Fp : xF} {Gp : xG} {Fo : xF} {Go : xG} {F F' : xF} {G G' : xG} (h : LPg Fp Gp Fo Go (F 1) (G 2)) (hr : rfr F G F' G') : LPg Fp Gp Fo Go (F' 1) (G' 2) := by
  rw [hr.1 1 (by decide) (by decide) (by decide), hr.2 2 (by decide)]
  exact h
theorem LR_fr {Fp : xF} {Gp : xG} {Fo : xF} {Go : xG} {Fz : xF} {Gz : xG} {Fq : xF} {Gq : xG} {F F' : xF} {G G' : xG} (h : LRg LPg Fp Gp Fo Go Fz Gz Fq Gq F G) (hr : rfr F G F' G') : LRg LPg Fp Gp Fo Go Fz Gz Fq Gq F' G' := ⟨LX_fr h.1 hr, LZ_fr h.2.1 hr, LQ_fr h.2.2 hr⟩
theorem WH_0 {k : Nat} {pg : Nat → Int32} {Fo : xF} {Gp Go : xG} {F' : xF} {G' : xG} (h : WH k pg Fo Gp Go F' G') : ∃ r : Nat, r < 40 ∧ F' 3 = nI (r + 1) ∧ Go 5 0 = G' 9 r ∧ Go 6 0 = G' 10 r ∧ Go 7 0 = G' 11 r := by
  obtain ⟨m, st, n, r, B, h0, -, -, h3⟩ := h
  obtain ⟨-, -, c⟩ := B.2.2.1 0 r h0
  obtain ⟨c1, c2, c3⟩ := CP_num c
  exact ⟨r, by have := B.1; have := B.2.1; omega, h3, c1, c2, c3⟩
theorem q_c0 : ((0 : Int32)).toNatClampNeg = 0 := by decide
theorem q_ld0 {γ : Type} {o : Option γ} : x_ld 0 40 o = o := by
  rw [show (0 : Int32) = nI 0 from rfl]; exact q_ld (by omega) (by omega)
theorem o_fault : oL_fault (LRg LPg) := by
  intro Fp Gp Fo Go Fz Gz Fq Gq F G h
  have h0 : LRg LPg Fp Gp Fo Go Fz Gz Fq Gq (va_up F 0 0) G := h
  obtain ⟨k, hk, e1, f2, hc⟩ := h.1
  rcases hc with ⟨f3, hc⟩ | ⟨e, he, f3, hc⟩
  · obtain ⟨F', G', r1, -⟩ := hc (va_up F 0 0) G
    have hrd := rd_yes (F := va_up F 0 0) e1 rfl hk r1
    refine ⟨nI k, nI k, F', G', ?_, ?_, rfl, LR_fr h0 (rfr_trans (rst_fr _ G) (RW_fr k F' G' r1))⟩
    · rw [fX5_fault_e, fX2_faultPlace_e, if_pos f3, f2, q_b1 rfl]
    · rw [fX6_fault_e, b_b3 hrd]
  · obtain ⟨F1, G1, F2, G2, r1, r2, r3⟩ := hc (va_up F 0 0) G
    have hrd := rd_no (F := va_up F 0 0) e1 rfl hk he r1 r2
    refine ⟨nI e, nI e, F2, G2, ?_, ?_, rfl, LR_fr h0 (rfr_trans (rfr_trans (rst_fr _ G) (RW_fr e F1 G1 r1)) r3)⟩
    · rw [fX5_fault_e, fX2_faultPlace_e, f3, if_neg (q_ne1 (by omega)), q_b1 rfl]
    · rw [fX6_fault_e, b_b3 hrd]
theorem o_sigma : oL_sigma (LRg LPg) := by
  intro Fp Gp Fo Go Fz Gz Fq Gq F G h
  have h0 : LRg LPg Fp Gp Fo Go Fz Gz Fq Gq (va_up F 0 0) G := h
  obtain ⟨w, F', G', e1, e2, e3, e4, e5⟩ := ifm h0.1 rfl rfl
  rcases e3 with rfl | rfl
  · refine ⟨-1, -1, F', G', ?_, ?_, rfl, LR_fr h0 e4⟩
    · rw [fX5_sigma_e, q_b1 e2, if_pos rfl]
    · rw [fX6_sigma_e, b_b3 e1, if_pos rfl]
  · obtain ⟨k, -, -, hw⟩ := e5 rfl
    obtain ⟨r, r1, r2, r3, r4, r5⟩ := WH_0 hw
    refine ⟨Go 5 0, Go 5 0, F', G', ?_, ?_, rfl, LR_fr h0 e4⟩
    · rw [fX5_sigma_e, q_b1 e2, if_neg q_10, fX0_wholeSigma_e, q_ld0, q_c0, q_b1 rfl]
    · rw [fX6_sigma_e, b_b3 e1, if_neg q_10, r2, nI_pred, q_ld r1 (by omega), q_cl (by omega), r3]
theorem o_pi : oL_pi (LRg LPg) := by
  intro Fp Gp Fo Go Fz Gz Fq Gq F G h
  have h0 : LRg LPg Fp Gp Fo Go Fz Gz Fq Gq (va_up F 0 0) G := h
  obtain ⟨w, F', G', e1, e2, e3, e4, e5⟩ := ifm h0.1 rfl rfl
  rcases e3 with rfl | rfl
  · refine ⟨-1, -1, F', G', ?_, ?_, rfl, LR_fr h0 e4⟩
    · rw [fX5_pi_e, q_b1 e2, if_pos rfl]
    · rw [fX6_pi_e, b_b3 e1, if_pos rfl]
  · obtain ⟨k, -, -, hw⟩ := e5 rfl
    obtain ⟨r, r1, r2, r3, r4, r5⟩ := WH_0 hw
    refine ⟨Go 6 0, Go 6 0, F', G', ?_, ?_, rfl, LR_fr h0 e4⟩
    · rw [fX5_pi_e, q_b1 e2, if_neg q_10, fX0_wholePi_e, q_ld0, q_c0, q_b1 rfl]
    · rw [fX6_pi_e, b_b3 e1, if_neg q_10, r2, nI_pred, q_ld r1 (by omega), q_cl (by omega), r4]
theorem o_free : oL_free (LRg LPg) := by
  intro Fp Gp Fo Go Fz Gz Fq Gq F G h
  have h0 : LRg LPg Fp Gp Fo Go Fz Gz Fq Gq (va_up F 0 0) G := h
  obtain ⟨w, F', G', e1, e2, e3, e4, e5⟩ := ifm h0.1 rfl rfl
  rcases e3 with rfl | rfl
  · refine ⟨-1, -1, F', G', ?_, ?_, rfl, LR_fr h0 e4⟩
    · rw [fX5_free_e, q_b1 e2, if_pos rfl]
    · rw [fX6_free_e, b_b3 e1, if_pos rfl]
  · obtain ⟨k, -, -, hw⟩ := e5 rfl
    obtain ⟨r, r1, r2, r3, r4, r5⟩ := WH_0 hw
    refine ⟨Go 7 0, Go 7 0, F', G', ?_, ?_, rfl, LR_fr h0 e4⟩
    · rw [fX5_free_e, q_b1 e2, if_neg q_10, fX0_wholeFree_e, q_ld0, q_c0, q_b1 rfl]
    · rw [fX6_free_e, b_b3 e1, if_neg q_10, r2, nI_pred, q_ld r1 (by omega), q_cl (by omega), r5]
/-- an empty page -/
theorem LPg_0 {Fp Fo : xF} {Gp Go : xG} {pg : Nat → Int32} (h2 : Fp 2 = 0) (h3 : Fp 3 = -1) (h4 : Fp 4 = 0) (h5 : Fp 5 = -1) (h9 : Fo 9 = 0) (h10 : Fo 10 = 0) : LPg Fp Gp Fo Go 0 pg := by
  refine ⟨0, by decide, rfl, h2, Or.inl ⟨h3, fun F G => ⟨rst F, G, ⟨rfl, rfl⟩, fun _ => none, fun _ => 0, 0, 0, 0, 0, ⟨rfl, by decide, fun c r h => (by cases h), fun r h => absurd h (Nat.not_lt_zero r), fun c h => absurd h (Nat.not_lt_zero c), fun i h => absurd h (Nat.not_lt_zero i), fun i j _ h => absurd h (Nat.not_lt_zero j), fun h => absurd h (Nat.lt_irrefl 0), fun i h => absurd h (by omega)⟩, Or.inl ⟨rfl, fun i h => absurd h (Nat.not_lt_zero i)⟩, h4, h5, h9, h10, rfl, rfl, rfl, Nat.le_refl _, fun _ _ => rfl⟩⟩⟩
theorem o_blank : oL_blank (LRg LPg) := by
  intro Fp Gp Fo Go Fz Gz Fq Gq F G h
  obtain ⟨hP, hZ, hQ⟩ := h
  obtain ⟨k, hk, e1, f2, -⟩ := hP
  refine ⟨nI k, va_up (va_up (va_up (va_up Fp 2 0) 3 (-1)) 4 0) 5 (-1), va_up (va_up Fo 9 0) 10 0, nI k, va_up (va_up F 0 0) 1 0, ?_, ?_, rfl, LPg_0 rfl rfl rfl rfl rfl rfl, hZ, hQ⟩
  · rw [fX5_blank_e, fX2_wipe_e, fX0_clear_e, q_b1 rfl, b_b3 rfl, f2]
  · rw [fX6_blank_e, e1]
theorem o_principle : oL_principle (LRg LPg) := by
  intro Fp Gp Fo Go Fz Gz Fq Gq F G h
  obtain ⟨w, F', G', e1, e2, e3, e4, e5⟩ := ifm h.1 rfl rfl
  obtain ⟨hP', hZ', hQ'⟩ := LR_fr h e4
  have bad : fX5_principle Fp Fo Go Fz Gz = some (1, 0, Fp, Fo, Fz, Gz) → fX6_principle F G = some (0, va_up F' 0 1, G') → ∃ (k r : Int32) (Fp' : xF) (Fo' : xF) (Fz' : xF) (Gz' : xG) (r' : Int32) (F' : xF) (G' : xG), (¬ k = 0 → k = 1) ∧ fX5_principle Fp Fo Go Fz Gz = some (k, r, Fp', Fo', Fz', Gz') ∧ fX6_principle F G = some (r', F', G') ∧ fX6_thrown F' = some k ∧ (k = 0 → r = r') ∧ LRg LPg Fp' Gp Fo' Go Fz' Gz' Fq Gq F' G' := fun k1 k2 =>
    ⟨1, 0, Fp, Fo, Fz, Gz, 0, va_up F' 0 1, G', fun _ => rfl, k1, k2, rfl, fun h => absurd h q_10, hP', hZ', hQ'⟩
  have h37 : fX6_principle_j37 F' G' = some (0, va_up F' 0 1, G') := by
    rw [fX6_principle_j37_e, fX6_principle_j38_e, b_b2 (q_g1 F' q_10), if_pos rfl]
  rcases e3 with rfl | rfl
  · refine bad ?_ ?_
    · rw [fX5_principle_e, q_b1 e2, if_pos rfl, fX5_principle_j33_e]
    · rw [fX6_principle_e, b_b3 e1, if_pos rfl, h37]
  obtain ⟨k, -, -, hw⟩ := e5 rfl
  obtain ⟨r, r1, r2, r3, r4, r5⟩ := WH_0 hw
  obtain ⟨z6, z7, z8, g0, g1, g2, g3, g4, np, nr, nm, hn, hr, hm, hn10, hr30, hm10, ok, okm⟩ := hZ'
  have f6 : Fz 6 = nI np := z6.trans hn
  have hcl : fX5_principle Fp Fo Go Fz Gz = (if Go 7 0 = 0 then x_b1 (fX4_hasAllPrinciples Fz) (fun r8 => (if r8 = 0 then x_b1 (fX0_wholeSigma Go) (fun r11 => x_b1 (fX0_wholePi Go) (fun r13 => x_b3 (fX4_addPrinciple Fz Gz r11 r13) (fun r15 F16 G17 => x_b3 (fX2_wipe Fp Fo) (fun r19 F20 F21 => some (0, r15, F20, F21, F16, G17))))) else (fX5_principle_j33 Fp Fo Fz Gz))) else (fX5_principle_j33 Fp Fo Fz Gz)) := by
    rw [fX5_principle_e, q_b1 e2, if_neg q_10, fX0_wholeFree_e, q_ld0, q_c0, q_b1 rfl]
  have hrf : fX6_principle F G = (if G' 11 r = 0 then (if 10 ≤ (F' 18) then (fX6_principle_j37 F' G') else (fX6_principle_j38 F' G') 0) else (fX6_principle_j37 F' G')) := by
    rw [fX6_principle_e, b_b3 e1, if_neg q_10, r2, nI_pred, q_ld r1 (by omega), q_cl (by omega)]
  by_cases c1 : Go 7 0 = 0
  rotate_left
  · refine bad ?_ ?_
    · rw [hcl, if_neg c1, fX5_principle_j33_e]
    · rw [hrf, ← r5, if_neg c1, h37]
  by_cases c2 : np < 10
  rotate_left
  · refine bad ?_ ?_
    · rw [hcl, if_pos c1, fX4_hasAllPrinciples_e, f6, if_neg (by exact fun z => c2 ((q_lt (b := 10) (by omega) (by omega)).mp z)), q_b1 rfl, if_neg q_10, fX5_principle_j33_e]
    · rw [hrf, ← r5, if_pos c1, hn, if_pos (by exact (q_le (a := 10) (by omega) (by omega)).mpr (by omega)), h37]
  refine ⟨0, nI np, va_up (va_up (va_up (va_up Fp 2 0) 3 (-1)) 4 0) 5 (-1), va_up (va_up Fo 9 0) 10 0, va_up Fz 6 (nI (np + 1)), va_up (va_up Gz 0 (upd (Gz 0) np (Go 5 0))) 1 (upd (Gz 1) np (Go 6 0)), nI np, va_up (va_up (va_up F' 0 0) 1 0) 18 (nI (np + 1)), va_up (va_up G' 19 (upd (G' 19) np (Go 5 0))) 20 (upd (G' 20) np (Go 6 0)), fun h => absurd rfl h, ?_, ?_, rfl, fun _ => rfl, LPg_0 rfl rfl rfl rfl rfl rfl, ?_, hQ'⟩
  · rw [hcl, if_pos c1, fX4_hasAllPrinciples_e, f6, if_pos (by exact (q_lt (b := 10) (by omega) (by omega)).mpr c2), q_b1 rfl, if_pos rfl, fX0_wholeSigma_e, q_ld0, q_c0, q_b1 rfl, fX0_wholePi_e, q_ld0, q_c0, q_b1 rfl, fX4_addPrinciple_e, f6, q_ld c2 (by omega), q_ld c2 (by omega), q_cl (by omega), nI_1, b_b3 rfl, fX2_wipe_e, fX0_clear_e, q_b1 rfl, b_b3 rfl]
  · rw [hrf, ← r5, if_pos c1, hn, if_neg (fun z => by have := (q_le (a := 10) (b := np) (by omega) (by omega)).mp z; omega), fX6_principle_j38_e, b_b2 (q_g0 F'), if_neg q_10, show va_up F' 0 0 3 = nI (r + 1) from r2, nI_pred, q_ld r1 (by omega), show va_up F' 0 0 18 = nI np from hn, q_ld c2 (by omega), q_ld r1 (by omega), q_ld c2 (by omega), q_cl (by omega), q_cl (by omega), nI_1, nI_pred, ← r3, ← r4]
  · refine ⟨rfl, z7, z8, ?_, ?_, g2, g3, g4, np + 1, nr, nm, rfl, hr, hm, by omega, hr30, hm10, ?_, ?_⟩
    · show upd (Gz 0) np _ = upd (G' 19) np _; rw [g0]
    · show upd (Gz 1) np _ = upd (G' 20) np _; rw [g1]
    · intro x hx
      obtain ⟨p, c, p1, p2, p3, p4⟩ := ok x hx
      exact ⟨p, c, p1, Nat.lt_trans p2 (z_pw (Nat.lt_succ_self np)), p3, by omega⟩
    · intro j hj
      obtain ⟨t, t1, t2⟩ := okm j hj
      exact ⟨t, t1, Nat.lt_trans t2 (z_pw (Nat.lt_succ_self np))⟩
theorem LT_cn {ch : Int32} (h : LT ch) : x_cn ch = ch := by
  rcases h with ⟨v, hv, e⟩ | rfl | rfl | rfl | rfl | rfl | rfl | rfl | rfl | rfl | rfl | rfl | rfl
  · subst e; rcases (show v = 0 ∨ v = 1 ∨ v = 2 by omega) with rfl | rfl | rfl <;> decide
  all_goals decide
/-- what is no letter, the reference knows too -/
theorem let_no {ch : Int32} (h : ¬ ch ∈ yLets) : fX6_variableOf ch = some (-1) ∧ fX6_kindOf ch = some (-1) ∧ ¬ ch = 41 := by
  have hne : ∀ x, x ∈ yLets → ¬ ch = x := fun x hx e => h (by rw [e]; exact hx)
  refine ⟨?_, ?_, hne 41 (by decide)⟩
  · have hin : fX6_in ch 120 122 = some 0 := by
      rw [fX6_in_e]
      by_cases h1 : ch < 120
      · rw [if_pos h1]
      · rw [if_neg h1]
        have h0 : ¬ ch < 0 := fun z => h1 (Int32.lt_of_lt_of_le z (by decide))
        obtain ⟨j, hj, rfl⟩ := nI_of h0
        have h2 : ¬ j < 120 := fun z => h1 ((q_lt (b := 120) hj (by omega)).mpr z)
        have n0 := hne 120 (by decide)
        have n1 := hne 121 (by decide)
        have n2 := hne 122 (by decide)
        rw [if_pos (by exact (q_lt (a := 122) (by omega) hj).mpr (by
          rcases Nat.lt_or_ge 122 j with g | g
          · exact g
          · exfalso
            rcases (show j = 120 ∨ j = 121 ∨ j = 122 by omega) with rfl | rfl | rfl
            · exact n0 rfl
            · exact n1 rfl
            · exact n2 rfl))]
    rw [fX6_variableOf_e, q_b1 hin, if_pos rfl]
  · rw [fX6_kindOf_e, if_neg (hne 33 (by decide)), if_neg (hne 38 (by decide)), if_neg (hne 40 (by decide)), if_neg (hne 60 (by decide)), if_neg (hne 61 (by decide)), if_neg (hne 62 (by decide)), if_neg (hne 65 (by decide)), if_neg (hne 69 (by decide)), if_neg (hne 97 (by decide)), if_neg (hne 101 (by decide)), if_neg (hne 124 (by decide))]
theorem let_yes {ch : Int32} (h : LT ch) {F : xF} {G : xG} : fX6_letter F G ch = fX6_letter_j27 F G ch 1 := by
  rw [fX6_letter_e]
  rcases h with ⟨v, hv, e⟩ | rfl | rfl | rfl | rfl | rfl | rfl | rfl | rfl | rfl | rfl | rfl | rfl
  · obtain ⟨a1, a2, -⟩ := vl hv e
    rw [q_b1 a2, if_neg (q_ne1 (by omega)), fX6_letter_j22_e]
  · rw [q_b1 (show fX6_variableOf 33 = some (-1) from rfl), if_pos rfl, q_b1 (show fX6_kindOf 33 = some 2 from rfl), if_neg (by decide), fX6_letter_j22_e]
  · rw [q_b1 (show fX6_variableOf 40 = some (-1) from rfl), if_pos rfl, q_b1 (show fX6_kindOf 40 = some 10 from rfl), if_neg (by decide), fX6_letter_j22_e]
  · rw [q_b1 (show fX6_variableOf 65 = some (-1) from rfl), if_pos rfl, q_b1 (show fX6_kindOf 65 = some 6 from rfl), if_neg (by decide), fX6_letter_j22_e]
  · rw [q_b1 (show fX6_variableOf 69 = some (-1) from rfl), if_pos rfl, q_b1 (show fX6_kindOf 69 = some 7 from rfl), if_neg (by decide), fX6_letter_j22_e]
  · rw [q_b1 (show fX6_variableOf 97 = some (-1) from rfl), if_pos rfl, q_b1 (show fX6_kindOf 97 = some 8 from rfl), if_neg (by decide), fX6_letter_j22_e]
  · rw [q_b1 (show fX6_variableOf 101 = some (-1) from rfl), if_pos rfl, q_b1 (show fX6_kindOf 101 = some 9 from rfl), if_neg (by decide), fX6_letter_j22_e]
  · rw [q_b1 (show fX6_variableOf 41 = some (-1) from rfl), if_pos rfl, q_b1 (show fX6_kindOf 41 = some (-1) from rfl), if_pos rfl, if_pos rfl, fX6_letter_j22_e]
  · rw [q_b1 (show fX6_variableOf 38 = some (-1) from rfl), if_pos rfl, q_b1 (show fX6_kindOf 38 = some 3 from rfl), if_neg (by decide), fX6_letter_j22_e]
  · rw [q_b1 (show fX6_variableOf 124 = some (-1) from rfl), if_pos rfl, q_b1 (show fX6_kindOf 124 = some 4 from rfl), if_neg (by decide), fX6_letter_j22_e]
  · rw [q_b1 (show fX6_variableOf 62 = some (-1) from rfl), if_pos rfl, q_b1 (show fX6_kindOf 62 = some 5 from rfl), if_neg (by decide), fX6_letter_j22_e]
  · rw [q_b1 (show fX6_variableOf 60 = some (-1) from rfl), if_pos rfl, q_b1 (show fX6_kindOf 60 = some 0 from rfl), if_neg (by decide), fX6_letter_j22_e]
  · rw [q_b1 (show fX6_variableOf 61 = some (-1) from rfl), if_pos rfl, q_b1 (show fX6_kindOf 61 = some 1 from rfl), if_neg (by decide), fX6_letter_j22_e]
theorem va_in {f g : xF} {k : Nat} {v : Int32} (h : va_up f k v = va_up g k v) {j : Nat} (hj : j ≠ k) : f j = g j := by
  have := congrFun h j
  rw [u_n hj, u_n hj] at this
  exact this
/-- one letter more on the page -/
theorem LPg_type {Fp Fo : xF} {Gp Go : xG} {pg : Nat → Int32} {k : Nat} (h : LPg Fp Gp Fo Go (nI k) pg) (hk : k < 40) {ch : Int32} (hl : LT ch) : ∃ (Fp' : xF) (Gp' : xG) (Fo' : xF) (Go' : xG), fX2_type Fp Gp Fo Go ch = some (nI (k + 1), Fp', Gp', Fo', Go') ∧ LPg Fp' Gp' Fo' Go' (nI (k + 1)) (upd pg k ch) := by
  obtain ⟨k', hk', e1, f2, hc⟩ := h
  have ek : k = k' := (nI_eq (by omega) (by omega)).mp e1
  subst ek
  have hpg : ∀ j, j < k → pg j = upd pg k ch j := fun j hj => (pk_un (by omega)).symm
  have hpk : upd pg k ch k = ch := pk_us
  rcases hc with ⟨f3, hc⟩ | ⟨e, he, f3, hc⟩
  · have one : ∀ F G, ∃ F1 G1, RW pg (rst F) G k F1 G1 ∧ (GO k (qct pg k) ch Fp Gp Fo Go F1 G1 ∨ NO ch Fp Gp Fo Go F1 G1) := fun F G => by
      obtain ⟨F1, G1, r1, r2⟩ := hc F G
      exact ⟨F1, G1, r1, step1 r2 f3 hk hl⟩
    have hqc : qct (upd pg k ch) (k + 1) = qct pg k + isq ch := by
      rw [qct, hpk, qct_cg k (fun j hj => (hpg j hj).symm)]
    obtain ⟨F1, G1, -, s⟩ := one xF0 xG0
    rcases s with ⟨Fp', Gp', Fo', Go', F', G', t1, t2, -⟩ | ⟨t1, -⟩
    · refine ⟨va_up Fp' 2 (nI (k + 1)), Gp', Fo', Go', by rw [t1, f2, nI_1], k + 1, by omega, rfl, u_s, Or.inl ⟨t2, fun F G => ?_⟩⟩
      obtain ⟨F2, G2, r1, s2⟩ := one F G
      rcases s2 with ⟨Fp2, Gp2, Fo2, Go2, F3, G3, w1, w2, w3, w4, w5⟩ | ⟨w1, -⟩
      · rw [t1] at w1
        have w1' := (Option.some.inj w1)
        simp only [Prod.mk.injEq] at w1'
        obtain ⟨-, v1, v2, v3, v4⟩ := w1'
        refine ⟨F3, G3, ⟨F2, G2, RW_cg k _ _ hpg r1, by rw [hpk]; exact w3, w5⟩, ?_⟩
        rw [f2] at v1
        rw [hqc, v2, v3, v4, ← nI_1 k, v1]
        exact w4
      · exfalso
        rw [t1] at w1
        have w1' := (Option.some.inj w1)
        simp only [Prod.mk.injEq] at w1'
        have v1 := va_in w1'.2.1 (j := 3) (by decide)
        rw [u_s, f2, t2] at v1
        exact q_ne1 (by omega) v1.symm
    · refine ⟨va_up (va_up Fp 3 (nI k)) 2 (nI (k + 1)), Gp, Fo, Go, by rw [t1, f2, nI_1], k + 1, by omega, rfl, u_s, Or.inr ⟨k, by omega, rfl, fun F G => ?_⟩⟩
      obtain ⟨F2, G2, r1, s2⟩ := one F G
      rcases s2 with ⟨Fp2, Gp2, Fo2, Go2, F3, G3, w1, w2, -⟩ | ⟨-, F3, G3, w2, w3⟩
      · exfalso
        rw [t1] at w1
        have w1' := (Option.some.inj w1)
        simp only [Prod.mk.injEq] at w1'
        have v1 := va_in w1'.2.1 (j := 3) (by decide)
        rw [u_s, f2, w2] at v1
        exact q_ne1 (by omega) v1
      · exact ⟨F2, G2, F3, G3, RW_cg k _ _ hpg r1, by rw [hpk]; exact w2, w3⟩
  · refine ⟨va_up Fp 2 (nI (k + 1)), Gp, Fo, Go, ?_, k + 1, by omega, rfl, u_s, Or.inr ⟨e, by omega, f3, fun F G => ?_⟩⟩
    · rw [fX2_type_e, f3, if_neg (q_ne1 (by omega)), fX2_type_j40_e, f2, nI_1]
    · obtain ⟨F1, G1, F2, G2, r1, r2, r3⟩ := hc F G
      exact ⟨F1, G1, F2, G2, RW_cg e _ _ (fun j hj => hpg j (by omega)) r1, by rw [← hpg e he]; exact r2, r3⟩
theorem o_letter : oL_letter (LRg LPg) := by
  intro Fp Gp Fo Go Fz Gz Fq Gq F G h ch
  obtain ⟨hP, hZ, hQ⟩ := h
  have hP0 := hP
  obtain ⟨k, hk, e1, f2, -⟩ := hP0
  have h51 : ∀ w : Int32, ¬ w = 0 → fX6_letter_j51 F G ch w = some (0, va_up F 0 w, G) := fun w hw => by
    rw [fX6_letter_j51_e, b_b2 (q_g1 F hw), if_pos rfl]
  by_cases c1 : ch ∈ yLets
  rotate_left
  · obtain ⟨n1, n2, n3⟩ := let_no c1
    refine ⟨1, 0, Fp, Gp, Fo, Go, 0, va_up F 0 1, G, fun _ h => absurd rfl h, ?_, ?_, rfl, fun h => absurd h q_10, hP, hZ, hQ⟩
    · rw [fX5_letter_e, fX2_isLetter_e, if_neg c1, q_b1 rfl, if_pos rfl]
    · rw [fX6_letter_e, q_b1 n1, if_pos rfl, q_b1 n2, if_pos rfl, if_neg n3, fX6_letter_j27_e, if_pos rfl, h51 1 q_10]
  have hl := lets c1
  have hM : fX6_letter F G ch = if F 1 = 40 then fX6_letter_j51 F G ch 2 else fX6_letter_j51 F G ch 0 := by
    rw [let_yes hl, fX6_letter_j27_e, if_neg q_10]
  by_cases c2 : k = 40
  · subst c2
    refine ⟨2, 0, Fp, Gp, Fo, Go, 0, va_up F 0 2, G, fun _ _ => rfl, ?_, ?_, rfl, fun h => absurd h (by decide), hP, hZ, hQ⟩
    · rw [fX5_letter_e, fX2_isLetter_e, if_pos c1, q_b1 rfl, if_neg q_10, fX2_isFull_e, f2, if_neg (by decide), q_b1 rfl, if_neg q_10]
    · rw [hM, e1, if_pos (by decide), h51 2 (by decide)]
  · have hk2 : k < 40 := by omega
    rw [e1] at hP
    obtain ⟨Fp', Gp', Fo', Go', t1, t2⟩ := LPg_type hP hk2 hl
    refine ⟨0, nI (k + 1), Fp', Gp', Fo', Go', nI (k + 1), va_up (va_up F 0 0) 1 (nI (k + 1)), va_up G 2 (upd (G 2) k ch), fun h => absurd rfl h, ?_, ?_, rfl, fun _ => rfl, t2, hZ, hQ⟩
    · rw [fX5_letter_e, fX2_isLetter_e, if_pos c1, q_b1 rfl, if_neg q_10, fX2_isFull_e, f2, if_pos (by exact (q_lt (b := 40) (by omega) (by omega)).mpr hk2), q_b1 rfl, if_pos rfl, b_b5 t1]
    · rw [hM, e1, if_neg (by exact fun z => c2 ((nI_eq (b := 40) (by omega) (by omega)).mp z)), fX6_letter_j51_e, b_b2 (q_g0 F), if_neg q_10, show va_up F 0 0 1 = nI k from e1, q_ld hk2 (by omega), q_cl (by omega), nI_1, LT_cn hl]
end QRD
