section QS
/-! one letter read by both -/
def isq (ch : Int32) : Nat := if ch = 65 ∨ ch = 69 ∨ ch = 97 ∨ ch = 101 then 1 else 0
/-- k letters read, n of them quantifiers: where both stand -/
def PR (k qn : Nat) (Fp : xF) (Gp : xG) (Fo : xF) (Go : xG) (F : xF) (G : xG) : Prop :=
  ∃ (m : Nat → Option Nat) (st : Nat → Nat) (n q b lk : Nat), PB m st n q b (Gp 1) Go G ∧ TP lk m st q b Go G ∧ Fp 4 = duo lk ∧ Fp 5 = topc st b ∧ Fo 9 = nI n ∧ Fo 10 = nI qn ∧ F 3 = nI q ∧ F 12 = nI b ∧ F 16 = nI lk ∧ n ≤ k ∧ (lk = 0 → b = 0 → n = 0)
def GO (k qn : Nat) (ch : Int32) (Fp : xF) (Gp : xG) (Fo : xF) (Go : xG) (F : xF) (G : xG) : Prop :=
  ∃ (Fp' : xF) (Gp' : xG) (Fo' : xF) (Go' : xG) (F' : xF) (G' : xG), fX2_type Fp Gp Fo Go ch = some (Fp 2 + 1, va_up Fp' 2 (Fp 2 + 1), Gp', Fo', Go') ∧ Fp' 3 = -1 ∧ fX6_goesOn F G ch = some (1, F', G') ∧ PR (k + 1) (qn + isq ch) Fp' Gp' Fo' Go' F' G' ∧ rfr F G F' G'
def NO (ch : Int32) (Fp : xF) (Gp : xG) (Fo : xF) (Go : xG) (F : xF) (G : xG) : Prop :=
  fX2_type Fp Gp Fo Go ch = some (Fp 2 + 1, va_up (va_up Fp 3 (Fp 2)) 2 (Fp 2 + 1), Gp, Fo, Go) ∧ ∃ (F' : xF) (G' : xG), fX6_goesOn F G ch = some (0, F', G') ∧ rfr F G F' G'
theorem b_b5 {α β δ ε ζ γ : Type} {o : Option (α × β × δ × ε × ζ)} {f : α → β → δ → ε → ζ → Option γ} {a0 : α} {a1 : β} {a2 : δ} {a3 : ε} {a4 : ζ} (h : o = some (a0, a1, a2, a3, a4)) : x_b5 o f = f a0 a1 a2 a3 a4 := x_b5I h
theorem ty_no {Fp : xF} {Gp : xG} {Fo : xF} {Go : xG} {ch : Int32} (h3 : Fp 3 = -1) (h : fX2_takes Fp Gp Fo Go ch = some (0, Fp, Gp, Fo, Go)) : fX2_type Fp Gp Fo Go ch = some (Fp 2 + 1, va_up (va_up Fp 3 (Fp 2)) 2 (Fp 2 + 1), Gp, Fo, Go) := by
  rw [fX2_type_e, if_pos h3, b_b5 h, if_pos rfl, fX2_type_j40_e]
  rfl
theorem ty_go {Fp F1 : xF} {Gp G1 : xG} {Fo O1 : xF} {Go P1 : xG} {ch : Int32} (h3 : Fp 3 = -1) (h : fX2_takes Fp Gp Fo Go ch = some (1, F1, G1, O1, P1)) (h4 : ¬ F1 4 = 7) (h2 : F1 2 = Fp 2) : fX2_type Fp Gp Fo Go ch = some (Fp 2 + 1, va_up F1 2 (Fp 2 + 1), G1, O1, P1) := by
  rw [fX2_type_e, if_pos h3, b_b5 h, if_neg q_10, if_neg h4, fX2_type_j40_e, h2]
theorem ty_fin {Fp F1 F2 : xF} {Gp G1 : xG} {Fo O1 : xF} {Go P1 P2 : xG} {ch : Int32} (h3 : Fp 3 = -1) (h : fX2_takes Fp Gp Fo Go ch = some (1, F1, G1, O1, P1)) (h4 : F1 4 = 7) (hf : fX2_finish F1 G1 P1 = some (F2, P2)) (h2 : F2 2 = Fp 2) : fX2_type Fp Gp Fo Go ch = some (Fp 2 + 1, va_up F2 2 (Fp 2 + 1), G1, O1, P2) := by
  rw [fX2_type_e, if_pos h3, b_b5 h, if_neg q_10, if_pos h4, b_b2 hf, fX2_type_j40_e, h2]
/-- a variable's letter -/
theorem vl {v : Nat} (h : v < 3) {ch : Int32} (e : ch = nI (120 + v)) : fX6_kindOf ch = some (-1) ∧ fX6_variableOf ch = some (nI v) ∧ fX2_isVariable ch = some 1 ∧ ch - 120 = nI v ∧ fX2_dueBehindStart ch = some 1 ∧ fX0_isBounded ch = some 0 ∧ ¬ ch = 65 ∧ ¬ ch = 69 ∧ isq ch = 0 := by
  subst e
  rcases (show v = 0 ∨ v = 1 ∨ v = 2 by omega) with rfl | rfl | rfl <;> decide
/-- another letter -/
def NV (ch : Int32) : Prop := fX6_variableOf ch = some (-1) ∧ fX2_isVariable ch = some 0
theorem fini {m : Nat → Option Nat} {st : Nat → Nat} {n q a s : Nat} {Gp Go G : xG} {Fp F : xF} {L R V U : Int32} (B : PB m st n q (a + 1) (Gp 1) Go G) (hO : ∀ i, i < a → OE m Go G (st i) i) (h : RD m Go (st a) s L R V U) (h4 : Fp 4 = 7) (h5 : Fp 5 = nI (st a)) (h3 : F 3 = nI q) :
    ∃ (F1 : xF) (G1 : xG) (m' : Nat → Option Nat) (q' b' lk : Nat) (Fp' F' : xF) (Go' G' : xG), fX6_make (va_up F 12 (nI a)) G (nI s) L R V U = some (nI q, F1, G1) ∧ fX6_end F1 G1 (nI q) = some (F', G') ∧ fX2_finish Fp Gp Go = some (Fp', Go') ∧ PB m' st n q' b' (Gp 1) Go' G' ∧ TP lk m' st q' b' Go' G' ∧ (6 ≤ lk ∧ lk ≤ 8) ∧ Fp' 4 = duo lk ∧ Fp' 5 = topc st b' ∧ F' 3 = nI q' ∧ F' 12 = nI b' ∧ F' 16 = nI lk ∧ Fp' 2 = Fp 2 ∧ Fp' 3 = Fp 3 ∧ rfr F G F' G' := by
  have B0 := B
  obtain ⟨b1, b2, b3, b4, b5, b6, b7, b8, b9⟩ := B
  obtain ⟨p1, p2⟩ := b6 a (by omega)
  obtain ⟨S, P, W, e1, e2, e3, e4⟩ := wmk (F := va_up F 12 (nI a)) B0 rfl h3 h
  have hsi : ∀ i, i < a → st i ≠ st a := fun i hi => by have := b7 i a hi (by omega); omega
  obtain ⟨m', q', b', lk, Fp', F', Go', G', i1, i2, j1, j2, j3, j4, j5, j6, j7, j8, j9, j10, j11⟩ := fin st n Gp a (va_up m (st a) (some q)) (q + 1) (w3 Go (st a) S P W) (w3m (m5 G q (nI s) L R V U) q S P W) Fp (va_up (va_up F 12 (nI a)) 3 (nI (q + 1))) (st a) q 0 4095 4096 e3 (fun i hi => OE_mono e4 (fun k => w3_ne (hsi i hi) k) (fun k k1 k2 => by rw [w3m_lo (by omega), m5_lo (by omega)]) (hO i hi)) u_s rfl (fun ha => by
      subst ha
      exact ⟨(b8 (by omega)).1, by rw [(b8 (by omega)).1]; exact (b8 (by omega)).2⟩) (fun a' ha => by
      subst ha
      exact ⟨b9 a' (by omega), b7 a' (a' + 1) (by omega) (by omega)⟩) h4 rfl rfl (by omega) (by omega) (by omega)
  refine ⟨_, _, m', q', b', lk, Fp', F', Go', G', e2, ?_, ?_, j1, j2, j3, j4, j5, j6, j7, j8, j9, j10, rfr_trans (rfr_m (rfr_F (rfr_F (rfr_refl F G) (by omega) (nI a)) (by omega) (nI (q + 1)))) j11⟩
  · rw [fX6_end_e]; exact i2
  · rw [fX2_finish_e, h5]
    refine (fin_w (N := 4095) (t := 0) (by omega) (by omega) h4 e1).trans i1
/-- a part more has begun -/
def b3 (G : xG) (b : Nat) (s x y : Int32) : xG := va_up (va_up (va_up G 13 (upd (G 13) b s)) 14 (upd (G 14) b x)) 15 (upd (G 15) b y)
theorem b3_13 {G : xG} {b : Nat} {s x y : Int32} : b3 G b s x y 13 b = s := by show upd (G 13) b s b = s; rw [pk_us]
theorem b3_14 {G : xG} {b : Nat} {s x y : Int32} : b3 G b s x y 14 b = x := by show upd (G 14) b x b = x; rw [pk_us]
theorem b3_15 {G : xG} {b : Nat} {s x y : Int32} : b3 G b s x y 15 b = y := by show upd (G 15) b y b = y; rw [pk_us]
theorem b3_lo {G : xG} {b : Nat} {s x y : Int32} {k : Nat} (h : k < 13 ∨ 15 < k) : b3 G b s x y k = G k := by
  show (if k = 15 then upd (G 15) b y else if k = 14 then upd (G 14) b x else if k = 13 then upd (G 13) b s else G k) = G k
  rw [if_neg (by omega), if_neg (by omega), if_neg (by omega)]
theorem b3_ne {G : xG} {b i : Nat} {s x y : Int32} (h : i ≠ b) (k : Nat) : b3 G b s x y k i = G k i := by
  show (if k = 15 then upd (G 15) b y else if k = 14 then upd (G 14) b x else if k = 13 then upd (G 13) b s else G k) i = G k i
  by_cases h7 : k = 15
  · subst h7; rw [if_pos rfl, pk_un h]
  · rw [if_neg h7]
    by_cases h6 : k = 14
    · subst h6; rw [if_pos rfl, pk_un h]
    · rw [if_neg h6]
      by_cases h5 : k = 13
      · subst h5; rw [if_pos rfl, pk_un h]
      · rw [if_neg h5]
theorem beg3 {F : xF} {G : xG} {b : Nat} (h : F 12 = nI b) (hb : b < 41) (s x y : Int32) : fX6_begin F G s x y = some (va_up F 12 (nI (b + 1)), b3 G b s x y) := by
  rw [fX6_begin_e, h, q_ld hb (by omega), q_ld hb (by omega), q_ld hb (by omega), q_cl (by omega), nI_1]
  rfl
theorem nb {m : Nat → Option Nat} {st : Nat → Nat} {n q b : Nat} {ar : Nat → Int32} {Go Go' G G' : xG} (B : PB m st n q b ar Go G) (hn : n < 40) (h0 : b = 0 → n = 0) (hgo : ∀ x, x ≠ n → ∀ k, Go' k x = Go k x) (hg : ∀ k, 4 ≤ k → k ≤ 11 → G' k = G k) : PB m (va_up st b n) (n + 1) q (b + 1) (upd ar n (topc st b)) Go' G' := by
  obtain ⟨b1, b2, b3, b4, b5, b6, b7, b8, b9⟩ := B
  have hs : ∀ i, i < b → va_up st b n i = st i := fun i hi => u_n (by omega)
  refine ⟨by omega, by omega, fun c r h => ?_, b4, fun c hc h => ?_, fun i hi => ?_, fun i j hi hj => ?_, fun _ => ?_, fun i hi => ?_⟩
  · obtain ⟨c1, c2, c3⟩ := b3 c r h
    exact ⟨by omega, c2, CP_mono (fun _ _ h => h) (hgo c (by omega)) (fun k k1 k2 => by rw [hg k k1 k2]) c3⟩
  · by_cases e : c = n
    · exact ⟨b, Nat.lt_succ_self b, by rw [u_s, e]⟩
    · obtain ⟨i, hi, hs2⟩ := b5 c (by omega) h
      exact ⟨i, by omega, by rw [hs i hi]; exact hs2⟩
  · by_cases e : i = b
    · subst e
      rw [u_s]
      refine ⟨Nat.lt_succ_self n, ?_⟩
      cases hm : m n with
      | none => rfl
      | some r => have := (b3 n r hm).1; omega
    · rw [u_n e]
      obtain ⟨c1, c2⟩ := b6 i (by omega)
      exact ⟨by omega, c2⟩
  · by_cases e : j = b
    · subst e
      rw [u_s, u_n (show i ≠ j by omega)]
      exact (b6 i (by omega)).1
    · rw [u_n (show i ≠ b by omega), u_n e]
      exact b7 i j hi (by omega)
  · by_cases e : b = 0
    · have e2 := h0 e
      subst e
      exact ⟨by rw [u_s, e2], by rw [e2, pk_us]; rfl⟩
    · obtain ⟨c1, c2⟩ := b8 (by omega)
      have c3 := (b6 0 (by omega)).1
      rw [c1] at c3
      exact ⟨by rw [u_n (show 0 ≠ b by omega)]; exact c1, by rw [pk_un (show 0 ≠ n by omega)]; exact c2⟩
  · by_cases e : i + 1 = b
    · rw [e, u_s, pk_us, u_n (show i ≠ b by omega), ← e, topc]
    · have c1 := (b6 (i + 1) (by omega)).1
      rw [u_n e, u_n (show i ≠ b by omega), pk_un (show st (i + 1) ≠ n by omega)]
      exact b9 i (by omega)
section S0
theorem addN {Fo : xF} {Go : xG} {n : Nat} {ch : Int32} (h9 : Fo 9 = nI n) (hn : n < 40) (hb : fX0_isBounded ch = some 0) (h1 : ¬ ch = 65) (h2 : ¬ ch = 69) : fX0_add Fo Go ch = some (nI n, va_up Fo 9 (nI (n + 1)), va_up Go 0 (upd (Go 0) n (x_cn ch))) := by
  rw [fX0_add_e, h9, q_ld hn (by omega), q_cl (by omega), q_b1 hb, if_pos rfl, if_neg h1, if_neg h2, nI_1]
theorem addQ {Fo : xF} {Go : xG} {n qn : Nat} {ch : Int32} (h9 : Fo 9 = nI n) (h10 : Fo 10 = nI qn) (hn : n < 40) (hb : fX0_isBounded ch = some 1 ∨ fX0_isBounded ch = some 0 ∧ (ch = 65 ∨ ch = 69)) : fX0_add Fo Go ch = some (nI n, va_up (va_up Fo 9 (nI (n + 1))) 10 (nI (qn + 1)), va_up Go 0 (upd (Go 0) n (x_cn ch))) := by
  have h41 : fX0_add_j41 Fo Go ch = some (nI n, va_up (va_up Fo 9 (nI (n + 1))) 10 (nI (qn + 1)), va_up Go 0 (upd (Go 0) n (x_cn ch))) := by
    rw [fX0_add_j41_e, h9, h10, q_cl (by omega), nI_1, nI_1]
  rw [fX0_add_e, h9, q_ld hn (by omega)]
  rcases hb with hb | ⟨hb, h⟩
  · rw [q_b1 hb, if_neg q_10, h41]
  · rw [q_b1 hb, if_pos rfl]
    rcases h with h | h
    · rw [if_pos h, h41]
    · rw [if_neg (fun z => by rw [h] at z; exact absurd z (by decide)), if_pos h, h41]
theorem tsN {Fp : xF} {Gp : xG} {Fo O1 : xF} {Go P1 : xG} {n : Nat} {ch d : Int32} (h4 : Fp 4 = 0) (hn : n < 40) (hd : fX2_dueBehindStart ch = some d) (hd7 : ¬ d = 7) (ha : fX0_add Fo Go ch = some (nI n, O1, P1)) (hv : fX2_isVariable ch = some 0) : fX2_takes Fp Gp Fo Go ch = some (1, va_up (va_up Fp 5 (nI n)) 4 d, va_up Gp 1 (upd (Gp 1) n (Fp 5)), O1, P1) := by
  have h : fX2_takesStart Fp Gp Fo Go ch = some (1, va_up (va_up Fp 5 (nI n)) 4 d, va_up Gp 1 (upd (Gp 1) n (Fp 5)), O1, P1) := by
    rw [fX2_takesStart_e, q_b1 hd, if_neg hd7, b_b3 ha, q_ld hn (by omega), q_b1 hv, if_pos rfl, q_cl (by omega)]
  rw [fX2_takes_e, if_pos h4, b_b5 h, q_zn1]
theorem tsV {Fp : xF} {Gp : xG} {Fo O1 : xF} {Go P1 : xG} {n : Nat} {ch d : Int32} (h4 : Fp 4 = 0) (hn : n < 40) (hd : fX2_dueBehindStart ch = some d) (hd7 : ¬ d = 7) (ha : fX0_add Fo Go ch = some (nI n, O1, P1)) (hv : fX2_isVariable ch = some 1) : fX2_takes Fp Gp Fo Go ch = some (1, va_up (va_up Fp 5 (nI n)) 4 d, va_up Gp 1 (upd (Gp 1) n (Fp 5)), O1, va_up P1 1 (upd (P1 1) n (ch - 120))) := by
  have h : fX2_takesStart Fp Gp Fo Go ch = some (1, va_up (va_up Fp 5 (nI n)) 4 d, va_up Gp 1 (upd (Gp 1) n (Fp 5)), O1, va_up P1 1 (upd (P1 1) n (ch - 120))) := by
    rw [fX2_takesStart_e, q_b1 hd, if_neg hd7, b_b3 ha, q_ld hn (by omega), q_b1 hv, if_neg q_10, q_ld hn (by omega), q_cl (by omega)]
  rw [fX2_takes_e, if_pos h4, b_b5 h, q_zn1]
/-- a part begins: both go on -/
theorem go0 {k qn : Nat} {ch : Int32} {Fp Fo O1 F F' : xF} {Gp Go P1 G : xG} {m : Nat → Option Nat} {st : Nat → Nat} {n q b lk' : Nat} {s x y : Int32} (B : PB m st n q b (Gp 1) Go G) (hO : ∀ i, i < b → OE m Go G (st i) i) (h0 : b = 0 → n = 0) (h3 : Fp 3 = -1) (h5 : Fp 5 = topc st b) (hnk : n ≤ k) (hk : k < 40)
    (ht : fX2_takes Fp Gp Fo Go ch = some (1, va_up (va_up Fp 5 (nI n)) 4 (duo lk'), va_up Gp 1 (upd (Gp 1) n (Fp 5)), O1, P1)) (hd7 : ¬ duo lk' = 7) (hP1 : ∀ x, x ≠ n → ∀ k, P1 k x = Go k x) (hO9 : O1 9 = nI (n + 1)) (hO10 : O1 10 = nI (qn + isq ch))
    (hg : fX6_goesOn F G ch = some (1, F', b3 G b s x y)) (f3 : F' 3 = nI q) (f12 : F' 12 = nI (b + 1)) (f16 : F' 16 = nI lk') (hfr : rfr F G F' G)
    (hnew : lk' = 0 ∧ OE m P1 (b3 G b s x y) n b ∨ TT lk' m P1 (b3 G b s x y) n b) : GO k qn ch Fp Gp Fo Go F G := by
  have hOE : ∀ i, i < b → OE m P1 (b3 G b s x y) (va_up st b n i) i := fun i hi => by
    have hne : st i ≠ n := by have := (B.2.2.2.2.2.1 i hi).1; omega
    rw [u_n (show i ≠ b by omega)]
    exact OE_mono (fun _ _ h => h) (hP1 _ hne) (fun k _ _ => b3_ne (show i ≠ b by omega) k) (hO i hi)
  have hrf : rfr F G F' (b3 G b s x y) := ⟨hfr.1, fun j hj => b3_lo (by omega)⟩
  refine ⟨_, _, _, _, _, _, ty_go h3 ht hd7 rfl, h3, hg, ⟨m, va_up st b n, n + 1, q, b + 1, lk', ?_, ?_, rfl, ?_, hO9, hO10, f3, f12, f16, by omega, fun _ h => by omega⟩, hrf⟩
  · show PB m (va_up st b n) (n + 1) q (b + 1) (upd (Gp 1) n (Fp 5)) P1 (b3 G b s x y)
    rw [h5]
    exact nb B (by omega) h0 hP1 (fun k k1 k2 => b3_lo (by omega))
  · rcases hnew with ⟨e, h⟩ | h
    · refine Or.inl ⟨e, fun i hi => ?_⟩
      by_cases e2 : i = b
      · subst e2; rw [u_s]; exact h
      · exact hOE i (by omega)
    · refine Or.inr (Or.inr ⟨b, rfl, hOE, ?_⟩)
      rw [u_s]; exact h
  · show nI n = topc (va_up st b n) (b + 1)
    rw [topc, u_s]
theorem P1_ne {Go : xG} {n : Nat} {w : Int32} : ∀ x, x ≠ n → ∀ k, (va_up Go 0 (upd (Go 0) n w)) k x = Go k x := fun x h k => va_ne h k
theorem P1_0 {Go : xG} {n : Nat} {w : Int32} : (va_up Go 0 (upd (Go 0) n w)) 0 n = w := by show upd (Go 0) n w n = w; rw [pk_us]
theorem goes0 {F : xF} {G : xG} {ch r : Int32} (hr : fX6_kindOf ch = some r) (h16 : F 16 = nI 0) {w : Int32} {F' : xF} {G' : xG} (h : fX6_startsWith F G ch = some (w, F', G')) : fX6_goesOn F G ch = some (x_zn w, F', G') := by
  rw [fX6_goesOn_e, q_b1 hr, h16, if_pos (by decide), b_b3 h]
theorem sw_j {F : xF} {G : xG} {ch : Int32} {b s : Nat} (hs : s = 2 ∨ s = 10) (hr : fX6_kindOf ch = some (nI s)) (hv : fX6_variableOf ch = some (-1)) (h12 : F 12 = nI b) (hb : b < 41) : fX6_startsWith F G ch = some (1, va_up F 12 (nI (b + 1)), b3 G b (nI s) (-1) (-1)) := by
  rw [fX6_startsWith_e, q_b1 hr, q_b1 hv, if_pos rfl]
  rcases hs with rfl | rfl
  · rw [if_pos (by decide), fX6_startsWith_j42_e, b_b2 (beg3 h12 hb _ _ _)]
  · rw [if_neg (by decide), if_pos (by decide), fX6_startsWith_j42_e, b_b2 (beg3 h12 hb _ _ _)]
theorem sw_q {F : xF} {G : xG} {ch : Int32} {b s : Nat} (hs : 6 ≤ s ∧ s ≤ 9) (hr : fX6_kindOf ch = some (nI s)) (hv : fX6_variableOf ch = some (-1)) (h12 : F 12 = nI b) (hb : b < 41) : fX6_startsWith F G ch = some (1, va_up (va_up F 12 (nI (b + 1))) 16 (if s < 8 then nI 3 else nI 4), b3 G b (nI s) (-1) (-1)) := by
  rw [fX6_startsWith_e, q_b1 hr, q_b1 hv, if_pos rfl]
  rcases (show s = 6 ∨ s = 7 ∨ s = 8 ∨ s = 9 by omega) with rfl | rfl | rfl | rfl
  · rw [if_neg (by decide), if_neg (by decide), q_b1 (show fX6_in (nI 6) 6 9 = some 1 by decide), if_neg q_10, b_b2 (beg3 h12 hb _ _ _), if_neg (by decide), if_pos (by decide)]; rfl
  · rw [if_neg (by decide), if_neg (by decide), q_b1 (show fX6_in (nI 7) 6 9 = some 1 by decide), if_neg q_10, b_b2 (beg3 h12 hb _ _ _), if_neg (by decide), if_pos (by decide)]; rfl
  · rw [if_neg (by decide), if_neg (by decide), q_b1 (show fX6_in (nI 8) 6 9 = some 1 by decide), if_neg q_10, b_b2 (beg3 h12 hb _ _ _), if_pos (by decide), if_neg (by decide)]; rfl
  · rw [if_neg (by decide), if_neg (by decide), q_b1 (show fX6_in (nI 9) 6 9 = some 1 by decide), if_neg q_10, b_b2 (beg3 h12 hb _ _ _), if_pos (by decide), if_neg (by decide)]; rfl
theorem sw_v {F : xF} {G : xG} {ch : Int32} {b v : Nat} (hvl : v < 3) (hr : fX6_kindOf ch = some (-1)) (hv : fX6_variableOf ch = some (nI v)) (h12 : F 12 = nI b) (hb : b < 41) : fX6_startsWith F G ch = some (1, va_up (va_up F 12 (nI (b + 1))) 16 (nI 1), b3 G b (nI 0) (nI v) (-1)) := by
  rw [fX6_startsWith_e, q_b1 hr, q_b1 hv, if_neg (q_ne1 (by omega)), q_b1 hv]
  refine (b_b2 (beg3 h12 hb _ _ _)).trans ?_
  rfl
theorem sw_no {F : xF} {G : xG} {ch r : Int32} (hr : fX6_kindOf ch = some r) (h2 : ¬ r = 2) (h10 : ¬ r = 10) (hin : fX6_in r 6 9 = some 0) (hv : fX6_variableOf ch = some (-1)) : fX6_startsWith F G ch = some (0, F, G) := by
  rw [fX6_startsWith_e, q_b1 hr, q_b1 hv, if_pos rfl, if_neg h2, if_neg h10, q_b1 hin, if_pos rfl]
/-- the letters -/
def LT (ch : Int32) : Prop := (∃ v, v < 3 ∧ ch = nI (120 + v)) ∨ ch = 33 ∨ ch = 40 ∨ ch = 65 ∨ ch = 69 ∨ ch = 97 ∨ ch = 101 ∨ ch = 41 ∨ ch = 38 ∨ ch = 124 ∨ ch = 62 ∨ ch = 60 ∨ ch = 61
theorem lets {ch : Int32} (h : ch ∈ yLets) : LT ch := by
  simp only [yLets, List.mem_cons, List.not_mem_nil, or_false] at h
  rcases h with rfl | rfl | rfl | rfl | rfl | rfl | rfl | rfl | rfl | rfl | rfl | rfl | rfl | rfl | rfl
  all_goals first
    | exact Or.inl ⟨0, by decide, by decide⟩
    | exact Or.inl ⟨1, by decide, by decide⟩
    | exact Or.inl ⟨2, by decide, by decide⟩
    | (refine Or.inr ?_; decide)
/-- a formula may begin -/
theorem st0 {k qn : Nat} {ch : Int32} {Fp Fo F : xF} {Gp Go G : xG} {m : Nat → Option Nat} {st : Nat → Nat} {n q b : Nat} (B : PB m st n q b (Gp 1) Go G) (hO : ∀ i, i < b → OE m Go G (st i) i) (h0 : b = 0 → n = 0) (h3 : Fp 3 = -1) (h4 : Fp 4 = duo 0) (h5 : Fp 5 = topc st b) (h9 : Fo 9 = nI n) (h10 : Fo 10 = nI qn) (g3 : F 3 = nI q) (g12 : F 12 = nI b) (g16 : F 16 = nI 0) (hnk : n ≤ k) (hk : k < 40) (hl : LT ch) : GO k qn ch Fp Gp Fo Go F G ∨ NO ch Fp Gp Fo Go F G := by
  have hb : b < 41 := by have := B.1; omega
  have hn : n < 40 := by omega
  have fr1 : ∀ v, rfr F G (va_up F 12 v) G := fun v => rfr_F (rfr_refl F G) (by omega) v
  have fr2 : ∀ v w, rfr F G (va_up (va_up F 12 v) 16 w) G := fun v w => rfr_F (fr1 v) (by omega) w
  rcases hl with ⟨v, hv, e⟩ | rfl | rfl | rfl | rfl | rfl | rfl | hl
  · obtain ⟨a1, a2, a3, a4, a5, a6, a7, a8, a9⟩ := vl hv e
    left
    have ht := tsV (Fp := Fp) (Gp := Gp) h4 hn a5 (by decide) (addN (Go := Go) h9 hn a6 a7 a8) a3
    rw [a4] at ht
    refine go0 (lk' := 1) B hO h0 h3 h5 hnk hk ht (by decide) (fun x hx k => by rw [va_ne hx, va_ne hx]) rfl ?_ (goes0 a1 g16 (sw_v hv a1 a2 g12 hb)) g3 rfl rfl (fr2 _ _) (Or.inr (Or.inl ⟨rfl, b3_13, v, hv, ?_, b3_14⟩))
    · show Fo 10 = _; rw [a9]; exact h10
    · show upd _ n (nI v) n = nI v; rw [pk_us]
  · left
    have ht := tsN (Fp := Fp) (Gp := Gp) h4 hn (show fX2_dueBehindStart 33 = some 0 from rfl) (by decide) (addN (Go := Go) h9 hn (show fX0_isBounded 33 = some 0 from rfl) (by decide) (by decide)) rfl
    exact go0 (lk' := 0) B hO h0 h3 h5 hnk hk ht (by decide) P1_ne rfl h10 (goes0 (show fX6_kindOf 33 = some (nI 2) from rfl) g16 (sw_j (Or.inl rfl) rfl rfl g12 hb)) g3 rfl g16 (fr1 _) (Or.inl ⟨rfl, 2, b3_13, Or.inl ⟨rfl, P1_0, b3_14, b3_15⟩⟩)
  · left
    have ht := tsN (Fp := Fp) (Gp := Gp) h4 hn (show fX2_dueBehindStart 40 = some 0 from rfl) (by decide) (addN (Go := Go) h9 hn (show fX0_isBounded 40 = some 0 from rfl) (by decide) (by decide)) rfl
    exact go0 (lk' := 0) B hO h0 h3 h5 hnk hk ht (by decide) P1_ne rfl h10 (goes0 (show fX6_kindOf 40 = some (nI 10) from rfl) g16 (sw_j (Or.inr rfl) rfl rfl g12 hb)) g3 rfl g16 (fr1 _) (Or.inl ⟨rfl, 10, b3_13, Or.inr (Or.inl ⟨rfl, P1_0⟩)⟩)
  · left
    have ht := tsN (Fp := Fp) (Gp := Gp) h4 hn (show fX2_dueBehindStart 65 = some 3 from rfl) (by decide) (addQ (Go := Go) h9 h10 hn (Or.inr ⟨rfl, Or.inl rfl⟩)) rfl
    exact go0 (lk' := 3) B hO h0 h3 h5 hnk hk ht (by decide) P1_ne rfl rfl (goes0 (show fX6_kindOf 65 = some (nI 6) from rfl) g16 (sw_q (s := 6) ⟨by decide, by decide⟩ rfl rfl g12 hb)) g3 rfl rfl (fr2 _ _) (Or.inr (Or.inr (Or.inr (Or.inl ⟨rfl, 6, by decide, by decide, P1_0, b3_13, b3_15⟩))))
  · left
    have ht := tsN (Fp := Fp) (Gp := Gp) h4 hn (show fX2_dueBehindStart 69 = some 3 from rfl) (by decide) (addQ (Go := Go) h9 h10 hn (Or.inr ⟨rfl, Or.inr rfl⟩)) rfl
    exact go0 (lk' := 3) B hO h0 h3 h5 hnk hk ht (by decide) P1_ne rfl rfl (goes0 (show fX6_kindOf 69 = some (nI 7) from rfl) g16 (sw_q (s := 7) ⟨by decide, by decide⟩ rfl rfl g12 hb)) g3 rfl rfl (fr2 _ _) (Or.inr (Or.inr (Or.inr (Or.inl ⟨rfl, 7, by decide, by decide, P1_0, b3_13, b3_15⟩))))
  · left
    have ht := tsN (Fp := Fp) (Gp := Gp) h4 hn (show fX2_dueBehindStart 97 = some 3 from rfl) (by decide) (addQ (Go := Go) h9 h10 hn (Or.inl rfl)) rfl
    exact go0 (lk' := 4) B hO h0 h3 h5 hnk hk ht (by decide) P1_ne rfl rfl (goes0 (show fX6_kindOf 97 = some (nI 8) from rfl) g16 (sw_q (s := 8) ⟨by decide, by decide⟩ rfl rfl g12 hb)) g3 rfl rfl (fr2 _ _) (Or.inr (Or.inr (Or.inr (Or.inr (Or.inl ⟨rfl, 8, by decide, by decide, P1_0, b3_13⟩)))))
  · left
    have ht := tsN (Fp := Fp) (Gp := Gp) h4 hn (show fX2_dueBehindStart 101 = some 3 from rfl) (by decide) (addQ (Go := Go) h9 h10 hn (Or.inl rfl)) rfl
    exact go0 (lk' := 4) B hO h0 h3 h5 hnk hk ht (by decide) P1_ne rfl rfl (goes0 (show fX6_kindOf 101 = some (nI 9) from rfl) g16 (sw_q (s := 9) ⟨by decide, by decide⟩ rfl rfl g12 hb)) g3 rfl rfl (fr2 _ _) (Or.inr (Or.inr (Or.inr (Or.inr (Or.inl ⟨rfl, 9, by decide, by decide, P1_0, b3_13⟩)))))
  · right
    have hbad : ∀ r : Int32, fX2_dueBehindStart ch = some 7 → fX6_kindOf ch = some r → ¬ r = 2 → ¬ r = 10 → fX6_in r 6 9 = some 0 → fX6_variableOf ch = some (-1) → NO ch Fp Gp Fo Go F G := fun r c1 c2 c3 c4 c5 c6 => by
      refine ⟨ty_no h3 ?_, F, G, goes0 c2 g16 (sw_no c2 c3 c4 c5 c6), rfr_refl F G⟩
      rw [fX2_takes_e, if_pos (by exact h4), fX2_takesStart_e, q_b1 c1, if_pos rfl, b_b5 rfl, q_zn0]
    rcases hl with rfl | rfl | rfl | rfl | rfl | rfl
    · exact hbad (-1) rfl rfl (by decide) (by decide) rfl rfl
    · exact hbad 3 rfl rfl (by decide) (by decide) rfl rfl
    · exact hbad 4 rfl rfl (by decide) (by decide) rfl rfl
    · exact hbad 5 rfl rfl (by decide) (by decide) rfl rfl
    · exact hbad 0 rfl rfl (by decide) (by decide) rfl rfl
    · exact hbad 1 rfl rfl (by decide) (by decide) rfl rfl
end S0
end QS
