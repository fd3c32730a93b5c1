theorem st_arr {args : Array Value} {s : State} {ty : FieldType} (h : (Cond.arrayClass ty).before args s = true) : ∃ c : ClassId, ArrOfT s c ty ∧ s.vm.findClass ("[" ++ ty.toString) = some c := by
  obtain ⟨c, k, comp, h1, h2, h3⟩ := Cond.arrayClass_spec h
  exact ⟨c, fun n z => ⟨fun k h => (by cases h), k, h2, comp, h3⟩, h1⟩
theorem st_keys : ∀ k ∈ yStr.map Prod.fst, Cond.exactly (.string RX5 k) "java/lang/String" ∈ flatC (Jvm.Cond.and given_1 narrow_1) := by decide +kernel
theorem st_refs : ∀ q ∈ yStr, Cond.stringRef RX5 q.1 q.2 ∈ lw_tbl := by decide +kernel
theorem st_num : ∀ q ∈ yStr, q.1 ≠ 0 ∧ q.1 ≠ 1 := by decide +kernel
theorem st_nests : ∀ w ∈ xNests, w ∈ lw_tbl := by decide +kernel
theorem st_nestsT : ∀ w ∈ xNests, w.onTables = true := by decide +kernel
theorem st_yB : ∀ w ∈ yB, w ∈ lw_tbl := by decide +kernel
theorem st_yBT : ∀ w ∈ yB, w.onTables = true := by decide +kernel
theorem st_lets : ∀ j : Nat, j < 15 → Cond.eq (.elem (.field (.string RX2 35) "java/lang/String" "value" "[B") (.int (Int32.ofNat j))) (.int (yLets.getD j 0)) ∈ flatC (Jvm.Cond.and given_1 narrow_1) := by decide +kernel
/-- the words about the letters, the texts, the exceptions, of the start -/
theorem st_Z {b : Nat} {s : State} {A : Nat → Prop} (hts : ∀ w ∈ lw_tbl, w.before #[Value.ref b] s = true) (hgv : (Jvm.Cond.and given_1 narrow_1).before #[Value.ref b] s = true) (hA : ∀ a : Nat, a < s.heap.size → ¬ A a) : ∃ sa : Nat → Nat, yZ sa A s s.heap := by
  have hs := flat_of_before _ hgv
  have h0 : ∀ k : Nat, ∃ a : Nat, k ∈ yStr.map Prod.fst → (Term.string RX5 k).eval #[Value.ref b] s none [] s = some (.ref a) := by
    intro k
    by_cases hk : k ∈ yStr.map Prod.fst
    · obtain ⟨a, c, cA, kA, q1, -⟩ := Cond.exactly_spec (args := #[Value.ref b]) (first := s) (o := none) (s := s) (idx := []) (hs _ (st_keys k hk))
      exact ⟨a, fun _ => q1⟩
    · exact ⟨0, fun h => absurd h hk⟩
  obtain ⟨sb, hsb⟩ := Classical.axiomOfChoice h0
  obtain ⟨adK, adV, hS, hE⟩ := vk_Sof (args := #[Value.ref b]) (s := s) (N := 1) (tm := fun _ => .string RX2 35) (len := [15]) (byt := [yLets]) (A := A)
    (by intro i hi; rcases (show i = 0 by omega) with rfl; decide)
    (by intro i hi; exact hs _ (by decide +kernel))
    (by intro i hi; exact hs _ (by decide +kernel))
    (by intro i hi; exact hs _ (by decide +kernel))
    (by intro i hi; rcases (show i = 0 by omega) with rfl; exact hs _ (by decide +kernel))
    (by intro i hi j hj; rcases (show i = 0 by omega) with rfl; exact hs _ (st_lets j hj))
    (by intro i j hi hj hij; omega) hA
  have h1 := hS.1 0 (by decide)
  refine ⟨fun k => if k = 0 then adK 0 else if k = 1 then adV 0 else sb k, fun w hw => va_Nw.of (st_yBT w hw) (hts w (st_yB w hw)),
    ⟨va_Nc.of (hs (Cond.not (.castable yIAE yISE)) (by decide +kernel)), va_Nc.of (hs (Cond.not (.castable yIAE yIOE)) (by decide +kernel)), va_Nc.of (hs (Cond.not (.castable yISE yIAE)) (by decide +kernel)), va_Nc.of (hs (Cond.not (.castable yISE yIOE)) (by decide +kernel)), va_Nc.of (hs (Cond.not (.castable yIOE yIAE)) (by decide +kernel)), va_Nc.of (hs (Cond.not (.castable yIOE yISE)) (by decide +kernel))⟩, ?_,
    vx_Zqof (hts (.laysStatic Bundle.tN "UNASSIGNED_STACK" Bundle.steD) (by decide +kernel)) (hts (.initialized Bundle.tN) (by decide +kernel)) (hs (.isRef (.static Bundle.tN "UNASSIGNED_STACK" Bundle.steD)) (by decide +kernel)) hA,
    vx_Zqof (hts (.laysStatic Bundle.tN "SUPPRESSED_SENTINEL" Bundle.listD) (by decide +kernel)) (hts (.initialized Bundle.tN) (by decide +kernel)) (hs (.isRef (.static Bundle.tN "SUPPRESSED_SENTINEL" Bundle.listD)) (by decide +kernel)) hA, ?_⟩
  · intro q hq
    have hn := st_num q hq
    show vk_R RX5 q.1 q.2 (if q.1 = 0 then adK 0 else if q.1 = 1 then adV 0 else sb q.1) s
    rw [if_neg hn.1, if_neg hn.2]
    exact vk_R.of (hts _ (st_refs q hq)) (hsb q.1 (List.mem_map.mpr ⟨q, hq, rfl⟩))
  · exact ⟨vk_R.of (hts (Cond.stringRef RX2 35 "xyzAEae!()&|><=") (by decide +kernel)) (hE 0 (by decide)), h1.1, h1.2.1, h1.2.2.1, h1.2.2.2, va_Zof (hts (.laysStatic "java/lang/String" "COMPACT_STRINGS" "Z") (by decide +kernel)) (hts (.initialized "java/lang/String") (by decide +kernel)) (va_eqt (hs (.eq (.static "java/lang/String" "COMPACT_STRINGS" "Z") (.int 1)) (by decide +kernel))) hA⟩
/-- the classes of the start -/
theorem st_K {b : Nat} {s : State} (hts : ∀ w ∈ lw_tbl, w.before #[Value.ref b] s = true) : ∃ (D : va_G) (cI cC cZ : ClassId), va_K D vwCl (xT cI cC cZ) s := by
  obtain ⟨c0, i0, k0⟩ := u_known (C := RX0) (T := TX0) (N := 11) (n := 11) hts inX0 (hts (.instantiable RX0 11) (by decide +kernel))
  obtain ⟨c1, i1, k1⟩ := u_known (C := RX2) (T := TX2) (N := 6) (n := 6) hts inX2 (hts (.instantiable RX2 6) (by decide +kernel))
  obtain ⟨c2, i2, k2⟩ := u_known (C := RX3) (T := TX3) (N := 7) (n := 7) hts inX3 (hts (.instantiable RX3 7) (by decide +kernel))
  obtain ⟨c3, i3, k3⟩ := u_known (C := RX4) (T := TX4) (N := 9) (n := 9) hts inX4 (hts (.instantiable RX4 9) (by decide +kernel))
  obtain ⟨c4, i4, k4⟩ := u_known (C := RX5) (T := TX5) (N := 3) (n := 3) hts inX5 (hts (.instantiable RX5 3) (by decide +kernel))
  obtain ⟨cI, a1, b1⟩ := st_arr (hts (.arrayClass .int) (by decide +kernel))
  obtain ⟨cC, a2, b2⟩ := st_arr (hts (.arrayClass .char) (by decide +kernel))
  obtain ⟨cZ, a3, b3⟩ := st_arr (hts (.arrayClass .boolean) (by decide +kernel))
  refine ⟨(fun k => if k = 0 then c0 else if k = 1 then c1 else if k = 2 then c2 else if k = 3 then c3 else c4, fun k => if k = 0 then i0 else if k = 1 then i1 else if k = 2 then i2 else if k = 3 then i3 else i4), cI, cC, cZ, ?_, ?_⟩
  · intro k q hq
    match k, hq with
    | 0, hq => cases hq; exact k0
    | 1, hq => cases hq; exact k1
    | 2, hq => cases hq; exact k2
    | 3, hq => cases hq; exact k3
    | 4, hq => cases hq; exact k4
    | k + 5, hq => simp [vwCl] at hq
  · intro k q hq
    match k, hq with
    | 0, hq => cases hq; exact ⟨a1, b1⟩
    | 1, hq => cases hq; exact ⟨a2, b2⟩
    | 2, hq => cases hq; exact ⟨a3, b3⟩
    | k + 3, hq => simp [xT] at hq
