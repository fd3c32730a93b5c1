section YL
/-! a letter of a page: the class asks a text for it -/
def fX2_isLetter (p1 : Int32) : Option Int32 := some (if p1 ∈ yLets then 1 else 0)
theorem fX2_isLetter_e (p1 : Int32) : fX2_isLetter p1 = some (if p1 ∈ yLets then 1 else 0) := rfl
def zPre (D : va_G) (sa : Nat → Nat) (av : List Value) (tys : List (ClassId × FieldType)) (sz : Nat) : Array Value → State → Prop :=
  va_Pc av (fun U => U.heap.size = sz ∧ va_K D vwCl tys U ∧ yLet (sa 0) (sa 1) (va_A [] sz) U U.heap)
def zC (l : Launch) (y : MethodName) (ws : List Cond) (rm : Room) (D : va_G) (sa : Nat → Nat) (av : List Value) (tys : List (ClassId × FieldType)) (res : Int32) : Prop :=
  ∀ sz : Nat, Met l y ws rm (zPre D sa av tys sz) (xPost D [] (fun _ => []) tys (fun t => some (.int t)) res sz) 0 0 (va_A [] sz)
theorem y_blindL (D : va_G) (sa : Nat → Nat) (av : List Value) (tys : List (ClassId × FieldType)) (sz : Nat) : FrameBlind (zPre D sa av tys sz) := fun a U g mk q => by
  obtain ⟨q0, q1, qK, qL⟩ := q
  exact ⟨q0, q1, va_K.moved (u := U) (U := U.calling g mk a) (Vm.Alike.refl U.vm) qK, yLet_same (u := U) (U := U.calling g mk a) rfl qL⟩
section YLW
variable {p : Program} {l : Launch} {e : Env} {R : Room} {s : State} {m : MethodId} {args : Array Value} {below : List Frame} {meth : Method} {c : Code} {H : Heap} {locs : List Loc} {cells slots : Nat} {Q : State → Prop}
theorem y_cL {cc bytes : ByteArray} {nL maxL n index pc : Nat} {Ts wsY : List Cond} {own : String} {D : va_G} {A : Nat → Prop} {tys : List (ClassId × FieldType)} {ws : va_W} {ls : Array Slot} {rest st' As : List Value} {y : MethodName} {ret : Option FieldType} {rm : Room} {lv : List (Nat × Value)} {sa : Nat → Nat} {res : Int32}
    (S : CallFix p m c cc nL s args Ts own) (I : xI D A s ws tys H locs) (Z : yZ sa A s s.heap) (hC : zC l y wsY rm D sa As tys res) (cw : CallB R s args own index y bytes maxL ret wsY rm 0 0 n ∧ (Cond.static y).before args s = true)
    (hl : lv_has ls nL lv) (hn : As.length = n) (hroom : (rest.map fun v => v.category).sum ≤ 8) (hcs : cells ≤ R.cells ∧ slots ≤ R.slots) (hst' : .int res :: rest = st') (hdg : decode cc pc = .ok (.invokestatic index, 3))
    (kk : ∀ (H1 : Heap) (locs1 : List Loc), xI D A s ws tys H1 locs1 → W p l e R s m args below meth c H1 locs1 cells slots Q (F0 m (pc + 3) ls st')) :
    W p l e R s m args below meth c H locs cells slots Q (F0 m pc ls (As.reverse ++ rest)) := by
  subst hst'
  obtain ⟨iP, iD, iK, iS, iA, iN⟩ := id I
  have hF : ∀ q, va_A [] H.size q → A q := fun q h => by
    rcases h with ⟨k, e9, h⟩ | h
    · simp at h
    · exact iA q (Nat.le_trans iS.1 h)
  have hr : va_Run p l e R s m args below meth c H locs cells slots 0 0 (F0 m pc ls (As.reverse ++ rest)) rest (xPost D [] (fun _ => []) tys (fun t => some (.int t)) res H.size As.toArray) (va_A [] H.size) :=
    va_runS (As := As) (rest := rest) S (hC H.size) cw ⟨y_blindL D sa As tys H.size, fun U hU hW => ⟨rfl, by rw [hU], va_K.moved hW.alike iK, by rw [hU]; exact yLet_go hW (fun a h1 h2 => iS.2.1 a h1 h2) hF Z.2.2.2.2.2⟩⟩ (g := F0 m pc ls (As.reverse ++ rest)) rfl hn hl.1 rfl (lv_room hroom) hdg hcs
  intro T hT X
  obtain ⟨v, st₀, t, T', L, h0, X', hL, e1, e2, ⟨⟨hv, hP1, hK1, hD1⟩, hz, hk⟩, st⟩ := hr T hT X
  cases hv
  rw [h0] at hz hk
  rw [← e1] at hk hz
  have hlt : ∀ q : Nat, q < H.size → ¬ va_A [] H.size q := fun q h1 h2 => by
    rcases h2 with ⟨k, e9, h⟩ | h
    · simp at h
    · omega
  obtain ⟨t2, a1, b1⟩ := kk T'.heap (locs ++ L) ⟨iP.kept (fun k q hkq => hk q.1 (iP k q hkq).lt (hlt _ (iP k q hkq).lt)), iD, iK,
    ⟨Nat.le_trans iS.1 hz, fun q h1 h2 => by rw [hk q (Nat.lt_of_lt_of_le h1 iS.1) (hlt q (Nat.lt_of_lt_of_le h1 iS.1))]; exact iS.2.1 q h1 h2, fun q hq => by
      rcases List.mem_append.mp hq with h | h
      · exact iS.2.2 q h
      · exact hF _ (hL q h)⟩, iA, iN⟩ T' rfl X'
  exact ⟨t2, st t2 a1, b1⟩
end YLW
def rmX2_isLetter : Room := { frames := 6, cells := 0, slots := 0, locals := 150 }
theorem tX2_isLetter (l : Launch) (D : va_G) (cI cC cZ : ClassId) (sa : Nat → Nat) (p1 res : Int32) (hf : fX2_isLetter p1 = some res) : zC l yX2_isLetter wsX2_isLetter rmX2_isLetter D sa [.int p1] (xT cI cC cZ) res := by
  sorry
end YL
