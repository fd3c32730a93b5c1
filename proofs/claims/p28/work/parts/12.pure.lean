abbrev wX0 (cI cC cZ : ClassId) (h : Nat) (a : Nat → Nat) (F : xF) (G : xG) : va_W := [(h, .inr (0, [.ref (a 0), .ref (a 1), .ref (a 2), .ref (a 3), .ref (a 4), .ref (a 5), .ref (a 6), .ref (a 7), .ref (a 8), .int (F 9), .int (F 10)])), (a 0, .inl (cC, 40, .inl (G 0))), (a 1, .inl (cI, 40, .inl (G 1))), (a 2, .inl (cI, 40, .inl (G 2))), (a 3, .inl (cI, 40, .inl (G 3))), (a 4, .inl (cI, 40, .inl (G 4))), (a 5, .inl (cI, 40, .inl (G 5))), (a 6, .inl (cI, 40, .inl (G 6))), (a 7, .inl (cI, 40, .inl (G 7))), (a 8, .inl (cZ, 5000, .inl (G 8)))]
abbrev wX2 (cI cC cZ : ClassId) (h : Nat) (a b : Nat → Nat) (F : xF) (G : xG) (Fo : xF) (Go : xG) : va_W := [(h, .inr (1, [.ref (a 0), .ref (a 1), .int (F 2), .int (F 3), .int (F 4), .int (F 5)])), (a 1, .inl (cI, 40, .inl (G 1))), ((a 0), .inr (0, [.ref (b 0), .ref (b 1), .ref (b 2), .ref (b 3), .ref (b 4), .ref (b 5), .ref (b 6), .ref (b 7), .ref (b 8), .int (Fo 9), .int (Fo 10)])), (b 0, .inl (cC, 40, .inl (Go 0))), (b 1, .inl (cI, 40, .inl (Go 1))), (b 2, .inl (cI, 40, .inl (Go 2))), (b 3, .inl (cI, 40, .inl (Go 3))), (b 4, .inl (cI, 40, .inl (Go 4))), (b 5, .inl (cI, 40, .inl (Go 5))), (b 6, .inl (cI, 40, .inl (Go 6))), (b 7, .inl (cI, 40, .inl (Go 7))), (b 8, .inl (cZ, 5000, .inl (Go 8)))]
abbrev wX3 (cI cC cZ : ClassId) (h : Nat) (a : Nat → Nat) (F : xF) (G : xG) : va_W := [(h, .inr (2, [.ref (a 0), .ref (a 1), .ref (a 2), .ref (a 3), .ref (a 4), .ref (a 5), .int (F 6)])), (a 0, .inl (cI, 6, .inl (G 0))), (a 1, .inl (cI, 6, .inl (G 1))), (a 2, .inl (cI, 6, .inl (G 2))), (a 3, .inl (cI, 4, .inl (G 3))), (a 4, .inl (cI, 4, .inl (G 4))), (a 5, .inl (cI, 4, .inl (G 5)))]
abbrev wX4 (cI cC cZ : ClassId) (h : Nat) (a : Nat → Nat) (F : xF) (G : xG) : va_W := [(h, .inr (3, [.ref (a 0), .ref (a 1), .ref (a 2), .ref (a 3), .ref (a 4), .ref (a 5), .int (F 6), .int (F 7), .int (F 8)])), (a 0, .inl (cI, 10, .inl (G 0))), (a 1, .inl (cI, 10, .inl (G 1))), (a 2, .inl (cI, 30, .inl (G 2))), (a 3, .inl (cI, 30, .inl (G 3))), (a 4, .inl (cI, 10, .inl (G 4))), (a 5, .inl (cI, 10, .inl (G 5)))]
abbrev wX6 (cI cC cZ : ClassId) (h : Nat) (a : Nat → Nat) (F : xF) (G : xG) : va_W := [(h, .inr (5, [.int (F 0), .int (F 1), .ref (a 2), .int (F 3), .ref (a 4), .ref (a 5), .ref (a 6), .ref (a 7), .ref (a 8), .ref (a 9), .ref (a 10), .ref (a 11), .int (F 12), .ref (a 13), .ref (a 14), .ref (a 15), .int (F 16), .ref (a 17), .int (F 18), .ref (a 19), .ref (a 20), .int (F 21), .ref (a 22), .ref (a 23), .int (F 24), .ref (a 25), .ref (a 26), .int (F 27), .ref (a 28), .ref (a 29), .ref (a 30), .ref (a 31)])), (a 2, .inl (cC, 40, .inl (G 2))), (a 4, .inl (cI, 40, .inl (G 4))), (a 5, .inl (cI, 40, .inl (G 5))), (a 6, .inl (cI, 40, .inl (G 6))), (a 7, .inl (cI, 40, .inl (G 7))), (a 8, .inl (cI, 40, .inl (G 8))), (a 9, .inl (cI, 40, .inl (G 9))), (a 10, .inl (cI, 40, .inl (G 10))), (a 11, .inl (cI, 40, .inl (G 11))), (a 13, .inl (cI, 41, .inl (G 13))), (a 14, .inl (cI, 41, .inl (G 14))), (a 15, .inl (cI, 41, .inl (G 15))), (a 17, .inl (cZ, 5000, .inl (G 17))), (a 19, .inl (cI, 10, .inl (G 19))), (a 20, .inl (cI, 10, .inl (G 20))), (a 22, .inl (cI, 30, .inl (G 22))), (a 23, .inl (cI, 30, .inl (G 23))), (a 25, .inl (cI, 10, .inl (G 25))), (a 26, .inl (cI, 30, .inl (G 26))), (a 28, .inl (cI, 6, .inl (G 28))), (a 29, .inl (cI, 6, .inl (G 29))), (a 30, .inl (cI, 6, .inl (G 30))), (a 31, .inl (cZ, 16, .inl (G 31)))]
abbrev wX5 (cI cC cZ : ClassId) (h : Nat) (a b d z q : Nat → Nat) (Fp : xF) (Gp : xG) (Fo : xF) (Go : xG) (Fz : xF) (Gz : xG) (Fq : xF) (Gq : xG) : va_W := [(h, .inr (4, [.ref (a 0), .ref (a 1), .ref (a 2)])), ((a 0), .inr (1, [.ref (b 0), .ref (b 1), .int (Fp 2), .int (Fp 3), .int (Fp 4), .int (Fp 5)])), (b 1, .inl (cI, 40, .inl (Gp 1))), ((b 0), .inr (0, [.ref (d 0), .ref (d 1), .ref (d 2), .ref (d 3), .ref (d 4), .ref (d 5), .ref (d 6), .ref (d 7), .ref (d 8), .int (Fo 9), .int (Fo 10)])), (d 0, .inl (cC, 40, .inl (Go 0))), (d 1, .inl (cI, 40, .inl (Go 1))), (d 2, .inl (cI, 40, .inl (Go 2))), (d 3, .inl (cI, 40, .inl (Go 3))), (d 4, .inl (cI, 40, .inl (Go 4))), (d 5, .inl (cI, 40, .inl (Go 5))), (d 6, .inl (cI, 40, .inl (Go 6))), (d 7, .inl (cI, 40, .inl (Go 7))), (d 8, .inl (cZ, 5000, .inl (Go 8))), ((a 1), .inr (3, [.ref (z 0), .ref (z 1), .ref (z 2), .ref (z 3), .ref (z 4), .ref (z 5), .int (Fz 6), .int (Fz 7), .int (Fz 8)])), (z 0, .inl (cI, 10, .inl (Gz 0))), (z 1, .inl (cI, 10, .inl (Gz 1))), (z 2, .inl (cI, 30, .inl (Gz 2))), (z 3, .inl (cI, 30, .inl (Gz 3))), (z 4, .inl (cI, 10, .inl (Gz 4))), (z 5, .inl (cI, 10, .inl (Gz 5))), ((a 2), .inr (2, [.ref (q 0), .ref (q 1), .ref (q 2), .ref (q 3), .ref (q 4), .ref (q 5), .int (Fq 6)])), (q 0, .inl (cI, 6, .inl (Gq 0))), (q 1, .inl (cI, 6, .inl (Gq 1))), (q 2, .inl (cI, 6, .inl (Gq 2))), (q 3, .inl (cI, 4, .inl (Gq 3))), (q 4, .inl (cI, 4, .inl (Gq 4))), (q 5, .inl (cI, 4, .inl (Gq 5)))]
def fX5_isBelow (p1 : Int32) (p2 : Int32) : Option (Int32) :=
  (if p1 < 0 then some (0) else (if p2 ≤ p1 then some (0) else some (1)))
theorem fX5_isBelow_e (p1 : Int32) (p2 : Int32) : fX5_isBelow p1 p2 = (if p1 < 0 then some (0) else (if p2 ≤ p1 then some (0) else some (1))) := rfl
def rmX5_isBelow : Room := { frames := 0, cells := 0, slots := 0, locals := 0 }
def fX5_isBetween (p1 : Int32) (p2 : Int32) (p3 : Int32) : Option (Int32) :=
  (if p2 < p1 then some (0) else (if p3 < p2 then some (0) else some (1)))
theorem fX5_isBetween_e (p1 : Int32) (p2 : Int32) (p3 : Int32) : fX5_isBetween p1 p2 p3 = (if p2 < p1 then some (0) else (if p3 < p2 then some (0) else some (1))) := rfl
def rmX5_isBetween : Room := { frames := 0, cells := 0, slots := 0, locals := 0 }
def fJ6_bitCount_0f7a4 (p1 : Int32) : Option (Int32) :=
  some (((((((((p1 - ((x_ush p1 1) &&& 1431655765)) &&& 858993459) + ((x_ush (p1 - ((x_ush p1 1) &&& 1431655765)) 2) &&& 858993459)) + (x_ush (((p1 - ((x_ush p1 1) &&& 1431655765)) &&& 858993459) + ((x_ush (p1 - ((x_ush p1 1) &&& 1431655765)) 2) &&& 858993459)) 4)) &&& 252645135) + (x_ush (((((p1 - ((x_ush p1 1) &&& 1431655765)) &&& 858993459) + ((x_ush (p1 - ((x_ush p1 1) &&& 1431655765)) 2) &&& 858993459)) + (x_ush (((p1 - ((x_ush p1 1) &&& 1431655765)) &&& 858993459) + ((x_ush (p1 - ((x_ush p1 1) &&& 1431655765)) 2) &&& 858993459)) 4)) &&& 252645135) 8)) + (x_ush ((((((p1 - ((x_ush p1 1) &&& 1431655765)) &&& 858993459) + ((x_ush (p1 - ((x_ush p1 1) &&& 1431655765)) 2) &&& 858993459)) + (x_ush (((p1 - ((x_ush p1 1) &&& 1431655765)) &&& 858993459) + ((x_ush (p1 - ((x_ush p1 1) &&& 1431655765)) 2) &&& 858993459)) 4)) &&& 252645135) + (x_ush (((((p1 - ((x_ush p1 1) &&& 1431655765)) &&& 858993459) + ((x_ush (p1 - ((x_ush p1 1) &&& 1431655765)) 2) &&& 858993459)) + (x_ush (((p1 - ((x_ush p1 1) &&& 1431655765)) &&& 858993459) + ((x_ush (p1 - ((x_ush p1 1) &&& 1431655765)) 2) &&& 858993459)) 4)) &&& 252645135) 8)) 16)) &&& 63))
theorem fJ6_bitCount_0f7a4_e (p1 : Int32) : fJ6_bitCount_0f7a4 p1 = some (((((((((p1 - ((x_ush p1 1) &&& 1431655765)) &&& 858993459) + ((x_ush (p1 - ((x_ush p1 1) &&& 1431655765)) 2) &&& 858993459)) + (x_ush (((p1 - ((x_ush p1 1) &&& 1431655765)) &&& 858993459) + ((x_ush (p1 - ((x_ush p1 1) &&& 1431655765)) 2) &&& 858993459)) 4)) &&& 252645135) + (x_ush (((((p1 - ((x_ush p1 1) &&& 1431655765)) &&& 858993459) + ((x_ush (p1 - ((x_ush p1 1) &&& 1431655765)) 2) &&& 858993459)) + (x_ush (((p1 - ((x_ush p1 1) &&& 1431655765)) &&& 858993459) + ((x_ush (p1 - ((x_ush p1 1) &&& 1431655765)) 2) &&& 858993459)) 4)) &&& 252645135) 8)) + (x_ush ((((((p1 - ((x_ush p1 1) &&& 1431655765)) &&& 858993459) + ((x_ush (p1 - ((x_ush p1 1) &&& 1431655765)) 2) &&& 858993459)) + (x_ush (((p1 - ((x_ush p1 1) &&& 1431655765)) &&& 858993459) + ((x_ush (p1 - ((x_ush p1 1) &&& 1431655765)) 2) &&& 858993459)) 4)) &&& 252645135) + (x_ush (((((p1 - ((x_ush p1 1) &&& 1431655765)) &&& 858993459) + ((x_ush (p1 - ((x_ush p1 1) &&& 1431655765)) 2) &&& 858993459)) + (x_ush (((p1 - ((x_ush p1 1) &&& 1431655765)) &&& 858993459) + ((x_ush (p1 - ((x_ush p1 1) &&& 1431655765)) 2) &&& 858993459)) 4)) &&& 252645135) 8)) 16)) &&& 63)) := rfl
def rmJ6_bitCount_0f7a4 : Room := { frames := 0, cells := 0, slots := 0, locals := 0 }
def fX4_includes (p1 : Int32) (p2 : Int32) : Option (Int32) :=
  (if (p2 &&& (p1 ^^^ (-1))) = 0 then some (1) else some (0))
theorem fX4_includes_e (p1 : Int32) (p2 : Int32) : fX4_includes p1 p2 = (if (p2 &&& (p1 ^^^ (-1))) = 0 then some (1) else some (0)) := rfl
def rmX4_includes : Room := { frames := 0, cells := 0, slots := 0, locals := 0 }
def fX4_contains (p1 : Int32) (p2 : Int32) : Option (Int32) :=
  (if ((x_shr p1 p2) &&& 1) = 0 then some (0) else some (1))
theorem fX4_contains_e (p1 : Int32) (p2 : Int32) : fX4_contains p1 p2 = (if ((x_shr p1 p2) &&& 1) = 0 then some (0) else some (1)) := rfl
def rmX4_contains : Room := { frames := 0, cells := 0, slots := 0, locals := 0 }
def fX4_brings (p1 : Int32) (p2 : Int32) (p3 : Int32) : Option (Int32) :=
  x_b1 (fX4_includes p1 p2) (fun r2 => (if r2 = 0 then some (0) else x_b1 (fX4_contains p1 p3) (fun r5 => (if r5 = 0 then some (1) else some (0)))))
theorem fX4_brings_e (p1 : Int32) (p2 : Int32) (p3 : Int32) : fX4_brings p1 p2 p3 = x_b1 (fX4_includes p1 p2) (fun r2 => (if r2 = 0 then some (0) else x_b1 (fX4_contains p1 p3) (fun r5 => (if r5 = 0 then some (1) else some (0))))) := rfl
def rmX4_brings : Room := { frames := 1, cells := 0, slots := 0, locals := 21 }
def fX4_nextRule_l2 (F : xF) (G : xG) (p1 : Int32) : Nat → Int32 → Option (Int32)
  | 0, _ => none
  | n2 + 1, v1 => (if (F 7) ≤ v1 then some ((-1)) else x_ld v1 30 (x_ld v1 30 (x_b1 (fX4_brings p1 ((G 2) v1.toNatClampNeg) ((G 3) v1.toNatClampNeg)) (fun r6 => (if r6 = 0 then (fX4_nextRule_l2 F G p1 n2) (v1 + 1) else some (v1))))))
theorem fX4_nextRule_l2_z (F : xF) (G : xG) (p1 : Int32) (v1 : Int32) : fX4_nextRule_l2 F G p1 0 v1 = none := rfl
theorem fX4_nextRule_l2_e (F : xF) (G : xG) (p1 : Int32) (n2 : Nat) (v1 : Int32) : fX4_nextRule_l2 F G p1 (n2 + 1) v1 = (if (F 7) ≤ v1 then some ((-1)) else x_ld v1 30 (x_ld v1 30 (x_b1 (fX4_brings p1 ((G 2) v1.toNatClampNeg) ((G 3) v1.toNatClampNeg)) (fun r6 => (if r6 = 0 then (fX4_nextRule_l2 F G p1 n2) (v1 + 1) else some (v1)))))) := rfl
def fX4_nextRule (F : xF) (G : xG) (p1 : Int32) : Option (Int32) :=
  (fX4_nextRule_l2 F G p1 4096) 0
theorem fX4_nextRule_e (F : xF) (G : xG) (p1 : Int32) : fX4_nextRule F G p1 = (fX4_nextRule_l2 F G p1 4096) 0 := rfl
def rmX4_nextRule : Room := { frames := 2, cells := 0, slots := 0, locals := 43 }
def fX4_closure_l4 (F : xF) (G : xG) : Nat → Int32 → Int32 → Option (Int32)
  | 0, _, _ => none
  | n4 + 1, v1, v2 => (if 10 ≤ v2 then some (v1) else x_b1 (fX4_nextRule F G v1) (fun r5 => (if r5 = (-1) then some (v1) else x_ld r5 30 ((fX4_closure_l4 F G n4) (v1 ||| (x_shl 1 ((G 3) r5.toNatClampNeg))) (v2 + 1)))))
theorem fX4_closure_l4_z (F : xF) (G : xG) (v1 : Int32) (v2 : Int32) : fX4_closure_l4 F G 0 v1 v2 = none := rfl
theorem fX4_closure_l4_e (F : xF) (G : xG) (n4 : Nat) (v1 : Int32) (v2 : Int32) : fX4_closure_l4 F G (n4 + 1) v1 v2 = (if 10 ≤ v2 then some (v1) else x_b1 (fX4_nextRule F G v1) (fun r5 => (if r5 = (-1) then some (v1) else x_ld r5 30 ((fX4_closure_l4 F G n4) (v1 ||| (x_shl 1 ((G 3) r5.toNatClampNeg))) (v2 + 1))))) := rfl
def fX4_closure (F : xF) (G : xG) (p1 : Int32) : Option (Int32) :=
  (fX4_closure_l4 F G 4096) p1 0
theorem fX4_closure_e (F : xF) (G : xG) (p1 : Int32) : fX4_closure F G p1 = (fX4_closure_l4 F G 4096) p1 0 := rfl
def rmX4_closure : Room := { frames := 3, cells := 0, slots := 0, locals := 65 }
def fX4_verdict_j54 (rec18 : Int32 → Option (Int32)) (v6 : Int32)  : Option (Int32) :=
  rec18 (v6 + 1)
theorem fX4_verdict_j54_e (rec18 : Int32 → Option (Int32)) (v6 : Int32)  : fX4_verdict_j54 rec18 v6 = rec18 (v6 + 1) := rfl
def fX4_verdict_l18 (F : xF) (G : xG) (p1 : Int32) (p2 : Int32) : Nat → Int32 → Option (Int32)
  | 0, _ => none
  | n18 + 1, v6 => (if (F 8) ≤ v6 then some (0) else x_ld v6 10 (x_b1 (fX4_contains ((G 4) v6.toNatClampNeg) p1) (fun r10 => (if r10 = 0 then (fX4_verdict_j54 (fX4_verdict_l18 F G p1 p2 n18) v6) else x_ld v6 10 (x_b1 (fX4_contains ((G 4) v6.toNatClampNeg) p2) (fun r14 => (if r14 = 0 then some ((-1)) else (fX4_verdict_j54 (fX4_verdict_l18 F G p1 p2 n18) v6))))))))
theorem fX4_verdict_l18_z (F : xF) (G : xG) (p1 : Int32) (p2 : Int32) (v6 : Int32) : fX4_verdict_l18 F G p1 p2 0 v6 = none := rfl
theorem fX4_verdict_l18_e (F : xF) (G : xG) (p1 : Int32) (p2 : Int32) (n18 : Nat) (v6 : Int32) : fX4_verdict_l18 F G p1 p2 (n18 + 1) v6 = (if (F 8) ≤ v6 then some (0) else x_ld v6 10 (x_b1 (fX4_contains ((G 4) v6.toNatClampNeg) p1) (fun r10 => (if r10 = 0 then (fX4_verdict_j54 (fX4_verdict_l18 F G p1 p2 n18) v6) else x_ld v6 10 (x_b1 (fX4_contains ((G 4) v6.toNatClampNeg) p2) (fun r14 => (if r14 = 0 then some ((-1)) else (fX4_verdict_j54 (fX4_verdict_l18 F G p1 p2 n18) v6)))))))) := rfl
def fX4_verdict (F : xF) (G : xG) (p1 : Int32) (p2 : Int32) : Option (Int32) :=
  x_b1 (fX4_closure F G (x_shl 1 p1)) (fun r2 => x_b1 (fX4_contains r2 p2) (fun r4 => (if r4 = 0 then (fX4_verdict_l18 F G p1 p2 4096) 0 else some (1))))
theorem fX4_verdict_e (F : xF) (G : xG) (p1 : Int32) (p2 : Int32) : fX4_verdict F G p1 p2 = x_b1 (fX4_closure F G (x_shl 1 p1)) (fun r2 => x_b1 (fX4_contains r2 p2) (fun r4 => (if r4 = 0 then (fX4_verdict_l18 F G p1 p2 4096) 0 else some (1)))) := rfl
def rmX4_verdict : Room := { frames := 4, cells := 0, slots := 0, locals := 89 }
def fX4_openPairs_x45 (rec4 : Int32 → Int32 → Option (Int32)) (v2 : Int32) (v4 : Int32) : Option (Int32) :=
  rec4 v4 (v2 + 1)
theorem fX4_openPairs_x45_e (rec4 : Int32 → Int32 → Option (Int32)) (v2 : Int32) (v4 : Int32) : fX4_openPairs_x45 rec4 v2 v4 = rec4 v4 (v2 + 1) := rfl
def fX4_openPairs_j39 (rec14 : Int32 → Int32 → Option (Int32)) (v6 : Int32) (v8 : Int32) : Option (Int32) :=
  rec14 v8 (v6 + 1)
theorem fX4_openPairs_j39_e (rec14 : Int32 → Int32 → Option (Int32)) (v6 : Int32) (v8 : Int32) : fX4_openPairs_j39 rec14 v6 v8 = rec14 v8 (v6 + 1) := rfl
def fX4_openPairs_l14 (rec4 : Int32 → Int32 → Option (Int32)) (F : xF) (G : xG) (v2 : Int32) : Nat → Int32 → Int32 → Option (Int32)
  | 0, _, _ => none
  | n14 + 1, v5, v6 => (if (F 6) ≤ v6 then (fX4_openPairs_x45 rec4 v2) v5 else (if v2 = v6 then (fX4_openPairs_j39 (fX4_openPairs_l14 rec4 F G v2 n14) v6) v5 else x_b1 (fX4_verdict F G v2 v6) (fun r11 => (if r11 = 0 then (fX4_openPairs_j39 (fX4_openPairs_l14 rec4 F G v2 n14) v6) (v5 + 1) else (fX4_openPairs_j39 (fX4_openPairs_l14 rec4 F G v2 n14) v6) v5))))
theorem fX4_openPairs_l14_z (rec4 : Int32 → Int32 → Option (Int32)) (F : xF) (G : xG) (v2 : Int32) (v5 : Int32) (v6 : Int32) : fX4_openPairs_l14 rec4 F G v2 0 v5 v6 = none := rfl
theorem fX4_openPairs_l14_e (rec4 : Int32 → Int32 → Option (Int32)) (F : xF) (G : xG) (v2 : Int32) (n14 : Nat) (v5 : Int32) (v6 : Int32) : fX4_openPairs_l14 rec4 F G v2 (n14 + 1) v5 v6 = (if (F 6) ≤ v6 then (fX4_openPairs_x45 rec4 v2) v5 else (if v2 = v6 then (fX4_openPairs_j39 (fX4_openPairs_l14 rec4 F G v2 n14) v6) v5 else x_b1 (fX4_verdict F G v2 v6) (fun r11 => (if r11 = 0 then (fX4_openPairs_j39 (fX4_openPairs_l14 rec4 F G v2 n14) v6) (v5 + 1) else (fX4_openPairs_j39 (fX4_openPairs_l14 rec4 F G v2 n14) v6) v5)))) := rfl
def fX4_openPairs_l4 (F : xF) (G : xG) : Nat → Int32 → Int32 → Option (Int32)
  | 0, _, _ => none
  | n4 + 1, v1, v2 => (if (F 6) ≤ v2 then some (v1) else (fX4_openPairs_l14 (fX4_openPairs_l4 F G n4) F G v2 4096) v1 0)
theorem fX4_openPairs_l4_z (F : xF) (G : xG) (v1 : Int32) (v2 : Int32) : fX4_openPairs_l4 F G 0 v1 v2 = none := rfl
theorem fX4_openPairs_l4_e (F : xF) (G : xG) (n4 : Nat) (v1 : Int32) (v2 : Int32) : fX4_openPairs_l4 F G (n4 + 1) v1 v2 = (if (F 6) ≤ v2 then some (v1) else (fX4_openPairs_l14 (fX4_openPairs_l4 F G n4) F G v2 4096) v1 0) := rfl
def fX4_openPairs (F : xF) (G : xG) : Option (Int32) :=
  (fX4_openPairs_l4 F G 4096) 0 0
theorem fX4_openPairs_e (F : xF) (G : xG) : fX4_openPairs F G = (fX4_openPairs_l4 F G 4096) 0 0 := rfl
def rmX4_openPairs : Room := { frames := 5, cells := 0, slots := 0, locals := 112 }
def fX4_hasPrinciple (F : xF) (p1 : Int32) : Option (Int32) :=
  x_b1 (fX5_isBelow p1 (F 6)) (fun r2 => some (x_zn r2))
theorem fX4_hasPrinciple_e (F : xF) (p1 : Int32) : fX4_hasPrinciple F p1 = x_b1 (fX5_isBelow p1 (F 6)) (fun r2 => some (x_zn r2)) := rfl
def rmX4_hasPrinciple : Room := { frames := 1, cells := 0, slots := 0, locals := 21 }
def fX4_isSet (F : xF) (p1 : Int32) : Option (Int32) :=
  (if (x_ush p1 (F 6)) = 0 then some (1) else some (0))
theorem fX4_isSet_e (F : xF) (p1 : Int32) : fX4_isSet F p1 = (if (x_ush p1 (F 6)) = 0 then some (1) else some (0)) := rfl
def rmX4_isSet : Room := { frames := 0, cells := 0, slots := 0, locals := 0 }
def fX4_hasAllPrinciples (F : xF) : Option (Int32) :=
  (if (F 6) < 10 then some (0) else some (1))
theorem fX4_hasAllPrinciples_e (F : xF) : fX4_hasAllPrinciples F = (if (F 6) < 10 then some (0) else some (1)) := rfl
def rmX4_hasAllPrinciples : Room := { frames := 0, cells := 0, slots := 0, locals := 0 }
def fX4_hasAllRules (F : xF) : Option (Int32) :=
  (if (F 7) < 30 then some (0) else some (1))
theorem fX4_hasAllRules_e (F : xF) : fX4_hasAllRules F = (if (F 7) < 30 then some (0) else some (1)) := rfl
def rmX4_hasAllRules : Room := { frames := 0, cells := 0, slots := 0, locals := 0 }
def fX4_hasAllModels (F : xF) : Option (Int32) :=
  (if (F 8) < 10 then some (0) else some (1))
theorem fX4_hasAllModels_e (F : xF) : fX4_hasAllModels F = (if (F 8) < 10 then some (0) else some (1)) := rfl
def rmX4_hasAllModels : Room := { frames := 0, cells := 0, slots := 0, locals := 0 }
def fX4_addPrinciple (F : xF) (G : xG) (p1 : Int32) (p2 : Int32) : Option (Int32 × xF × xG) :=
  x_ld (F 6) 10 (x_ld (F 6) 10 (some ((F 6), (va_up F 6 ((F 6) + 1)), (va_up (va_up G 0 (upd (G 0) (F 6).toNatClampNeg p1)) 1 (upd (G 1) (F 6).toNatClampNeg p2)))))
theorem fX4_addPrinciple_e (F : xF) (G : xG) (p1 : Int32) (p2 : Int32) : fX4_addPrinciple F G p1 p2 = x_ld (F 6) 10 (x_ld (F 6) 10 (some ((F 6), (va_up F 6 ((F 6) + 1)), (va_up (va_up G 0 (upd (G 0) (F 6).toNatClampNeg p1)) 1 (upd (G 1) (F 6).toNatClampNeg p2))))) := rfl
def rmX4_addPrinciple : Room := { frames := 0, cells := 0, slots := 0, locals := 0 }
def fX4_addRule (F : xF) (G : xG) (p1 : Int32) (p2 : Int32) : Option (Int32 × xF × xG) :=
  x_ld (F 7) 30 (x_ld (F 7) 30 (some ((F 7), (va_up F 7 ((F 7) + 1)), (va_up (va_up G 2 (upd (G 2) (F 7).toNatClampNeg p1)) 3 (upd (G 3) (F 7).toNatClampNeg p2)))))
theorem fX4_addRule_e (F : xF) (G : xG) (p1 : Int32) (p2 : Int32) : fX4_addRule F G p1 p2 = x_ld (F 7) 30 (x_ld (F 7) 30 (some ((F 7), (va_up F 7 ((F 7) + 1)), (va_up (va_up G 2 (upd (G 2) (F 7).toNatClampNeg p1)) 3 (upd (G 3) (F 7).toNatClampNeg p2))))) := rfl
def rmX4_addRule : Room := { frames := 0, cells := 0, slots := 0, locals := 0 }
def fX4_addModel (F : xF) (G : xG) (p1 : Int32) : Option (Int32 × xF × xG) :=
  x_ld (F 8) 10 (some ((F 8), (va_up F 8 ((F 8) + 1)), (va_up G 4 (upd (G 4) (F 8).toNatClampNeg p1))))
theorem fX4_addModel_e (F : xF) (G : xG) (p1 : Int32) : fX4_addModel F G p1 = x_ld (F 8) 10 (some ((F 8), (va_up F 8 ((F 8) + 1)), (va_up G 4 (upd (G 4) (F 8).toNatClampNeg p1)))) := rfl
def rmX4_addModel : Room := { frames := 0, cells := 0, slots := 0, locals := 0 }
def fX4_isBrokenByModel_l2 (F : xF) (G : xG) (p1 : Int32) (p2 : Int32) : Nat → Int32 → Option (Int32)
  | 0, _ => none
  | n2 + 1, v1 => (if (F 8) ≤ v1 then some (0) else x_ld v1 10 (x_b1 (fX4_brings ((G 4) v1.toNatClampNeg) p1 p2) (fun r5 => (if r5 = 0 then (fX4_isBrokenByModel_l2 F G p1 p2 n2) (v1 + 1) else some (1)))))
theorem fX4_isBrokenByModel_l2_z (F : xF) (G : xG) (p1 : Int32) (p2 : Int32) (v1 : Int32) : fX4_isBrokenByModel_l2 F G p1 p2 0 v1 = none := rfl
theorem fX4_isBrokenByModel_l2_e (F : xF) (G : xG) (p1 : Int32) (p2 : Int32) (n2 : Nat) (v1 : Int32) : fX4_isBrokenByModel_l2 F G p1 p2 (n2 + 1) v1 = (if (F 8) ≤ v1 then some (0) else x_ld v1 10 (x_b1 (fX4_brings ((G 4) v1.toNatClampNeg) p1 p2) (fun r5 => (if r5 = 0 then (fX4_isBrokenByModel_l2 F G p1 p2 n2) (v1 + 1) else some (1))))) := rfl
def fX4_isBrokenByModel (F : xF) (G : xG) (p1 : Int32) (p2 : Int32) : Option (Int32) :=
  (fX4_isBrokenByModel_l2 F G p1 p2 4096) 0
theorem fX4_isBrokenByModel_e (F : xF) (G : xG) (p1 : Int32) (p2 : Int32) : fX4_isBrokenByModel F G p1 p2 = (fX4_isBrokenByModel_l2 F G p1 p2 4096) 0 := rfl
def rmX4_isBrokenByModel : Room := { frames := 2, cells := 0, slots := 0, locals := 43 }
def fX4_breaksRule (F : xF) (G : xG) (p1 : Int32) : Option (Int32) :=
  x_b1 (fX4_nextRule F G p1) (fun r2 => (if r2 = (-1) then some (0) else some (1)))
theorem fX4_breaksRule_e (F : xF) (G : xG) (p1 : Int32) : fX4_breaksRule F G p1 = x_b1 (fX4_nextRule F G p1) (fun r2 => (if r2 = (-1) then some (0) else some (1))) := rfl
def rmX4_breaksRule : Room := { frames := 3, cells := 0, slots := 0, locals := 65 }
def fX4_takeSteps_l5 (F : xF) (p2 : Int32) : Nat → Int32 → Int32 → xG → Option (Int32 × xG)
  | 0, _, _, _ => none
  | n5 + 1, v1, v2, G3 => (if 10 ≤ v2 then some (v2, G3) else x_b1 (fX4_contains v1 p2) (fun r6 => (if r6 = 0 then x_b1 (fX4_nextRule F G3 v1) (fun r9 => (if r9 = (-1) then some ((-1), G3) else x_ld v2 10 (x_ld r9 30 ((fX4_takeSteps_l5 F p2 n5) (v1 ||| (x_shl 1 ((G3 3) r9.toNatClampNeg))) (v2 + 1) (va_up G3 5 (upd (G3 5) v2.toNatClampNeg r9)))))) else some (v2, G3))))
theorem fX4_takeSteps_l5_z (F : xF) (p2 : Int32) (v1 : Int32) (v2 : Int32) (G3 : xG) : fX4_takeSteps_l5 F p2 0 v1 v2 G3 = none := rfl
theorem fX4_takeSteps_l5_e (F : xF) (p2 : Int32) (n5 : Nat) (v1 : Int32) (v2 : Int32) (G3 : xG) : fX4_takeSteps_l5 F p2 (n5 + 1) v1 v2 G3 = (if 10 ≤ v2 then some (v2, G3) else x_b1 (fX4_contains v1 p2) (fun r6 => (if r6 = 0 then x_b1 (fX4_nextRule F G3 v1) (fun r9 => (if r9 = (-1) then some ((-1), G3) else x_ld v2 10 (x_ld r9 30 ((fX4_takeSteps_l5 F p2 n5) (v1 ||| (x_shl 1 ((G3 3) r9.toNatClampNeg))) (v2 + 1) (va_up G3 5 (upd (G3 5) v2.toNatClampNeg r9)))))) else some (v2, G3)))) := rfl
def fX4_takeSteps (F : xF) (G : xG) (p1 : Int32) (p2 : Int32) : Option (Int32 × xG) :=
  (fX4_takeSteps_l5 F p2 4096) p1 0 G
theorem fX4_takeSteps_e (F : xF) (G : xG) (p1 : Int32) (p2 : Int32) : fX4_takeSteps F G p1 p2 = (fX4_takeSteps_l5 F p2 4096) p1 0 G := rfl
def rmX4_takeSteps : Room := { frames := 3, cells := 0, slots := 0, locals := 65 }
def fX4_neededSteps_j59 (rec12 : Int32 → Int32 → Int32 → Option (Int32)) (v3 : Int32) (v9 : Int32) (v10 : Int32) : Option (Int32) :=
  rec12 v9 v10 (v3 + (-1))
theorem fX4_neededSteps_j59_e (rec12 : Int32 → Int32 → Int32 → Option (Int32)) (v3 : Int32) (v9 : Int32) (v10 : Int32) : fX4_neededSteps_j59 rec12 v3 v9 v10 = rec12 v9 v10 (v3 + (-1)) := rfl
def fX4_neededSteps_l12 (G : xG) : Nat → Int32 → Int32 → Int32 → Option (Int32)
  | 0, _, _, _ => none
  | n12 + 1, v1, v2, v3 => (if v3 < 0 then some (v2) else x_ld v3 10 (x_ld ((G 5) v3.toNatClampNeg) 30 (x_b1 (fX4_contains v1 ((G 3) ((G 5) v3.toNatClampNeg).toNatClampNeg)) (fun r8 => (if r8 = 0 then (fX4_neededSteps_j59 (fX4_neededSteps_l12 G n12) v3) v1 v2 else x_ld ((G 5) v3.toNatClampNeg) 30 ((fX4_neededSteps_j59 (fX4_neededSteps_l12 G n12) v3) (v1 ||| ((G 2) ((G 5) v3.toNatClampNeg).toNatClampNeg)) (v2 ||| (x_shl 1 v3))))))))
theorem fX4_neededSteps_l12_z (G : xG) (v1 : Int32) (v2 : Int32) (v3 : Int32) : fX4_neededSteps_l12 G 0 v1 v2 v3 = none := rfl
theorem fX4_neededSteps_l12_e (G : xG) (n12 : Nat) (v1 : Int32) (v2 : Int32) (v3 : Int32) : fX4_neededSteps_l12 G (n12 + 1) v1 v2 v3 = (if v3 < 0 then some (v2) else x_ld v3 10 (x_ld ((G 5) v3.toNatClampNeg) 30 (x_b1 (fX4_contains v1 ((G 3) ((G 5) v3.toNatClampNeg).toNatClampNeg)) (fun r8 => (if r8 = 0 then (fX4_neededSteps_j59 (fX4_neededSteps_l12 G n12) v3) v1 v2 else x_ld ((G 5) v3.toNatClampNeg) 30 ((fX4_neededSteps_j59 (fX4_neededSteps_l12 G n12) v3) (v1 ||| ((G 2) ((G 5) v3.toNatClampNeg).toNatClampNeg)) (v2 ||| (x_shl 1 v3)))))))) := rfl
def fX4_neededSteps (G : xG) (p1 : Int32) (p2 : Int32) : Option (Int32) :=
  (fX4_neededSteps_l12 G 4096) (x_shl 1 p1) 0 (p2 - 1)
theorem fX4_neededSteps_e (G : xG) (p1 : Int32) (p2 : Int32) : fX4_neededSteps G p1 p2 = (fX4_neededSteps_l12 G 4096) (x_shl 1 p1) 0 (p2 - 1) := rfl
def rmX4_neededSteps : Room := { frames := 1, cells := 0, slots := 0, locals := 21 }
def fX4_neededStep_x26 (G : xG) (v1 : Int32) : Option (Int32) :=
  x_ld v1 10 (some (((G 5) v1.toNatClampNeg)))
theorem fX4_neededStep_x26_e (G : xG) (v1 : Int32) : fX4_neededStep_x26 G v1 = x_ld v1 10 (some (((G 5) v1.toNatClampNeg))) := rfl
def fX4_neededStep_j37 (rec5 : Int32 → Int32 → Option (Int32)) (v4 : Int32) (v8 : Int32) : Option (Int32) :=
  rec5 v8 (v4 + 1)
theorem fX4_neededStep_j37_e (rec5 : Int32 → Int32 → Option (Int32)) (v4 : Int32) (v8 : Int32) : fX4_neededStep_j37 rec5 v4 v8 = rec5 v8 (v4 + 1) := rfl
def fX4_neededStep_l5 (G : xG) (p1 : Int32) (p2 : Int32) : Nat → Int32 → Int32 → Option (Int32)
  | 0, _, _ => none
  | n5 + 1, v3, v4 => (if 10 ≤ v4 then some ((-1)) else x_b1 (fX4_contains p1 v4) (fun r7 => (if r7 = 0 then (fX4_neededStep_j37 (fX4_neededStep_l5 G p1 p2 n5) v4) v3 else (if v3 = p2 then (fX4_neededStep_x26 G) v4 else (fX4_neededStep_j37 (fX4_neededStep_l5 G p1 p2 n5) v4) (v3 + 1)))))
theorem fX4_neededStep_l5_z (G : xG) (p1 : Int32) (p2 : Int32) (v3 : Int32) (v4 : Int32) : fX4_neededStep_l5 G p1 p2 0 v3 v4 = none := rfl
theorem fX4_neededStep_l5_e (G : xG) (p1 : Int32) (p2 : Int32) (n5 : Nat) (v3 : Int32) (v4 : Int32) : fX4_neededStep_l5 G p1 p2 (n5 + 1) v3 v4 = (if 10 ≤ v4 then some ((-1)) else x_b1 (fX4_contains p1 v4) (fun r7 => (if r7 = 0 then (fX4_neededStep_j37 (fX4_neededStep_l5 G p1 p2 n5) v4) v3 else (if v3 = p2 then (fX4_neededStep_x26 G) v4 else (fX4_neededStep_j37 (fX4_neededStep_l5 G p1 p2 n5) v4) (v3 + 1))))) := rfl
def fX4_neededStep (G : xG) (p1 : Int32) (p2 : Int32) : Option (Int32) :=
  (fX4_neededStep_l5 G p1 p2 4096) 0 0
theorem fX4_neededStep_e (G : xG) (p1 : Int32) (p2 : Int32) : fX4_neededStep G p1 p2 = (fX4_neededStep_l5 G p1 p2 4096) 0 0 := rfl
def rmX4_neededStep : Room := { frames := 1, cells := 0, slots := 0, locals := 21 }
def fX4_proofStep (F : xF) (G : xG) (p1 : Int32) (p2 : Int32) (p3 : Int32) : Option (Int32 × xG) :=
  x_b2 (fX4_takeSteps F G p1 p2) (fun r2 G3 => (if r2 = (-1) then some ((-1), G3) else x_b1 (fX4_neededSteps G3 p2 r2) (fun r6 => x_b1 (fX4_neededStep G3 r6 p3) (fun r8 => some (r8, G3)))))
theorem fX4_proofStep_e (F : xF) (G : xG) (p1 : Int32) (p2 : Int32) (p3 : Int32) : fX4_proofStep F G p1 p2 p3 = x_b2 (fX4_takeSteps F G p1 p2) (fun r2 G3 => (if r2 = (-1) then some ((-1), G3) else x_b1 (fX4_neededSteps G3 p2 r2) (fun r6 => x_b1 (fX4_neededStep G3 r6 p3) (fun r8 => some (r8, G3))))) := rfl
def rmX4_proofStep : Room := { frames := 4, cells := 0, slots := 0, locals := 90 }
def fX4_leastBySize_x71 (rec16 : Int32 → Option (Int32)) (v6 : Int32)  : Option (Int32) :=
  rec16 (v6 + 1)
theorem fX4_leastBySize_x71_e (rec16 : Int32 → Option (Int32)) (v6 : Int32)  : fX4_leastBySize_x71 rec16 v6 = rec16 (v6 + 1) := rfl
def fX4_leastBySize_j65 (rec25 : Int32 → Option (Int32)) (v8 : Int32)  : Option (Int32) :=
  rec25 (v8 + 1)
theorem fX4_leastBySize_j65_e (rec25 : Int32 → Option (Int32)) (v8 : Int32)  : fX4_leastBySize_j65 rec25 v8 = rec25 (v8 + 1) := rfl
def fX4_leastBySize_l25 (rec16 : Int32 → Option (Int32)) (F : xF) (G : xG) (p2 : Int32) (v6 : Int32) (p1 : Int32) : Nat → Int32 → Option (Int32)
  | 0, _ => none
  | n25 + 1, v8 => (if p2 < v8 then (fX4_leastBySize_x71 rec16 v6) else x_b1 (fJ6_bitCount_0f7a4 v8) (fun r11 => (if r11 = v6 then x_b1 (fX4_includes p2 v8) (fun r14 => (if r14 = 0 then (fX4_leastBySize_j65 (fX4_leastBySize_l25 rec16 F G p2 v6 p1 n25) v8) else x_b1 (fX4_closure F G v8) (fun r17 => x_b1 (fX4_contains r17 p1) (fun r19 => (if r19 = 0 then (fX4_leastBySize_j65 (fX4_leastBySize_l25 rec16 F G p2 v6 p1 n25) v8) else some (v8)))))) else (fX4_leastBySize_j65 (fX4_leastBySize_l25 rec16 F G p2 v6 p1 n25) v8))))
theorem fX4_leastBySize_l25_z (rec16 : Int32 → Option (Int32)) (F : xF) (G : xG) (p2 : Int32) (v6 : Int32) (p1 : Int32) (v8 : Int32) : fX4_leastBySize_l25 rec16 F G p2 v6 p1 0 v8 = none := rfl
theorem fX4_leastBySize_l25_e (rec16 : Int32 → Option (Int32)) (F : xF) (G : xG) (p2 : Int32) (v6 : Int32) (p1 : Int32) (n25 : Nat) (v8 : Int32) : fX4_leastBySize_l25 rec16 F G p2 v6 p1 (n25 + 1) v8 = (if p2 < v8 then (fX4_leastBySize_x71 rec16 v6) else x_b1 (fJ6_bitCount_0f7a4 v8) (fun r11 => (if r11 = v6 then x_b1 (fX4_includes p2 v8) (fun r14 => (if r14 = 0 then (fX4_leastBySize_j65 (fX4_leastBySize_l25 rec16 F G p2 v6 p1 n25) v8) else x_b1 (fX4_closure F G v8) (fun r17 => x_b1 (fX4_contains r17 p1) (fun r19 => (if r19 = 0 then (fX4_leastBySize_j65 (fX4_leastBySize_l25 rec16 F G p2 v6 p1 n25) v8) else some (v8)))))) else (fX4_leastBySize_j65 (fX4_leastBySize_l25 rec16 F G p2 v6 p1 n25) v8)))) := rfl
def fX4_leastBySize_l16 (F : xF) (G : xG) (p2 : Int32) (p1 : Int32) : Nat → Int32 → Option (Int32)
  | 0, _ => none
  | n16 + 1, v6 => (if 10 < v6 then some ((-1)) else (fX4_leastBySize_l25 (fX4_leastBySize_l16 F G p2 p1 n16) F G p2 v6 p1 4096) 0)
theorem fX4_leastBySize_l16_z (F : xF) (G : xG) (p2 : Int32) (p1 : Int32) (v6 : Int32) : fX4_leastBySize_l16 F G p2 p1 0 v6 = none := rfl
theorem fX4_leastBySize_l16_e (F : xF) (G : xG) (p2 : Int32) (p1 : Int32) (n16 : Nat) (v6 : Int32) : fX4_leastBySize_l16 F G p2 p1 (n16 + 1) v6 = (if 10 < v6 then some ((-1)) else (fX4_leastBySize_l25 (fX4_leastBySize_l16 F G p2 p1 n16) F G p2 v6 p1 4096) 0) := rfl
def fX4_leastBySize (F : xF) (G : xG) (p1 : Int32) (p2 : Int32) : Option (Int32) :=
  x_b1 (fX4_closure F G p2) (fun r2 => x_b1 (fX4_contains r2 p1) (fun r4 => (if r4 = 0 then some ((-1)) else (fX4_leastBySize_l16 F G p2 p1 4096) 0)))
theorem fX4_leastBySize_e (F : xF) (G : xG) (p1 : Int32) (p2 : Int32) : fX4_leastBySize F G p1 p2 = x_b1 (fX4_closure F G p2) (fun r2 => x_b1 (fX4_contains r2 p1) (fun r4 => (if r4 = 0 then some ((-1)) else (fX4_leastBySize_l16 F G p2 p1 4096) 0))) := rfl
def rmX4_leastBySize : Room := { frames := 4, cells := 0, slots := 0, locals := 89 }
def fX4_leastOfAll_j58 (rec9 : Int32 → Int32 → Int32 → Option (Int32)) (v3 : Int32) (v9 : Int32) (v10 : Int32) : Option (Int32) :=
  rec9 v9 v10 (v3 + 1)
theorem fX4_leastOfAll_j58_e (rec9 : Int32 → Int32 → Int32 → Option (Int32)) (v3 : Int32) (v9 : Int32) (v10 : Int32) : fX4_leastOfAll_j58 rec9 v3 v9 v10 = rec9 v9 v10 (v3 + 1) := rfl
def fX4_leastOfAll_l9 (F : xF) (G : xG) (p2 : Int32) (p1 : Int32) : Nat → Int32 → Int32 → Int32 → Option (Int32)
  | 0, _, _, _ => none
  | n9 + 1, v1, v2, v3 => (if p2 < v3 then some (v1) else x_b1 (fJ6_bitCount_0f7a4 v3) (fun r6 => x_b1 (fX4_includes p2 v3) (fun r8 => (if r8 = 0 then (fX4_leastOfAll_j58 (fX4_leastOfAll_l9 F G p2 p1 n9) v3) v1 v2 else x_b1 (fX4_closure F G v3) (fun r13 => x_b1 (fX4_contains r13 p1) (fun r15 => (if r15 = 0 then (fX4_leastOfAll_j58 (fX4_leastOfAll_l9 F G p2 p1 n9) v3) v1 v2 else (if v2 ≤ r6 then (fX4_leastOfAll_j58 (fX4_leastOfAll_l9 F G p2 p1 n9) v3) v1 v2 else (fX4_leastOfAll_j58 (fX4_leastOfAll_l9 F G p2 p1 n9) v3) v3 r6))))))))
theorem fX4_leastOfAll_l9_z (F : xF) (G : xG) (p2 : Int32) (p1 : Int32) (v1 : Int32) (v2 : Int32) (v3 : Int32) : fX4_leastOfAll_l9 F G p2 p1 0 v1 v2 v3 = none := rfl
theorem fX4_leastOfAll_l9_e (F : xF) (G : xG) (p2 : Int32) (p1 : Int32) (n9 : Nat) (v1 : Int32) (v2 : Int32) (v3 : Int32) : fX4_leastOfAll_l9 F G p2 p1 (n9 + 1) v1 v2 v3 = (if p2 < v3 then some (v1) else x_b1 (fJ6_bitCount_0f7a4 v3) (fun r6 => x_b1 (fX4_includes p2 v3) (fun r8 => (if r8 = 0 then (fX4_leastOfAll_j58 (fX4_leastOfAll_l9 F G p2 p1 n9) v3) v1 v2 else x_b1 (fX4_closure F G v3) (fun r13 => x_b1 (fX4_contains r13 p1) (fun r15 => (if r15 = 0 then (fX4_leastOfAll_j58 (fX4_leastOfAll_l9 F G p2 p1 n9) v3) v1 v2 else (if v2 ≤ r6 then (fX4_leastOfAll_j58 (fX4_leastOfAll_l9 F G p2 p1 n9) v3) v1 v2 else (fX4_leastOfAll_j58 (fX4_leastOfAll_l9 F G p2 p1 n9) v3) v3 r6)))))))) := rfl
def fX4_leastOfAll (F : xF) (G : xG) (p1 : Int32) (p2 : Int32) : Option (Int32) :=
  (fX4_leastOfAll_l9 F G p2 p1 4096) (-1) 11 0
theorem fX4_leastOfAll_e (F : xF) (G : xG) (p1 : Int32) (p2 : Int32) : fX4_leastOfAll F G p1 p2 = (fX4_leastOfAll_l9 F G p2 p1 4096) (-1) 11 0 := rfl
def rmX4_leastOfAll : Room := { frames := 4, cells := 0, slots := 0, locals := 89 }
def fX4_rulesFor_j25 (rec4 : Int32 → Int32 → Option (Int32)) (v2 : Int32) (v5 : Int32) : Option (Int32) :=
  rec4 v5 (v2 + 1)
theorem fX4_rulesFor_j25_e (rec4 : Int32 → Int32 → Option (Int32)) (v2 : Int32) (v5 : Int32) : fX4_rulesFor_j25 rec4 v2 v5 = rec4 v5 (v2 + 1) := rfl
def fX4_rulesFor_l4 (F : xF) (G : xG) (p1 : Int32) : Nat → Int32 → Int32 → Option (Int32)
  | 0, _, _ => none
  | n4 + 1, v1, v2 => (if (F 7) ≤ v2 then some (v1) else x_ld v2 30 ((if ((G 3) v2.toNatClampNeg) = p1 then (fX4_rulesFor_j25 (fX4_rulesFor_l4 F G p1 n4) v2) (v1 + 1) else (fX4_rulesFor_j25 (fX4_rulesFor_l4 F G p1 n4) v2) v1)))
theorem fX4_rulesFor_l4_z (F : xF) (G : xG) (p1 : Int32) (v1 : Int32) (v2 : Int32) : fX4_rulesFor_l4 F G p1 0 v1 v2 = none := rfl
theorem fX4_rulesFor_l4_e (F : xF) (G : xG) (p1 : Int32) (n4 : Nat) (v1 : Int32) (v2 : Int32) : fX4_rulesFor_l4 F G p1 (n4 + 1) v1 v2 = (if (F 7) ≤ v2 then some (v1) else x_ld v2 30 ((if ((G 3) v2.toNatClampNeg) = p1 then (fX4_rulesFor_j25 (fX4_rulesFor_l4 F G p1 n4) v2) (v1 + 1) else (fX4_rulesFor_j25 (fX4_rulesFor_l4 F G p1 n4) v2) v1))) := rfl
def fX4_rulesFor (F : xF) (G : xG) (p1 : Int32) : Option (Int32) :=
  (fX4_rulesFor_l4 F G p1 4096) 0 0
theorem fX4_rulesFor_e (F : xF) (G : xG) (p1 : Int32) : fX4_rulesFor F G p1 = (fX4_rulesFor_l4 F G p1 4096) 0 0 := rfl
def rmX4_rulesFor : Room := { frames := 0, cells := 0, slots := 0, locals := 0 }
def fX4_modelsWith_j28 (rec4 : Int32 → Int32 → Option (Int32)) (v2 : Int32) (v7 : Int32) : Option (Int32) :=
  rec4 v7 (v2 + 1)
theorem fX4_modelsWith_j28_e (rec4 : Int32 → Int32 → Option (Int32)) (v2 : Int32) (v7 : Int32) : fX4_modelsWith_j28 rec4 v2 v7 = rec4 v7 (v2 + 1) := rfl
def fX4_modelsWith_l4 (F : xF) (G : xG) (p1 : Int32) : Nat → Int32 → Int32 → Option (Int32)
  | 0, _, _ => none
  | n4 + 1, v1, v2 => (if (F 8) ≤ v2 then some (v1) else x_ld v2 10 (x_b1 (fX4_contains ((G 4) v2.toNatClampNeg) p1) (fun r6 => (if r6 = 0 then (fX4_modelsWith_j28 (fX4_modelsWith_l4 F G p1 n4) v2) v1 else (fX4_modelsWith_j28 (fX4_modelsWith_l4 F G p1 n4) v2) (v1 + 1)))))
theorem fX4_modelsWith_l4_z (F : xF) (G : xG) (p1 : Int32) (v1 : Int32) (v2 : Int32) : fX4_modelsWith_l4 F G p1 0 v1 v2 = none := rfl
theorem fX4_modelsWith_l4_e (F : xF) (G : xG) (p1 : Int32) (n4 : Nat) (v1 : Int32) (v2 : Int32) : fX4_modelsWith_l4 F G p1 (n4 + 1) v1 v2 = (if (F 8) ≤ v2 then some (v1) else x_ld v2 10 (x_b1 (fX4_contains ((G 4) v2.toNatClampNeg) p1) (fun r6 => (if r6 = 0 then (fX4_modelsWith_j28 (fX4_modelsWith_l4 F G p1 n4) v2) v1 else (fX4_modelsWith_j28 (fX4_modelsWith_l4 F G p1 n4) v2) (v1 + 1))))) := rfl
def fX4_modelsWith (F : xF) (G : xG) (p1 : Int32) : Option (Int32) :=
  (fX4_modelsWith_l4 F G p1 4096) 0 0
theorem fX4_modelsWith_e (F : xF) (G : xG) (p1 : Int32) : fX4_modelsWith F G p1 = (fX4_modelsWith_l4 F G p1 4096) 0 0 := rfl
def rmX4_modelsWith : Room := { frames := 1, cells := 0, slots := 0, locals := 21 }
def fX4_tell (F : xF) (G : xG) (p1 : Int32) (p2 : Int32) : Option (Int32) :=
  (if p2 = 0 then x_ld p1 10 (some (((G 0) p1.toNatClampNeg))) else (if p2 = 1 then x_ld p1 10 (some (((G 1) p1.toNatClampNeg))) else (if p2 = 2 then x_b1 (fX4_rulesFor F G p1) (fun r7 => some (r7)) else x_b1 (fX4_modelsWith F G p1) (fun r9 => some (r9)))))
theorem fX4_tell_e (F : xF) (G : xG) (p1 : Int32) (p2 : Int32) : fX4_tell F G p1 p2 = (if p2 = 0 then x_ld p1 10 (some (((G 0) p1.toNatClampNeg))) else (if p2 = 1 then x_ld p1 10 (some (((G 1) p1.toNatClampNeg))) else (if p2 = 2 then x_b1 (fX4_rulesFor F G p1) (fun r7 => some (r7)) else x_b1 (fX4_modelsWith F G p1) (fun r9 => some (r9))))) := rfl
def rmX4_tell : Room := { frames := 2, cells := 0, slots := 0, locals := 44 }
def fX1_isInRange (p1 : Int32) (p2 : Int32) : Option (Int32) :=
  x_b1 (fX5_isBetween 1 p1 4) (fun r2 => (if r2 = 0 then some (0) else (if (x_ush p2 (x_shl 1 p1)) = 0 then some (1) else some (0))))
theorem fX1_isInRange_e (p1 : Int32) (p2 : Int32) : fX1_isInRange p1 p2 = x_b1 (fX5_isBetween 1 p1 4) (fun r2 => (if r2 = 0 then some (0) else (if (x_ush p2 (x_shl 1 p1)) = 0 then some (1) else some (0)))) := rfl
def rmX1_isInRange : Room := { frames := 1, cells := 0, slots := 0, locals := 22 }
def fX1_isOfFirst (p1 : Int32) : Option (Int32) :=
  (if (p1 &&& 1) = 0 then some (1) else some (0))
theorem fX1_isOfFirst_e (p1 : Int32) : fX1_isOfFirst p1 = (if (p1 &&& 1) = 0 then some (1) else some (0)) := rfl
def rmX1_isOfFirst : Room := { frames := 0, cells := 0, slots := 0, locals := 0 }
def fX1_wonAhead_j64 (rec4 : Int32 → Int32 → Option (Int32)) (v2 : Int32) (v7 : Int32) : Option (Int32) :=
  rec4 v7 (v2 + 1)
theorem fX1_wonAhead_j64_e (rec4 : Int32 → Int32 → Option (Int32)) (v2 : Int32) (v7 : Int32) : fX1_wonAhead_j64 rec4 v2 v7 = rec4 v7 (v2 + 1) := rfl
def fX1_wonAhead_j51 (rec4 : Int32 → Int32 → Option (Int32)) (v2 : Int32) (v1 : Int32) (v6 : Int32) : Option (Int32) :=
  (if v6 = 0 then (fX1_wonAhead_j64 rec4 v2) v1 else (fX1_wonAhead_j64 rec4 v2) (v1 ||| (x_shl 1 v2)))
theorem fX1_wonAhead_j51_e (rec4 : Int32 → Int32 → Option (Int32)) (v2 : Int32) (v1 : Int32) (v6 : Int32) : fX1_wonAhead_j51 rec4 v2 v1 v6 = (if v6 = 0 then (fX1_wonAhead_j64 rec4 v2) v1 else (fX1_wonAhead_j64 rec4 v2) (v1 ||| (x_shl 1 v2))) := rfl
def fX1_wonAhead_l4 (p1 : Int32) (p2 : Int32) : Nat → Int32 → Int32 → Option (Int32)
  | 0, _, _ => none
  | n4 + 1, v1, v2 => (if (x_shl 1 p1) ≤ v2 then some (v1) else x_b1 (fX1_isOfFirst p1) (fun r5 => (if r5 = 0 then (if ((x_shr p2 (2 * v2)) &&& 3) = 3 then (fX1_wonAhead_j51 (fX1_wonAhead_l4 p1 p2 n4) v2 v1) 1 else (fX1_wonAhead_j51 (fX1_wonAhead_l4 p1 p2 n4) v2 v1) 0) else (if ((x_shr p2 (2 * v2)) &&& 3) = 0 then (fX1_wonAhead_j51 (fX1_wonAhead_l4 p1 p2 n4) v2 v1) 0 else (fX1_wonAhead_j51 (fX1_wonAhead_l4 p1 p2 n4) v2 v1) 1))))
theorem fX1_wonAhead_l4_z (p1 : Int32) (p2 : Int32) (v1 : Int32) (v2 : Int32) : fX1_wonAhead_l4 p1 p2 0 v1 v2 = none := rfl
theorem fX1_wonAhead_l4_e (p1 : Int32) (p2 : Int32) (n4 : Nat) (v1 : Int32) (v2 : Int32) : fX1_wonAhead_l4 p1 p2 (n4 + 1) v1 v2 = (if (x_shl 1 p1) ≤ v2 then some (v1) else x_b1 (fX1_isOfFirst p1) (fun r5 => (if r5 = 0 then (if ((x_shr p2 (2 * v2)) &&& 3) = 3 then (fX1_wonAhead_j51 (fX1_wonAhead_l4 p1 p2 n4) v2 v1) 1 else (fX1_wonAhead_j51 (fX1_wonAhead_l4 p1 p2 n4) v2 v1) 0) else (if ((x_shr p2 (2 * v2)) &&& 3) = 0 then (fX1_wonAhead_j51 (fX1_wonAhead_l4 p1 p2 n4) v2 v1) 0 else (fX1_wonAhead_j51 (fX1_wonAhead_l4 p1 p2 n4) v2 v1) 1)))) := rfl
def fX1_wonAhead (p1 : Int32) (p2 : Int32) : Option (Int32) :=
  (fX1_wonAhead_l4 p1 p2 4096) 0 0
theorem fX1_wonAhead_e (p1 : Int32) (p2 : Int32) : fX1_wonAhead p1 p2 = (fX1_wonAhead_l4 p1 p2 4096) 0 0 := rfl
def rmX1_wonAhead : Room := { frames := 1, cells := 0, slots := 0, locals := 20 }
def fX1_isWonBackwards_x22  (v1 : Int32) : Option (Int32) :=
  (if v1 = 1 then some (1) else some (0))
theorem fX1_isWonBackwards_x22_e  (v1 : Int32) : fX1_isWonBackwards_x22 v1 = (if v1 = 1 then some (1) else some (0)) := rfl
def fX1_isWonBackwards_l6  : Nat → Int32 → Int32 → Option (Int32)
  | 0, _, _ => none
  | n6 + 1, v3, v4 => (if v4 < 0 then fX1_isWonBackwards_x22 v3 else x_b1 (fX1_wonAhead v4 v3) (fun r7 => (fX1_isWonBackwards_l6 n6) r7 (v4 + (-1))))
theorem fX1_isWonBackwards_l6_z  (v3 : Int32) (v4 : Int32) : fX1_isWonBackwards_l6 0 v3 v4 = none := rfl
theorem fX1_isWonBackwards_l6_e  (n6 : Nat) (v3 : Int32) (v4 : Int32) : fX1_isWonBackwards_l6 (n6 + 1) v3 v4 = (if v4 < 0 then fX1_isWonBackwards_x22 v3 else x_b1 (fX1_wonAhead v4 v3) (fun r7 => (fX1_isWonBackwards_l6 n6) r7 (v4 + (-1)))) := rfl
def fX1_isWonBackwards (p1 : Int32) (p2 : Int32) : Option (Int32) :=
  (fX1_isWonBackwards_l6 4096) p2 (p1 - 1)
theorem fX1_isWonBackwards_e (p1 : Int32) (p2 : Int32) : fX1_isWonBackwards p1 p2 = (fX1_isWonBackwards_l6 4096) p2 (p1 - 1) := rfl
def rmX1_isWonBackwards : Room := { frames := 2, cells := 0, slots := 0, locals := 45 }
def fX1_said (p1 : Int32) (p2 : Int32) (p3 : Int32) : Option (Int32) :=
  (if p1 = 0 then some ((p2 &&& 1)) else (if p1 = 1 then some ((p3 &&& 1)) else (if p1 = 2 then some (((x_shr p2 (1 + (p3 &&& 1))) &&& 1)) else some ((x_shr p3 1)))))
theorem fX1_said_e (p1 : Int32) (p2 : Int32) (p3 : Int32) : fX1_said p1 p2 p3 = (if p1 = 0 then some ((p2 &&& 1)) else (if p1 = 1 then some ((p3 &&& 1)) else (if p1 = 2 then some (((x_shr p2 (1 + (p3 &&& 1))) &&& 1)) else some ((x_shr p3 1))))) := rfl
def rmX1_said : Room := { frames := 0, cells := 0, slots := 0, locals := 0 }
def fX1_outcome_l5 (p3 : Int32) (p1 : Int32) (p2 : Int32) : Nat → Int32 → Int32 → Option (Int32)
  | 0, _, _ => none
  | n5 + 1, v1, v2 => (if p3 ≤ v2 then some (v1) else x_b1 (fX1_said v2 p1 p2) (fun r5 => (fX1_outcome_l5 p3 p1 p2 n5) ((2 * v1) + r5) (v2 + 1)))
theorem fX1_outcome_l5_z (p3 : Int32) (p1 : Int32) (p2 : Int32) (v1 : Int32) (v2 : Int32) : fX1_outcome_l5 p3 p1 p2 0 v1 v2 = none := rfl
theorem fX1_outcome_l5_e (p3 : Int32) (p1 : Int32) (p2 : Int32) (n5 : Nat) (v1 : Int32) (v2 : Int32) : fX1_outcome_l5 p3 p1 p2 (n5 + 1) v1 v2 = (if p3 ≤ v2 then some (v1) else x_b1 (fX1_said v2 p1 p2) (fun r5 => (fX1_outcome_l5 p3 p1 p2 n5) ((2 * v1) + r5) (v2 + 1))) := rfl
def fX1_outcome (p1 : Int32) (p2 : Int32) (p3 : Int32) : Option (Int32) :=
  (fX1_outcome_l5 p3 p1 p2 4096) 0 0
theorem fX1_outcome_e (p1 : Int32) (p2 : Int32) (p3 : Int32) : fX1_outcome p1 p2 p3 = (fX1_outcome_l5 p3 p1 p2 4096) 0 0 := rfl
def rmX1_outcome : Room := { frames := 1, cells := 0, slots := 0, locals := 23 }
def fX1_winsAlways_l2 (p1 : Int32) (p2 : Int32) (p3 : Int32) : Nat → Int32 → Option (Int32)
  | 0, _ => none
  | n2 + 1, v1 => (if 4 ≤ v1 then some (1) else x_b1 (fX1_outcome p1 v1 p2) (fun r4 => (if ((x_shr p3 r4) &&& 1) = 0 then some (0) else (fX1_winsAlways_l2 p1 p2 p3 n2) (v1 + 1))))
theorem fX1_winsAlways_l2_z (p1 : Int32) (p2 : Int32) (p3 : Int32) (v1 : Int32) : fX1_winsAlways_l2 p1 p2 p3 0 v1 = none := rfl
theorem fX1_winsAlways_l2_e (p1 : Int32) (p2 : Int32) (p3 : Int32) (n2 : Nat) (v1 : Int32) : fX1_winsAlways_l2 p1 p2 p3 (n2 + 1) v1 = (if 4 ≤ v1 then some (1) else x_b1 (fX1_outcome p1 v1 p2) (fun r4 => (if ((x_shr p3 r4) &&& 1) = 0 then some (0) else (fX1_winsAlways_l2 p1 p2 p3 n2) (v1 + 1)))) := rfl
def fX1_winsAlways (p1 : Int32) (p2 : Int32) (p3 : Int32) : Option (Int32) :=
  (fX1_winsAlways_l2 p1 p2 p3 4096) 0
theorem fX1_winsAlways_e (p1 : Int32) (p2 : Int32) (p3 : Int32) : fX1_winsAlways p1 p2 p3 = (fX1_winsAlways_l2 p1 p2 p3 4096) 0 := rfl
def rmX1_winsAlways : Room := { frames := 2, cells := 0, slots := 0, locals := 47 }
def fX1_isWonBySomePlan_l2 (p1 : Int32) (p2 : Int32) : Nat → Int32 → Option (Int32)
  | 0, _ => none
  | n2 + 1, v1 => (if 8 ≤ v1 then some (0) else x_b1 (fX1_winsAlways v1 p1 p2) (fun r4 => (if r4 = 0 then (fX1_isWonBySomePlan_l2 p1 p2 n2) (v1 + 1) else some (1))))
theorem fX1_isWonBySomePlan_l2_z (p1 : Int32) (p2 : Int32) (v1 : Int32) : fX1_isWonBySomePlan_l2 p1 p2 0 v1 = none := rfl
theorem fX1_isWonBySomePlan_l2_e (p1 : Int32) (p2 : Int32) (n2 : Nat) (v1 : Int32) : fX1_isWonBySomePlan_l2 p1 p2 (n2 + 1) v1 = (if 8 ≤ v1 then some (0) else x_b1 (fX1_winsAlways v1 p1 p2) (fun r4 => (if r4 = 0 then (fX1_isWonBySomePlan_l2 p1 p2 n2) (v1 + 1) else some (1)))) := rfl
def fX1_isWonBySomePlan (p1 : Int32) (p2 : Int32) : Option (Int32) :=
  (fX1_isWonBySomePlan_l2 p1 p2 4096) 0
theorem fX1_isWonBySomePlan_e (p1 : Int32) (p2 : Int32) : fX1_isWonBySomePlan p1 p2 = (fX1_isWonBySomePlan_l2 p1 p2 4096) 0 := rfl
def rmX1_isWonBySomePlan : Room := { frames := 3, cells := 0, slots := 0, locals := 70 }
def fX3_solving (p1 : Int32) (p2 : Int32) : Option (Int32) :=
  some (((x_ush p1 (4 * p2)) &&& 15))
theorem fX3_solving_e (p1 : Int32) (p2 : Int32) : fX3_solving p1 p2 = some (((x_ush p1 (4 * p2)) &&& 15)) := rfl
def rmX3_solving : Room := { frames := 0, cells := 0, slots := 0, locals := 0 }
def fX3_areInRange_x54 (p3 : Int32) (p1 : Int32)  : Option (Int32) :=
  (if (x_ush p3 (4 * p1)) = 0 then some (1) else some (0))
theorem fX3_areInRange_x54_e (p3 : Int32) (p1 : Int32)  : fX3_areInRange_x54 p3 p1 = (if (x_ush p3 (4 * p1)) = 0 then some (1) else some (0)) := rfl
def fX3_areInRange_l22 (p1 : Int32) (p3 : Int32) (p2 : Int32) : Nat → Int32 → Option (Int32)
  | 0, _ => none
  | n22 + 1, v8 => (if p1 ≤ v8 then (fX3_areInRange_x54 p3 p1) else x_b1 (fX3_solving p3 v8) (fun r11 => (if r11 = 0 then some (0) else (if (x_ush r11 p2) = 0 then (fX3_areInRange_l22 p1 p3 p2 n22) (v8 + 1) else some (0)))))
theorem fX3_areInRange_l22_z (p1 : Int32) (p3 : Int32) (p2 : Int32) (v8 : Int32) : fX3_areInRange_l22 p1 p3 p2 0 v8 = none := rfl
theorem fX3_areInRange_l22_e (p1 : Int32) (p3 : Int32) (p2 : Int32) (n22 : Nat) (v8 : Int32) : fX3_areInRange_l22 p1 p3 p2 (n22 + 1) v8 = (if p1 ≤ v8 then (fX3_areInRange_x54 p3 p1) else x_b1 (fX3_solving p3 v8) (fun r11 => (if r11 = 0 then some (0) else (if (x_ush r11 p2) = 0 then (fX3_areInRange_l22 p1 p3 p2 n22) (v8 + 1) else some (0))))) := rfl
def fX3_areInRange (p1 : Int32) (p2 : Int32) (p3 : Int32) : Option (Int32) :=
  x_b1 (fX5_isBetween 1 p1 4) (fun r2 => (if r2 = 0 then some (0) else x_b1 (fX5_isBetween 1 p2 4) (fun r5 => (if r5 = 0 then some (0) else (fX3_areInRange_l22 p1 p3 p2 4096) 0))))
theorem fX3_areInRange_e (p1 : Int32) (p2 : Int32) (p3 : Int32) : fX3_areInRange p1 p2 p3 = x_b1 (fX5_isBetween 1 p1 4) (fun r2 => (if r2 = 0 then some (0) else x_b1 (fX5_isBetween 1 p2 4) (fun r5 => (if r5 = 0 then some (0) else (fX3_areInRange_l22 p1 p3 p2 4096) 0)))) := rfl
def rmX3_areInRange : Room := { frames := 1, cells := 0, slots := 0, locals := 22 }
def fX3_hasNumber (F : xF) (p1 : Int32) : Option (Int32) :=
  x_b1 (fX5_isBelow p1 (F 6)) (fun r2 => some (x_zn r2))
theorem fX3_hasNumber_e (F : xF) (p1 : Int32) : fX3_hasNumber F p1 = x_b1 (fX5_isBelow p1 (F 6)) (fun r2 => some (x_zn r2)) := rfl
def rmX3_hasNumber : Room := { frames := 1, cells := 0, slots := 0, locals := 21 }
def fX3_hasBoth (F : xF) (p1 : Int32) (p2 : Int32) : Option (Int32) :=
  x_b1 (fX3_hasNumber F p1) (fun r2 => (if r2 = 0 then some (0) else x_b1 (fX3_hasNumber F p2) (fun r5 => (if r5 = 0 then some (0) else some (1)))))
theorem fX3_hasBoth_e (F : xF) (p1 : Int32) (p2 : Int32) : fX3_hasBoth F p1 p2 = x_b1 (fX3_hasNumber F p1) (fun r2 => (if r2 = 0 then some (0) else x_b1 (fX3_hasNumber F p2) (fun r5 => (if r5 = 0 then some (0) else some (1))))) := rfl
def rmX3_hasBoth : Room := { frames := 2, cells := 0, slots := 0, locals := 42 }
def fX3_hasInstance (G : xG) (p1 : Int32) (p2 : Int32) : Option (Int32) :=
  x_ld p1 6 (x_b1 (fX5_isBelow p2 ((G 0) p1.toNatClampNeg)) (fun r3 => some (x_zn r3)))
theorem fX3_hasInstance_e (G : xG) (p1 : Int32) (p2 : Int32) : fX3_hasInstance G p1 p2 = x_ld p1 6 (x_b1 (fX5_isBelow p2 ((G 0) p1.toNatClampNeg)) (fun r3 => some (x_zn r3))) := rfl
def rmX3_hasInstance : Room := { frames := 1, cells := 0, slots := 0, locals := 21 }
def fX3_hasAll (F : xF) : Option (Int32) :=
  (if (F 6) < 6 then some (0) else some (1))
theorem fX3_hasAll_e (F : xF) : fX3_hasAll F = (if (F 6) < 6 then some (0) else some (1)) := rfl
def rmX3_hasAll : Room := { frames := 0, cells := 0, slots := 0, locals := 0 }
def fX3_add (F : xF) (G : xG) (p1 : Int32) (p2 : Int32) (p3 : Int32) : Option (Int32 × xF × xG) :=
  x_ld (F 6) 6 (x_ld (F 6) 6 (x_ld (F 6) 6 (some ((F 6), (va_up F 6 ((F 6) + 1)), (va_up (va_up (va_up G 0 (upd (G 0) (F 6).toNatClampNeg p1)) 1 (upd (G 1) (F 6).toNatClampNeg p2)) 2 (upd (G 2) (F 6).toNatClampNeg p3))))))
theorem fX3_add_e (F : xF) (G : xG) (p1 : Int32) (p2 : Int32) (p3 : Int32) : fX3_add F G p1 p2 p3 = x_ld (F 6) 6 (x_ld (F 6) 6 (x_ld (F 6) 6 (some ((F 6), (va_up F 6 ((F 6) + 1)), (va_up (va_up (va_up G 0 (upd (G 0) (F 6).toNatClampNeg p1)) 1 (upd (G 1) (F 6).toNatClampNeg p2)) 2 (upd (G 2) (F 6).toNatClampNeg p3)))))) := rfl
def rmX3_add : Room := { frames := 0, cells := 0, slots := 0, locals := 0 }
def fX3_canMultiply (G : xG) (p1 : Int32) (p2 : Int32) : Option (Int32) :=
  x_ld p1 6 (x_ld p2 6 ((if 4 < (((G 0) p1.toNatClampNeg) * ((G 0) p2.toNatClampNeg)) then some (0) else x_ld p1 6 (x_ld p2 6 ((if 4 < (((G 1) p1.toNatClampNeg) * ((G 1) p2.toNatClampNeg)) then some (0) else some (1)))))))
theorem fX3_canMultiply_e (G : xG) (p1 : Int32) (p2 : Int32) : fX3_canMultiply G p1 p2 = x_ld p1 6 (x_ld p2 6 ((if 4 < (((G 0) p1.toNatClampNeg) * ((G 0) p2.toNatClampNeg)) then some (0) else x_ld p1 6 (x_ld p2 6 ((if 4 < (((G 1) p1.toNatClampNeg) * ((G 1) p2.toNatClampNeg)) then some (0) else some (1))))))) := rfl
def rmX3_canMultiply : Room := { frames := 0, cells := 0, slots := 0, locals := 0 }
def fX3_solvingBoth_j29 (rec5 : Int32 → Int32 → Option (Int32)) (v2 : Int32) (v4 : Int32) : Option (Int32) :=
  rec5 v4 (v2 + 1)
theorem fX3_solvingBoth_j29_e (rec5 : Int32 → Int32 → Option (Int32)) (v2 : Int32) (v4 : Int32) : fX3_solvingBoth_j29 rec5 v2 v4 = rec5 v4 (v2 + 1) := rfl
def fX3_solvingBoth_l5 (p1 : Int32) (p2 : Int32) (p3 : Int32) : Nat → Int32 → Int32 → Option (Int32)
  | 0, _, _ => none
  | n5 + 1, v1, v2 => (if 4 ≤ v2 then some (v1) else (if ((x_shr p1 v2) &&& 1) = 0 then (fX3_solvingBoth_j29 (fX3_solvingBoth_l5 p1 p2 p3 n5) v2) v1 else (fX3_solvingBoth_j29 (fX3_solvingBoth_l5 p1 p2 p3 n5) v2) (v1 ||| (x_shl p2 (v2 * p3)))))
theorem fX3_solvingBoth_l5_z (p1 : Int32) (p2 : Int32) (p3 : Int32) (v1 : Int32) (v2 : Int32) : fX3_solvingBoth_l5 p1 p2 p3 0 v1 v2 = none := rfl
theorem fX3_solvingBoth_l5_e (p1 : Int32) (p2 : Int32) (p3 : Int32) (n5 : Nat) (v1 : Int32) (v2 : Int32) : fX3_solvingBoth_l5 p1 p2 p3 (n5 + 1) v1 v2 = (if 4 ≤ v2 then some (v1) else (if ((x_shr p1 v2) &&& 1) = 0 then (fX3_solvingBoth_j29 (fX3_solvingBoth_l5 p1 p2 p3 n5) v2) v1 else (fX3_solvingBoth_j29 (fX3_solvingBoth_l5 p1 p2 p3 n5) v2) (v1 ||| (x_shl p2 (v2 * p3))))) := rfl
def fX3_solvingBoth (p1 : Int32) (p2 : Int32) (p3 : Int32) : Option (Int32) :=
  (fX3_solvingBoth_l5 p1 p2 p3 4096) 0 0
theorem fX3_solvingBoth_e (p1 : Int32) (p2 : Int32) (p3 : Int32) : fX3_solvingBoth p1 p2 p3 = (fX3_solvingBoth_l5 p1 p2 p3 4096) 0 0 := rfl
def rmX3_solvingBoth : Room := { frames := 0, cells := 0, slots := 0, locals := 0 }
def fX3_addProduct_x91 (F : xF) (G : xG) (p1 : Int32) (p2 : Int32) (v1 : Int32) (v2 : Int32) : Option (Int32 × xF × xG) :=
  x_ld p1 6 (x_ld p2 6 (x_b3 (fX3_add F G v2 (((G 1) p1.toNatClampNeg) * ((G 1) p2.toNatClampNeg)) v1) (fun r6 F7 G8 => some (r6, F7, G8))))
theorem fX3_addProduct_x91_e (F : xF) (G : xG) (p1 : Int32) (p2 : Int32) (v1 : Int32) (v2 : Int32) : fX3_addProduct_x91 F G p1 p2 v1 v2 = x_ld p1 6 (x_ld p2 6 (x_b3 (fX3_add F G v2 (((G 1) p1.toNatClampNeg) * ((G 1) p2.toNatClampNeg)) v1) (fun r6 F7 G8 => some (r6, F7, G8)))) := rfl
def fX3_addProduct_x85 (rec8 : Int32 → Int32 → Int32 → Option (Int32 × xF × xG)) (v11 : Int32) (v14 : Int32) (v15 : Int32) : Option (Int32 × xF × xG) :=
  rec8 v14 v15 (v11 + 1)
theorem fX3_addProduct_x85_e (rec8 : Int32 → Int32 → Int32 → Option (Int32 × xF × xG)) (v11 : Int32) (v14 : Int32) (v15 : Int32) : fX3_addProduct_x85 rec8 v11 v14 v15 = rec8 v14 v15 (v11 + 1) := rfl
def fX3_addProduct_l22 (rec8 : Int32 → Int32 → Int32 → Option (Int32 × xF × xG)) (G : xG) (p2 : Int32) (v11 : Int32) (p1 : Int32) : Nat → Int32 → Int32 → Int32 → Option (Int32 × xF × xG)
  | 0, _, _, _ => none
  | n22 + 1, v16, v17, v18 => x_ld p2 6 ((if ((G 0) p2.toNatClampNeg) ≤ v18 then (fX3_addProduct_x85 rec8 v11) v16 v17 else x_ld p1 6 (x_b1 (fX3_solving ((G 2) p1.toNatClampNeg) v11) (fun r23 => x_ld p2 6 (x_b1 (fX3_solving ((G 2) p2.toNatClampNeg) v18) (fun r26 => x_ld p2 6 (x_b1 (fX3_solvingBoth r23 r26 ((G 1) p2.toNatClampNeg)) (fun r29 => (fX3_addProduct_l22 rec8 G p2 v11 p1 n22) (v16 ||| (x_shl r29 (4 * v17))) (v17 + 1) (v18 + 1)))))))))
theorem fX3_addProduct_l22_z (rec8 : Int32 → Int32 → Int32 → Option (Int32 × xF × xG)) (G : xG) (p2 : Int32) (v11 : Int32) (p1 : Int32) (v16 : Int32) (v17 : Int32) (v18 : Int32) : fX3_addProduct_l22 rec8 G p2 v11 p1 0 v16 v17 v18 = none := rfl
theorem fX3_addProduct_l22_e (rec8 : Int32 → Int32 → Int32 → Option (Int32 × xF × xG)) (G : xG) (p2 : Int32) (v11 : Int32) (p1 : Int32) (n22 : Nat) (v16 : Int32) (v17 : Int32) (v18 : Int32) : fX3_addProduct_l22 rec8 G p2 v11 p1 (n22 + 1) v16 v17 v18 = x_ld p2 6 ((if ((G 0) p2.toNatClampNeg) ≤ v18 then (fX3_addProduct_x85 rec8 v11) v16 v17 else x_ld p1 6 (x_b1 (fX3_solving ((G 2) p1.toNatClampNeg) v11) (fun r23 => x_ld p2 6 (x_b1 (fX3_solving ((G 2) p2.toNatClampNeg) v18) (fun r26 => x_ld p2 6 (x_b1 (fX3_solvingBoth r23 r26 ((G 1) p2.toNatClampNeg)) (fun r29 => (fX3_addProduct_l22 rec8 G p2 v11 p1 n22) (v16 ||| (x_shl r29 (4 * v17))) (v17 + 1) (v18 + 1))))))))) := rfl
def fX3_addProduct_l8 (G : xG) (F : xF) (p1 : Int32) (p2 : Int32) : Nat → Int32 → Int32 → Int32 → Option (Int32 × xF × xG)
  | 0, _, _, _ => none
  | n8 + 1, v9, v10, v11 => x_ld p1 6 ((if ((G 0) p1.toNatClampNeg) ≤ v11 then (fX3_addProduct_x91 F G p1 p2) v9 v10 else (fX3_addProduct_l22 (fX3_addProduct_l8 G F p1 p2 n8) G p2 v11 p1 4096) v9 v10 0))
theorem fX3_addProduct_l8_z (G : xG) (F : xF) (p1 : Int32) (p2 : Int32) (v9 : Int32) (v10 : Int32) (v11 : Int32) : fX3_addProduct_l8 G F p1 p2 0 v9 v10 v11 = none := rfl
theorem fX3_addProduct_l8_e (G : xG) (F : xF) (p1 : Int32) (p2 : Int32) (n8 : Nat) (v9 : Int32) (v10 : Int32) (v11 : Int32) : fX3_addProduct_l8 G F p1 p2 (n8 + 1) v9 v10 v11 = x_ld p1 6 ((if ((G 0) p1.toNatClampNeg) ≤ v11 then (fX3_addProduct_x91 F G p1 p2) v9 v10 else (fX3_addProduct_l22 (fX3_addProduct_l8 G F p1 p2 n8) G p2 v11 p1 4096) v9 v10 0)) := rfl
def fX3_addProduct (F : xF) (G : xG) (p1 : Int32) (p2 : Int32) : Option (Int32 × xF × xG) :=
  (fX3_addProduct_l8 G F p1 p2 4096) 0 0 0
theorem fX3_addProduct_e (F : xF) (G : xG) (p1 : Int32) (p2 : Int32) : fX3_addProduct F G p1 p2 = (fX3_addProduct_l8 G F p1 p2 4096) 0 0 0 := rfl
def rmX3_addProduct : Room := { frames := 1, cells := 0, slots := 0, locals := 24 }
def fX3_clear_l2 (n : Nat) : Nat → Int32 → (Nat → Int32) → Option ((Nat → Int32))
  | 0, _, _ => none
  | n2 + 1, v1, g2 => (if 4 ≤ v1 then some (g2) else x_ld v1 n ((fX3_clear_l2 n n2) (v1 + 1) (upd g2 v1.toNatClampNeg 0)))
theorem fX3_clear_l2_z (n : Nat) (v1 : Int32) (g2 : Nat → Int32) : fX3_clear_l2 n 0 v1 g2 = none := rfl
theorem fX3_clear_l2_e (n : Nat) (n2 : Nat) (v1 : Int32) (g2 : Nat → Int32) : fX3_clear_l2 n (n2 + 1) v1 g2 = (if 4 ≤ v1 then some (g2) else x_ld v1 n ((fX3_clear_l2 n n2) (v1 + 1) (upd g2 v1.toNatClampNeg 0))) := rfl
def fX3_clear (n : Nat) (g : Nat → Int32) : Option ((Nat → Int32)) :=
  (fX3_clear_l2 n 4096) 0 g
theorem fX3_clear_e (n : Nat) (g : Nat → Int32) : fX3_clear n g = (fX3_clear_l2 n 4096) 0 g := rfl
def rmX3_clear : Room := { frames := 0, cells := 0, slots := 0, locals := 0 }
def fX3_power_l4 (p2 : Int32) (p1 : Int32) : Nat → Int32 → Int32 → Option (Int32)
  | 0, _, _ => none
  | n4 + 1, v1, v2 => (if p2 ≤ v2 then some (v1) else (fX3_power_l4 p2 p1 n4) (v1 * p1) (v2 + 1))
theorem fX3_power_l4_z (p2 : Int32) (p1 : Int32) (v1 : Int32) (v2 : Int32) : fX3_power_l4 p2 p1 0 v1 v2 = none := rfl
theorem fX3_power_l4_e (p2 : Int32) (p1 : Int32) (n4 : Nat) (v1 : Int32) (v2 : Int32) : fX3_power_l4 p2 p1 (n4 + 1) v1 v2 = (if p2 ≤ v2 then some (v1) else (fX3_power_l4 p2 p1 n4) (v1 * p1) (v2 + 1)) := rfl
def fX3_power (p1 : Int32) (p2 : Int32) : Option (Int32) :=
  (fX3_power_l4 p2 p1 4096) 1 0
theorem fX3_power_e (p1 : Int32) (p2 : Int32) : fX3_power p1 p2 = (fX3_power_l4 p2 p1 4096) 1 0 := rfl
def rmX3_power : Room := { frames := 0, cells := 0, slots := 0, locals := 0 }
def fX3_give_x69 (rec2 : Int32 → xG → Option (xG)) (G2 : xG) (v1 : Int32) (v8 : Int32) : Option (xG) :=
  x_ld v1 4 (rec2 (v1 + 1) (va_up G2 5 (upd (G2 5) v1.toNatClampNeg v8)))
theorem fX3_give_x69_e (rec2 : Int32 → xG → Option (xG)) (G2 : xG) (v1 : Int32) (v8 : Int32) : fX3_give_x69 rec2 G2 v1 v8 = x_ld v1 4 (rec2 (v1 + 1) (va_up G2 5 (upd (G2 5) v1.toNatClampNeg v8))) := rfl
def fX3_give_j63 (rec29 : Int32 → Int32 → Option (xG)) (v11 : Int32) (v14 : Int32) : Option (xG) :=
  rec29 v14 (v11 + 1)
theorem fX3_give_j63_e (rec29 : Int32 → Int32 → Option (xG)) (v11 : Int32) (v14 : Int32) : fX3_give_j63 rec29 v11 v14 = rec29 v14 (v11 + 1) := rfl
def fX3_give_l29 (rec2 : Int32 → xG → Option (xG)) (G2 : xG) (p1 : Int32) (v1 : Int32) (r7 : Int32) : Nat → Int32 → Int32 → Option (xG)
  | 0, _, _ => none
  | n29 + 1, v10, v11 => x_ld p1 6 ((if ((G2 1) p1.toNatClampNeg) ≤ v11 then (fX3_give_x69 rec2 G2 v1) v10 else (if ((x_shr r7 v11) &&& 1) = 0 then (fX3_give_j63 (fX3_give_l29 rec2 G2 p1 v1 r7 n29) v11) v10 else x_ld v11 4 ((fX3_give_j63 (fX3_give_l29 rec2 G2 p1 v1 r7 n29) v11) (v10 ||| (x_shl 1 ((G2 3) v11.toNatClampNeg)))))))
theorem fX3_give_l29_z (rec2 : Int32 → xG → Option (xG)) (G2 : xG) (p1 : Int32) (v1 : Int32) (r7 : Int32) (v10 : Int32) (v11 : Int32) : fX3_give_l29 rec2 G2 p1 v1 r7 0 v10 v11 = none := rfl
theorem fX3_give_l29_e (rec2 : Int32 → xG → Option (xG)) (G2 : xG) (p1 : Int32) (v1 : Int32) (r7 : Int32) (n29 : Nat) (v10 : Int32) (v11 : Int32) : fX3_give_l29 rec2 G2 p1 v1 r7 (n29 + 1) v10 v11 = x_ld p1 6 ((if ((G2 1) p1.toNatClampNeg) ≤ v11 then (fX3_give_x69 rec2 G2 v1) v10 else (if ((x_shr r7 v11) &&& 1) = 0 then (fX3_give_j63 (fX3_give_l29 rec2 G2 p1 v1 r7 n29) v11) v10 else x_ld v11 4 ((fX3_give_j63 (fX3_give_l29 rec2 G2 p1 v1 r7 n29) v11) (v10 ||| (x_shl 1 ((G2 3) v11.toNatClampNeg))))))) := rfl
def fX3_give_l2 (p1 : Int32) : Nat → Int32 → xG → Option (xG)
  | 0, _, _ => none
  | n2 + 1, v1, G2 => x_ld p1 6 ((if ((G2 0) p1.toNatClampNeg) ≤ v1 then some (G2) else x_ld p1 6 (x_b1 (fX3_solving ((G2 2) p1.toNatClampNeg) v1) (fun r7 => (fX3_give_l29 (fX3_give_l2 p1 n2) G2 p1 v1 r7 4096) 0 0))))
theorem fX3_give_l2_z (p1 : Int32) (v1 : Int32) (G2 : xG) : fX3_give_l2 p1 0 v1 G2 = none := rfl
theorem fX3_give_l2_e (p1 : Int32) (n2 : Nat) (v1 : Int32) (G2 : xG) : fX3_give_l2 p1 (n2 + 1) v1 G2 = x_ld p1 6 ((if ((G2 0) p1.toNatClampNeg) ≤ v1 then some (G2) else x_ld p1 6 (x_b1 (fX3_solving ((G2 2) p1.toNatClampNeg) v1) (fun r7 => (fX3_give_l29 (fX3_give_l2 p1 n2) G2 p1 v1 r7 4096) 0 0)))) := rfl
def fX3_give (G : xG) (p1 : Int32) : Option (xG) :=
  (fX3_give_l2 p1 4096) 0 G
theorem fX3_give_e (G : xG) (p1 : Int32) : fX3_give G p1 = (fX3_give_l2 p1 4096) 0 G := rfl
def rmX3_give : Room := { frames := 1, cells := 0, slots := 0, locals := 21 }
def fX3_isSolvedBack (G : xG) (p1 : Int32) (p2 : Int32) (p3 : Int32) : Option (Int32) :=
  x_ld p3 4 (x_ld p1 6 (x_b1 (fX3_solving ((G 2) p1.toNatClampNeg) p2) (fun r4 => (if (((G 5) p3.toNatClampNeg) &&& (r4 ^^^ (-1))) = 0 then some (1) else some (0)))))
theorem fX3_isSolvedBack_e (G : xG) (p1 : Int32) (p2 : Int32) (p3 : Int32) : fX3_isSolvedBack G p1 p2 p3 = x_ld p3 4 (x_ld p1 6 (x_b1 (fX3_solving ((G 2) p1.toNatClampNeg) p2) (fun r4 => (if (((G 5) p3.toNatClampNeg) &&& (r4 ^^^ (-1))) = 0 then some (1) else some (0))))) := rfl
def rmX3_isSolvedBack : Room := { frames := 1, cells := 0, slots := 0, locals := 21 }
def fX3_forthDoes_l2 (G : xG) (p1 : Int32) : Nat → Int32 → Option (Int32)
  | 0, _ => none
  | n2 + 1, v1 => x_ld p1 6 ((if ((G 0) p1.toNatClampNeg) ≤ v1 then some (1) else x_ld v1 4 (x_b1 (fX3_isSolvedBack G p1 v1 ((G 4) v1.toNatClampNeg)) (fun r6 => (if r6 = 0 then some (0) else (fX3_forthDoes_l2 G p1 n2) (v1 + 1))))))
theorem fX3_forthDoes_l2_z (G : xG) (p1 : Int32) (v1 : Int32) : fX3_forthDoes_l2 G p1 0 v1 = none := rfl
theorem fX3_forthDoes_l2_e (G : xG) (p1 : Int32) (n2 : Nat) (v1 : Int32) : fX3_forthDoes_l2 G p1 (n2 + 1) v1 = x_ld p1 6 ((if ((G 0) p1.toNatClampNeg) ≤ v1 then some (1) else x_ld v1 4 (x_b1 (fX3_isSolvedBack G p1 v1 ((G 4) v1.toNatClampNeg)) (fun r6 => (if r6 = 0 then some (0) else (fX3_forthDoes_l2 G p1 n2) (v1 + 1)))))) := rfl
def fX3_forthDoes (G : xG) (p1 : Int32) : Option (Int32) :=
  (fX3_forthDoes_l2 G p1 4096) 0
theorem fX3_forthDoes_e (G : xG) (p1 : Int32) : fX3_forthDoes G p1 = (fX3_forthDoes_l2 G p1 4096) 0 := rfl
def rmX3_forthDoes : Room := { frames := 2, cells := 0, slots := 0, locals := 44 }
def fX3_advance_l2 (p2 : Int32) (n : Nat) (p3 : Int32) : Nat → Int32 → (Nat → Int32) → Option ((Nat → Int32))
  | 0, _, _ => none
  | n2 + 1, v1, g2 => (if p2 ≤ v1 then some (g2) else x_ld v1 n (x_ld v1 n (x_ld v1 n ((if p3 ≤ ((upd g2 v1.toNatClampNeg ((g2 v1.toNatClampNeg) + 1)) v1.toNatClampNeg) then x_ld v1 n ((fX3_advance_l2 p2 n p3 n2) (v1 + 1) (upd (upd g2 v1.toNatClampNeg ((g2 v1.toNatClampNeg) + 1)) v1.toNatClampNeg 0)) else some ((upd g2 v1.toNatClampNeg ((g2 v1.toNatClampNeg) + 1))))))))
theorem fX3_advance_l2_z (p2 : Int32) (n : Nat) (p3 : Int32) (v1 : Int32) (g2 : Nat → Int32) : fX3_advance_l2 p2 n p3 0 v1 g2 = none := rfl
theorem fX3_advance_l2_e (p2 : Int32) (n : Nat) (p3 : Int32) (n2 : Nat) (v1 : Int32) (g2 : Nat → Int32) : fX3_advance_l2 p2 n p3 (n2 + 1) v1 g2 = (if p2 ≤ v1 then some (g2) else x_ld v1 n (x_ld v1 n (x_ld v1 n ((if p3 ≤ ((upd g2 v1.toNatClampNeg ((g2 v1.toNatClampNeg) + 1)) v1.toNatClampNeg) then x_ld v1 n ((fX3_advance_l2 p2 n p3 n2) (v1 + 1) (upd (upd g2 v1.toNatClampNeg ((g2 v1.toNatClampNeg) + 1)) v1.toNatClampNeg 0)) else some ((upd g2 v1.toNatClampNeg ((g2 v1.toNatClampNeg) + 1)))))))) := rfl
def fX3_advance (n : Nat) (g : Nat → Int32) (p2 : Int32) (p3 : Int32) : Option ((Nat → Int32)) :=
  (fX3_advance_l2 p2 n p3 4096) 0 g
theorem fX3_advance_e (n : Nat) (g : Nat → Int32) (p2 : Int32) (p3 : Int32) : fX3_advance n g p2 p3 = (fX3_advance_l2 p2 n p3 4096) 0 g := rfl
def rmX3_advance : Room := { frames := 0, cells := 0, slots := 0, locals := 0 }
def fX3_someForthDoes_l26 (r6 : Int32) (p1 : Int32) (p2 : Int32) : Nat → Int32 → xG → Option (Int32 × xG)
  | 0, _, _ => none
  | n26 + 1, v7, G8 => (if r6 ≤ v7 then some (0, G8) else x_b1 (fX3_forthDoes G8 p1) (fun r11 => (if r11 = 0 then x_ld p1 6 (x_ld p2 6 (x_b1 (fX3_advance 4 (G8 4) ((G8 0) p1.toNatClampNeg) ((G8 0) p2.toNatClampNeg)) (fun g16 => (fX3_someForthDoes_l26 r6 p1 p2 n26) (v7 + 1) (va_up G8 4 g16)))) else some (1, G8))))
theorem fX3_someForthDoes_l26_z (r6 : Int32) (p1 : Int32) (p2 : Int32) (v7 : Int32) (G8 : xG) : fX3_someForthDoes_l26 r6 p1 p2 0 v7 G8 = none := rfl
theorem fX3_someForthDoes_l26_e (r6 : Int32) (p1 : Int32) (p2 : Int32) (n26 : Nat) (v7 : Int32) (G8 : xG) : fX3_someForthDoes_l26 r6 p1 p2 (n26 + 1) v7 G8 = (if r6 ≤ v7 then some (0, G8) else x_b1 (fX3_forthDoes G8 p1) (fun r11 => (if r11 = 0 then x_ld p1 6 (x_ld p2 6 (x_b1 (fX3_advance 4 (G8 4) ((G8 0) p1.toNatClampNeg) ((G8 0) p2.toNatClampNeg)) (fun g16 => (fX3_someForthDoes_l26 r6 p1 p2 n26) (v7 + 1) (va_up G8 4 g16)))) else some (1, G8)))) := rfl
def fX3_someForthDoes (G : xG) (p1 : Int32) (p2 : Int32) : Option (Int32 × xG) :=
  x_b1 (fX3_clear 4 (G 4) ) (fun g2 => x_ld p2 6 (x_ld p1 6 (x_b1 (fX3_power ((G 0) p2.toNatClampNeg) ((G 0) p1.toNatClampNeg)) (fun r6 => (fX3_someForthDoes_l26 r6 p1 p2 4096) 0 (va_up G 4 g2)))))
theorem fX3_someForthDoes_e (G : xG) (p1 : Int32) (p2 : Int32) : fX3_someForthDoes G p1 p2 = x_b1 (fX3_clear 4 (G 4) ) (fun g2 => x_ld p2 6 (x_ld p1 6 (x_b1 (fX3_power ((G 0) p2.toNatClampNeg) ((G 0) p1.toNatClampNeg)) (fun r6 => (fX3_someForthDoes_l26 r6 p1 p2 4096) 0 (va_up G 4 g2))))) := rfl
def rmX3_someForthDoes : Room := { frames := 3, cells := 0, slots := 0, locals := 66 }
def fX3_lowestForth_l3 (G : xG) (p2 : Int32) (p1 : Int32) (p3 : Int32) : Nat → Int32 → Option (Int32)
  | 0, _ => none
  | n3 + 1, v1 => x_ld p2 6 ((if ((G 0) p2.toNatClampNeg) ≤ v1 then some ((-1)) else x_b1 (fX3_isSolvedBack G p1 p3 v1) (fun r5 => (if r5 = 0 then (fX3_lowestForth_l3 G p2 p1 p3 n3) (v1 + 1) else some (v1)))))
theorem fX3_lowestForth_l3_z (G : xG) (p2 : Int32) (p1 : Int32) (p3 : Int32) (v1 : Int32) : fX3_lowestForth_l3 G p2 p1 p3 0 v1 = none := rfl
theorem fX3_lowestForth_l3_e (G : xG) (p2 : Int32) (p1 : Int32) (p3 : Int32) (n3 : Nat) (v1 : Int32) : fX3_lowestForth_l3 G p2 p1 p3 (n3 + 1) v1 = x_ld p2 6 ((if ((G 0) p2.toNatClampNeg) ≤ v1 then some ((-1)) else x_b1 (fX3_isSolvedBack G p1 p3 v1) (fun r5 => (if r5 = 0 then (fX3_lowestForth_l3 G p2 p1 p3 n3) (v1 + 1) else some (v1))))) := rfl
def fX3_lowestForth (G : xG) (p1 : Int32) (p2 : Int32) (p3 : Int32) : Option (Int32) :=
  (fX3_lowestForth_l3 G p2 p1 p3 4096) 0
theorem fX3_lowestForth_e (G : xG) (p1 : Int32) (p2 : Int32) (p3 : Int32) : fX3_lowestForth G p1 p2 p3 = (fX3_lowestForth_l3 G p2 p1 p3 4096) 0 := rfl
def rmX3_lowestForth : Room := { frames := 2, cells := 0, slots := 0, locals := 44 }
def fX3_hasForth_l2 (G : xG) (p1 : Int32) (p2 : Int32) : Nat → Int32 → Option (Int32)
  | 0, _ => none
  | n2 + 1, v1 => x_ld p1 6 ((if ((G 0) p1.toNatClampNeg) ≤ v1 then some (1) else x_b1 (fX3_lowestForth G p1 p2 v1) (fun r5 => (if r5 = (-1) then some (0) else (fX3_hasForth_l2 G p1 p2 n2) (v1 + 1)))))
theorem fX3_hasForth_l2_z (G : xG) (p1 : Int32) (p2 : Int32) (v1 : Int32) : fX3_hasForth_l2 G p1 p2 0 v1 = none := rfl
theorem fX3_hasForth_l2_e (G : xG) (p1 : Int32) (p2 : Int32) (n2 : Nat) (v1 : Int32) : fX3_hasForth_l2 G p1 p2 (n2 + 1) v1 = x_ld p1 6 ((if ((G 0) p1.toNatClampNeg) ≤ v1 then some (1) else x_b1 (fX3_lowestForth G p1 p2 v1) (fun r5 => (if r5 = (-1) then some (0) else (fX3_hasForth_l2 G p1 p2 n2) (v1 + 1))))) := rfl
def fX3_hasForth (G : xG) (p1 : Int32) (p2 : Int32) : Option (Int32) :=
  (fX3_hasForth_l2 G p1 p2 4096) 0
theorem fX3_hasForth_e (G : xG) (p1 : Int32) (p2 : Int32) : fX3_hasForth G p1 p2 = (fX3_hasForth_l2 G p1 p2 4096) 0 := rfl
def rmX3_hasForth : Room := { frames := 3, cells := 0, slots := 0, locals := 68 }
def fX3_lowestCode_j67 (rec27 : Int32 → xG → Option (Int32 × xG)) (p2 : Int32) (p1 : Int32) (v7 : Int32) (G12 : xG) : Option (Int32 × xG) :=
  x_ld p2 6 (x_ld p1 6 (x_b1 (fX3_advance 4 (G12 3) ((G12 1) p2.toNatClampNeg) ((G12 1) p1.toNatClampNeg)) (fun g16 => rec27 (v7 + 1) (va_up G12 3 g16))))
theorem fX3_lowestCode_j67_e (rec27 : Int32 → xG → Option (Int32 × xG)) (p2 : Int32) (p1 : Int32) (v7 : Int32) (G12 : xG) : fX3_lowestCode_j67 rec27 p2 p1 v7 G12 = x_ld p2 6 (x_ld p1 6 (x_b1 (fX3_advance 4 (G12 3) ((G12 1) p2.toNatClampNeg) ((G12 1) p1.toNatClampNeg)) (fun g16 => rec27 (v7 + 1) (va_up G12 3 g16)))) := rfl
def fX3_lowestCode_l27 (r6 : Int32) (p2 : Int32) (p3 : Int32) (p1 : Int32) : Nat → Int32 → xG → Option (Int32 × xG)
  | 0, _, _ => none
  | n27 + 1, v7, G8 => (if r6 ≤ v7 then some ((-1), G8) else x_b1 (fX3_give G8 p2) (fun G11 => (if p3 = 0 then x_b1 (fX3_hasForth G11 p1 p2) (fun r19 => (if r19 = 0 then (fX3_lowestCode_j67 (fX3_lowestCode_l27 r6 p2 p3 p1 n27) p2 p1 v7) G11 else some (v7, G11))) else x_b2 (fX3_someForthDoes G11 p1 p2) (fun r22 G23 => (if r22 = 0 then (fX3_lowestCode_j67 (fX3_lowestCode_l27 r6 p2 p3 p1 n27) p2 p1 v7) G23 else some (v7, G23))))))
theorem fX3_lowestCode_l27_z (r6 : Int32) (p2 : Int32) (p3 : Int32) (p1 : Int32) (v7 : Int32) (G8 : xG) : fX3_lowestCode_l27 r6 p2 p3 p1 0 v7 G8 = none := rfl
theorem fX3_lowestCode_l27_e (r6 : Int32) (p2 : Int32) (p3 : Int32) (p1 : Int32) (n27 : Nat) (v7 : Int32) (G8 : xG) : fX3_lowestCode_l27 r6 p2 p3 p1 (n27 + 1) v7 G8 = (if r6 ≤ v7 then some ((-1), G8) else x_b1 (fX3_give G8 p2) (fun G11 => (if p3 = 0 then x_b1 (fX3_hasForth G11 p1 p2) (fun r19 => (if r19 = 0 then (fX3_lowestCode_j67 (fX3_lowestCode_l27 r6 p2 p3 p1 n27) p2 p1 v7) G11 else some (v7, G11))) else x_b2 (fX3_someForthDoes G11 p1 p2) (fun r22 G23 => (if r22 = 0 then (fX3_lowestCode_j67 (fX3_lowestCode_l27 r6 p2 p3 p1 n27) p2 p1 v7) G23 else some (v7, G23)))))) := rfl
def fX3_lowestCode (G : xG) (p1 : Int32) (p2 : Int32) (p3 : Int32) : Option (Int32 × xG) :=
  x_b1 (fX3_clear 4 (G 3) ) (fun g2 => x_ld p1 6 (x_ld p2 6 (x_b1 (fX3_power ((G 1) p1.toNatClampNeg) ((G 1) p2.toNatClampNeg)) (fun r6 => (fX3_lowestCode_l27 r6 p2 p3 p1 4096) 0 (va_up G 3 g2)))))
theorem fX3_lowestCode_e (G : xG) (p1 : Int32) (p2 : Int32) (p3 : Int32) : fX3_lowestCode G p1 p2 p3 = x_b1 (fX3_clear 4 (G 3) ) (fun g2 => x_ld p1 6 (x_ld p2 6 (x_b1 (fX3_power ((G 1) p1.toNatClampNeg) ((G 1) p2.toNatClampNeg)) (fun r6 => (fX3_lowestCode_l27 r6 p2 p3 p1 4096) 0 (va_up G 3 g2))))) := rfl
def rmX3_lowestCode : Room := { frames := 4, cells := 0, slots := 0, locals := 91 }
def fX3_forthOf (G : xG) (p1 : Int32) (p2 : Int32) (p3 : Int32) : Option (Int32 × xG) :=
  x_b2 (fX3_lowestCode G p1 p2 0) (fun r2 G3 => (if r2 = (-1) then some ((-1), G3) else x_b1 (fX3_lowestForth G3 p1 p2 p3) (fun r6 => some (r6, G3))))
theorem fX3_forthOf_e (G : xG) (p1 : Int32) (p2 : Int32) (p3 : Int32) : fX3_forthOf G p1 p2 p3 = x_b2 (fX3_lowestCode G p1 p2 0) (fun r2 G3 => (if r2 = (-1) then some ((-1), G3) else x_b1 (fX3_lowestForth G3 p1 p2 p3) (fun r6 => some (r6, G3)))) := rfl
def rmX3_forthOf : Room := { frames := 5, cells := 0, slots := 0, locals := 116 }
def fX3_tell (G : xG) (p1 : Int32) (p2 : Int32) : Option (Int32) :=
  (if p2 = 0 then x_ld p1 6 (some (((G 0) p1.toNatClampNeg))) else (if p2 = 1 then x_ld p1 6 (some (((G 1) p1.toNatClampNeg))) else x_ld p1 6 (some (((G 2) p1.toNatClampNeg)))))
theorem fX3_tell_e (G : xG) (p1 : Int32) (p2 : Int32) : fX3_tell G p1 p2 = (if p2 = 0 then x_ld p1 6 (some (((G 0) p1.toNatClampNeg))) else (if p2 = 1 then x_ld p1 6 (some (((G 1) p1.toNatClampNeg))) else x_ld p1 6 (some (((G 2) p1.toNatClampNeg))))) := rfl
def rmX3_tell : Room := { frames := 0, cells := 0, slots := 0, locals := 0 }
def fX0_clear (F : xF) : Option (xF) :=
  some ((va_up (va_up F 9 0) 10 0))
theorem fX0_clear_e (F : xF) : fX0_clear F = some ((va_up (va_up F 9 0) 10 0)) := rfl
def rmX0_clear : Room := { frames := 0, cells := 0, slots := 0, locals := 0 }
def fX0_wholeSigma (G : xG) : Option (Int32) :=
  x_ld 0 40 (some (((G 5) (0 : Int32).toNatClampNeg)))
theorem fX0_wholeSigma_e (G : xG) : fX0_wholeSigma G = x_ld 0 40 (some (((G 5) (0 : Int32).toNatClampNeg))) := rfl
def rmX0_wholeSigma : Room := { frames := 0, cells := 0, slots := 0, locals := 0 }
def fX0_wholePi (G : xG) : Option (Int32) :=
  x_ld 0 40 (some (((G 6) (0 : Int32).toNatClampNeg)))
theorem fX0_wholePi_e (G : xG) : fX0_wholePi G = x_ld 0 40 (some (((G 6) (0 : Int32).toNatClampNeg))) := rfl
def rmX0_wholePi : Room := { frames := 0, cells := 0, slots := 0, locals := 0 }
def fX0_wholeFree (G : xG) : Option (Int32) :=
  x_ld 0 40 (some (((G 7) (0 : Int32).toNatClampNeg)))
theorem fX0_wholeFree_e (G : xG) : fX0_wholeFree G = x_ld 0 40 (some (((G 7) (0 : Int32).toNatClampNeg))) := rfl
def rmX0_wholeFree : Room := { frames := 0, cells := 0, slots := 0, locals := 0 }
def fX0_isBounded (p1 : Int32) : Option (Int32) :=
  (if p1 = 97 then some (1) else (if p1 = 101 then some (1) else some (0)))
theorem fX0_isBounded_e (p1 : Int32) : fX0_isBounded p1 = (if p1 = 97 then some (1) else (if p1 = 101 then some (1) else some (0))) := rfl
def rmX0_isBounded : Room := { frames := 0, cells := 0, slots := 0, locals := 0 }
def fX0_add_j41 (F : xF) (G : xG) (p1 : Int32)  : Option (Int32 × xF × xG) :=
  some ((F 9), (va_up (va_up F 9 ((F 9) + 1)) 10 ((F 10) + 1)), (va_up G 0 (upd (G 0) (F 9).toNatClampNeg (x_cn p1))))
theorem fX0_add_j41_e (F : xF) (G : xG) (p1 : Int32)  : fX0_add_j41 F G p1 = some ((F 9), (va_up (va_up F 9 ((F 9) + 1)) 10 ((F 10) + 1)), (va_up G 0 (upd (G 0) (F 9).toNatClampNeg (x_cn p1)))) := rfl
def fX0_add (F : xF) (G : xG) (p1 : Int32) : Option (Int32 × xF × xG) :=
  x_ld (F 9) 40 (x_b1 (fX0_isBounded p1) (fun r3 => (if r3 = 0 then (if p1 = 65 then (fX0_add_j41 F G p1) else (if p1 = 69 then (fX0_add_j41 F G p1) else some ((F 9), (va_up F 9 ((F 9) + 1)), (va_up G 0 (upd (G 0) (F 9).toNatClampNeg (x_cn p1)))))) else (fX0_add_j41 F G p1))))
theorem fX0_add_e (F : xF) (G : xG) (p1 : Int32) : fX0_add F G p1 = x_ld (F 9) 40 (x_b1 (fX0_isBounded p1) (fun r3 => (if r3 = 0 then (if p1 = 65 then (fX0_add_j41 F G p1) else (if p1 = 69 then (fX0_add_j41 F G p1) else some ((F 9), (va_up F 9 ((F 9) + 1)), (va_up G 0 (upd (G 0) (F 9).toNatClampNeg (x_cn p1)))))) else (fX0_add_j41 F G p1)))) := rfl
def rmX0_add : Room := { frames := 1, cells := 0, slots := 0, locals := 20 }
def fX0_isOperator (p1 : Int32) : Option (Int32) :=
  (if p1 = 38 then some (1) else (if p1 = 124 then some (1) else (if p1 = 62 then some (1) else some (0))))
theorem fX0_isOperator_e (p1 : Int32) : fX0_isOperator p1 = (if p1 = 38 then some (1) else (if p1 = 124 then some (1) else (if p1 = 62 then some (1) else some (0)))) := rfl
def rmX0_isOperator : Room := { frames := 0, cells := 0, slots := 0, locals := 0 }
def fX0_isAtom (p1 : Int32) : Option (Int32) :=
  (if p1 = 60 then some (1) else (if p1 = 61 then some (1) else some (0)))
theorem fX0_isAtom_e (p1 : Int32) : fX0_isAtom p1 = (if p1 = 60 then some (1) else (if p1 = 61 then some (1) else some (0))) := rfl
def rmX0_isAtom : Room := { frames := 0, cells := 0, slots := 0, locals := 0 }
def fX0_bit (p1 : Int32) : Option (Int32) :=
  some ((x_shl 1 p1))
theorem fX0_bit_e (p1 : Int32) : fX0_bit p1 = some ((x_shl 1 p1)) := rfl
def rmX0_bit : Room := { frames := 0, cells := 0, slots := 0, locals := 0 }
def fX0_setWeight (G : xG) (p1 : Int32) (p2 : Int32) (p3 : Int32) (p4 : Int32) : Option (xG) :=
  x_ld p1 40 (x_ld p1 40 (x_ld p1 40 (some ((va_up (va_up (va_up G 5 (upd (G 5) p1.toNatClampNeg p2)) 6 (upd (G 6) p1.toNatClampNeg p3)) 7 (upd (G 7) p1.toNatClampNeg p4))))))
theorem fX0_setWeight_e (G : xG) (p1 : Int32) (p2 : Int32) (p3 : Int32) (p4 : Int32) : fX0_setWeight G p1 p2 p3 p4 = x_ld p1 40 (x_ld p1 40 (x_ld p1 40 (some ((va_up (va_up (va_up G 5 (upd (G 5) p1.toNatClampNeg p2)) 6 (upd (G 6) p1.toNatClampNeg p3)) 7 (upd (G 7) p1.toNatClampNeg p4)))))) := rfl
def rmX0_setWeight : Room := { frames := 0, cells := 0, slots := 0, locals := 0 }
def fX0_weighOperator_j60 (G : xG) (p3 : Int32) (p2 : Int32) (p1 : Int32) (v3 : Int32) (v4 : Int32) : Option (xG) :=
  x_ld p3 40 (x_ld p3 40 (x_ld p2 40 (x_ld p3 40 (x_b1 (fX0_setWeight G p1 (x_max v3 ((G 5) p3.toNatClampNeg)) (x_max v4 ((G 6) p3.toNatClampNeg)) (((G 7) p2.toNatClampNeg) ||| ((G 7) p3.toNatClampNeg))) (fun G10 => some (G10))))))
theorem fX0_weighOperator_j60_e (G : xG) (p3 : Int32) (p2 : Int32) (p1 : Int32) (v3 : Int32) (v4 : Int32) : fX0_weighOperator_j60 G p3 p2 p1 v3 v4 = x_ld p3 40 (x_ld p3 40 (x_ld p2 40 (x_ld p3 40 (x_b1 (fX0_setWeight G p1 (x_max v3 ((G 5) p3.toNatClampNeg)) (x_max v4 ((G 6) p3.toNatClampNeg)) (((G 7) p2.toNatClampNeg) ||| ((G 7) p3.toNatClampNeg))) (fun G10 => some (G10)))))) := rfl
def fX0_weighOperator_j38 (G : xG) (v2 : Int32) (p2 : Int32) (p3 : Int32) (p1 : Int32) (v3 : Int32) : Option (xG) :=
  (if v2 = 0 then x_ld p2 40 ((fX0_weighOperator_j60 G p3 p2 p1 v3) ((G 6) p2.toNatClampNeg)) else x_ld p2 40 ((fX0_weighOperator_j60 G p3 p2 p1 v3) ((G 5) p2.toNatClampNeg)))
theorem fX0_weighOperator_j38_e (G : xG) (v2 : Int32) (p2 : Int32) (p3 : Int32) (p1 : Int32) (v3 : Int32) : fX0_weighOperator_j38 G v2 p2 p3 p1 v3 = (if v2 = 0 then x_ld p2 40 ((fX0_weighOperator_j60 G p3 p2 p1 v3) ((G 6) p2.toNatClampNeg)) else x_ld p2 40 ((fX0_weighOperator_j60 G p3 p2 p1 v3) ((G 5) p2.toNatClampNeg))) := rfl
def fX0_weighOperator_j16 (G : xG) (p2 : Int32) (p3 : Int32) (p1 : Int32) (v2 : Int32) : Option (xG) :=
  (if v2 = 0 then x_ld p2 40 ((fX0_weighOperator_j38 G v2 p2 p3 p1) ((G 5) p2.toNatClampNeg)) else x_ld p2 40 ((fX0_weighOperator_j38 G v2 p2 p3 p1) ((G 6) p2.toNatClampNeg)))
theorem fX0_weighOperator_j16_e (G : xG) (p2 : Int32) (p3 : Int32) (p1 : Int32) (v2 : Int32) : fX0_weighOperator_j16 G p2 p3 p1 v2 = (if v2 = 0 then x_ld p2 40 ((fX0_weighOperator_j38 G v2 p2 p3 p1) ((G 5) p2.toNatClampNeg)) else x_ld p2 40 ((fX0_weighOperator_j38 G v2 p2 p3 p1) ((G 6) p2.toNatClampNeg))) := rfl
def fX0_weighOperator (G : xG) (p1 : Int32) (p2 : Int32) (p3 : Int32) : Option (xG) :=
  x_ld p1 40 ((if ((G 0) p1.toNatClampNeg) = 62 then (fX0_weighOperator_j16 G p2 p3 p1) 1 else (fX0_weighOperator_j16 G p2 p3 p1) 0))
theorem fX0_weighOperator_e (G : xG) (p1 : Int32) (p2 : Int32) (p3 : Int32) : fX0_weighOperator G p1 p2 p3 = x_ld p1 40 ((if ((G 0) p1.toNatClampNeg) = 62 then (fX0_weighOperator_j16 G p2 p3 p1) 1 else (fX0_weighOperator_j16 G p2 p3 p1) 0)) := rfl
def rmX0_weighOperator : Room := { frames := 1, cells := 0, slots := 0, locals := 24 }
def fX0_weighQuantifier (G : xG) (p1 : Int32) (p2 : Int32) : Option (xG) :=
  x_ld p2 40 (x_ld p1 40 (x_b1 (fX0_bit ((G 1) p1.toNatClampNeg)) (fun r4 => x_ld p2 40 (x_ld p2 40 (x_ld p1 40 ((if ((G 0) p1.toNatClampNeg) = 65 then x_b1 (fX0_setWeight G p1 ((x_min (x_max ((G 6) p2.toNatClampNeg) 1) (((G 5) p2.toNatClampNeg) + 1)) + 1) (x_min (x_max ((G 6) p2.toNatClampNeg) 1) (((G 5) p2.toNatClampNeg) + 1)) (((G 7) p2.toNatClampNeg) &&& (r4 ^^^ (-1)))) (fun G10 => some (G10)) else (if ((G 0) p1.toNatClampNeg) = 69 then x_b1 (fX0_setWeight G p1 (x_min (x_max ((G 5) p2.toNatClampNeg) 1) (((G 6) p2.toNatClampNeg) + 1)) ((x_min (x_max ((G 5) p2.toNatClampNeg) 1) (((G 6) p2.toNatClampNeg) + 1)) + 1) (((G 7) p2.toNatClampNeg) &&& (r4 ^^^ (-1)))) (fun G13 => some (G13)) else x_ld p1 40 (x_b1 (fX0_bit ((G 2) p1.toNatClampNeg)) (fun r16 => x_b1 (fX0_setWeight G p1 ((G 5) p2.toNatClampNeg) ((G 6) p2.toNatClampNeg) ((((G 7) p2.toNatClampNeg) &&& (r4 ^^^ (-1))) ||| r16)) (fun G18 => some (G18))))))))))))
theorem fX0_weighQuantifier_e (G : xG) (p1 : Int32) (p2 : Int32) : fX0_weighQuantifier G p1 p2 = x_ld p2 40 (x_ld p1 40 (x_b1 (fX0_bit ((G 1) p1.toNatClampNeg)) (fun r4 => x_ld p2 40 (x_ld p2 40 (x_ld p1 40 ((if ((G 0) p1.toNatClampNeg) = 65 then x_b1 (fX0_setWeight G p1 ((x_min (x_max ((G 6) p2.toNatClampNeg) 1) (((G 5) p2.toNatClampNeg) + 1)) + 1) (x_min (x_max ((G 6) p2.toNatClampNeg) 1) (((G 5) p2.toNatClampNeg) + 1)) (((G 7) p2.toNatClampNeg) &&& (r4 ^^^ (-1)))) (fun G10 => some (G10)) else (if ((G 0) p1.toNatClampNeg) = 69 then x_b1 (fX0_setWeight G p1 (x_min (x_max ((G 5) p2.toNatClampNeg) 1) (((G 6) p2.toNatClampNeg) + 1)) ((x_min (x_max ((G 5) p2.toNatClampNeg) 1) (((G 6) p2.toNatClampNeg) + 1)) + 1) (((G 7) p2.toNatClampNeg) &&& (r4 ^^^ (-1)))) (fun G13 => some (G13)) else x_ld p1 40 (x_b1 (fX0_bit ((G 2) p1.toNatClampNeg)) (fun r16 => x_b1 (fX0_setWeight G p1 ((G 5) p2.toNatClampNeg) ((G 6) p2.toNatClampNeg) ((((G 7) p2.toNatClampNeg) &&& (r4 ^^^ (-1))) ||| r16)) (fun G18 => some (G18)))))))))))) := rfl
def rmX0_weighQuantifier : Room := { frames := 1, cells := 0, slots := 0, locals := 24 }
def fX0_weigh (G : xG) (p1 : Int32) : Option (xG) :=
  x_ld p1 40 (x_b1 (fX0_isAtom ((G 0) p1.toNatClampNeg)) (fun r3 => (if r3 = 0 then x_b1 (fX0_isOperator ((G 0) p1.toNatClampNeg)) (fun r6 => (if r6 = 0 then (if ((G 0) p1.toNatClampNeg) = 33 then x_ld p1 40 (x_ld ((G 3) p1.toNatClampNeg) 40 (x_ld ((G 3) p1.toNatClampNeg) 40 (x_ld ((G 3) p1.toNatClampNeg) 40 (x_b1 (fX0_setWeight G p1 ((G 6) ((G 3) p1.toNatClampNeg).toNatClampNeg) ((G 5) ((G 3) p1.toNatClampNeg).toNatClampNeg) ((G 7) ((G 3) p1.toNatClampNeg).toNatClampNeg)) (fun G17 => some (G17)))))) else x_ld p1 40 (x_b1 (fX0_weighQuantifier G p1 ((G 3) p1.toNatClampNeg)) (fun G11 => some (G11)))) else x_ld p1 40 (x_ld p1 40 (x_b1 (fX0_weighOperator G p1 ((G 3) p1.toNatClampNeg) ((G 4) p1.toNatClampNeg)) (fun G21 => some (G21)))))) else x_ld p1 40 (x_b1 (fX0_bit ((G 1) p1.toNatClampNeg)) (fun r24 => x_ld p1 40 (x_b1 (fX0_bit ((G 2) p1.toNatClampNeg)) (fun r27 => x_b1 (fX0_setWeight G p1 0 0 (r24 ||| r27)) (fun G29 => some (G29)))))))))
theorem fX0_weigh_e (G : xG) (p1 : Int32) : fX0_weigh G p1 = x_ld p1 40 (x_b1 (fX0_isAtom ((G 0) p1.toNatClampNeg)) (fun r3 => (if r3 = 0 then x_b1 (fX0_isOperator ((G 0) p1.toNatClampNeg)) (fun r6 => (if r6 = 0 then (if ((G 0) p1.toNatClampNeg) = 33 then x_ld p1 40 (x_ld ((G 3) p1.toNatClampNeg) 40 (x_ld ((G 3) p1.toNatClampNeg) 40 (x_ld ((G 3) p1.toNatClampNeg) 40 (x_b1 (fX0_setWeight G p1 ((G 6) ((G 3) p1.toNatClampNeg).toNatClampNeg) ((G 5) ((G 3) p1.toNatClampNeg).toNatClampNeg) ((G 7) ((G 3) p1.toNatClampNeg).toNatClampNeg)) (fun G17 => some (G17)))))) else x_ld p1 40 (x_b1 (fX0_weighQuantifier G p1 ((G 3) p1.toNatClampNeg)) (fun G11 => some (G11)))) else x_ld p1 40 (x_ld p1 40 (x_b1 (fX0_weighOperator G p1 ((G 3) p1.toNatClampNeg) ((G 4) p1.toNatClampNeg)) (fun G21 => some (G21)))))) else x_ld p1 40 (x_b1 (fX0_bit ((G 1) p1.toNatClampNeg)) (fun r24 => x_ld p1 40 (x_b1 (fX0_bit ((G 2) p1.toNatClampNeg)) (fun r27 => x_b1 (fX0_setWeight G p1 0 0 (r24 ||| r27)) (fun G29 => some (G29))))))))) := rfl
def rmX0_weigh : Room := { frames := 2, cells := 0, slots := 0, locals := 50 }
def fX0_number (p1 : Int32) (p2 : Int32) : Option (Int32) :=
  (if p2 = 0 then x_dv 5 (some ((x_rem p1 5))) else (if p2 = 1 then x_dv 5 (x_dv 5 (some ((x_rem (p1 / 5) 5)))) else x_dv 25 (some ((p1 / 25)))))
theorem fX0_number_e (p1 : Int32) (p2 : Int32) : fX0_number p1 p2 = (if p2 = 0 then x_dv 5 (some ((x_rem p1 5))) else (if p2 = 1 then x_dv 5 (x_dv 5 (some ((x_rem (p1 / 5) 5)))) else x_dv 25 (some ((p1 / 25))))) := rfl
def rmX0_number : Room := { frames := 0, cells := 0, slots := 0, locals := 0 }
def fX0_step (p1 : Int32) : Option (Int32) :=
  (if p1 = 0 then some (1) else (if p1 = 1 then some (5) else some (25)))
theorem fX0_step_e (p1 : Int32) : fX0_step p1 = (if p1 = 0 then some (1) else (if p1 = 1 then some (5) else some (25))) := rfl
def rmX0_step : Room := { frames := 0, cells := 0, slots := 0, locals := 0 }
def fX0_isSomewhere_l41 (G : xG) (p3 : Int32) (p1 : Int32) (p2 : Int32) (r6 : Int32) (r3 : Int32) (p4 : Int32) : Nat → Int32 → Option (Int32)
  | 0, _ => none
  | n41 + 1, v7 => (if p3 ≤ v7 then some (0) else x_ld ((((((G 3) p1.toNatClampNeg) * 125) + p2) - (r6 * r3)) + (v7 * r3)) 5000 ((if ((G 8) ((((((G 3) p1.toNatClampNeg) * 125) + p2) - (r6 * r3)) + (v7 * r3)).toNatClampNeg) = p4 then some (1) else (fX0_isSomewhere_l41 G p3 p1 p2 r6 r3 p4 n41) (v7 + 1))))
theorem fX0_isSomewhere_l41_z (G : xG) (p3 : Int32) (p1 : Int32) (p2 : Int32) (r6 : Int32) (r3 : Int32) (p4 : Int32) (v7 : Int32) : fX0_isSomewhere_l41 G p3 p1 p2 r6 r3 p4 0 v7 = none := rfl
theorem fX0_isSomewhere_l41_e (G : xG) (p3 : Int32) (p1 : Int32) (p2 : Int32) (r6 : Int32) (r3 : Int32) (p4 : Int32) (n41 : Nat) (v7 : Int32) : fX0_isSomewhere_l41 G p3 p1 p2 r6 r3 p4 (n41 + 1) v7 = (if p3 ≤ v7 then some (0) else x_ld ((((((G 3) p1.toNatClampNeg) * 125) + p2) - (r6 * r3)) + (v7 * r3)) 5000 ((if ((G 8) ((((((G 3) p1.toNatClampNeg) * 125) + p2) - (r6 * r3)) + (v7 * r3)).toNatClampNeg) = p4 then some (1) else (fX0_isSomewhere_l41 G p3 p1 p2 r6 r3 p4 n41) (v7 + 1)))) := rfl
def fX0_isSomewhere (G : xG) (p1 : Int32) (p2 : Int32) (p3 : Int32) (p4 : Int32) : Option (Int32) :=
  x_ld p1 40 (x_b1 (fX0_step ((G 1) p1.toNatClampNeg)) (fun r3 => x_ld p1 40 (x_b1 (fX0_number p2 ((G 1) p1.toNatClampNeg)) (fun r6 => (fX0_isSomewhere_l41 G p3 p1 p2 r6 r3 p4 4096) 0))))
theorem fX0_isSomewhere_e (G : xG) (p1 : Int32) (p2 : Int32) (p3 : Int32) (p4 : Int32) : fX0_isSomewhere G p1 p2 p3 p4 = x_ld p1 40 (x_b1 (fX0_step ((G 1) p1.toNatClampNeg)) (fun r3 => x_ld p1 40 (x_b1 (fX0_number p2 ((G 1) p1.toNatClampNeg)) (fun r6 => (fX0_isSomewhere_l41 G p3 p1 p2 r6 r3 p4 4096) 0)))) := rfl
def rmX0_isSomewhere : Room := { frames := 1, cells := 0, slots := 0, locals := 21 }
def fX0_truthOfOperator (G : xG) (p1 : Int32) (p2 : Int32) : Option (Int32) :=
  x_ld p1 40 (x_ld ((((G 3) p1.toNatClampNeg) * 125) + p2) 5000 (x_ld p1 40 (x_ld ((((G 4) p1.toNatClampNeg) * 125) + p2) 5000 (x_ld p1 40 ((if ((G 0) p1.toNatClampNeg) = 38 then (if ((G 8) ((((G 3) p1.toNatClampNeg) * 125) + p2).toNatClampNeg) = 0 then some (0) else (if ((G 8) ((((G 4) p1.toNatClampNeg) * 125) + p2).toNatClampNeg) = 0 then some (0) else some (1))) else (if ((G 0) p1.toNatClampNeg) = 124 then (if ((G 8) ((((G 3) p1.toNatClampNeg) * 125) + p2).toNatClampNeg) = 0 then (if ((G 8) ((((G 4) p1.toNatClampNeg) * 125) + p2).toNatClampNeg) = 0 then some (0) else some (1)) else some (1)) else (if ((G 8) ((((G 3) p1.toNatClampNeg) * 125) + p2).toNatClampNeg) = 0 then some (1) else (if ((G 8) ((((G 4) p1.toNatClampNeg) * 125) + p2).toNatClampNeg) = 0 then some (0) else some (1))))))))))
theorem fX0_truthOfOperator_e (G : xG) (p1 : Int32) (p2 : Int32) : fX0_truthOfOperator G p1 p2 = x_ld p1 40 (x_ld ((((G 3) p1.toNatClampNeg) * 125) + p2) 5000 (x_ld p1 40 (x_ld ((((G 4) p1.toNatClampNeg) * 125) + p2) 5000 (x_ld p1 40 ((if ((G 0) p1.toNatClampNeg) = 38 then (if ((G 8) ((((G 3) p1.toNatClampNeg) * 125) + p2).toNatClampNeg) = 0 then some (0) else (if ((G 8) ((((G 4) p1.toNatClampNeg) * 125) + p2).toNatClampNeg) = 0 then some (0) else some (1))) else (if ((G 0) p1.toNatClampNeg) = 124 then (if ((G 8) ((((G 3) p1.toNatClampNeg) * 125) + p2).toNatClampNeg) = 0 then (if ((G 8) ((((G 4) p1.toNatClampNeg) * 125) + p2).toNatClampNeg) = 0 then some (0) else some (1)) else some (1)) else (if ((G 8) ((((G 3) p1.toNatClampNeg) * 125) + p2).toNatClampNeg) = 0 then some (1) else (if ((G 8) ((((G 4) p1.toNatClampNeg) * 125) + p2).toNatClampNeg) = 0 then some (0) else some (1)))))))))) := rfl
def rmX0_truthOfOperator : Room := { frames := 0, cells := 0, slots := 0, locals := 0 }
def fX0_truth (G : xG) (p1 : Int32) (p2 : Int32) (p3 : Int32) : Option (Int32) :=
  x_ld p1 40 (x_b1 (fX0_number p2 ((G 1) p1.toNatClampNeg)) (fun r3 => x_ld p1 40 (x_b1 (fX0_number p2 ((G 2) p1.toNatClampNeg)) (fun r6 => x_ld p1 40 ((if ((G 0) p1.toNatClampNeg) = 33 then x_ld p1 40 (x_ld ((((G 3) p1.toNatClampNeg) * 125) + p2) 5000 ((if ((G 8) ((((G 3) p1.toNatClampNeg) * 125) + p2).toNatClampNeg) = 0 then some (1) else some (0)))) else (if ((G 0) p1.toNatClampNeg) = 60 then (if r6 ≤ r3 then some (0) else some (1)) else (if ((G 0) p1.toNatClampNeg) = 61 then (if r3 = r6 then some (1) else some (0)) else (if ((G 0) p1.toNatClampNeg) = 65 then x_b1 (fX0_isSomewhere G p1 p2 p3 0) (fun r18 => (if r18 = 0 then some (1) else some (0))) else (if ((G 0) p1.toNatClampNeg) = 69 then x_b1 (fX0_isSomewhere G p1 p2 p3 1) (fun r22 => some (x_zn r22)) else (if ((G 0) p1.toNatClampNeg) = 97 then x_b1 (fX0_isSomewhere G p1 p2 r6 0) (fun r25 => (if r25 = 0 then some (1) else some (0))) else (if ((G 0) p1.toNatClampNeg) = 101 then x_b1 (fX0_isSomewhere G p1 p2 r6 1) (fun r29 => some (x_zn r29)) else x_b1 (fX0_truthOfOperator G p1 p2) (fun r31 => some (x_zn r31))))))))))))))
theorem fX0_truth_e (G : xG) (p1 : Int32) (p2 : Int32) (p3 : Int32) : fX0_truth G p1 p2 p3 = x_ld p1 40 (x_b1 (fX0_number p2 ((G 1) p1.toNatClampNeg)) (fun r3 => x_ld p1 40 (x_b1 (fX0_number p2 ((G 2) p1.toNatClampNeg)) (fun r6 => x_ld p1 40 ((if ((G 0) p1.toNatClampNeg) = 33 then x_ld p1 40 (x_ld ((((G 3) p1.toNatClampNeg) * 125) + p2) 5000 ((if ((G 8) ((((G 3) p1.toNatClampNeg) * 125) + p2).toNatClampNeg) = 0 then some (1) else some (0)))) else (if ((G 0) p1.toNatClampNeg) = 60 then (if r6 ≤ r3 then some (0) else some (1)) else (if ((G 0) p1.toNatClampNeg) = 61 then (if r3 = r6 then some (1) else some (0)) else (if ((G 0) p1.toNatClampNeg) = 65 then x_b1 (fX0_isSomewhere G p1 p2 p3 0) (fun r18 => (if r18 = 0 then some (1) else some (0))) else (if ((G 0) p1.toNatClampNeg) = 69 then x_b1 (fX0_isSomewhere G p1 p2 p3 1) (fun r22 => some (x_zn r22)) else (if ((G 0) p1.toNatClampNeg) = 97 then x_b1 (fX0_isSomewhere G p1 p2 r6 0) (fun r25 => (if r25 = 0 then some (1) else some (0))) else (if ((G 0) p1.toNatClampNeg) = 101 then x_b1 (fX0_isSomewhere G p1 p2 r6 1) (fun r29 => some (x_zn r29)) else x_b1 (fX0_truthOfOperator G p1 p2) (fun r31 => some (x_zn r31)))))))))))))) := rfl
def rmX0_truth : Room := { frames := 2, cells := 0, slots := 0, locals := 49 }
def fX0_isTrue_x57 (p2 : Int32) (p3 : Int32) (p4 : Int32) (G1 : xG) : Option (Int32 × xG) :=
  x_b1 (fX0_step 0) (fun r3 => x_b1 (fX0_step 1) (fun r5 => x_b1 (fX0_step 2) (fun r7 => x_ld (((p2 * r3) + (p3 * r5)) + (p4 * r7)) 5000 (some (x_zn ((G1 8) (((p2 * r3) + (p3 * r5)) + (p4 * r7)).toNatClampNeg), G1)))))
theorem fX0_isTrue_x57_e (p2 : Int32) (p3 : Int32) (p4 : Int32) (G1 : xG) : fX0_isTrue_x57 p2 p3 p4 G1 = x_b1 (fX0_step 0) (fun r3 => x_b1 (fX0_step 1) (fun r5 => x_b1 (fX0_step 2) (fun r7 => x_ld (((p2 * r3) + (p3 * r5)) + (p4 * r7)) 5000 (some (x_zn ((G1 8) (((p2 * r3) + (p3 * r5)) + (p4 * r7)).toNatClampNeg), G1))))) := rfl
def fX0_isTrue_x51 (rec8 : Int32 → xG → Option (Int32 × xG)) (v9 : Int32) (G12 : xG) : Option (Int32 × xG) :=
  rec8 (v9 + (-1)) G12
theorem fX0_isTrue_x51_e (rec8 : Int32 → xG → Option (Int32 × xG)) (v9 : Int32) (G12 : xG) : fX0_isTrue_x51 rec8 v9 G12 = rec8 (v9 + (-1)) G12 := rfl
def fX0_isTrue_l16 (rec8 : Int32 → xG → Option (Int32 × xG)) (v9 : Int32) (p1 : Int32) : Nat → Int32 → xG → Option (Int32 × xG)
  | 0, _, _ => none
  | n16 + 1, v13, G14 => (if 125 ≤ v13 then (fX0_isTrue_x51 rec8 v9) G14 else x_b1 (fX0_truth G14 v9 v13 p1) (fun r17 => x_ld ((v9 * 125) + v13) 5000 ((fX0_isTrue_l16 rec8 v9 p1 n16) (v13 + 1) (va_up G14 8 (upd (G14 8) ((v9 * 125) + v13).toNatClampNeg (x_zn r17))))))
theorem fX0_isTrue_l16_z (rec8 : Int32 → xG → Option (Int32 × xG)) (v9 : Int32) (p1 : Int32) (v13 : Int32) (G14 : xG) : fX0_isTrue_l16 rec8 v9 p1 0 v13 G14 = none := rfl
theorem fX0_isTrue_l16_e (rec8 : Int32 → xG → Option (Int32 × xG)) (v9 : Int32) (p1 : Int32) (n16 : Nat) (v13 : Int32) (G14 : xG) : fX0_isTrue_l16 rec8 v9 p1 (n16 + 1) v13 G14 = (if 125 ≤ v13 then (fX0_isTrue_x51 rec8 v9) G14 else x_b1 (fX0_truth G14 v9 v13 p1) (fun r17 => x_ld ((v9 * 125) + v13) 5000 ((fX0_isTrue_l16 rec8 v9 p1 n16) (v13 + 1) (va_up G14 8 (upd (G14 8) ((v9 * 125) + v13).toNatClampNeg (x_zn r17)))))) := rfl
def fX0_isTrue_l8 (p2 : Int32) (p3 : Int32) (p4 : Int32) (p1 : Int32) : Nat → Int32 → xG → Option (Int32 × xG)
  | 0, _, _ => none
  | n8 + 1, v9, G10 => (if v9 < 0 then (fX0_isTrue_x57 p2 p3 p4) G10 else (fX0_isTrue_l16 (fX0_isTrue_l8 p2 p3 p4 p1 n8) v9 p1 4096) 0 G10)
theorem fX0_isTrue_l8_z (p2 : Int32) (p3 : Int32) (p4 : Int32) (p1 : Int32) (v9 : Int32) (G10 : xG) : fX0_isTrue_l8 p2 p3 p4 p1 0 v9 G10 = none := rfl
theorem fX0_isTrue_l8_e (p2 : Int32) (p3 : Int32) (p4 : Int32) (p1 : Int32) (n8 : Nat) (v9 : Int32) (G10 : xG) : fX0_isTrue_l8 p2 p3 p4 p1 (n8 + 1) v9 G10 = (if v9 < 0 then (fX0_isTrue_x57 p2 p3 p4) G10 else (fX0_isTrue_l16 (fX0_isTrue_l8 p2 p3 p4 p1 n8) v9 p1 4096) 0 G10) := rfl
def fX0_isTrue (F : xF) (G : xG) (p1 : Int32) (p2 : Int32) (p3 : Int32) (p4 : Int32) : Option (Int32 × xG) :=
  (fX0_isTrue_l8 p2 p3 p4 p1 4096) ((F 9) - 1) G
theorem fX0_isTrue_e (F : xF) (G : xG) (p1 : Int32) (p2 : Int32) (p3 : Int32) (p4 : Int32) : fX0_isTrue F G p1 p2 p3 p4 = (fX0_isTrue_l8 p2 p3 p4 p1 4096) ((F 9) - 1) G := rfl
def rmX0_isTrue : Room := { frames := 3, cells := 0, slots := 0, locals := 74 }
def fX2_wipe (F : xF) (Fo : xF) : Option (Int32 × xF × xF) :=
  x_b1 (fX0_clear Fo) (fun F2 => some ((F 2), (va_up (va_up (va_up (va_up F 2 0) 3 (-1)) 4 0) 5 (-1)), F2))
theorem fX2_wipe_e (F : xF) (Fo : xF) : fX2_wipe F Fo = x_b1 (fX0_clear Fo) (fun F2 => some ((F 2), (va_up (va_up (va_up (va_up F 2 0) 3 (-1)) 4 0) 5 (-1)), F2)) := rfl
def rmX2_wipe : Room := { frames := 1, cells := 0, slots := 0, locals := 20 }
def fX2_faultPlace (F : xF) : Option (Int32) :=
  (if (F 3) = (-1) then some ((F 2)) else some ((F 3)))
theorem fX2_faultPlace_e (F : xF) : fX2_faultPlace F = (if (F 3) = (-1) then some ((F 2)) else some ((F 3))) := rfl
def rmX2_faultPlace : Room := { frames := 0, cells := 0, slots := 0, locals := 0 }
def fX2_isFormula (F : xF) : Option (Int32) :=
  (if (F 3) = (-1) then (if (F 4) = 7 then some (1) else some (0)) else some (0))
theorem fX2_isFormula_e (F : xF) : fX2_isFormula F = (if (F 3) = (-1) then (if (F 4) = 7 then some (1) else some (0)) else some (0)) := rfl
def rmX2_isFormula : Room := { frames := 0, cells := 0, slots := 0, locals := 0 }
def fX2_isFull (F : xF) : Option (Int32) :=
  (if (F 2) < 40 then some (0) else some (1))
theorem fX2_isFull_e (F : xF) : fX2_isFull F = (if (F 2) < 40 then some (0) else some (1)) := rfl
def rmX2_isFull : Room := { frames := 0, cells := 0, slots := 0, locals := 0 }
def fX2_dueBehindStart (p1 : Int32) : Option (Int32) :=
  (if p1 = 33 then some (0) else (if p1 = 40 then some (0) else (if p1 = 65 then some (3) else (if p1 = 69 then some (3) else (if p1 = 97 then some (3) else (if p1 = 101 then some (3) else (if p1 = 120 then some (1) else (if p1 = 121 then some (1) else (if p1 = 122 then some (1) else some (7))))))))))
theorem fX2_dueBehindStart_e (p1 : Int32) : fX2_dueBehindStart p1 = (if p1 = 33 then some (0) else (if p1 = 40 then some (0) else (if p1 = 65 then some (3) else (if p1 = 69 then some (3) else (if p1 = 97 then some (3) else (if p1 = 101 then some (3) else (if p1 = 120 then some (1) else (if p1 = 121 then some (1) else (if p1 = 122 then some (1) else some (7)))))))))) := rfl
def rmX2_dueBehindStart : Room := { frames := 0, cells := 0, slots := 0, locals := 0 }
def fX2_isVariable (p1 : Int32) : Option (Int32) :=
  (if p1 < 120 then some (0) else (if 122 < p1 then some (0) else some (1)))
theorem fX2_isVariable_e (p1 : Int32) : fX2_isVariable p1 = (if p1 < 120 then some (0) else (if 122 < p1 then some (0) else some (1))) := rfl
def rmX2_isVariable : Room := { frames := 0, cells := 0, slots := 0, locals := 0 }
def fX2_takesStart (F : xF) (G : xG) (Fo : xF) (Go : xG) (p1 : Int32) : Option (Int32 × xF × xG × xF × xG) :=
  x_b1 (fX2_dueBehindStart p1) (fun r2 => (if r2 = 7 then some (0, F, G, Fo, Go) else x_b3 (fX0_add Fo Go p1) (fun r5 F6 G7 => x_ld r5 40 (x_b1 (fX2_isVariable p1) (fun r10 => (if r10 = 0 then some (1, (va_up (va_up F 5 r5) 4 r2), (va_up G 1 (upd (G 1) r5.toNatClampNeg (F 5))), F6, G7) else x_ld r5 40 (some (1, (va_up (va_up F 5 r5) 4 r2), (va_up G 1 (upd (G 1) r5.toNatClampNeg (F 5))), F6, (va_up G7 1 (upd (G7 1) r5.toNatClampNeg (p1 - 120)))))))))))
theorem fX2_takesStart_e (F : xF) (G : xG) (Fo : xF) (Go : xG) (p1 : Int32) : fX2_takesStart F G Fo Go p1 = x_b1 (fX2_dueBehindStart p1) (fun r2 => (if r2 = 7 then some (0, F, G, Fo, Go) else x_b3 (fX0_add Fo Go p1) (fun r5 F6 G7 => x_ld r5 40 (x_b1 (fX2_isVariable p1) (fun r10 => (if r10 = 0 then some (1, (va_up (va_up F 5 r5) 4 r2), (va_up G 1 (upd (G 1) r5.toNatClampNeg (F 5))), F6, G7) else x_ld r5 40 (some (1, (va_up (va_up F 5 r5) 4 r2), (va_up G 1 (upd (G 1) r5.toNatClampNeg (F 5))), F6, (va_up G7 1 (upd (G7 1) r5.toNatClampNeg (p1 - 120))))))))))) := rfl
def rmX2_takesStart : Room := { frames := 2, cells := 0, slots := 0, locals := 42 }
def fX2_takesKind (F : xF) (Go : xG) (p1 : Int32) (p2 : Int32) (p3 : Int32) : Option (Int32 × xF × xG) :=
  (if p1 = 0 then some (x_zn p1, F, Go) else x_ld (F 5) 40 (some (x_zn p1, (va_up F 4 p3), (va_up Go 0 (upd (Go 0) (F 5).toNatClampNeg (x_cn p2))))))
theorem fX2_takesKind_e (F : xF) (Go : xG) (p1 : Int32) (p2 : Int32) (p3 : Int32) : fX2_takesKind F Go p1 p2 p3 = (if p1 = 0 then some (x_zn p1, F, Go) else x_ld (F 5) 40 (some (x_zn p1, (va_up F 4 p3), (va_up Go 0 (upd (Go 0) (F 5).toNatClampNeg (x_cn p2)))))) := rfl
def rmX2_takesKind : Room := { frames := 0, cells := 0, slots := 0, locals := 0 }
def fX2_takesLimit (F : xF) (Go : xG) (p1 : Int32) (p2 : Int32) : Option (Int32 × xF × xG) :=
  x_b1 (fX2_isVariable p1) (fun r2 => (if r2 = 0 then some (0, F, Go) else x_ld (F 5) 40 (some (1, (va_up F 4 p2), (va_up Go 2 (upd (Go 2) (F 5).toNatClampNeg (p1 - 120)))))))
theorem fX2_takesLimit_e (F : xF) (Go : xG) (p1 : Int32) (p2 : Int32) : fX2_takesLimit F Go p1 p2 = x_b1 (fX2_isVariable p1) (fun r2 => (if r2 = 0 then some (0, F, Go) else x_ld (F 5) 40 (some (1, (va_up F 4 p2), (va_up Go 2 (upd (Go 2) (F 5).toNatClampNeg (p1 - 120))))))) := rfl
def rmX2_takesLimit : Room := { frames := 1, cells := 0, slots := 0, locals := 20 }
def fX2_takesVariable (F : xF) (Go : xG) (p1 : Int32) : Option (Int32 × xF × xG) :=
  x_b1 (fX2_isVariable p1) (fun r2 => (if r2 = 0 then some (0, F, Go) else x_ld (F 5) 40 (x_ld (F 5) 40 (x_b1 (fX0_isBounded ((Go 0) (F 5).toNatClampNeg)) (fun r7 => (if r7 = 0 then some (1, (va_up F 4 0), (va_up Go 1 (upd (Go 1) (F 5).toNatClampNeg (p1 - 120)))) else some (1, (va_up F 4 4), (va_up Go 1 (upd (Go 1) (F 5).toNatClampNeg (p1 - 120))))))))))
theorem fX2_takesVariable_e (F : xF) (Go : xG) (p1 : Int32) : fX2_takesVariable F Go p1 = x_b1 (fX2_isVariable p1) (fun r2 => (if r2 = 0 then some (0, F, Go) else x_ld (F 5) 40 (x_ld (F 5) 40 (x_b1 (fX0_isBounded ((Go 0) (F 5).toNatClampNeg)) (fun r7 => (if r7 = 0 then some (1, (va_up F 4 0), (va_up Go 1 (upd (Go 1) (F 5).toNatClampNeg (p1 - 120)))) else some (1, (va_up F 4 4), (va_up Go 1 (upd (Go 1) (F 5).toNatClampNeg (p1 - 120)))))))))) := rfl
def rmX2_takesVariable : Room := { frames := 1, cells := 0, slots := 0, locals := 20 }
def fX2_takesClose (F : xF) (p1 : Int32) : Option (Int32 × xF) :=
  (if p1 = 41 then some (1, (va_up F 4 7)) else some (0, F))
theorem fX2_takesClose_e (F : xF) (p1 : Int32) : fX2_takesClose F p1 = (if p1 = 41 then some (1, (va_up F 4 7)) else some (0, F)) := rfl
def rmX2_takesClose : Room := { frames := 0, cells := 0, slots := 0, locals := 0 }
def fX2_takes_j72 (F : xF) (Go : xG) (G : xG) (Fo : xF) (p1 : Int32) (v9 : Int32) : Option (Int32 × xF × xG × xF × xG) :=
  x_b3 (fX2_takesKind F Go v9 p1 2) (fun r11 F12 G13 => some (x_zn r11, F12, G, Fo, G13))
theorem fX2_takes_j72_e (F : xF) (Go : xG) (G : xG) (Fo : xF) (p1 : Int32) (v9 : Int32) : fX2_takes_j72 F Go G Fo p1 v9 = x_b3 (fX2_takesKind F Go v9 p1 2) (fun r11 F12 G13 => some (x_zn r11, F12, G, Fo, G13)) := rfl
def fX2_takes_j67 (F : xF) (Go : xG) (G : xG) (Fo : xF) (p1 : Int32)  : Option (Int32 × xF × xG × xF × xG) :=
  (fX2_takes_j72 F Go G Fo p1) 1
theorem fX2_takes_j67_e (F : xF) (Go : xG) (G : xG) (Fo : xF) (p1 : Int32)  : fX2_takes_j67 F Go G Fo p1 = (fX2_takes_j72 F Go G Fo p1) 1 := rfl
def fX2_takes (F : xF) (G : xG) (Fo : xF) (Go : xG) (p1 : Int32) : Option (Int32 × xF × xG × xF × xG) :=
  (if (F 4) = 0 then x_b5 (fX2_takesStart F G Fo Go p1) (fun r3 F4 G5 F6 G7 => some (x_zn r3, F4, G5, F6, G7)) else (if (F 4) = 1 then (if p1 = 60 then (fX2_takes_j67 F Go G Fo p1) else (if p1 = 61 then (fX2_takes_j67 F Go G Fo p1) else (fX2_takes_j72 F Go G Fo p1) 0)) else (if (F 4) = 2 then x_b3 (fX2_takesLimit F Go p1 7) (fun r18 F19 G20 => some (x_zn r18, F19, G, Fo, G20)) else (if (F 4) = 3 then x_b3 (fX2_takesVariable F Go p1) (fun r23 F24 G25 => some (x_zn r23, F24, G, Fo, G25)) else (if (F 4) = 4 then x_b3 (fX2_takesLimit F Go p1 0) (fun r28 F29 G30 => some (x_zn r28, F29, G, Fo, G30)) else (if (F 4) = 5 then x_b1 (fX0_isOperator p1) (fun r33 => x_b3 (fX2_takesKind F Go r33 p1 0) (fun r35 F36 G37 => some (x_zn r35, F36, G, Fo, G37))) else (if (F 4) = 6 then x_b2 (fX2_takesClose F p1) (fun r40 F41 => some (x_zn r40, F41, G, Fo, Go)) else some (0, F, G, Fo, Go))))))))
theorem fX2_takes_e (F : xF) (G : xG) (Fo : xF) (Go : xG) (p1 : Int32) : fX2_takes F G Fo Go p1 = (if (F 4) = 0 then x_b5 (fX2_takesStart F G Fo Go p1) (fun r3 F4 G5 F6 G7 => some (x_zn r3, F4, G5, F6, G7)) else (if (F 4) = 1 then (if p1 = 60 then (fX2_takes_j67 F Go G Fo p1) else (if p1 = 61 then (fX2_takes_j67 F Go G Fo p1) else (fX2_takes_j72 F Go G Fo p1) 0)) else (if (F 4) = 2 then x_b3 (fX2_takesLimit F Go p1 7) (fun r18 F19 G20 => some (x_zn r18, F19, G, Fo, G20)) else (if (F 4) = 3 then x_b3 (fX2_takesVariable F Go p1) (fun r23 F24 G25 => some (x_zn r23, F24, G, Fo, G25)) else (if (F 4) = 4 then x_b3 (fX2_takesLimit F Go p1 0) (fun r28 F29 G30 => some (x_zn r28, F29, G, Fo, G30)) else (if (F 4) = 5 then x_b1 (fX0_isOperator p1) (fun r33 => x_b3 (fX2_takesKind F Go r33 p1 0) (fun r35 F36 G37 => some (x_zn r35, F36, G, Fo, G37))) else (if (F 4) = 6 then x_b2 (fX2_takesClose F p1) (fun r40 F41 => some (x_zn r40, F41, G, Fo, Go)) else some (0, F, G, Fo, Go)))))))) := rfl
def rmX2_takes : Room := { frames := 3, cells := 0, slots := 0, locals := 65 }
def fX2_dueBehindPart (F : xF) (Go : xG) (p1 : Int32) : Option (Int32 × xG) :=
  x_ld (F 5) 40 (x_b1 (fX0_isOperator ((Go 0) (F 5).toNatClampNeg)) (fun r3 => (if r3 = 0 then x_ld (F 5) 40 (x_ld (F 5) 40 ((if ((Go 0) (F 5).toNatClampNeg) = 40 then some (5, (va_up Go 3 (upd (Go 3) (F 5).toNatClampNeg p1))) else some (7, (va_up Go 3 (upd (Go 3) (F 5).toNatClampNeg p1)))))) else x_ld (F 5) 40 (some (6, (va_up Go 4 (upd (Go 4) (F 5).toNatClampNeg p1)))))))
theorem fX2_dueBehindPart_e (F : xF) (Go : xG) (p1 : Int32) : fX2_dueBehindPart F Go p1 = x_ld (F 5) 40 (x_b1 (fX0_isOperator ((Go 0) (F 5).toNatClampNeg)) (fun r3 => (if r3 = 0 then x_ld (F 5) 40 (x_ld (F 5) 40 ((if ((Go 0) (F 5).toNatClampNeg) = 40 then some (5, (va_up Go 3 (upd (Go 3) (F 5).toNatClampNeg p1))) else some (7, (va_up Go 3 (upd (Go 3) (F 5).toNatClampNeg p1)))))) else x_ld (F 5) 40 (some (6, (va_up Go 4 (upd (Go 4) (F 5).toNatClampNeg p1))))))) := rfl
def rmX2_dueBehindPart : Room := { frames := 1, cells := 0, slots := 0, locals := 20 }
def fX2_finish_l7 (G : xG) : Nat → Int32 → Int32 → xG → xF → Option (xF × xG)
  | 0, _, _, _, _ => none
  | n7 + 1, v1, v2, G3, F4 => (if 40 ≤ v2 then some (F4, G3) else (if (F4 4) = 7 then x_b1 (fX0_weigh G3 v1) (fun G8 => x_ld v1 40 ((if ((G 1) v1.toNatClampNeg) = (-1) then some ((va_up F4 5 ((G 1) v1.toNatClampNeg)), G8) else x_b2 (fX2_dueBehindPart (va_up F4 5 ((G 1) v1.toNatClampNeg)) G8 v1) (fun r12 G13 => (fX2_finish_l7 G n7) ((G 1) v1.toNatClampNeg) (v2 + 1) G13 (va_up (va_up F4 5 ((G 1) v1.toNatClampNeg)) 4 r12))))) else some (F4, G3)))
theorem fX2_finish_l7_z (G : xG) (v1 : Int32) (v2 : Int32) (G3 : xG) (F4 : xF) : fX2_finish_l7 G 0 v1 v2 G3 F4 = none := rfl
theorem fX2_finish_l7_e (G : xG) (n7 : Nat) (v1 : Int32) (v2 : Int32) (G3 : xG) (F4 : xF) : fX2_finish_l7 G (n7 + 1) v1 v2 G3 F4 = (if 40 ≤ v2 then some (F4, G3) else (if (F4 4) = 7 then x_b1 (fX0_weigh G3 v1) (fun G8 => x_ld v1 40 ((if ((G 1) v1.toNatClampNeg) = (-1) then some ((va_up F4 5 ((G 1) v1.toNatClampNeg)), G8) else x_b2 (fX2_dueBehindPart (va_up F4 5 ((G 1) v1.toNatClampNeg)) G8 v1) (fun r12 G13 => (fX2_finish_l7 G n7) ((G 1) v1.toNatClampNeg) (v2 + 1) G13 (va_up (va_up F4 5 ((G 1) v1.toNatClampNeg)) 4 r12))))) else some (F4, G3))) := rfl
def fX2_finish (F : xF) (G : xG) (Go : xG) : Option (xF × xG) :=
  (fX2_finish_l7 G 4096) (F 5) 0 Go F
theorem fX2_finish_e (F : xF) (G : xG) (Go : xG) : fX2_finish F G Go = (fX2_finish_l7 G 4096) (F 5) 0 Go F := rfl
def rmX2_finish : Room := { frames := 3, cells := 0, slots := 0, locals := 73 }
def fX2_type_j40  (F1 : xF) (G2 : xG) (F3 : xF) (G4 : xG) : Option (Int32 × xF × xG × xF × xG) :=
  some (((F3 2) + 1), (va_up F3 2 ((F3 2) + 1)), G4, F1, G2)
theorem fX2_type_j40_e  (F1 : xF) (G2 : xG) (F3 : xF) (G4 : xG) : fX2_type_j40 F1 G2 F3 G4 = some (((F3 2) + 1), (va_up F3 2 ((F3 2) + 1)), G4, F1, G2) := rfl
def fX2_type (F : xF) (G : xG) (Fo : xF) (Go : xG) (p1 : Int32) : Option (Int32 × xF × xG × xF × xG) :=
  (if (F 3) = (-1) then x_b5 (fX2_takes F G Fo Go p1) (fun r7 F8 G9 F10 G11 => (if r7 = 0 then fX2_type_j40 F10 G11 (va_up F8 3 (F8 2)) G9 else (if (F8 4) = 7 then x_b2 (fX2_finish F8 G9 G11) (fun F15 G16 => fX2_type_j40 F10 G16 F15 G9) else fX2_type_j40 F10 G11 F8 G9))) else fX2_type_j40 Fo Go F G)
theorem fX2_type_e (F : xF) (G : xG) (Fo : xF) (Go : xG) (p1 : Int32) : fX2_type F G Fo Go p1 = (if (F 3) = (-1) then x_b5 (fX2_takes F G Fo Go p1) (fun r7 F8 G9 F10 G11 => (if r7 = 0 then fX2_type_j40 F10 G11 (va_up F8 3 (F8 2)) G9 else (if (F8 4) = 7 then x_b2 (fX2_finish F8 G9 G11) (fun F15 G16 => fX2_type_j40 F10 G16 F15 G9) else fX2_type_j40 F10 G11 F8 G9))) else fX2_type_j40 Fo Go F G) := rfl
def rmX2_type : Room := { frames := 4, cells := 0, slots := 0, locals := 95 }
def fX6_thrown (F : xF) : Option (Int32) :=
  some ((F 0))
theorem fX6_thrown_e (F : xF) : fX6_thrown F = some ((F 0)) := rfl
def rmX6_thrown : Room := { frames := 0, cells := 0, slots := 0, locals := 0 }
def fX6_goesWell (F : xF) (p1 : Int32) : Option (Int32 × xF) :=
  (if p1 = 0 then some (1, (va_up F 0 p1)) else some (0, (va_up F 0 p1)))
theorem fX6_goesWell_e (F : xF) (p1 : Int32) : fX6_goesWell F p1 = (if p1 = 0 then some (1, (va_up F 0 p1)) else some (0, (va_up F 0 p1))) := rfl
def rmX6_goesWell : Room := { frames := 0, cells := 0, slots := 0, locals := 0 }
def fX6_in (p1 : Int32) (p2 : Int32) (p3 : Int32) : Option (Int32) :=
  (if p1 < p2 then some (0) else (if p3 < p1 then some (0) else some (1)))
theorem fX6_in_e (p1 : Int32) (p2 : Int32) (p3 : Int32) : fX6_in p1 p2 p3 = (if p1 < p2 then some (0) else (if p3 < p1 then some (0) else some (1))) := rfl
def rmX6_in : Room := { frames := 0, cells := 0, slots := 0, locals := 0 }
def fX6_variableOf (p1 : Int32) : Option (Int32) :=
  x_b1 (fX6_in p1 120 122) (fun r2 => (if r2 = 0 then some ((-1)) else some ((p1 - 120))))
theorem fX6_variableOf_e (p1 : Int32) : fX6_variableOf p1 = x_b1 (fX6_in p1 120 122) (fun r2 => (if r2 = 0 then some ((-1)) else some ((p1 - 120)))) := rfl
def rmX6_variableOf : Room := { frames := 1, cells := 0, slots := 0, locals := 22 }
def fX6_kindOf (p1 : Int32) : Option (Int32) :=
  (if p1 = 33 then some (2) else (if p1 = 38 then some (3) else (if p1 = 40 then some (10) else (if p1 = 60 then some (0) else (if p1 = 61 then some (1) else (if p1 = 62 then some (5) else (if p1 = 65 then some (6) else (if p1 = 69 then some (7) else (if p1 = 97 then some (8) else (if p1 = 101 then some (9) else (if p1 = 124 then some (4) else some ((-1)))))))))))))
theorem fX6_kindOf_e (p1 : Int32) : fX6_kindOf p1 = (if p1 = 33 then some (2) else (if p1 = 38 then some (3) else (if p1 = 40 then some (10) else (if p1 = 60 then some (0) else (if p1 = 61 then some (1) else (if p1 = 62 then some (5) else (if p1 = 65 then some (6) else (if p1 = 69 then some (7) else (if p1 = 97 then some (8) else (if p1 = 101 then some (9) else (if p1 = 124 then some (4) else some ((-1))))))))))))) := rfl
def rmX6_kindOf : Room := { frames := 0, cells := 0, slots := 0, locals := 0 }
def fX6_letter_j51 (F : xF) (G : xG) (p1 : Int32) (v4 : Int32) : Option (Int32 × xF × xG) :=
  x_b2 (fX6_goesWell F v4) (fun r6 F7 => (if r6 = 0 then some (0, F7, G) else x_ld (F7 1) 40 (some (((F7 1) + 1), (va_up F7 1 ((F7 1) + 1)), (va_up G 2 (upd (G 2) (F7 1).toNatClampNeg (x_cn p1)))))))
theorem fX6_letter_j51_e (F : xF) (G : xG) (p1 : Int32) (v4 : Int32) : fX6_letter_j51 F G p1 v4 = x_b2 (fX6_goesWell F v4) (fun r6 F7 => (if r6 = 0 then some (0, F7, G) else x_ld (F7 1) 40 (some (((F7 1) + 1), (va_up F7 1 ((F7 1) + 1)), (va_up G 2 (upd (G 2) (F7 1).toNatClampNeg (x_cn p1))))))) := rfl
def fX6_letter_j27 (F : xF) (G : xG) (p1 : Int32) (v3 : Int32) : Option (Int32 × xF × xG) :=
  (if v3 = 0 then (fX6_letter_j51 F G p1) 1 else (if (F 1) = 40 then (fX6_letter_j51 F G p1) 2 else (fX6_letter_j51 F G p1) 0))
theorem fX6_letter_j27_e (F : xF) (G : xG) (p1 : Int32) (v3 : Int32) : fX6_letter_j27 F G p1 v3 = (if v3 = 0 then (fX6_letter_j51 F G p1) 1 else (if (F 1) = 40 then (fX6_letter_j51 F G p1) 2 else (fX6_letter_j51 F G p1) 0)) := rfl
def fX6_letter_j22 (F : xF) (G : xG) (p1 : Int32)  : Option (Int32 × xF × xG) :=
  (fX6_letter_j27 F G p1) 1
theorem fX6_letter_j22_e (F : xF) (G : xG) (p1 : Int32)  : fX6_letter_j22 F G p1 = (fX6_letter_j27 F G p1) 1 := rfl
def fX6_letter (F : xF) (G : xG) (p1 : Int32) : Option (Int32 × xF × xG) :=
  x_b1 (fX6_variableOf p1) (fun r2 => (if r2 = (-1) then x_b1 (fX6_kindOf p1) (fun r14 => (if r14 = (-1) then (if p1 = 41 then (fX6_letter_j22 F G p1) else (fX6_letter_j27 F G p1) 0) else (fX6_letter_j22 F G p1))) else (fX6_letter_j22 F G p1)))
theorem fX6_letter_e (F : xF) (G : xG) (p1 : Int32) : fX6_letter F G p1 = x_b1 (fX6_variableOf p1) (fun r2 => (if r2 = (-1) then x_b1 (fX6_kindOf p1) (fun r14 => (if r14 = (-1) then (if p1 = 41 then (fX6_letter_j22 F G p1) else (fX6_letter_j27 F G p1) 0) else (fX6_letter_j22 F G p1))) else (fX6_letter_j22 F G p1))) := rfl
def rmX6_letter : Room := { frames := 2, cells := 0, slots := 0, locals := 42 }
def fX6_blank (F : xF) : Option (Int32 × xF) :=
  some ((F 1), (va_up (va_up F 0 0) 1 0))
theorem fX6_blank_e (F : xF) : fX6_blank F = some ((F 1), (va_up (va_up F 0 0) 1 0)) := rfl
def rmX6_blank : Room := { frames := 0, cells := 0, slots := 0, locals := 0 }
def fX6_lesser_j10 (p2 : Int32) (v1 : Int32) : Option (Int32) :=
  (if (p2 + 1) ≤ v1 then some ((p2 + 1)) else some (v1))
theorem fX6_lesser_j10_e (p2 : Int32) (v1 : Int32) : fX6_lesser_j10 p2 v1 = (if (p2 + 1) ≤ v1 then some ((p2 + 1)) else some (v1)) := rfl
def fX6_lesser (p1 : Int32) (p2 : Int32) : Option (Int32) :=
  (if 1 ≤ p1 then (fX6_lesser_j10 p2) p1 else (fX6_lesser_j10 p2) 1)
theorem fX6_lesser_e (p1 : Int32) (p2 : Int32) : fX6_lesser p1 p2 = (if 1 ≤ p1 then (fX6_lesser_j10 p2) p1 else (fX6_lesser_j10 p2) 1) := rfl
def rmX6_lesser : Room := { frames := 0, cells := 0, slots := 0, locals := 0 }
def fX6_measure_j367 (G : xG) (p1 : Int32) (v11 : Int32) (v12 : Int32) (v13 : Int32) : Option (xG) :=
  x_ld p1 40 (x_ld p1 40 (x_ld p1 40 (some ((va_up (va_up (va_up G 9 (upd (G 9) p1.toNatClampNeg v11)) 10 (upd (G 10) p1.toNatClampNeg v12)) 11 (upd (G 11) p1.toNatClampNeg v13))))))
theorem fX6_measure_j367_e (G : xG) (p1 : Int32) (v11 : Int32) (v12 : Int32) (v13 : Int32) : fX6_measure_j367 G p1 v11 v12 v13 = x_ld p1 40 (x_ld p1 40 (x_ld p1 40 (some ((va_up (va_up (va_up G 9 (upd (G 9) p1.toNatClampNeg v11)) 10 (upd (G 10) p1.toNatClampNeg v12)) 11 (upd (G 11) p1.toNatClampNeg v13)))))) := rfl
def fX6_measure_j285 (G : xG) (p1 : Int32) (v28 : Int32) (v5 : Int32) (v30 : Int32) : Option (xG) :=
  x_ld ((G 6) p1.toNatClampNeg) 40 ((fX6_measure_j367 G p1) v28 v30 (v5 ||| ((G 11) ((G 6) p1.toNatClampNeg).toNatClampNeg)))
theorem fX6_measure_j285_e (G : xG) (p1 : Int32) (v28 : Int32) (v5 : Int32) (v30 : Int32) : fX6_measure_j285 G p1 v28 v5 v30 = x_ld ((G 6) p1.toNatClampNeg) 40 ((fX6_measure_j367 G p1) v28 v30 (v5 ||| ((G 11) ((G 6) p1.toNatClampNeg).toNatClampNeg))) := rfl
def fX6_measure_j261 (G : xG) (p1 : Int32) (v26 : Int32) (v5 : Int32) (v28 : Int32) : Option (xG) :=
  x_ld ((G 6) p1.toNatClampNeg) 40 ((if ((G 10) ((G 6) p1.toNatClampNeg).toNatClampNeg) ≤ v26 then (fX6_measure_j285 G p1 v28 v5) v26 else x_ld ((G 6) p1.toNatClampNeg) 40 ((fX6_measure_j285 G p1 v28 v5) ((G 10) ((G 6) p1.toNatClampNeg).toNatClampNeg))))
theorem fX6_measure_j261_e (G : xG) (p1 : Int32) (v26 : Int32) (v5 : Int32) (v28 : Int32) : fX6_measure_j261 G p1 v26 v5 v28 = x_ld ((G 6) p1.toNatClampNeg) 40 ((if ((G 10) ((G 6) p1.toNatClampNeg).toNatClampNeg) ≤ v26 then (fX6_measure_j285 G p1 v28 v5) v26 else x_ld ((G 6) p1.toNatClampNeg) 40 ((fX6_measure_j285 G p1 v28 v5) ((G 10) ((G 6) p1.toNatClampNeg).toNatClampNeg)))) := rfl
def fX6_measure_j237 (G : xG) (p1 : Int32) (v24 : Int32) (v5 : Int32) (v26 : Int32) : Option (xG) :=
  x_ld ((G 6) p1.toNatClampNeg) 40 ((if ((G 9) ((G 6) p1.toNatClampNeg).toNatClampNeg) ≤ v24 then (fX6_measure_j261 G p1 v26 v5) v24 else x_ld ((G 6) p1.toNatClampNeg) 40 ((fX6_measure_j261 G p1 v26 v5) ((G 9) ((G 6) p1.toNatClampNeg).toNatClampNeg))))
theorem fX6_measure_j237_e (G : xG) (p1 : Int32) (v24 : Int32) (v5 : Int32) (v26 : Int32) : fX6_measure_j237 G p1 v24 v5 v26 = x_ld ((G 6) p1.toNatClampNeg) 40 ((if ((G 9) ((G 6) p1.toNatClampNeg).toNatClampNeg) ≤ v24 then (fX6_measure_j261 G p1 v26 v5) v24 else x_ld ((G 6) p1.toNatClampNeg) 40 ((fX6_measure_j261 G p1 v26 v5) ((G 9) ((G 6) p1.toNatClampNeg).toNatClampNeg)))) := rfl
def fX6_measure_j214 (G : xG) (p1 : Int32) (v5 : Int32) (v4 : Int32) (v24 : Int32) : Option (xG) :=
  x_ld p1 40 ((if ((G 4) p1.toNatClampNeg) = 5 then x_ld ((G 5) p1.toNatClampNeg) 40 ((fX6_measure_j237 G p1 v24 v5) ((G 9) ((G 5) p1.toNatClampNeg).toNatClampNeg)) else (fX6_measure_j237 G p1 v24 v5) v4))
theorem fX6_measure_j214_e (G : xG) (p1 : Int32) (v5 : Int32) (v4 : Int32) (v24 : Int32) : fX6_measure_j214 G p1 v5 v4 v24 = x_ld p1 40 ((if ((G 4) p1.toNatClampNeg) = 5 then x_ld ((G 5) p1.toNatClampNeg) 40 ((fX6_measure_j237 G p1 v24 v5) ((G 9) ((G 5) p1.toNatClampNeg).toNatClampNeg)) else (fX6_measure_j237 G p1 v24 v5) v4)) := rfl
def fX6_measure_j285' (G : xG) (p1 : Int32) (v46 : Int32) (v5 : Int32) (v48 : Int32) : Option (xG) :=
  x_ld ((G 6) p1.toNatClampNeg) 40 ((fX6_measure_j367 G p1) v46 v48 (v5 ||| ((G 11) ((G 6) p1.toNatClampNeg).toNatClampNeg)))
theorem fX6_measure_j285'_e (G : xG) (p1 : Int32) (v46 : Int32) (v5 : Int32) (v48 : Int32) : fX6_measure_j285' G p1 v46 v5 v48 = x_ld ((G 6) p1.toNatClampNeg) 40 ((fX6_measure_j367 G p1) v46 v48 (v5 ||| ((G 11) ((G 6) p1.toNatClampNeg).toNatClampNeg))) := rfl
def fX6_measure_j261' (G : xG) (p1 : Int32) (v44 : Int32) (v5 : Int32) (v46 : Int32) : Option (xG) :=
  x_ld ((G 6) p1.toNatClampNeg) 40 ((if ((G 10) ((G 6) p1.toNatClampNeg).toNatClampNeg) ≤ v44 then (fX6_measure_j285' G p1 v46 v5) v44 else x_ld ((G 6) p1.toNatClampNeg) 40 ((fX6_measure_j285' G p1 v46 v5) ((G 10) ((G 6) p1.toNatClampNeg).toNatClampNeg))))
theorem fX6_measure_j261'_e (G : xG) (p1 : Int32) (v44 : Int32) (v5 : Int32) (v46 : Int32) : fX6_measure_j261' G p1 v44 v5 v46 = x_ld ((G 6) p1.toNatClampNeg) 40 ((if ((G 10) ((G 6) p1.toNatClampNeg).toNatClampNeg) ≤ v44 then (fX6_measure_j285' G p1 v46 v5) v44 else x_ld ((G 6) p1.toNatClampNeg) 40 ((fX6_measure_j285' G p1 v46 v5) ((G 10) ((G 6) p1.toNatClampNeg).toNatClampNeg)))) := rfl
def fX6_measure_j237' (G : xG) (p1 : Int32) (v42 : Int32) (v5 : Int32) (v44 : Int32) : Option (xG) :=
  x_ld ((G 6) p1.toNatClampNeg) 40 ((if ((G 9) ((G 6) p1.toNatClampNeg).toNatClampNeg) ≤ v42 then (fX6_measure_j261' G p1 v44 v5) v42 else x_ld ((G 6) p1.toNatClampNeg) 40 ((fX6_measure_j261' G p1 v44 v5) ((G 9) ((G 6) p1.toNatClampNeg).toNatClampNeg))))
theorem fX6_measure_j237'_e (G : xG) (p1 : Int32) (v42 : Int32) (v5 : Int32) (v44 : Int32) : fX6_measure_j237' G p1 v42 v5 v44 = x_ld ((G 6) p1.toNatClampNeg) 40 ((if ((G 9) ((G 6) p1.toNatClampNeg).toNatClampNeg) ≤ v42 then (fX6_measure_j261' G p1 v44 v5) v42 else x_ld ((G 6) p1.toNatClampNeg) 40 ((fX6_measure_j261' G p1 v44 v5) ((G 9) ((G 6) p1.toNatClampNeg).toNatClampNeg)))) := rfl
def fX6_measure_j214' (G : xG) (p1 : Int32) (v5 : Int32) (v4 : Int32) (v42 : Int32) : Option (xG) :=
  x_ld p1 40 ((if ((G 4) p1.toNatClampNeg) = 5 then x_ld ((G 5) p1.toNatClampNeg) 40 ((fX6_measure_j237' G p1 v42 v5) ((G 9) ((G 5) p1.toNatClampNeg).toNatClampNeg)) else (fX6_measure_j237' G p1 v42 v5) v4))
theorem fX6_measure_j214'_e (G : xG) (p1 : Int32) (v5 : Int32) (v4 : Int32) (v42 : Int32) : fX6_measure_j214' G p1 v5 v4 v42 = x_ld p1 40 ((if ((G 4) p1.toNatClampNeg) = 5 then x_ld ((G 5) p1.toNatClampNeg) 40 ((fX6_measure_j237' G p1 v42 v5) ((G 9) ((G 5) p1.toNatClampNeg).toNatClampNeg)) else (fX6_measure_j237' G p1 v42 v5) v4)) := rfl
def fX6_measure_j285'' (G : xG) (p1 : Int32) (v64 : Int32) (v5 : Int32) (v66 : Int32) : Option (xG) :=
  x_ld ((G 6) p1.toNatClampNeg) 40 ((fX6_measure_j367 G p1) v64 v66 (v5 ||| ((G 11) ((G 6) p1.toNatClampNeg).toNatClampNeg)))
theorem fX6_measure_j285''_e (G : xG) (p1 : Int32) (v64 : Int32) (v5 : Int32) (v66 : Int32) : fX6_measure_j285'' G p1 v64 v5 v66 = x_ld ((G 6) p1.toNatClampNeg) 40 ((fX6_measure_j367 G p1) v64 v66 (v5 ||| ((G 11) ((G 6) p1.toNatClampNeg).toNatClampNeg))) := rfl
def fX6_measure_j261'' (G : xG) (p1 : Int32) (v62 : Int32) (v5 : Int32) (v64 : Int32) : Option (xG) :=
  x_ld ((G 6) p1.toNatClampNeg) 40 ((if ((G 10) ((G 6) p1.toNatClampNeg).toNatClampNeg) ≤ v62 then (fX6_measure_j285'' G p1 v64 v5) v62 else x_ld ((G 6) p1.toNatClampNeg) 40 ((fX6_measure_j285'' G p1 v64 v5) ((G 10) ((G 6) p1.toNatClampNeg).toNatClampNeg))))
theorem fX6_measure_j261''_e (G : xG) (p1 : Int32) (v62 : Int32) (v5 : Int32) (v64 : Int32) : fX6_measure_j261'' G p1 v62 v5 v64 = x_ld ((G 6) p1.toNatClampNeg) 40 ((if ((G 10) ((G 6) p1.toNatClampNeg).toNatClampNeg) ≤ v62 then (fX6_measure_j285'' G p1 v64 v5) v62 else x_ld ((G 6) p1.toNatClampNeg) 40 ((fX6_measure_j285'' G p1 v64 v5) ((G 10) ((G 6) p1.toNatClampNeg).toNatClampNeg)))) := rfl
def fX6_measure_j237'' (G : xG) (p1 : Int32) (v60 : Int32) (v5 : Int32) (v62 : Int32) : Option (xG) :=
  x_ld ((G 6) p1.toNatClampNeg) 40 ((if ((G 9) ((G 6) p1.toNatClampNeg).toNatClampNeg) ≤ v60 then (fX6_measure_j261'' G p1 v62 v5) v60 else x_ld ((G 6) p1.toNatClampNeg) 40 ((fX6_measure_j261'' G p1 v62 v5) ((G 9) ((G 6) p1.toNatClampNeg).toNatClampNeg))))
theorem fX6_measure_j237''_e (G : xG) (p1 : Int32) (v60 : Int32) (v5 : Int32) (v62 : Int32) : fX6_measure_j237'' G p1 v60 v5 v62 = x_ld ((G 6) p1.toNatClampNeg) 40 ((if ((G 9) ((G 6) p1.toNatClampNeg).toNatClampNeg) ≤ v60 then (fX6_measure_j261'' G p1 v62 v5) v60 else x_ld ((G 6) p1.toNatClampNeg) 40 ((fX6_measure_j261'' G p1 v62 v5) ((G 9) ((G 6) p1.toNatClampNeg).toNatClampNeg)))) := rfl
def fX6_measure_j214'' (G : xG) (p1 : Int32) (v5 : Int32) (v4 : Int32) (v60 : Int32) : Option (xG) :=
  x_ld p1 40 ((if ((G 4) p1.toNatClampNeg) = 5 then x_ld ((G 5) p1.toNatClampNeg) 40 ((fX6_measure_j237'' G p1 v60 v5) ((G 9) ((G 5) p1.toNatClampNeg).toNatClampNeg)) else (fX6_measure_j237'' G p1 v60 v5) v4))
theorem fX6_measure_j214''_e (G : xG) (p1 : Int32) (v5 : Int32) (v4 : Int32) (v60 : Int32) : fX6_measure_j214'' G p1 v5 v4 v60 = x_ld p1 40 ((if ((G 4) p1.toNatClampNeg) = 5 then x_ld ((G 5) p1.toNatClampNeg) 40 ((fX6_measure_j237'' G p1 v60 v5) ((G 9) ((G 5) p1.toNatClampNeg).toNatClampNeg)) else (fX6_measure_j237'' G p1 v60 v5) v4)) := rfl
def fX6_measure_j111 (G : xG) (p1 : Int32) (v3 : Int32) (v4 : Int32) (v7 : Int32) (v5 : Int32) (v9 : Int32) : Option (xG) :=
  x_ld p1 40 ((if ((G 4) p1.toNatClampNeg) = 0 then (fX6_measure_j367 G p1) v3 v4 (v7 ||| v9) else (if ((G 4) p1.toNatClampNeg) = 1 then (fX6_measure_j367 G p1) v3 v4 (v7 ||| v9) else (if ((G 4) p1.toNatClampNeg) = 2 then x_ld ((G 5) p1.toNatClampNeg) 40 (x_ld ((G 5) p1.toNatClampNeg) 40 ((fX6_measure_j367 G p1) ((G 10) ((G 5) p1.toNatClampNeg).toNatClampNeg) ((G 9) ((G 5) p1.toNatClampNeg).toNatClampNeg) v5)) else (if ((G 4) p1.toNatClampNeg) = 3 then x_ld p1 40 ((if ((G 4) p1.toNatClampNeg) = 5 then x_ld ((G 5) p1.toNatClampNeg) 40 ((fX6_measure_j214 G p1 v5 v4) ((G 10) ((G 5) p1.toNatClampNeg).toNatClampNeg)) else (fX6_measure_j214 G p1 v5 v4) v3)) else (if ((G 4) p1.toNatClampNeg) = 4 then x_ld p1 40 ((if ((G 4) p1.toNatClampNeg) = 5 then x_ld ((G 5) p1.toNatClampNeg) 40 ((fX6_measure_j214' G p1 v5 v4) ((G 10) ((G 5) p1.toNatClampNeg).toNatClampNeg)) else (fX6_measure_j214' G p1 v5 v4) v3)) else (if ((G 4) p1.toNatClampNeg) = 5 then x_ld p1 40 ((if ((G 4) p1.toNatClampNeg) = 5 then x_ld ((G 5) p1.toNatClampNeg) 40 ((fX6_measure_j214'' G p1 v5 v4) ((G 10) ((G 5) p1.toNatClampNeg).toNatClampNeg)) else (fX6_measure_j214'' G p1 v5 v4) v3)) else (if ((G 4) p1.toNatClampNeg) = 6 then x_b1 (fX6_lesser v4 v3) (fun r78 => (fX6_measure_j367 G p1) (r78 + 1) r78 (v5 &&& (v7 ^^^ (-1)))) else (if ((G 4) p1.toNatClampNeg) = 7 then x_b1 (fX6_lesser v3 v4) (fun r81 => (fX6_measure_j367 G p1) r81 (r81 + 1) (v5 &&& (v7 ^^^ (-1)))) else (fX6_measure_j367 G p1) v3 v4 ((v5 &&& (v7 ^^^ (-1))) ||| v9))))))))))
theorem fX6_measure_j111_e (G : xG) (p1 : Int32) (v3 : Int32) (v4 : Int32) (v7 : Int32) (v5 : Int32) (v9 : Int32) : fX6_measure_j111 G p1 v3 v4 v7 v5 v9 = x_ld p1 40 ((if ((G 4) p1.toNatClampNeg) = 0 then (fX6_measure_j367 G p1) v3 v4 (v7 ||| v9) else (if ((G 4) p1.toNatClampNeg) = 1 then (fX6_measure_j367 G p1) v3 v4 (v7 ||| v9) else (if ((G 4) p1.toNatClampNeg) = 2 then x_ld ((G 5) p1.toNatClampNeg) 40 (x_ld ((G 5) p1.toNatClampNeg) 40 ((fX6_measure_j367 G p1) ((G 10) ((G 5) p1.toNatClampNeg).toNatClampNeg) ((G 9) ((G 5) p1.toNatClampNeg).toNatClampNeg) v5)) else (if ((G 4) p1.toNatClampNeg) = 3 then x_ld p1 40 ((if ((G 4) p1.toNatClampNeg) = 5 then x_ld ((G 5) p1.toNatClampNeg) 40 ((fX6_measure_j214 G p1 v5 v4) ((G 10) ((G 5) p1.toNatClampNeg).toNatClampNeg)) else (fX6_measure_j214 G p1 v5 v4) v3)) else (if ((G 4) p1.toNatClampNeg) = 4 then x_ld p1 40 ((if ((G 4) p1.toNatClampNeg) = 5 then x_ld ((G 5) p1.toNatClampNeg) 40 ((fX6_measure_j214' G p1 v5 v4) ((G 10) ((G 5) p1.toNatClampNeg).toNatClampNeg)) else (fX6_measure_j214' G p1 v5 v4) v3)) else (if ((G 4) p1.toNatClampNeg) = 5 then x_ld p1 40 ((if ((G 4) p1.toNatClampNeg) = 5 then x_ld ((G 5) p1.toNatClampNeg) 40 ((fX6_measure_j214'' G p1 v5 v4) ((G 10) ((G 5) p1.toNatClampNeg).toNatClampNeg)) else (fX6_measure_j214'' G p1 v5 v4) v3)) else (if ((G 4) p1.toNatClampNeg) = 6 then x_b1 (fX6_lesser v4 v3) (fun r78 => (fX6_measure_j367 G p1) (r78 + 1) r78 (v5 &&& (v7 ^^^ (-1)))) else (if ((G 4) p1.toNatClampNeg) = 7 then x_b1 (fX6_lesser v3 v4) (fun r81 => (fX6_measure_j367 G p1) r81 (r81 + 1) (v5 &&& (v7 ^^^ (-1)))) else (fX6_measure_j367 G p1) v3 v4 ((v5 &&& (v7 ^^^ (-1))) ||| v9)))))))))) := rfl
def fX6_measure_j87 (G : xG) (p1 : Int32) (v3 : Int32) (v4 : Int32) (v5 : Int32) (v7 : Int32) : Option (xG) :=
  x_ld p1 40 ((if ((G 8) p1.toNatClampNeg) = (-1) then (fX6_measure_j111 G p1 v3 v4 v7 v5) 0 else x_ld p1 40 ((fX6_measure_j111 G p1 v3 v4 v7 v5) (x_shl 1 ((G 8) p1.toNatClampNeg)))))
theorem fX6_measure_j87_e (G : xG) (p1 : Int32) (v3 : Int32) (v4 : Int32) (v5 : Int32) (v7 : Int32) : fX6_measure_j87 G p1 v3 v4 v5 v7 = x_ld p1 40 ((if ((G 8) p1.toNatClampNeg) = (-1) then (fX6_measure_j111 G p1 v3 v4 v7 v5) 0 else x_ld p1 40 ((fX6_measure_j111 G p1 v3 v4 v7 v5) (x_shl 1 ((G 8) p1.toNatClampNeg))))) := rfl
def fX6_measure_j63 (G : xG) (p1 : Int32) (v3 : Int32) (v4 : Int32) (v5 : Int32) : Option (xG) :=
  x_ld p1 40 ((if ((G 7) p1.toNatClampNeg) = (-1) then (fX6_measure_j87 G p1 v3 v4 v5) 0 else x_ld p1 40 ((fX6_measure_j87 G p1 v3 v4 v5) (x_shl 1 ((G 7) p1.toNatClampNeg)))))
theorem fX6_measure_j63_e (G : xG) (p1 : Int32) (v3 : Int32) (v4 : Int32) (v5 : Int32) : fX6_measure_j63 G p1 v3 v4 v5 = x_ld p1 40 ((if ((G 7) p1.toNatClampNeg) = (-1) then (fX6_measure_j87 G p1 v3 v4 v5) 0 else x_ld p1 40 ((fX6_measure_j87 G p1 v3 v4 v5) (x_shl 1 ((G 7) p1.toNatClampNeg))))) := rfl
def fX6_measure_j46 (G : xG) (p1 : Int32) (v3 : Int32) (v4 : Int32) : Option (xG) :=
  (if ((G 5) p1.toNatClampNeg) = (-1) then (fX6_measure_j63 G p1 v3 v4) 0 else x_ld ((G 5) p1.toNatClampNeg) 40 ((fX6_measure_j63 G p1 v3 v4) ((G 11) ((G 5) p1.toNatClampNeg).toNatClampNeg)))
theorem fX6_measure_j46_e (G : xG) (p1 : Int32) (v3 : Int32) (v4 : Int32) : fX6_measure_j46 G p1 v3 v4 = (if ((G 5) p1.toNatClampNeg) = (-1) then (fX6_measure_j63 G p1 v3 v4) 0 else x_ld ((G 5) p1.toNatClampNeg) 40 ((fX6_measure_j63 G p1 v3 v4) ((G 11) ((G 5) p1.toNatClampNeg).toNatClampNeg))) := rfl
def fX6_measure_j29 (G : xG) (p1 : Int32) (v3 : Int32) : Option (xG) :=
  (if ((G 5) p1.toNatClampNeg) = (-1) then (fX6_measure_j46 G p1 v3) 0 else x_ld ((G 5) p1.toNatClampNeg) 40 ((fX6_measure_j46 G p1 v3) ((G 10) ((G 5) p1.toNatClampNeg).toNatClampNeg)))
theorem fX6_measure_j29_e (G : xG) (p1 : Int32) (v3 : Int32) : fX6_measure_j29 G p1 v3 = (if ((G 5) p1.toNatClampNeg) = (-1) then (fX6_measure_j46 G p1 v3) 0 else x_ld ((G 5) p1.toNatClampNeg) 40 ((fX6_measure_j46 G p1 v3) ((G 10) ((G 5) p1.toNatClampNeg).toNatClampNeg))) := rfl
def fX6_measure (G : xG) (p1 : Int32) : Option (xG) :=
  x_ld p1 40 (x_ld p1 40 ((if ((G 5) p1.toNatClampNeg) = (-1) then (fX6_measure_j29 G p1) 0 else x_ld ((G 5) p1.toNatClampNeg) 40 ((fX6_measure_j29 G p1) ((G 9) ((G 5) p1.toNatClampNeg).toNatClampNeg)))))
theorem fX6_measure_e (G : xG) (p1 : Int32) : fX6_measure G p1 = x_ld p1 40 (x_ld p1 40 ((if ((G 5) p1.toNatClampNeg) = (-1) then (fX6_measure_j29 G p1) 0 else x_ld ((G 5) p1.toNatClampNeg) 40 ((fX6_measure_j29 G p1) ((G 9) ((G 5) p1.toNatClampNeg).toNatClampNeg))))) := rfl
def rmX6_measure : Room := { frames := 1, cells := 0, slots := 0, locals := 22 }
def fX6_make (F : xF) (G : xG) (p1 : Int32) (p2 : Int32) (p3 : Int32) (p4 : Int32) (p5 : Int32) : Option (Int32 × xF × xG) :=
  x_ld (F 3) 40 (x_ld (F 3) 40 (x_ld (F 3) 40 (x_ld (F 3) 40 (x_ld (F 3) 40 (x_b1 (fX6_measure (va_up (va_up (va_up (va_up (va_up G 4 (upd (G 4) (F 3).toNatClampNeg p1)) 5 (upd (G 5) (F 3).toNatClampNeg p2)) 6 (upd (G 6) (F 3).toNatClampNeg p3)) 7 (upd (G 7) (F 3).toNatClampNeg p4)) 8 (upd (G 8) (F 3).toNatClampNeg p5)) (F 3)) (fun G7 => some ((((F 3) + 1) - 1), (va_up F 3 ((F 3) + 1)), G7)))))))
theorem fX6_make_e (F : xF) (G : xG) (p1 : Int32) (p2 : Int32) (p3 : Int32) (p4 : Int32) (p5 : Int32) : fX6_make F G p1 p2 p3 p4 p5 = x_ld (F 3) 40 (x_ld (F 3) 40 (x_ld (F 3) 40 (x_ld (F 3) 40 (x_ld (F 3) 40 (x_b1 (fX6_measure (va_up (va_up (va_up (va_up (va_up G 4 (upd (G 4) (F 3).toNatClampNeg p1)) 5 (upd (G 5) (F 3).toNatClampNeg p2)) 6 (upd (G 6) (F 3).toNatClampNeg p3)) 7 (upd (G 7) (F 3).toNatClampNeg p4)) 8 (upd (G 8) (F 3).toNatClampNeg p5)) (F 3)) (fun G7 => some ((((F 3) + 1) - 1), (va_up F 3 ((F 3) + 1)), G7))))))) := rfl
def rmX6_make : Room := { frames := 2, cells := 0, slots := 0, locals := 50 }
def fX6_begin (F : xF) (G : xG) (p1 : Int32) (p2 : Int32) (p3 : Int32) : Option (xF × xG) :=
  x_ld (F 12) 41 (x_ld (F 12) 41 (x_ld (F 12) 41 (some ((va_up F 12 ((F 12) + 1)), (va_up (va_up (va_up G 13 (upd (G 13) (F 12).toNatClampNeg p1)) 14 (upd (G 14) (F 12).toNatClampNeg p2)) 15 (upd (G 15) (F 12).toNatClampNeg p3))))))
theorem fX6_begin_e (F : xF) (G : xG) (p1 : Int32) (p2 : Int32) (p3 : Int32) : fX6_begin F G p1 p2 p3 = x_ld (F 12) 41 (x_ld (F 12) 41 (x_ld (F 12) 41 (some ((va_up F 12 ((F 12) + 1)), (va_up (va_up (va_up G 13 (upd (G 13) (F 12).toNatClampNeg p1)) 14 (upd (G 14) (F 12).toNatClampNeg p2)) 15 (upd (G 15) (F 12).toNatClampNeg p3)))))) := rfl
def rmX6_begin : Room := { frames := 0, cells := 0, slots := 0, locals := 0 }
def fX6_end_x92  (v1 : Int32) (F2 : xF) (G3 : xG) : Option (xF × xG) :=
  (if (F2 12) = 0 then some ((va_up F2 16 8), G3) else x_ld ((F2 12) - 1) 41 ((if ((G3 13) ((F2 12) - 1).toNatClampNeg) = 10 then x_ld ((F2 12) - 1) 41 (some ((va_up F2 16 6), (va_up G3 14 (upd (G3 14) ((F2 12) - 1).toNatClampNeg v1)))) else x_ld ((F2 12) - 1) 41 (some ((va_up F2 16 7), (va_up G3 15 (upd (G3 15) ((F2 12) - 1).toNatClampNeg v1)))))))
theorem fX6_end_x92_e  (v1 : Int32) (F2 : xF) (G3 : xG) : fX6_end_x92 v1 F2 G3 = (if (F2 12) = 0 then some ((va_up F2 16 8), G3) else x_ld ((F2 12) - 1) 41 ((if ((G3 13) ((F2 12) - 1).toNatClampNeg) = 10 then x_ld ((F2 12) - 1) 41 (some ((va_up F2 16 6), (va_up G3 14 (upd (G3 14) ((F2 12) - 1).toNatClampNeg v1)))) else x_ld ((F2 12) - 1) 41 (some ((va_up F2 16 7), (va_up G3 15 (upd (G3 15) ((F2 12) - 1).toNatClampNeg v1))))))) := rfl
def fX6_end_j45 (rec2 : Int32 → xF → xG → Option (xF × xG)) (F10 : xF) (G11 : xG) (v9 : Int32)  : Option (xF × xG) :=
  x_ld ((F10 12) - 1) 41 (x_ld ((F10 12) - 1) 41 (x_ld ((F10 12) - 1) 41 (x_b3 (fX6_make (va_up F10 12 ((F10 12) - 1)) G11 ((G11 13) ((F10 12) - 1).toNatClampNeg) v9 (-1) ((G11 14) ((F10 12) - 1).toNatClampNeg) ((G11 15) ((F10 12) - 1).toNatClampNeg)) (fun r18 F19 G20 => rec2 r18 F19 G20))))
theorem fX6_end_j45_e (rec2 : Int32 → xF → xG → Option (xF × xG)) (F10 : xF) (G11 : xG) (v9 : Int32)  : fX6_end_j45 rec2 F10 G11 v9 = x_ld ((F10 12) - 1) 41 (x_ld ((F10 12) - 1) 41 (x_ld ((F10 12) - 1) 41 (x_b3 (fX6_make (va_up F10 12 ((F10 12) - 1)) G11 ((G11 13) ((F10 12) - 1).toNatClampNeg) v9 (-1) ((G11 14) ((F10 12) - 1).toNatClampNeg) ((G11 15) ((F10 12) - 1).toNatClampNeg)) (fun r18 F19 G20 => rec2 r18 F19 G20)))) := rfl
def fX6_end_l2  : Nat → Int32 → xF → xG → Option (xF × xG)
  | 0, _, _, _ => none
  | n2 + 1, v9, F10, G11 => (if (F10 12) ≤ 0 then fX6_end_x92 v9 F10 G11 else x_ld ((F10 12) - 1) 41 ((if ((G11 13) ((F10 12) - 1).toNatClampNeg) = 2 then (fX6_end_j45 (fX6_end_l2 n2) F10 G11 v9) else x_ld ((F10 12) - 1) 41 (x_b1 (fX6_in ((G11 13) ((F10 12) - 1).toNatClampNeg) 6 9) (fun r24 => (if r24 = 0 then fX6_end_x92 v9 F10 G11 else (fX6_end_j45 (fX6_end_l2 n2) F10 G11 v9)))))))
theorem fX6_end_l2_z  (v9 : Int32) (F10 : xF) (G11 : xG) : fX6_end_l2 0 v9 F10 G11 = none := rfl
theorem fX6_end_l2_e  (n2 : Nat) (v9 : Int32) (F10 : xF) (G11 : xG) : fX6_end_l2 (n2 + 1) v9 F10 G11 = (if (F10 12) ≤ 0 then fX6_end_x92 v9 F10 G11 else x_ld ((F10 12) - 1) 41 ((if ((G11 13) ((F10 12) - 1).toNatClampNeg) = 2 then (fX6_end_j45 (fX6_end_l2 n2) F10 G11 v9) else x_ld ((F10 12) - 1) 41 (x_b1 (fX6_in ((G11 13) ((F10 12) - 1).toNatClampNeg) 6 9) (fun r24 => (if r24 = 0 then fX6_end_x92 v9 F10 G11 else (fX6_end_j45 (fX6_end_l2 n2) F10 G11 v9))))))) := rfl
def fX6_end (F : xF) (G : xG) (p1 : Int32) : Option (xF × xG) :=
  (fX6_end_l2 4096) p1 F G
theorem fX6_end_e (F : xF) (G : xG) (p1 : Int32) : fX6_end F G p1 = (fX6_end_l2 4096) p1 F G := rfl
def rmX6_end : Room := { frames := 3, cells := 0, slots := 0, locals := 75 }
def fX6_startsWith_j42 (F : xF) (G : xG) (r2 : Int32)  : Option (Int32 × xF × xG) :=
  x_b2 (fX6_begin F G r2 (-1) (-1)) (fun F7 G8 => some (1, F7, G8))
theorem fX6_startsWith_j42_e (F : xF) (G : xG) (r2 : Int32)  : fX6_startsWith_j42 F G r2 = x_b2 (fX6_begin F G r2 (-1) (-1)) (fun F7 G8 => some (1, F7, G8)) := rfl
def fX6_startsWith (F : xF) (G : xG) (p1 : Int32) : Option (Int32 × xF × xG) :=
  x_b1 (fX6_kindOf p1) (fun r2 => x_b1 (fX6_variableOf p1) (fun r4 => (if r4 = (-1) then (if r2 = 2 then (fX6_startsWith_j42 F G r2) else (if r2 = 10 then (fX6_startsWith_j42 F G r2) else x_b1 (fX6_in r2 6 9) (fun r12 => (if r12 = 0 then some (0, F, G) else x_b2 (fX6_begin F G r2 (-1) (-1)) (fun F15 G16 => (if 8 ≤ r2 then some (1, (va_up F15 16 4), G16) else some (1, (va_up F15 16 3), G16))))))) else x_b1 (fX6_variableOf p1) (fun r19 => x_b2 (fX6_begin F G 0 r19 (-1)) (fun F21 G22 => some (1, (va_up F21 16 1), G22))))))
theorem fX6_startsWith_e (F : xF) (G : xG) (p1 : Int32) : fX6_startsWith F G p1 = x_b1 (fX6_kindOf p1) (fun r2 => x_b1 (fX6_variableOf p1) (fun r4 => (if r4 = (-1) then (if r2 = 2 then (fX6_startsWith_j42 F G r2) else (if r2 = 10 then (fX6_startsWith_j42 F G r2) else x_b1 (fX6_in r2 6 9) (fun r12 => (if r12 = 0 then some (0, F, G) else x_b2 (fX6_begin F G r2 (-1) (-1)) (fun F15 G16 => (if 8 ≤ r2 then some (1, (va_up F15 16 4), G16) else some (1, (va_up F15 16 3), G16))))))) else x_b1 (fX6_variableOf p1) (fun r19 => x_b2 (fX6_begin F G 0 r19 (-1)) (fun F21 G22 => some (1, (va_up F21 16 1), G22)))))) := rfl
def rmX6_startsWith : Room := { frames := 2, cells := 0, slots := 0, locals := 42 }
def fX6_names (F : xF) (G : xG) (p1 : Int32) : Option (Int32 × xF × xG) :=
  x_b1 (fX6_variableOf p1) (fun r2 => (if r2 = (-1) then some (0, F, G) else (if (F 16) = 2 then x_ld ((F 12) - 1) 41 (x_ld ((F 12) - 1) 41 (x_b3 (fX6_make (va_up F 12 ((F 12) - 1)) G ((G 13) ((F 12) - 1).toNatClampNeg) (-1) (-1) ((G 14) ((F 12) - 1).toNatClampNeg) r2) (fun r12 F13 G14 => x_b2 (fX6_end F13 G14 r12) (fun F16 G17 => some (1, F16, G17))))) else (if (F 16) = 5 then x_ld ((F 12) - 1) 41 (some (1, (va_up F 16 0), (va_up G 15 (upd (G 15) ((F 12) - 1).toNatClampNeg r2)))) else x_ld ((F 12) - 1) 41 ((if (F 16) = 4 then some (1, (va_up F 16 5), (va_up G 14 (upd (G 14) ((F 12) - 1).toNatClampNeg r2))) else some (1, (va_up F 16 0), (va_up G 14 (upd (G 14) ((F 12) - 1).toNatClampNeg r2)))))))))
theorem fX6_names_e (F : xF) (G : xG) (p1 : Int32) : fX6_names F G p1 = x_b1 (fX6_variableOf p1) (fun r2 => (if r2 = (-1) then some (0, F, G) else (if (F 16) = 2 then x_ld ((F 12) - 1) 41 (x_ld ((F 12) - 1) 41 (x_b3 (fX6_make (va_up F 12 ((F 12) - 1)) G ((G 13) ((F 12) - 1).toNatClampNeg) (-1) (-1) ((G 14) ((F 12) - 1).toNatClampNeg) r2) (fun r12 F13 G14 => x_b2 (fX6_end F13 G14 r12) (fun F16 G17 => some (1, F16, G17))))) else (if (F 16) = 5 then x_ld ((F 12) - 1) 41 (some (1, (va_up F 16 0), (va_up G 15 (upd (G 15) ((F 12) - 1).toNatClampNeg r2)))) else x_ld ((F 12) - 1) 41 ((if (F 16) = 4 then some (1, (va_up F 16 5), (va_up G 14 (upd (G 14) ((F 12) - 1).toNatClampNeg r2))) else some (1, (va_up F 16 0), (va_up G 14 (upd (G 14) ((F 12) - 1).toNatClampNeg r2))))))))) := rfl
def rmX6_names : Room := { frames := 4, cells := 0, slots := 0, locals := 97 }
def fX6_goesOn_j175 (p1 : Int32) (F37 : xF) (G38 : xG) : Option (Int32 × xF × xG) :=
  (if p1 = 41 then some (1, F37, G38) else some (0, F37, G38))
theorem fX6_goesOn_j175_e (p1 : Int32) (F37 : xF) (G38 : xG) : fX6_goesOn_j175 p1 F37 G38 = (if p1 = 41 then some (1, F37, G38) else some (0, F37, G38)) := rfl
def fX6_goesOn (F : xF) (G : xG) (p1 : Int32) : Option (Int32 × xF × xG) :=
  x_b1 (fX6_kindOf p1) (fun r2 => (if (F 16) = 0 then x_b3 (fX6_startsWith F G p1) (fun r5 F6 G7 => some (x_zn r5, F6, G7)) else (if (F 16) = 1 then x_ld ((F 12) - 1) 41 ((if r2 = 0 then some (1, (va_up F 16 2), (va_up G 13 (upd (G 13) ((F 12) - 1).toNatClampNeg r2))) else (if r2 = 1 then some (1, (va_up F 16 2), (va_up G 13 (upd (G 13) ((F 12) - 1).toNatClampNeg r2))) else some (0, (va_up F 16 2), (va_up G 13 (upd (G 13) ((F 12) - 1).toNatClampNeg r2)))))) else (if (F 16) = 2 then x_b3 (fX6_names F G p1) (fun r14 F15 G16 => some (x_zn r14, F15, G16)) else (if (F 16) = 3 then x_b3 (fX6_names F G p1) (fun r19 F20 G21 => some (x_zn r19, F20, G21)) else (if (F 16) = 4 then x_b3 (fX6_names F G p1) (fun r24 F25 G26 => some (x_zn r24, F25, G26)) else (if (F 16) = 5 then x_b3 (fX6_names F G p1) (fun r29 F30 G31 => some (x_zn r29, F30, G31)) else (if (F 16) = 6 then x_ld ((F 12) - 1) 41 (x_b1 (fX6_in r2 3 5) (fun r35 => some (x_zn r35, (va_up F 16 0), (va_up G 13 (upd (G 13) ((F 12) - 1).toNatClampNeg r2))))) else (if (F 16) = 7 then (if p1 = 41 then x_ld ((F 12) - 1) 41 (x_ld ((F 12) - 1) 41 (x_ld ((F 12) - 1) 41 (x_b3 (fX6_make (va_up F 12 ((F 12) - 1)) G ((G 13) ((F 12) - 1).toNatClampNeg) ((G 14) ((F 12) - 1).toNatClampNeg) ((G 15) ((F 12) - 1).toNatClampNeg) (-1) (-1)) (fun r45 F46 G47 => x_b2 (fX6_end F46 G47 r45) (fun F49 G50 => (fX6_goesOn_j175 p1) F49 G50))))) else (fX6_goesOn_j175 p1) F G) else (if (F 16) = 8 then some (0, F, G) else x_b3 (fX6_names F G p1) (fun r53 F54 G55 => some (x_zn r53, F54, G55))))))))))))
theorem fX6_goesOn_e (F : xF) (G : xG) (p1 : Int32) : fX6_goesOn F G p1 = x_b1 (fX6_kindOf p1) (fun r2 => (if (F 16) = 0 then x_b3 (fX6_startsWith F G p1) (fun r5 F6 G7 => some (x_zn r5, F6, G7)) else (if (F 16) = 1 then x_ld ((F 12) - 1) 41 ((if r2 = 0 then some (1, (va_up F 16 2), (va_up G 13 (upd (G 13) ((F 12) - 1).toNatClampNeg r2))) else (if r2 = 1 then some (1, (va_up F 16 2), (va_up G 13 (upd (G 13) ((F 12) - 1).toNatClampNeg r2))) else some (0, (va_up F 16 2), (va_up G 13 (upd (G 13) ((F 12) - 1).toNatClampNeg r2)))))) else (if (F 16) = 2 then x_b3 (fX6_names F G p1) (fun r14 F15 G16 => some (x_zn r14, F15, G16)) else (if (F 16) = 3 then x_b3 (fX6_names F G p1) (fun r19 F20 G21 => some (x_zn r19, F20, G21)) else (if (F 16) = 4 then x_b3 (fX6_names F G p1) (fun r24 F25 G26 => some (x_zn r24, F25, G26)) else (if (F 16) = 5 then x_b3 (fX6_names F G p1) (fun r29 F30 G31 => some (x_zn r29, F30, G31)) else (if (F 16) = 6 then x_ld ((F 12) - 1) 41 (x_b1 (fX6_in r2 3 5) (fun r35 => some (x_zn r35, (va_up F 16 0), (va_up G 13 (upd (G 13) ((F 12) - 1).toNatClampNeg r2))))) else (if (F 16) = 7 then (if p1 = 41 then x_ld ((F 12) - 1) 41 (x_ld ((F 12) - 1) 41 (x_ld ((F 12) - 1) 41 (x_b3 (fX6_make (va_up F 12 ((F 12) - 1)) G ((G 13) ((F 12) - 1).toNatClampNeg) ((G 14) ((F 12) - 1).toNatClampNeg) ((G 15) ((F 12) - 1).toNatClampNeg) (-1) (-1)) (fun r45 F46 G47 => x_b2 (fX6_end F46 G47 r45) (fun F49 G50 => (fX6_goesOn_j175 p1) F49 G50))))) else (fX6_goesOn_j175 p1) F G) else (if (F 16) = 8 then some (0, F, G) else x_b3 (fX6_names F G p1) (fun r53 F54 G55 => some (x_zn r53, F54, G55)))))))))))) := rfl
def rmX6_goesOn : Room := { frames := 5, cells := 0, slots := 0, locals := 119 }
def fX6_read_l17  : Nat → Int32 → xF → xG → Option (Int32 × xF × xG)
  | 0, _, _, _ => none
  | n17 + 1, v1, F2, G3 => (if (F2 1) ≤ v1 then some (v1, F2, G3) else x_ld v1 40 (x_b3 (fX6_goesOn F2 G3 ((G3 2) v1.toNatClampNeg)) (fun r7 F8 G9 => (if r7 = 0 then some (v1, F8, G9) else (fX6_read_l17 n17) (v1 + 1) F8 G9))))
theorem fX6_read_l17_z  (v1 : Int32) (F2 : xF) (G3 : xG) : fX6_read_l17 0 v1 F2 G3 = none := rfl
theorem fX6_read_l17_e  (n17 : Nat) (v1 : Int32) (F2 : xF) (G3 : xG) : fX6_read_l17 (n17 + 1) v1 F2 G3 = (if (F2 1) ≤ v1 then some (v1, F2, G3) else x_ld v1 40 (x_b3 (fX6_goesOn F2 G3 ((G3 2) v1.toNatClampNeg)) (fun r7 F8 G9 => (if r7 = 0 then some (v1, F8, G9) else (fX6_read_l17 n17) (v1 + 1) F8 G9)))) := rfl
def fX6_read (F : xF) (G : xG) : Option (Int32 × xF × xG) :=
  (fX6_read_l17 4096) 0 (va_up (va_up (va_up F 3 0) 12 0) 16 0) G
theorem fX6_read_e (F : xF) (G : xG) : fX6_read F G = (fX6_read_l17 4096) 0 (va_up (va_up (va_up F 3 0) 12 0) 16 0) G := rfl
def rmX6_read : Room := { frames := 6, cells := 0, slots := 0, locals := 141 }
def fX6_isFormula (F : xF) (G : xG) : Option (Int32 × xF × xG) :=
  x_b3 (fX6_read F G) (fun r2 F3 G4 => (if r2 = (F3 1) then (if (F3 16) = 8 then some (1, F3, G4) else some (0, F3, G4)) else some (0, F3, G4)))
theorem fX6_isFormula_e (F : xF) (G : xG) : fX6_isFormula F G = x_b3 (fX6_read F G) (fun r2 F3 G4 => (if r2 = (F3 1) then (if (F3 16) = 8 then some (1, F3, G4) else some (0, F3, G4)) else some (0, F3, G4))) := rfl
def rmX6_isFormula : Room := { frames := 7, cells := 0, slots := 0, locals := 162 }
def fX6_fault (F : xF) (G : xG) : Option (Int32 × xF × xG) :=
  x_b3 (fX6_read (va_up F 0 0) G) (fun r2 F3 G4 => some (r2, F3, G4))
theorem fX6_fault_e (F : xF) (G : xG) : fX6_fault F G = x_b3 (fX6_read (va_up F 0 0) G) (fun r2 F3 G4 => some (r2, F3, G4)) := rfl
def rmX6_fault : Room := { frames := 7, cells := 0, slots := 0, locals := 162 }
def fX6_sigma (F : xF) (G : xG) : Option (Int32 × xF × xG) :=
  x_b3 (fX6_isFormula (va_up F 0 0) G) (fun r2 F3 G4 => (if r2 = 0 then some ((-1), F3, G4) else x_ld ((F3 3) - 1) 40 (some (((G4 9) ((F3 3) - 1).toNatClampNeg), F3, G4))))
theorem fX6_sigma_e (F : xF) (G : xG) : fX6_sigma F G = x_b3 (fX6_isFormula (va_up F 0 0) G) (fun r2 F3 G4 => (if r2 = 0 then some ((-1), F3, G4) else x_ld ((F3 3) - 1) 40 (some (((G4 9) ((F3 3) - 1).toNatClampNeg), F3, G4)))) := rfl
def rmX6_sigma : Room := { frames := 8, cells := 0, slots := 0, locals := 182 }
def fX6_pi (F : xF) (G : xG) : Option (Int32 × xF × xG) :=
  x_b3 (fX6_isFormula (va_up F 0 0) G) (fun r2 F3 G4 => (if r2 = 0 then some ((-1), F3, G4) else x_ld ((F3 3) - 1) 40 (some (((G4 10) ((F3 3) - 1).toNatClampNeg), F3, G4))))
theorem fX6_pi_e (F : xF) (G : xG) : fX6_pi F G = x_b3 (fX6_isFormula (va_up F 0 0) G) (fun r2 F3 G4 => (if r2 = 0 then some ((-1), F3, G4) else x_ld ((F3 3) - 1) 40 (some (((G4 10) ((F3 3) - 1).toNatClampNeg), F3, G4)))) := rfl
def rmX6_pi : Room := { frames := 8, cells := 0, slots := 0, locals := 182 }
def fX6_free (F : xF) (G : xG) : Option (Int32 × xF × xG) :=
  x_b3 (fX6_isFormula (va_up F 0 0) G) (fun r2 F3 G4 => (if r2 = 0 then some ((-1), F3, G4) else x_ld ((F3 3) - 1) 40 (some (((G4 11) ((F3 3) - 1).toNatClampNeg), F3, G4))))
theorem fX6_free_e (F : xF) (G : xG) : fX6_free F G = x_b3 (fX6_isFormula (va_up F 0 0) G) (fun r2 F3 G4 => (if r2 = 0 then some ((-1), F3, G4) else x_ld ((F3 3) - 1) 40 (some (((G4 11) ((F3 3) - 1).toNatClampNeg), F3, G4)))) := rfl
def rmX6_free : Room := { frames := 8, cells := 0, slots := 0, locals := 182 }
def fX6_power (p1 : Int32) : Option (Int32) :=
  (if p1 = 0 then some (1) else (if p1 = 1 then some (5) else some (25)))
theorem fX6_power_e (p1 : Int32) : fX6_power p1 = (if p1 = 0 then some (1) else (if p1 = 1 then some (5) else some (25))) := rfl
def rmX6_power : Room := { frames := 0, cells := 0, slots := 0, locals := 0 }
def fX6_numberAt (p1 : Int32) (p2 : Int32) : Option (Int32) :=
  x_b1 (fX6_power p2) (fun r2 => x_dv r2 (x_dv 5 (some ((x_rem (p1 / r2) 5)))))
theorem fX6_numberAt_e (p1 : Int32) (p2 : Int32) : fX6_numberAt p1 p2 = x_b1 (fX6_power p2) (fun r2 => x_dv r2 (x_dv 5 (some ((x_rem (p1 / r2) 5))))) := rfl
def rmX6_numberAt : Room := { frames := 1, cells := 0, slots := 0, locals := 20 }
def fX6_isSoFor_j164 (rec87 : Int32 → Int32 → Option (Int32)) (v12 : Int32) (v19 : Int32) : Option (Int32) :=
  rec87 v19 (v12 + 1)
theorem fX6_isSoFor_j164_e (rec87 : Int32 → Int32 → Option (Int32)) (v12 : Int32) (v19 : Int32) : fX6_isSoFor_j164 rec87 v12 v19 = rec87 v19 (v12 + 1) := rfl
def fX6_isSoFor_j159 (rec87 : Int32 → Int32 → Option (Int32)) (v12 : Int32)  : Option (Int32) :=
  (fX6_isSoFor_j164 rec87 v12) 1
theorem fX6_isSoFor_j159_e (rec87 : Int32 → Int32 → Option (Int32)) (v12 : Int32)  : fX6_isSoFor_j159 rec87 v12 = (fX6_isSoFor_j164 rec87 v12) 1 := rfl
def fX6_isSoFor_j145 (rec87 : Int32 → Int32 → Option (Int32)) (v12 : Int32)  : Option (Int32) :=
  (fX6_isSoFor_j164 rec87 v12) 0
theorem fX6_isSoFor_j145_e (rec87 : Int32 → Int32 → Option (Int32)) (v12 : Int32)  : fX6_isSoFor_j145 rec87 v12 = (fX6_isSoFor_j164 rec87 v12) 0 := rfl
def fX6_isSoFor_l87 (G : xG) (v4 : Int32) (p1 : Int32) (p2 : Int32) (r7 : Int32) (r10 : Int32) (v2 : Int32) : Nat → Int32 → Int32 → Option (Int32)
  | 0, _, _ => none
  | n87 + 1, v11, v12 => (if v4 ≤ v12 then some (x_zn v11) else x_ld p1 40 (x_ld p1 40 (x_b1 (fX6_power ((G 7) p1.toNatClampNeg)) (fun r17 => x_ld (((125 * ((G 5) p1.toNatClampNeg)) + (p2 - (r7 * r10))) + (v12 * r17)) 5000 ((if v2 = 0 then (if v11 = 0 then (if ((G 17) (((125 * ((G 5) p1.toNatClampNeg)) + (p2 - (r7 * r10))) + (v12 * r17)).toNatClampNeg) = 0 then (fX6_isSoFor_j164 (fX6_isSoFor_l87 G v4 p1 p2 r7 r10 v2 n87) v12) 0 else (fX6_isSoFor_j159 (fX6_isSoFor_l87 G v4 p1 p2 r7 r10 v2 n87) v12)) else (fX6_isSoFor_j159 (fX6_isSoFor_l87 G v4 p1 p2 r7 r10 v2 n87) v12)) else (if v11 = 0 then (fX6_isSoFor_j145 (fX6_isSoFor_l87 G v4 p1 p2 r7 r10 v2 n87) v12) else (if ((G 17) (((125 * ((G 5) p1.toNatClampNeg)) + (p2 - (r7 * r10))) + (v12 * r17)).toNatClampNeg) = 0 then (fX6_isSoFor_j145 (fX6_isSoFor_l87 G v4 p1 p2 r7 r10 v2 n87) v12) else (fX6_isSoFor_j164 (fX6_isSoFor_l87 G v4 p1 p2 r7 r10 v2 n87) v12) 1))))))))
theorem fX6_isSoFor_l87_z (G : xG) (v4 : Int32) (p1 : Int32) (p2 : Int32) (r7 : Int32) (r10 : Int32) (v2 : Int32) (v11 : Int32) (v12 : Int32) : fX6_isSoFor_l87 G v4 p1 p2 r7 r10 v2 0 v11 v12 = none := rfl
theorem fX6_isSoFor_l87_e (G : xG) (v4 : Int32) (p1 : Int32) (p2 : Int32) (r7 : Int32) (r10 : Int32) (v2 : Int32) (n87 : Nat) (v11 : Int32) (v12 : Int32) : fX6_isSoFor_l87 G v4 p1 p2 r7 r10 v2 (n87 + 1) v11 v12 = (if v4 ≤ v12 then some (x_zn v11) else x_ld p1 40 (x_ld p1 40 (x_b1 (fX6_power ((G 7) p1.toNatClampNeg)) (fun r17 => x_ld (((125 * ((G 5) p1.toNatClampNeg)) + (p2 - (r7 * r10))) + (v12 * r17)) 5000 ((if v2 = 0 then (if v11 = 0 then (if ((G 17) (((125 * ((G 5) p1.toNatClampNeg)) + (p2 - (r7 * r10))) + (v12 * r17)).toNatClampNeg) = 0 then (fX6_isSoFor_j164 (fX6_isSoFor_l87 G v4 p1 p2 r7 r10 v2 n87) v12) 0 else (fX6_isSoFor_j159 (fX6_isSoFor_l87 G v4 p1 p2 r7 r10 v2 n87) v12)) else (fX6_isSoFor_j159 (fX6_isSoFor_l87 G v4 p1 p2 r7 r10 v2 n87) v12)) else (if v11 = 0 then (fX6_isSoFor_j145 (fX6_isSoFor_l87 G v4 p1 p2 r7 r10 v2 n87) v12) else (if ((G 17) (((125 * ((G 5) p1.toNatClampNeg)) + (p2 - (r7 * r10))) + (v12 * r17)).toNatClampNeg) = 0 then (fX6_isSoFor_j145 (fX6_isSoFor_l87 G v4 p1 p2 r7 r10 v2 n87) v12) else (fX6_isSoFor_j164 (fX6_isSoFor_l87 G v4 p1 p2 r7 r10 v2 n87) v12) 1)))))))) := rfl
def fX6_isSoFor_j54 (G : xG) (p1 : Int32) (p2 : Int32) (v2 : Int32) (v4 : Int32) : Option (Int32) :=
  x_ld p1 40 (x_b1 (fX6_numberAt p2 ((G 7) p1.toNatClampNeg)) (fun r7 => x_ld p1 40 (x_b1 (fX6_power ((G 7) p1.toNatClampNeg)) (fun r10 => (fX6_isSoFor_l87 G v4 p1 p2 r7 r10 v2 4096) v2 0))))
theorem fX6_isSoFor_j54_e (G : xG) (p1 : Int32) (p2 : Int32) (v2 : Int32) (v4 : Int32) : fX6_isSoFor_j54 G p1 p2 v2 v4 = x_ld p1 40 (x_b1 (fX6_numberAt p2 ((G 7) p1.toNatClampNeg)) (fun r7 => x_ld p1 40 (x_b1 (fX6_power ((G 7) p1.toNatClampNeg)) (fun r10 => (fX6_isSoFor_l87 G v4 p1 p2 r7 r10 v2 4096) v2 0)))) := rfl
def fX6_isSoFor_j27 (G : xG) (p1 : Int32) (p2 : Int32) (p3 : Int32) (v2 : Int32) : Option (Int32) :=
  x_ld p1 40 ((if 8 ≤ ((G 4) p1.toNatClampNeg) then x_ld p1 40 (x_b1 (fX6_numberAt p2 ((G 8) p1.toNatClampNeg)) (fun r28 => (fX6_isSoFor_j54 G p1 p2 v2) r28)) else (fX6_isSoFor_j54 G p1 p2 v2) p3))
theorem fX6_isSoFor_j27_e (G : xG) (p1 : Int32) (p2 : Int32) (p3 : Int32) (v2 : Int32) : fX6_isSoFor_j27 G p1 p2 p3 v2 = x_ld p1 40 ((if 8 ≤ ((G 4) p1.toNatClampNeg) then x_ld p1 40 (x_b1 (fX6_numberAt p2 ((G 8) p1.toNatClampNeg)) (fun r28 => (fX6_isSoFor_j54 G p1 p2 v2) r28)) else (fX6_isSoFor_j54 G p1 p2 v2) p3)) := rfl
def fX6_isSoFor_j22 (G : xG) (p1 : Int32) (p2 : Int32) (p3 : Int32)  : Option (Int32) :=
  (fX6_isSoFor_j27 G p1 p2 p3) 1
theorem fX6_isSoFor_j22_e (G : xG) (p1 : Int32) (p2 : Int32) (p3 : Int32)  : fX6_isSoFor_j22 G p1 p2 p3 = (fX6_isSoFor_j27 G p1 p2 p3) 1 := rfl
def fX6_isSoFor (G : xG) (p1 : Int32) (p2 : Int32) (p3 : Int32) : Option (Int32) :=
  x_ld p1 40 ((if ((G 4) p1.toNatClampNeg) = 6 then (fX6_isSoFor_j22 G p1 p2 p3) else x_ld p1 40 ((if ((G 4) p1.toNatClampNeg) = 8 then (fX6_isSoFor_j22 G p1 p2 p3) else (fX6_isSoFor_j27 G p1 p2 p3) 0))))
theorem fX6_isSoFor_e (G : xG) (p1 : Int32) (p2 : Int32) (p3 : Int32) : fX6_isSoFor G p1 p2 p3 = x_ld p1 40 ((if ((G 4) p1.toNatClampNeg) = 6 then (fX6_isSoFor_j22 G p1 p2 p3) else x_ld p1 40 ((if ((G 4) p1.toNatClampNeg) = 8 then (fX6_isSoFor_j22 G p1 p2 p3) else (fX6_isSoFor_j27 G p1 p2 p3) 0)))) := rfl
def rmX6_isSoFor : Room := { frames := 2, cells := 0, slots := 0, locals := 41 }
def fX6_isPartSo_j70 (G : xG) (p1 : Int32) (p2 : Int32) (v2 : Int32) (p3 : Int32) (v4 : Int32) : Option (Int32) :=
  x_ld p1 40 ((if ((G 4) p1.toNatClampNeg) = 0 then x_ld p1 40 (x_b1 (fX6_numberAt p2 ((G 7) p1.toNatClampNeg)) (fun r9 => x_ld p1 40 (x_b1 (fX6_numberAt p2 ((G 8) p1.toNatClampNeg)) (fun r12 => (if r12 ≤ r9 then some (0) else some (1)))))) else (if ((G 4) p1.toNatClampNeg) = 1 then x_ld p1 40 (x_b1 (fX6_numberAt p2 ((G 7) p1.toNatClampNeg)) (fun r17 => x_ld p1 40 (x_b1 (fX6_numberAt p2 ((G 8) p1.toNatClampNeg)) (fun r20 => (if r17 = r20 then some (1) else some (0)))))) else (if ((G 4) p1.toNatClampNeg) = 2 then (if v2 = 0 then some (1) else some (0)) else (if ((G 4) p1.toNatClampNeg) = 3 then (if v2 = 0 then some (0) else (if v4 = 0 then some (0) else some (1))) else (if ((G 4) p1.toNatClampNeg) = 4 then (if v2 = 0 then (if v4 = 0 then some (0) else some (1)) else some (1)) else (if ((G 4) p1.toNatClampNeg) = 5 then (if v2 = 0 then some (1) else (if v4 = 0 then some (0) else some (1))) else x_b1 (fX6_isSoFor G p1 p2 p3) (fun r34 => some (x_zn r34)))))))))
theorem fX6_isPartSo_j70_e (G : xG) (p1 : Int32) (p2 : Int32) (v2 : Int32) (p3 : Int32) (v4 : Int32) : fX6_isPartSo_j70 G p1 p2 v2 p3 v4 = x_ld p1 40 ((if ((G 4) p1.toNatClampNeg) = 0 then x_ld p1 40 (x_b1 (fX6_numberAt p2 ((G 7) p1.toNatClampNeg)) (fun r9 => x_ld p1 40 (x_b1 (fX6_numberAt p2 ((G 8) p1.toNatClampNeg)) (fun r12 => (if r12 ≤ r9 then some (0) else some (1)))))) else (if ((G 4) p1.toNatClampNeg) = 1 then x_ld p1 40 (x_b1 (fX6_numberAt p2 ((G 7) p1.toNatClampNeg)) (fun r17 => x_ld p1 40 (x_b1 (fX6_numberAt p2 ((G 8) p1.toNatClampNeg)) (fun r20 => (if r17 = r20 then some (1) else some (0)))))) else (if ((G 4) p1.toNatClampNeg) = 2 then (if v2 = 0 then some (1) else some (0)) else (if ((G 4) p1.toNatClampNeg) = 3 then (if v2 = 0 then some (0) else (if v4 = 0 then some (0) else some (1))) else (if ((G 4) p1.toNatClampNeg) = 4 then (if v2 = 0 then (if v4 = 0 then some (0) else some (1)) else some (1)) else (if ((G 4) p1.toNatClampNeg) = 5 then (if v2 = 0 then some (1) else (if v4 = 0 then some (0) else some (1))) else x_b1 (fX6_isSoFor G p1 p2 p3) (fun r34 => some (x_zn r34))))))))) := rfl
def fX6_isPartSo_j69 (G : xG) (p1 : Int32) (p2 : Int32) (v2 : Int32) (p3 : Int32)  : Option (Int32) :=
  (fX6_isPartSo_j70 G p1 p2 v2 p3) 0
theorem fX6_isPartSo_j69_e (G : xG) (p1 : Int32) (p2 : Int32) (v2 : Int32) (p3 : Int32)  : fX6_isPartSo_j69 G p1 p2 v2 p3 = (fX6_isPartSo_j70 G p1 p2 v2 p3) 0 := rfl
def fX6_isPartSo_j34 (G : xG) (p1 : Int32) (p2 : Int32) (p3 : Int32) (v2 : Int32) : Option (Int32) :=
  x_ld p1 40 ((if ((G 6) p1.toNatClampNeg) = (-1) then (fX6_isPartSo_j69 G p1 p2 v2 p3) else x_ld p1 40 (x_ld ((125 * ((G 6) p1.toNatClampNeg)) + p2) 5000 ((if ((G 17) ((125 * ((G 6) p1.toNatClampNeg)) + p2).toNatClampNeg) = 0 then (fX6_isPartSo_j69 G p1 p2 v2 p3) else (fX6_isPartSo_j70 G p1 p2 v2 p3) 1)))))
theorem fX6_isPartSo_j34_e (G : xG) (p1 : Int32) (p2 : Int32) (p3 : Int32) (v2 : Int32) : fX6_isPartSo_j34 G p1 p2 p3 v2 = x_ld p1 40 ((if ((G 6) p1.toNatClampNeg) = (-1) then (fX6_isPartSo_j69 G p1 p2 v2 p3) else x_ld p1 40 (x_ld ((125 * ((G 6) p1.toNatClampNeg)) + p2) 5000 ((if ((G 17) ((125 * ((G 6) p1.toNatClampNeg)) + p2).toNatClampNeg) = 0 then (fX6_isPartSo_j69 G p1 p2 v2 p3) else (fX6_isPartSo_j70 G p1 p2 v2 p3) 1))))) := rfl
def fX6_isPartSo_j33 (G : xG) (p1 : Int32) (p2 : Int32) (p3 : Int32)  : Option (Int32) :=
  (fX6_isPartSo_j34 G p1 p2 p3) 0
theorem fX6_isPartSo_j33_e (G : xG) (p1 : Int32) (p2 : Int32) (p3 : Int32)  : fX6_isPartSo_j33 G p1 p2 p3 = (fX6_isPartSo_j34 G p1 p2 p3) 0 := rfl
def fX6_isPartSo (G : xG) (p1 : Int32) (p2 : Int32) (p3 : Int32) : Option (Int32) :=
  x_ld p1 40 ((if ((G 5) p1.toNatClampNeg) = (-1) then (fX6_isPartSo_j33 G p1 p2 p3) else x_ld p1 40 (x_ld ((125 * ((G 5) p1.toNatClampNeg)) + p2) 5000 ((if ((G 17) ((125 * ((G 5) p1.toNatClampNeg)) + p2).toNatClampNeg) = 0 then (fX6_isPartSo_j33 G p1 p2 p3) else (fX6_isPartSo_j34 G p1 p2 p3) 1)))))
theorem fX6_isPartSo_e (G : xG) (p1 : Int32) (p2 : Int32) (p3 : Int32) : fX6_isPartSo G p1 p2 p3 = x_ld p1 40 ((if ((G 5) p1.toNatClampNeg) = (-1) then (fX6_isPartSo_j33 G p1 p2 p3) else x_ld p1 40 (x_ld ((125 * ((G 5) p1.toNatClampNeg)) + p2) 5000 ((if ((G 17) ((125 * ((G 5) p1.toNatClampNeg)) + p2).toNatClampNeg) = 0 then (fX6_isPartSo_j33 G p1 p2 p3) else (fX6_isPartSo_j34 G p1 p2 p3) 1))))) := rfl
def rmX6_isPartSo : Room := { frames := 3, cells := 0, slots := 0, locals := 70 }
def fX6_fill_x89 (rec2 : Int32 → xG → Option (xG)) (v1 : Int32) (G4 : xG) : Option (xG) :=
  rec2 (v1 + 1) G4
theorem fX6_fill_x89_e (rec2 : Int32 → xG → Option (xG)) (v1 : Int32) (G4 : xG) : fX6_fill_x89 rec2 v1 G4 = rec2 (v1 + 1) G4 := rfl
def fX6_fill_j82 (rec12 : Int32 → xG → Option (xG)) (G6 : xG) (v1 : Int32) (v5 : Int32) (v11 : Int32) : Option (xG) :=
  x_ld ((125 * v1) + v5) 5000 (rec12 (v5 + 1) (va_up G6 17 (upd (G6 17) ((125 * v1) + v5).toNatClampNeg (x_zn v11))))
theorem fX6_fill_j82_e (rec12 : Int32 → xG → Option (xG)) (G6 : xG) (v1 : Int32) (v5 : Int32) (v11 : Int32) : fX6_fill_j82 rec12 G6 v1 v5 v11 = x_ld ((125 * v1) + v5) 5000 (rec12 (v5 + 1) (va_up G6 17 (upd (G6 17) ((125 * v1) + v5).toNatClampNeg (x_zn v11)))) := rfl
def fX6_fill_j81 (rec12 : Int32 → xG → Option (xG)) (G6 : xG) (v1 : Int32) (v5 : Int32)  : Option (xG) :=
  (fX6_fill_j82 rec12 G6 v1 v5) 0
theorem fX6_fill_j81_e (rec12 : Int32 → xG → Option (xG)) (G6 : xG) (v1 : Int32) (v5 : Int32)  : fX6_fill_j81 rec12 G6 v1 v5 = (fX6_fill_j82 rec12 G6 v1 v5) 0 := rfl
def fX6_fill_j50 (rec12 : Int32 → xG → Option (xG)) (G6 : xG) (v1 : Int32) (v5 : Int32) (p1 : Int32) (v10 : Int32) : Option (xG) :=
  (if v10 = 0 then (fX6_fill_j81 rec12 G6 v1 v5) else x_b1 (fX6_isPartSo G6 v1 v5 p1) (fun r15 => (if r15 = 0 then (fX6_fill_j81 rec12 G6 v1 v5) else (fX6_fill_j82 rec12 G6 v1 v5) 1)))
theorem fX6_fill_j50_e (rec12 : Int32 → xG → Option (xG)) (G6 : xG) (v1 : Int32) (v5 : Int32) (p1 : Int32) (v10 : Int32) : fX6_fill_j50 rec12 G6 v1 v5 p1 v10 = (if v10 = 0 then (fX6_fill_j81 rec12 G6 v1 v5) else x_b1 (fX6_isPartSo G6 v1 v5 p1) (fun r15 => (if r15 = 0 then (fX6_fill_j81 rec12 G6 v1 v5) else (fX6_fill_j82 rec12 G6 v1 v5) 1))) := rfl
def fX6_fill_j49 (rec12 : Int32 → xG → Option (xG)) (G6 : xG) (v1 : Int32) (v5 : Int32) (p1 : Int32)  : Option (xG) :=
  (fX6_fill_j50 rec12 G6 v1 v5 p1) 0
theorem fX6_fill_j49_e (rec12 : Int32 → xG → Option (xG)) (G6 : xG) (v1 : Int32) (v5 : Int32) (p1 : Int32)  : fX6_fill_j49 rec12 G6 v1 v5 p1 = (fX6_fill_j50 rec12 G6 v1 v5 p1) 0 := rfl
def fX6_fill_l12 (rec2 : Int32 → xG → Option (xG)) (v1 : Int32) (p1 : Int32) : Nat → Int32 → xG → Option (xG)
  | 0, _, _ => none
  | n12 + 1, v5, G6 => (if 125 ≤ v5 then (fX6_fill_x89 rec2 v1) G6 else x_b1 (fX6_numberAt v5 0) (fun r9 => (if p1 ≤ r9 then (fX6_fill_j49 (fX6_fill_l12 rec2 v1 p1 n12) G6 v1 v5 p1) else x_b1 (fX6_numberAt v5 1) (fun r19 => (if p1 ≤ r19 then (fX6_fill_j49 (fX6_fill_l12 rec2 v1 p1 n12) G6 v1 v5 p1) else x_b1 (fX6_numberAt v5 2) (fun r22 => (if p1 ≤ r22 then (fX6_fill_j49 (fX6_fill_l12 rec2 v1 p1 n12) G6 v1 v5 p1) else (fX6_fill_j50 (fX6_fill_l12 rec2 v1 p1 n12) G6 v1 v5 p1) 1)))))))
theorem fX6_fill_l12_z (rec2 : Int32 → xG → Option (xG)) (v1 : Int32) (p1 : Int32) (v5 : Int32) (G6 : xG) : fX6_fill_l12 rec2 v1 p1 0 v5 G6 = none := rfl
theorem fX6_fill_l12_e (rec2 : Int32 → xG → Option (xG)) (v1 : Int32) (p1 : Int32) (n12 : Nat) (v5 : Int32) (G6 : xG) : fX6_fill_l12 rec2 v1 p1 (n12 + 1) v5 G6 = (if 125 ≤ v5 then (fX6_fill_x89 rec2 v1) G6 else x_b1 (fX6_numberAt v5 0) (fun r9 => (if p1 ≤ r9 then (fX6_fill_j49 (fX6_fill_l12 rec2 v1 p1 n12) G6 v1 v5 p1) else x_b1 (fX6_numberAt v5 1) (fun r19 => (if p1 ≤ r19 then (fX6_fill_j49 (fX6_fill_l12 rec2 v1 p1 n12) G6 v1 v5 p1) else x_b1 (fX6_numberAt v5 2) (fun r22 => (if p1 ≤ r22 then (fX6_fill_j49 (fX6_fill_l12 rec2 v1 p1 n12) G6 v1 v5 p1) else (fX6_fill_j50 (fX6_fill_l12 rec2 v1 p1 n12) G6 v1 v5 p1) 1))))))) := rfl
def fX6_fill_l2 (F : xF) (p1 : Int32) : Nat → Int32 → xG → Option (xG)
  | 0, _, _ => none
  | n2 + 1, v1, G2 => (if (F 3) ≤ v1 then some (G2) else (fX6_fill_l12 (fX6_fill_l2 F p1 n2) v1 p1 4096) 0 G2)
theorem fX6_fill_l2_z (F : xF) (p1 : Int32) (v1 : Int32) (G2 : xG) : fX6_fill_l2 F p1 0 v1 G2 = none := rfl
theorem fX6_fill_l2_e (F : xF) (p1 : Int32) (n2 : Nat) (v1 : Int32) (G2 : xG) : fX6_fill_l2 F p1 (n2 + 1) v1 G2 = (if (F 3) ≤ v1 then some (G2) else (fX6_fill_l12 (fX6_fill_l2 F p1 n2) v1 p1 4096) 0 G2) := rfl
def fX6_fill (F : xF) (G : xG) (p1 : Int32) : Option (xG) :=
  (fX6_fill_l2 F p1 4096) 0 G
theorem fX6_fill_e (F : xF) (G : xG) (p1 : Int32) : fX6_fill F G p1 = (fX6_fill_l2 F p1 4096) 0 G := rfl
def rmX6_fill : Room := { frames := 4, cells := 0, slots := 0, locals := 95 }
def fX6_quantifiers_j37 (rec4 : Int32 → Int32 → Option (Int32)) (v1 : Int32) (v2 : Int32) (v9 : Int32) : Option (Int32) :=
  rec4 (v1 + v9) (v2 + 1)
theorem fX6_quantifiers_j37_e (rec4 : Int32 → Int32 → Option (Int32)) (v1 : Int32) (v2 : Int32) (v9 : Int32) : fX6_quantifiers_j37 rec4 v1 v2 v9 = rec4 (v1 + v9) (v2 + 1) := rfl
def fX6_quantifiers_l4 (F : xF) (G : xG) : Nat → Int32 → Int32 → Option (Int32)
  | 0, _, _ => none
  | n4 + 1, v1, v2 => (if (F 1) ≤ v2 then some (v1) else x_ld v2 40 (x_b1 (fX6_kindOf ((G 2) v2.toNatClampNeg)) (fun r6 => x_b1 (fX6_in r6 6 9) (fun r8 => (if r8 = 0 then (fX6_quantifiers_j37 (fX6_quantifiers_l4 F G n4) v1 v2) 0 else (fX6_quantifiers_j37 (fX6_quantifiers_l4 F G n4) v1 v2) 1)))))
theorem fX6_quantifiers_l4_z (F : xF) (G : xG) (v1 : Int32) (v2 : Int32) : fX6_quantifiers_l4 F G 0 v1 v2 = none := rfl
theorem fX6_quantifiers_l4_e (F : xF) (G : xG) (n4 : Nat) (v1 : Int32) (v2 : Int32) : fX6_quantifiers_l4 F G (n4 + 1) v1 v2 = (if (F 1) ≤ v2 then some (v1) else x_ld v2 40 (x_b1 (fX6_kindOf ((G 2) v2.toNatClampNeg)) (fun r6 => x_b1 (fX6_in r6 6 9) (fun r8 => (if r8 = 0 then (fX6_quantifiers_j37 (fX6_quantifiers_l4 F G n4) v1 v2) 0 else (fX6_quantifiers_j37 (fX6_quantifiers_l4 F G n4) v1 v2) 1))))) := rfl
def fX6_quantifiers (F : xF) (G : xG) : Option (Int32) :=
  (fX6_quantifiers_l4 F G 4096) 0 0
theorem fX6_quantifiers_e (F : xF) (G : xG) : fX6_quantifiers F G = (fX6_quantifiers_l4 F G 4096) 0 0 := rfl
def rmX6_quantifiers : Room := { frames := 1, cells := 0, slots := 0, locals := 22 }
def fX6_isSo_j81 (p1 : Int32) (p2 : Int32) (p3 : Int32) (p4 : Int32) (v4 : Int32) (F5 : xF) (G6 : xG) : Option (Int32 × xF × xG) :=
  x_b2 (fX6_goesWell F5 v4) (fun r8 F9 => (if r8 = 0 then some (0, F9, G6) else x_b1 (fX6_fill F9 G6 p1) (fun G12 => x_ld ((((125 * ((F9 3) - 1)) + p2) + (5 * p3)) + (25 * p4)) 5000 (some (x_zn ((G12 17) ((((125 * ((F9 3) - 1)) + p2) + (5 * p3)) + (25 * p4)).toNatClampNeg), F9, G12)))))
theorem fX6_isSo_j81_e (p1 : Int32) (p2 : Int32) (p3 : Int32) (p4 : Int32) (v4 : Int32) (F5 : xF) (G6 : xG) : fX6_isSo_j81 p1 p2 p3 p4 v4 F5 G6 = x_b2 (fX6_goesWell F5 v4) (fun r8 F9 => (if r8 = 0 then some (0, F9, G6) else x_b1 (fX6_fill F9 G6 p1) (fun G12 => x_ld ((((125 * ((F9 3) - 1)) + p2) + (5 * p3)) + (25 * p4)) 5000 (some (x_zn ((G12 17) ((((125 * ((F9 3) - 1)) + p2) + (5 * p3)) + (25 * p4)).toNatClampNeg), F9, G12))))) := rfl
def fX6_isSo_j80 (F17 : xF) (G18 : xG) (p1 : Int32) (p2 : Int32) (p3 : Int32) (p4 : Int32)  : Option (Int32 × xF × xG) :=
  (fX6_isSo_j81 p1 p2 p3 p4) 2 F17 G18
theorem fX6_isSo_j80_e (F17 : xF) (G18 : xG) (p1 : Int32) (p2 : Int32) (p3 : Int32) (p4 : Int32)  : fX6_isSo_j80 F17 G18 p1 p2 p3 p4 = (fX6_isSo_j81 p1 p2 p3 p4) 2 F17 G18 := rfl
def fX6_isSo_j48 (F : xF) (G : xG) (p1 : Int32) (p2 : Int32) (p3 : Int32) (p4 : Int32) (v3 : Int32) : Option (Int32 × xF × xG) :=
  (if v3 = 0 then (fX6_isSo_j81 p1 p2 p3 p4) 1 F G else x_b3 (fX6_isFormula F G) (fun r16 F17 G18 => (if r16 = 0 then (fX6_isSo_j80 F17 G18 p1 p2 p3 p4) else x_b1 (fX6_quantifiers F17 G18) (fun r21 => (if 6 < r21 then (fX6_isSo_j80 F17 G18 p1 p2 p3 p4) else (fX6_isSo_j81 p1 p2 p3 p4) 0 F17 G18)))))
theorem fX6_isSo_j48_e (F : xF) (G : xG) (p1 : Int32) (p2 : Int32) (p3 : Int32) (p4 : Int32) (v3 : Int32) : fX6_isSo_j48 F G p1 p2 p3 p4 v3 = (if v3 = 0 then (fX6_isSo_j81 p1 p2 p3 p4) 1 F G else x_b3 (fX6_isFormula F G) (fun r16 F17 G18 => (if r16 = 0 then (fX6_isSo_j80 F17 G18 p1 p2 p3 p4) else x_b1 (fX6_quantifiers F17 G18) (fun r21 => (if 6 < r21 then (fX6_isSo_j80 F17 G18 p1 p2 p3 p4) else (fX6_isSo_j81 p1 p2 p3 p4) 0 F17 G18))))) := rfl
def fX6_isSo_j47 (F : xF) (G : xG) (p1 : Int32) (p2 : Int32) (p3 : Int32) (p4 : Int32)  : Option (Int32 × xF × xG) :=
  (fX6_isSo_j48 F G p1 p2 p3 p4) 0
theorem fX6_isSo_j47_e (F : xF) (G : xG) (p1 : Int32) (p2 : Int32) (p3 : Int32) (p4 : Int32)  : fX6_isSo_j47 F G p1 p2 p3 p4 = (fX6_isSo_j48 F G p1 p2 p3 p4) 0 := rfl
def fX6_isSo (F : xF) (G : xG) (p1 : Int32) (p2 : Int32) (p3 : Int32) (p4 : Int32) : Option (Int32 × xF × xG) :=
  x_b1 (fX6_in p1 1 5) (fun r2 => (if r2 = 0 then (fX6_isSo_j47 F G p1 p2 p3 p4) else x_b1 (fX6_in p2 0 (p1 - 1)) (fun r25 => (if r25 = 0 then (fX6_isSo_j47 F G p1 p2 p3 p4) else x_b1 (fX6_in p3 0 (p1 - 1)) (fun r28 => (if r28 = 0 then (fX6_isSo_j47 F G p1 p2 p3 p4) else x_b1 (fX6_in p4 0 (p1 - 1)) (fun r31 => (if r31 = 0 then (fX6_isSo_j47 F G p1 p2 p3 p4) else (fX6_isSo_j48 F G p1 p2 p3 p4) 1))))))))
theorem fX6_isSo_e (F : xF) (G : xG) (p1 : Int32) (p2 : Int32) (p3 : Int32) (p4 : Int32) : fX6_isSo F G p1 p2 p3 p4 = x_b1 (fX6_in p1 1 5) (fun r2 => (if r2 = 0 then (fX6_isSo_j47 F G p1 p2 p3 p4) else x_b1 (fX6_in p2 0 (p1 - 1)) (fun r25 => (if r25 = 0 then (fX6_isSo_j47 F G p1 p2 p3 p4) else x_b1 (fX6_in p3 0 (p1 - 1)) (fun r28 => (if r28 = 0 then (fX6_isSo_j47 F G p1 p2 p3 p4) else x_b1 (fX6_in p4 0 (p1 - 1)) (fun r31 => (if r31 = 0 then (fX6_isSo_j47 F G p1 p2 p3 p4) else (fX6_isSo_j48 F G p1 p2 p3 p4) 1)))))))) := rfl
def rmX6_isSo : Room := { frames := 8, cells := 0, slots := 0, locals := 182 }
def fX6_principle_j38 (F3 : xF) (G4 : xG) (v5 : Int32) : Option (Int32 × xF × xG) :=
  x_b2 (fX6_goesWell F3 v5) (fun r7 F8 => (if r7 = 0 then some (0, F8, G4) else x_ld ((F8 3) - 1) 40 (x_ld (F8 18) 10 (x_ld ((F8 3) - 1) 40 (x_ld (F8 18) 10 (some ((((F8 18) + 1) - 1), (va_up (va_up F8 1 0) 18 ((F8 18) + 1)), (va_up (va_up G4 19 (upd (G4 19) (F8 18).toNatClampNeg ((G4 9) ((F8 3) - 1).toNatClampNeg))) 20 (upd (G4 20) (F8 18).toNatClampNeg ((G4 10) ((F8 3) - 1).toNatClampNeg))))))))))
theorem fX6_principle_j38_e (F3 : xF) (G4 : xG) (v5 : Int32) : fX6_principle_j38 F3 G4 v5 = x_b2 (fX6_goesWell F3 v5) (fun r7 F8 => (if r7 = 0 then some (0, F8, G4) else x_ld ((F8 3) - 1) 40 (x_ld (F8 18) 10 (x_ld ((F8 3) - 1) 40 (x_ld (F8 18) 10 (some ((((F8 18) + 1) - 1), (va_up (va_up F8 1 0) 18 ((F8 18) + 1)), (va_up (va_up G4 19 (upd (G4 19) (F8 18).toNatClampNeg ((G4 9) ((F8 3) - 1).toNatClampNeg))) 20 (upd (G4 20) (F8 18).toNatClampNeg ((G4 10) ((F8 3) - 1).toNatClampNeg)))))))))) := rfl
def fX6_principle_j37 (F3 : xF) (G4 : xG)  : Option (Int32 × xF × xG) :=
  (fX6_principle_j38 F3 G4) 1
theorem fX6_principle_j37_e (F3 : xF) (G4 : xG)  : fX6_principle_j37 F3 G4 = (fX6_principle_j38 F3 G4) 1 := rfl
def fX6_principle (F : xF) (G : xG) : Option (Int32 × xF × xG) :=
  x_b3 (fX6_isFormula F G) (fun r2 F3 G4 => (if r2 = 0 then (fX6_principle_j37 F3 G4) else x_ld ((F3 3) - 1) 40 ((if ((G4 11) ((F3 3) - 1).toNatClampNeg) = 0 then (if 10 ≤ (F3 18) then (fX6_principle_j37 F3 G4) else (fX6_principle_j38 F3 G4) 0) else (fX6_principle_j37 F3 G4)))))
theorem fX6_principle_e (F : xF) (G : xG) : fX6_principle F G = x_b3 (fX6_isFormula F G) (fun r2 F3 G4 => (if r2 = 0 then (fX6_principle_j37 F3 G4) else x_ld ((F3 3) - 1) 40 ((if ((G4 11) ((F3 3) - 1).toNatClampNeg) = 0 then (if 10 ≤ (F3 18) then (fX6_principle_j37 F3 G4) else (fX6_principle_j38 F3 G4) 0) else (fX6_principle_j37 F3 G4))))) := rfl
def rmX6_principle : Room := { frames := 8, cells := 0, slots := 0, locals := 182 }
def fX6_isPrinciple (F : xF) (p1 : Int32) : Option (Int32) :=
  x_b1 (fX6_in p1 0 ((F 18) - 1)) (fun r2 => some (x_zn r2))
theorem fX6_isPrinciple_e (F : xF) (p1 : Int32) : fX6_isPrinciple F p1 = x_b1 (fX6_in p1 0 ((F 18) - 1)) (fun r2 => some (x_zn r2)) := rfl
def rmX6_isPrinciple : Room := { frames := 1, cells := 0, slots := 0, locals := 22 }
def fX6_isSet (F : xF) (p1 : Int32) : Option (Int32) :=
  x_b1 (fX6_in p1 0 ((x_shl 1 (F 18)) - 1)) (fun r2 => some (x_zn r2))
theorem fX6_isSet_e (F : xF) (p1 : Int32) : fX6_isSet F p1 = x_b1 (fX6_in p1 0 ((x_shl 1 (F 18)) - 1)) (fun r2 => some (x_zn r2)) := rfl
def rmX6_isSet : Room := { frames := 1, cells := 0, slots := 0, locals := 22 }
def fX6_breaks (p1 : Int32) (p2 : Int32) (p3 : Int32) : Option (Int32) :=
  (if (p2 &&& (p1 ^^^ (-1))) = 0 then (if ((x_shr p1 p3) &&& 1) = 0 then some (1) else some (0)) else some (0))
theorem fX6_breaks_e (p1 : Int32) (p2 : Int32) (p3 : Int32) : fX6_breaks p1 p2 p3 = (if (p2 &&& (p1 ^^^ (-1))) = 0 then (if ((x_shr p1 p3) &&& 1) = 0 then some (1) else some (0)) else some (0)) := rfl
def rmX6_breaks : Room := { frames := 0, cells := 0, slots := 0, locals := 0 }
def fX6_rule_j127 (F : xF) (G : xG) (p1 : Int32) (p2 : Int32) (v6 : Int32) : Option (Int32 × xF × xG) :=
  x_b2 (fX6_goesWell F v6) (fun r8 F9 => (if r8 = 0 then some (0, F9, G) else x_ld (F9 21) 30 (x_ld (F9 21) 30 (some ((((F9 21) + 1) - 1), (va_up F9 21 ((F9 21) + 1)), (va_up (va_up G 22 (upd (G 22) (F9 21).toNatClampNeg p1)) 23 (upd (G 23) (F9 21).toNatClampNeg p2)))))))
theorem fX6_rule_j127_e (F : xF) (G : xG) (p1 : Int32) (p2 : Int32) (v6 : Int32) : fX6_rule_j127 F G p1 p2 v6 = x_b2 (fX6_goesWell F v6) (fun r8 F9 => (if r8 = 0 then some (0, F9, G) else x_ld (F9 21) 30 (x_ld (F9 21) 30 (some ((((F9 21) + 1) - 1), (va_up F9 21 ((F9 21) + 1)), (va_up (va_up G 22 (upd (G 22) (F9 21).toNatClampNeg p1)) 23 (upd (G 23) (F9 21).toNatClampNeg p2))))))) := rfl
def fX6_rule_x99 (F : xF) (G : xG) (r2 : Int32) (p1 : Int32) (p2 : Int32) (v3 : Int32) (v5 : Int32) : Option (Int32 × xF × xG) :=
  (if r2 = 0 then (fX6_rule_j127 F G p1 p2) 1 else (if v3 = 0 then (fX6_rule_j127 F G p1 p2) 2 else (if v5 = 0 then (fX6_rule_j127 F G p1 p2) 3 else (fX6_rule_j127 F G p1 p2) 0)))
theorem fX6_rule_x99_e (F : xF) (G : xG) (r2 : Int32) (p1 : Int32) (p2 : Int32) (v3 : Int32) (v5 : Int32) : fX6_rule_x99 F G r2 p1 p2 v3 v5 = (if r2 = 0 then (fX6_rule_j127 F G p1 p2) 1 else (if v3 = 0 then (fX6_rule_j127 F G p1 p2) 2 else (if v5 = 0 then (fX6_rule_j127 F G p1 p2) 3 else (fX6_rule_j127 F G p1 p2) 0))) := rfl
def fX6_rule_j91 (rec52 : Int32 → Int32 → Option (Int32 × xF × xG)) (v17 : Int32) (v20 : Int32) : Option (Int32 × xF × xG) :=
  rec52 v20 (v17 + 1)
theorem fX6_rule_j91_e (rec52 : Int32 → Int32 → Option (Int32 × xF × xG)) (v17 : Int32) (v20 : Int32) : fX6_rule_j91 rec52 v17 v20 = rec52 v20 (v17 + 1) := rfl
def fX6_rule_j90 (rec52 : Int32 → Int32 → Option (Int32 × xF × xG)) (v17 : Int32)  : Option (Int32 × xF × xG) :=
  (fX6_rule_j91 rec52 v17) 0
theorem fX6_rule_j90_e (rec52 : Int32 → Int32 → Option (Int32 × xF × xG)) (v17 : Int32)  : fX6_rule_j90 rec52 v17 = (fX6_rule_j91 rec52 v17) 0 := rfl
def fX6_rule_l52 (F : xF) (G : xG) (r2 : Int32) (p1 : Int32) (p2 : Int32) (v3 : Int32) : Nat → Int32 → Int32 → Option (Int32 × xF × xG)
  | 0, _, _ => none
  | n52 + 1, v16, v17 => (if (F 24) ≤ v17 then (fX6_rule_x99 F G r2 p1 p2 v3) v16 else (if v3 = 0 then (fX6_rule_x99 F G r2 p1 p2 v3) v16 else (if v16 = 0 then (fX6_rule_j90 (fX6_rule_l52 F G r2 p1 p2 v3 n52) v17) else x_ld v17 10 (x_b1 (fX6_breaks ((G 25) v17.toNatClampNeg) p1 p2) (fun r24 => (if r24 = 0 then (fX6_rule_j91 (fX6_rule_l52 F G r2 p1 p2 v3 n52) v17) 1 else (fX6_rule_j90 (fX6_rule_l52 F G r2 p1 p2 v3 n52) v17)))))))
theorem fX6_rule_l52_z (F : xF) (G : xG) (r2 : Int32) (p1 : Int32) (p2 : Int32) (v3 : Int32) (v16 : Int32) (v17 : Int32) : fX6_rule_l52 F G r2 p1 p2 v3 0 v16 v17 = none := rfl
theorem fX6_rule_l52_e (F : xF) (G : xG) (r2 : Int32) (p1 : Int32) (p2 : Int32) (v3 : Int32) (n52 : Nat) (v16 : Int32) (v17 : Int32) : fX6_rule_l52 F G r2 p1 p2 v3 (n52 + 1) v16 v17 = (if (F 24) ≤ v17 then (fX6_rule_x99 F G r2 p1 p2 v3) v16 else (if v3 = 0 then (fX6_rule_x99 F G r2 p1 p2 v3) v16 else (if v16 = 0 then (fX6_rule_j90 (fX6_rule_l52 F G r2 p1 p2 v3 n52) v17) else x_ld v17 10 (x_b1 (fX6_breaks ((G 25) v17.toNatClampNeg) p1 p2) (fun r24 => (if r24 = 0 then (fX6_rule_j91 (fX6_rule_l52 F G r2 p1 p2 v3 n52) v17) 1 else (fX6_rule_j90 (fX6_rule_l52 F G r2 p1 p2 v3 n52) v17))))))) := rfl
def fX6_rule_j47 (F : xF) (G : xG) (r2 : Int32) (p1 : Int32) (p2 : Int32) (v3 : Int32) (v4 : Int32) : Option (Int32 × xF × xG) :=
  (fX6_rule_l52 F G r2 p1 p2 v3 4096) v4 0
theorem fX6_rule_j47_e (F : xF) (G : xG) (r2 : Int32) (p1 : Int32) (p2 : Int32) (v3 : Int32) (v4 : Int32) : fX6_rule_j47 F G r2 p1 p2 v3 v4 = (fX6_rule_l52 F G r2 p1 p2 v3 4096) v4 0 := rfl
def fX6_rule_j31 (F : xF) (G : xG) (r2 : Int32) (p1 : Int32) (p2 : Int32) (v3 : Int32) : Option (Int32 × xF × xG) :=
  (if 30 ≤ (F 21) then (fX6_rule_j47 F G r2 p1 p2 v3) 0 else (fX6_rule_j47 F G r2 p1 p2 v3) 1)
theorem fX6_rule_j31_e (F : xF) (G : xG) (r2 : Int32) (p1 : Int32) (p2 : Int32) (v3 : Int32) : fX6_rule_j31 F G r2 p1 p2 v3 = (if 30 ≤ (F 21) then (fX6_rule_j47 F G r2 p1 p2 v3) 0 else (fX6_rule_j47 F G r2 p1 p2 v3) 1) := rfl
def fX6_rule_j30 (F : xF) (G : xG) (r2 : Int32) (p1 : Int32) (p2 : Int32)  : Option (Int32 × xF × xG) :=
  (fX6_rule_j31 F G r2 p1 p2) 0
theorem fX6_rule_j30_e (F : xF) (G : xG) (r2 : Int32) (p1 : Int32) (p2 : Int32)  : fX6_rule_j30 F G r2 p1 p2 = (fX6_rule_j31 F G r2 p1 p2) 0 := rfl
def fX6_rule (F : xF) (G : xG) (p1 : Int32) (p2 : Int32) : Option (Int32 × xF × xG) :=
  x_b1 (fX6_isPrinciple F p2) (fun r2 => (if r2 = 0 then (fX6_rule_j30 F G r2 p1 p2) else x_b1 (fX6_isSet F p1) (fun r29 => (if r29 = 0 then (fX6_rule_j30 F G r2 p1 p2) else (if ((x_shr p1 p2) &&& 1) = 0 then (fX6_rule_j31 F G r2 p1 p2) 1 else (fX6_rule_j30 F G r2 p1 p2))))))
theorem fX6_rule_e (F : xF) (G : xG) (p1 : Int32) (p2 : Int32) : fX6_rule F G p1 p2 = x_b1 (fX6_isPrinciple F p2) (fun r2 => (if r2 = 0 then (fX6_rule_j30 F G r2 p1 p2) else x_b1 (fX6_isSet F p1) (fun r29 => (if r29 = 0 then (fX6_rule_j30 F G r2 p1 p2) else (if ((x_shr p1 p2) &&& 1) = 0 then (fX6_rule_j31 F G r2 p1 p2) 1 else (fX6_rule_j30 F G r2 p1 p2)))))) := rfl
def rmX6_rule : Room := { frames := 2, cells := 0, slots := 0, locals := 43 }
def fX6_model_j92 (F : xF) (G : xG) (p1 : Int32) (v5 : Int32) : Option (Int32 × xF × xG) :=
  x_b2 (fX6_goesWell F v5) (fun r7 F8 => (if r7 = 0 then some (0, F8, G) else x_ld (F8 24) 10 (some ((((F8 24) + 1) - 1), (va_up F8 24 ((F8 24) + 1)), (va_up G 25 (upd (G 25) (F8 24).toNatClampNeg p1))))))
theorem fX6_model_j92_e (F : xF) (G : xG) (p1 : Int32) (v5 : Int32) : fX6_model_j92 F G p1 v5 = x_b2 (fX6_goesWell F v5) (fun r7 F8 => (if r7 = 0 then some (0, F8, G) else x_ld (F8 24) 10 (some ((((F8 24) + 1) - 1), (va_up F8 24 ((F8 24) + 1)), (va_up G 25 (upd (G 25) (F8 24).toNatClampNeg p1)))))) := rfl
def fX6_model_x74 (F : xF) (G : xG) (r2 : Int32) (p1 : Int32) (v4 : Int32) : Option (Int32 × xF × xG) :=
  (if r2 = 0 then (fX6_model_j92 F G p1) 1 else (if v4 = 0 then (fX6_model_j92 F G p1) 2 else (fX6_model_j92 F G p1) 0))
theorem fX6_model_x74_e (F : xF) (G : xG) (r2 : Int32) (p1 : Int32) (v4 : Int32) : fX6_model_x74 F G r2 p1 v4 = (if r2 = 0 then (fX6_model_j92 F G p1) 1 else (if v4 = 0 then (fX6_model_j92 F G p1) 2 else (fX6_model_j92 F G p1) 0)) := rfl
def fX6_model_j67 (rec24 : Int32 → Int32 → Option (Int32 × xF × xG)) (v14 : Int32) (v17 : Int32) : Option (Int32 × xF × xG) :=
  rec24 v17 (v14 + 1)
theorem fX6_model_j67_e (rec24 : Int32 → Int32 → Option (Int32 × xF × xG)) (v14 : Int32) (v17 : Int32) : fX6_model_j67 rec24 v14 v17 = rec24 v17 (v14 + 1) := rfl
def fX6_model_j66 (rec24 : Int32 → Int32 → Option (Int32 × xF × xG)) (v14 : Int32)  : Option (Int32 × xF × xG) :=
  (fX6_model_j67 rec24 v14) 0
theorem fX6_model_j66_e (rec24 : Int32 → Int32 → Option (Int32 × xF × xG)) (v14 : Int32)  : fX6_model_j66 rec24 v14 = (fX6_model_j67 rec24 v14) 0 := rfl
def fX6_model_l24 (F : xF) (G : xG) (r2 : Int32) (p1 : Int32) : Nat → Int32 → Int32 → Option (Int32 × xF × xG)
  | 0, _, _ => none
  | n24 + 1, v13, v14 => (if (F 21) ≤ v14 then (fX6_model_x74 F G r2 p1) v13 else (if r2 = 0 then (fX6_model_x74 F G r2 p1) v13 else (if v13 = 0 then (fX6_model_j66 (fX6_model_l24 F G r2 p1 n24) v14) else x_ld v14 30 (x_ld v14 30 (x_b1 (fX6_breaks p1 ((G 22) v14.toNatClampNeg) ((G 23) v14.toNatClampNeg)) (fun r22 => (if r22 = 0 then (fX6_model_j67 (fX6_model_l24 F G r2 p1 n24) v14) 1 else (fX6_model_j66 (fX6_model_l24 F G r2 p1 n24) v14))))))))
theorem fX6_model_l24_z (F : xF) (G : xG) (r2 : Int32) (p1 : Int32) (v13 : Int32) (v14 : Int32) : fX6_model_l24 F G r2 p1 0 v13 v14 = none := rfl
theorem fX6_model_l24_e (F : xF) (G : xG) (r2 : Int32) (p1 : Int32) (n24 : Nat) (v13 : Int32) (v14 : Int32) : fX6_model_l24 F G r2 p1 (n24 + 1) v13 v14 = (if (F 21) ≤ v14 then (fX6_model_x74 F G r2 p1) v13 else (if r2 = 0 then (fX6_model_x74 F G r2 p1) v13 else (if v13 = 0 then (fX6_model_j66 (fX6_model_l24 F G r2 p1 n24) v14) else x_ld v14 30 (x_ld v14 30 (x_b1 (fX6_breaks p1 ((G 22) v14.toNatClampNeg) ((G 23) v14.toNatClampNeg)) (fun r22 => (if r22 = 0 then (fX6_model_j67 (fX6_model_l24 F G r2 p1 n24) v14) 1 else (fX6_model_j66 (fX6_model_l24 F G r2 p1 n24) v14)))))))) := rfl
def fX6_model_j20 (F : xF) (G : xG) (r2 : Int32) (p1 : Int32) (v3 : Int32) : Option (Int32 × xF × xG) :=
  (fX6_model_l24 F G r2 p1 4096) v3 0
theorem fX6_model_j20_e (F : xF) (G : xG) (r2 : Int32) (p1 : Int32) (v3 : Int32) : fX6_model_j20 F G r2 p1 v3 = (fX6_model_l24 F G r2 p1 4096) v3 0 := rfl
def fX6_model (F : xF) (G : xG) (p1 : Int32) : Option (Int32 × xF × xG) :=
  x_b1 (fX6_isSet F p1) (fun r2 => (if 10 ≤ (F 24) then (fX6_model_j20 F G r2 p1) 0 else (fX6_model_j20 F G r2 p1) 1))
theorem fX6_model_e (F : xF) (G : xG) (p1 : Int32) : fX6_model F G p1 = x_b1 (fX6_isSet F p1) (fun r2 => (if 10 ≤ (F 24) then (fX6_model_j20 F G r2 p1) 0 else (fX6_model_j20 F G r2 p1) 1)) := rfl
def rmX6_model : Room := { frames := 2, cells := 0, slots := 0, locals := 43 }
def fX6_nextRule_j37 (rec9 : Int32 → Int32 → Option (Int32)) (v2 : Int32) (v8 : Int32) : Option (Int32) :=
  rec9 v8 (v2 + (-1))
theorem fX6_nextRule_j37_e (rec9 : Int32 → Int32 → Option (Int32)) (v2 : Int32) (v8 : Int32) : fX6_nextRule_j37 rec9 v2 v8 = rec9 v8 (v2 + (-1)) := rfl
def fX6_nextRule_l9 (G : xG) (p1 : Int32) : Nat → Int32 → Int32 → Option (Int32)
  | 0, _, _ => none
  | n9 + 1, v1, v2 => (if v2 < 0 then some (v1) else x_ld v2 30 (x_ld v2 30 (x_b1 (fX6_breaks p1 ((G 22) v2.toNatClampNeg) ((G 23) v2.toNatClampNeg)) (fun r7 => (if r7 = 0 then (fX6_nextRule_j37 (fX6_nextRule_l9 G p1 n9) v2) v1 else (fX6_nextRule_j37 (fX6_nextRule_l9 G p1 n9) v2) v2)))))
theorem fX6_nextRule_l9_z (G : xG) (p1 : Int32) (v1 : Int32) (v2 : Int32) : fX6_nextRule_l9 G p1 0 v1 v2 = none := rfl
theorem fX6_nextRule_l9_e (G : xG) (p1 : Int32) (n9 : Nat) (v1 : Int32) (v2 : Int32) : fX6_nextRule_l9 G p1 (n9 + 1) v1 v2 = (if v2 < 0 then some (v1) else x_ld v2 30 (x_ld v2 30 (x_b1 (fX6_breaks p1 ((G 22) v2.toNatClampNeg) ((G 23) v2.toNatClampNeg)) (fun r7 => (if r7 = 0 then (fX6_nextRule_j37 (fX6_nextRule_l9 G p1 n9) v2) v1 else (fX6_nextRule_j37 (fX6_nextRule_l9 G p1 n9) v2) v2))))) := rfl
def fX6_nextRule (F : xF) (G : xG) (p1 : Int32) : Option (Int32) :=
  (fX6_nextRule_l9 G p1 4096) (-1) ((F 21) - 1)
theorem fX6_nextRule_e (F : xF) (G : xG) (p1 : Int32) : fX6_nextRule F G p1 = (fX6_nextRule_l9 G p1 4096) (-1) ((F 21) - 1) := rfl
def rmX6_nextRule : Room := { frames := 1, cells := 0, slots := 0, locals := 22 }
def fX6_closed_l8 (F : xF) (G : xG) : Nat → Int32 → Int32 → Option (Int32)
  | 0, _, _ => none
  | n8 + 1, v3, v4 => (if v4 = (-1) then some (v3) else x_ld v4 30 (x_b1 (fX6_nextRule F G (v3 ||| (x_shl 1 ((G 23) v4.toNatClampNeg)))) (fun r8 => (fX6_closed_l8 F G n8) (v3 ||| (x_shl 1 ((G 23) v4.toNatClampNeg))) r8)))
theorem fX6_closed_l8_z (F : xF) (G : xG) (v3 : Int32) (v4 : Int32) : fX6_closed_l8 F G 0 v3 v4 = none := rfl
theorem fX6_closed_l8_e (F : xF) (G : xG) (n8 : Nat) (v3 : Int32) (v4 : Int32) : fX6_closed_l8 F G (n8 + 1) v3 v4 = (if v4 = (-1) then some (v3) else x_ld v4 30 (x_b1 (fX6_nextRule F G (v3 ||| (x_shl 1 ((G 23) v4.toNatClampNeg)))) (fun r8 => (fX6_closed_l8 F G n8) (v3 ||| (x_shl 1 ((G 23) v4.toNatClampNeg))) r8))) := rfl
def fX6_closed (F : xF) (G : xG) (p1 : Int32) : Option (Int32) :=
  x_b1 (fX6_nextRule F G p1) (fun r2 => (fX6_closed_l8 F G 4096) p1 r2)
theorem fX6_closed_e (F : xF) (G : xG) (p1 : Int32) : fX6_closed F G p1 = x_b1 (fX6_nextRule F G p1) (fun r2 => (fX6_closed_l8 F G 4096) p1 r2) := rfl
def rmX6_closed : Room := { frames := 2, cells := 0, slots := 0, locals := 45 }
def fX6_proves_j14 (F : xF) (G : xG) (p1 : Int32) (v3 : Int32) : Option (Int32 × xF) :=
  x_b2 (fX6_goesWell F v3) (fun r5 F6 => (if r5 = 0 then some (0, F6) else x_b1 (fX6_closed F6 G p1) (fun r9 => some (r9, F6))))
theorem fX6_proves_j14_e (F : xF) (G : xG) (p1 : Int32) (v3 : Int32) : fX6_proves_j14 F G p1 v3 = x_b2 (fX6_goesWell F v3) (fun r5 F6 => (if r5 = 0 then some (0, F6) else x_b1 (fX6_closed F6 G p1) (fun r9 => some (r9, F6)))) := rfl
def fX6_proves (F : xF) (G : xG) (p1 : Int32) : Option (Int32 × xF) :=
  x_b1 (fX6_isSet F p1) (fun r2 => (if r2 = 0 then (fX6_proves_j14 F G p1) 1 else (fX6_proves_j14 F G p1) 0))
theorem fX6_proves_e (F : xF) (G : xG) (p1 : Int32) : fX6_proves F G p1 = x_b1 (fX6_isSet F p1) (fun r2 => (if r2 = 0 then (fX6_proves_j14 F G p1) 1 else (fX6_proves_j14 F G p1) 0)) := rfl
def rmX6_proves : Room := { frames := 3, cells := 0, slots := 0, locals := 68 }
def fX6_prove_j188 (rec153 : Int32 → Int32 → xG → Option (Int32 × xG)) (v5 : Int32) (v9 : Int32) (G10 : xG) : Option (Int32 × xG) :=
  rec153 v9 (v5 + 1) G10
theorem fX6_prove_j188_e (rec153 : Int32 → Int32 → xG → Option (Int32 × xG)) (v5 : Int32) (v9 : Int32) (G10 : xG) : fX6_prove_j188 rec153 v5 v9 G10 = rec153 v9 (v5 + 1) G10 := rfl
def fX6_prove_l153 (v1 : Int32) : Nat → Int32 → Int32 → xG → Option (Int32 × xG)
  | 0, _, _, _ => none
  | n153 + 1, v4, v5, G6 => (if v1 ≤ v5 then some (v4, G6) else x_ld v5 30 ((if ((G6 26) v5.toNatClampNeg) = (-1) then (fX6_prove_j188 (fX6_prove_l153 v1 n153) v5) v4 G6 else x_ld v5 30 (x_ld v4 30 ((fX6_prove_j188 (fX6_prove_l153 v1 n153) v5) (v4 + 1) (va_up G6 26 (upd (G6 26) v4.toNatClampNeg ((G6 26) v5.toNatClampNeg))))))))
theorem fX6_prove_l153_z (v1 : Int32) (v4 : Int32) (v5 : Int32) (G6 : xG) : fX6_prove_l153 v1 0 v4 v5 G6 = none := rfl
theorem fX6_prove_l153_e (v1 : Int32) (n153 : Nat) (v4 : Int32) (v5 : Int32) (G6 : xG) : fX6_prove_l153 v1 (n153 + 1) v4 v5 G6 = (if v1 ≤ v5 then some (v4, G6) else x_ld v5 30 ((if ((G6 26) v5.toNatClampNeg) = (-1) then (fX6_prove_j188 (fX6_prove_l153 v1 n153) v5) v4 G6 else x_ld v5 30 (x_ld v4 30 ((fX6_prove_j188 (fX6_prove_l153 v1 n153) v5) (v4 + 1) (va_up G6 26 (upd (G6 26) v4.toNatClampNeg ((G6 26) v5.toNatClampNeg)))))))) := rfl
def fX6_prove_x147 (v1 : Int32) (G3 : xG) : Option (Int32 × xG) :=
  (fX6_prove_l153 v1 4096) 0 0 G3
theorem fX6_prove_x147_e (v1 : Int32) (G3 : xG) : fX6_prove_x147 v1 G3 = (fX6_prove_l153 v1 4096) 0 0 G3 := rfl
def fX6_prove_j140 (rec59 : Int32 → Int32 → xG → Option (Int32 × xG)) (G16 : xG) (v15 : Int32) (v14 : Int32) (v21 : Int32) (v22 : Int32) : Option (Int32 × xG) :=
  x_ld v15 30 (rec59 (v14 ||| v21) (v15 + (-1)) (va_up G16 26 (upd (G16 26) v15.toNatClampNeg v22)))
theorem fX6_prove_j140_e (rec59 : Int32 → Int32 → xG → Option (Int32 × xG)) (G16 : xG) (v15 : Int32) (v14 : Int32) (v21 : Int32) (v22 : Int32) : fX6_prove_j140 rec59 G16 v15 v14 v21 v22 = x_ld v15 30 (rec59 (v14 ||| v21) (v15 + (-1)) (va_up G16 26 (upd (G16 26) v15.toNatClampNeg v22))) := rfl
def fX6_prove_j115 (rec59 : Int32 → Int32 → xG → Option (Int32 × xG)) (G16 : xG) (v20 : Int32) (v15 : Int32) (v14 : Int32) (v21 : Int32) : Option (Int32 × xG) :=
  (if v20 = 0 then (fX6_prove_j140 rec59 G16 v15 v14 v21) (-1) else x_ld v15 30 ((fX6_prove_j140 rec59 G16 v15 v14 v21) ((G16 26) v15.toNatClampNeg)))
theorem fX6_prove_j115_e (rec59 : Int32 → Int32 → xG → Option (Int32 × xG)) (G16 : xG) (v20 : Int32) (v15 : Int32) (v14 : Int32) (v21 : Int32) : fX6_prove_j115 rec59 G16 v20 v15 v14 v21 = (if v20 = 0 then (fX6_prove_j140 rec59 G16 v15 v14 v21) (-1) else x_ld v15 30 ((fX6_prove_j140 rec59 G16 v15 v14 v21) ((G16 26) v15.toNatClampNeg))) := rfl
def fX6_prove_j90 (rec59 : Int32 → Int32 → xG → Option (Int32 × xG)) (G16 : xG) (v15 : Int32) (v14 : Int32) (v20 : Int32) : Option (Int32 × xG) :=
  (if v20 = 0 then (fX6_prove_j115 rec59 G16 v20 v15 v14) 0 else x_ld v15 30 (x_ld ((G16 26) v15.toNatClampNeg) 30 ((fX6_prove_j115 rec59 G16 v20 v15 v14) ((G16 22) ((G16 26) v15.toNatClampNeg).toNatClampNeg))))
theorem fX6_prove_j90_e (rec59 : Int32 → Int32 → xG → Option (Int32 × xG)) (G16 : xG) (v15 : Int32) (v14 : Int32) (v20 : Int32) : fX6_prove_j90 rec59 G16 v15 v14 v20 = (if v20 = 0 then (fX6_prove_j115 rec59 G16 v20 v15 v14) 0 else x_ld v15 30 (x_ld ((G16 26) v15.toNatClampNeg) 30 ((fX6_prove_j115 rec59 G16 v20 v15 v14) ((G16 22) ((G16 26) v15.toNatClampNeg).toNatClampNeg)))) := rfl
def fX6_prove_l59 (v1 : Int32) : Nat → Int32 → Int32 → xG → Option (Int32 × xG)
  | 0, _, _, _ => none
  | n59 + 1, v14, v15, G16 => (if v15 < 0 then (fX6_prove_x147 v1) G16 else x_ld v15 30 (x_ld ((G16 26) v15.toNatClampNeg) 30 ((if ((x_shr v14 ((G16 23) ((G16 26) v15.toNatClampNeg).toNatClampNeg)) &&& 1) = 1 then (fX6_prove_j90 (fX6_prove_l59 v1 n59) G16 v15 v14) 1 else (fX6_prove_j90 (fX6_prove_l59 v1 n59) G16 v15 v14) 0))))
theorem fX6_prove_l59_z (v1 : Int32) (v14 : Int32) (v15 : Int32) (G16 : xG) : fX6_prove_l59 v1 0 v14 v15 G16 = none := rfl
theorem fX6_prove_l59_e (v1 : Int32) (n59 : Nat) (v14 : Int32) (v15 : Int32) (G16 : xG) : fX6_prove_l59 v1 (n59 + 1) v14 v15 G16 = (if v15 < 0 then (fX6_prove_x147 v1) G16 else x_ld v15 30 (x_ld ((G16 26) v15.toNatClampNeg) 30 ((if ((x_shr v14 ((G16 23) ((G16 26) v15.toNatClampNeg).toNatClampNeg)) &&& 1) = 1 then (fX6_prove_j90 (fX6_prove_l59 v1 n59) G16 v15 v14) 1 else (fX6_prove_j90 (fX6_prove_l59 v1 n59) G16 v15 v14) 0)))) := rfl
def fX6_prove_x48 (p2 : Int32) (v1 : Int32) (G2 : xG) : Option (Int32 × xG) :=
  (fX6_prove_l59 v1 4096) (x_shl 1 p2) (v1 - 1) G2
theorem fX6_prove_x48_e (p2 : Int32) (v1 : Int32) (G2 : xG) : fX6_prove_x48 p2 v1 G2 = (fX6_prove_l59 v1 4096) (x_shl 1 p2) (v1 - 1) G2 := rfl
def fX6_prove_l5 (F : xF) (p2 : Int32) : Nat → Int32 → Int32 → xG → Option (Int32 × xG)
  | 0, _, _, _ => none
  | n5 + 1, v30, v31, G32 => (if ((x_shr v30 p2) &&& 1) = 0 then x_b1 (fX6_nextRule F G32 v30) (fun r35 => x_ld v31 30 (x_ld v31 30 (x_ld ((upd (G32 26) v31.toNatClampNeg r35) v31.toNatClampNeg) 30 ((fX6_prove_l5 F p2 n5) (v30 ||| (x_shl 1 ((G32 23) ((upd (G32 26) v31.toNatClampNeg r35) v31.toNatClampNeg).toNatClampNeg))) (v31 + 1) (va_up G32 26 (upd (G32 26) v31.toNatClampNeg r35)))))) else (fX6_prove_x48 p2) v31 G32)
theorem fX6_prove_l5_z (F : xF) (p2 : Int32) (v30 : Int32) (v31 : Int32) (G32 : xG) : fX6_prove_l5 F p2 0 v30 v31 G32 = none := rfl
theorem fX6_prove_l5_e (F : xF) (p2 : Int32) (n5 : Nat) (v30 : Int32) (v31 : Int32) (G32 : xG) : fX6_prove_l5 F p2 (n5 + 1) v30 v31 G32 = (if ((x_shr v30 p2) &&& 1) = 0 then x_b1 (fX6_nextRule F G32 v30) (fun r35 => x_ld v31 30 (x_ld v31 30 (x_ld ((upd (G32 26) v31.toNatClampNeg r35) v31.toNatClampNeg) 30 ((fX6_prove_l5 F p2 n5) (v30 ||| (x_shl 1 ((G32 23) ((upd (G32 26) v31.toNatClampNeg r35) v31.toNatClampNeg).toNatClampNeg))) (v31 + 1) (va_up G32 26 (upd (G32 26) v31.toNatClampNeg r35)))))) else (fX6_prove_x48 p2) v31 G32) := rfl
def fX6_prove (F : xF) (G : xG) (p1 : Int32) (p2 : Int32) : Option (Int32 × xG) :=
  (fX6_prove_l5 F p2 4096) p1 0 G
theorem fX6_prove_e (F : xF) (G : xG) (p1 : Int32) (p2 : Int32) : fX6_prove F G p1 p2 = (fX6_prove_l5 F p2 4096) p1 0 G := rfl
def rmX6_prove : Room := { frames := 2, cells := 0, slots := 0, locals := 45 }
def fX6_proof_j42 (F : xF) (G : xG) (p1 : Int32) (p2 : Int32) (p3 : Int32) (v4 : Int32) : Option (Int32 × xF × xG) :=
  x_b2 (fX6_goesWell F v4) (fun r6 F7 => (if r6 = 0 then some (0, F7, G) else x_b1 (fX6_closed F7 G p1) (fun r10 => (if ((x_shr r10 p2) &&& 1) = 0 then some ((-1), F7, G) else x_b2 (fX6_prove F7 G p1 p2) (fun r13 G14 => (if r13 ≤ p3 then some ((-1), F7, G14) else x_ld p3 30 (some (((G14 26) p3.toNatClampNeg), F7, G14))))))))
theorem fX6_proof_j42_e (F : xF) (G : xG) (p1 : Int32) (p2 : Int32) (p3 : Int32) (v4 : Int32) : fX6_proof_j42 F G p1 p2 p3 v4 = x_b2 (fX6_goesWell F v4) (fun r6 F7 => (if r6 = 0 then some (0, F7, G) else x_b1 (fX6_closed F7 G p1) (fun r10 => (if ((x_shr r10 p2) &&& 1) = 0 then some ((-1), F7, G) else x_b2 (fX6_prove F7 G p1 p2) (fun r13 G14 => (if r13 ≤ p3 then some ((-1), F7, G14) else x_ld p3 30 (some (((G14 26) p3.toNatClampNeg), F7, G14)))))))) := rfl
def fX6_proof_j17 (F : xF) (G : xG) (p1 : Int32) (p2 : Int32) (p3 : Int32) (v3 : Int32) : Option (Int32 × xF × xG) :=
  (if v3 = 0 then (fX6_proof_j42 F G p1 p2 p3) 1 else x_b1 (fX6_isSet F p1) (fun r19 => (if r19 = 0 then (fX6_proof_j42 F G p1 p2 p3) 2 else (fX6_proof_j42 F G p1 p2 p3) 0)))
theorem fX6_proof_j17_e (F : xF) (G : xG) (p1 : Int32) (p2 : Int32) (p3 : Int32) (v3 : Int32) : fX6_proof_j17 F G p1 p2 p3 v3 = (if v3 = 0 then (fX6_proof_j42 F G p1 p2 p3) 1 else x_b1 (fX6_isSet F p1) (fun r19 => (if r19 = 0 then (fX6_proof_j42 F G p1 p2 p3) 2 else (fX6_proof_j42 F G p1 p2 p3) 0))) := rfl
def fX6_proof_j16 (F : xF) (G : xG) (p1 : Int32) (p2 : Int32) (p3 : Int32)  : Option (Int32 × xF × xG) :=
  (fX6_proof_j17 F G p1 p2 p3) 0
theorem fX6_proof_j16_e (F : xF) (G : xG) (p1 : Int32) (p2 : Int32) (p3 : Int32)  : fX6_proof_j16 F G p1 p2 p3 = (fX6_proof_j17 F G p1 p2 p3) 0 := rfl
def fX6_proof (F : xF) (G : xG) (p1 : Int32) (p2 : Int32) (p3 : Int32) : Option (Int32 × xF × xG) :=
  x_b1 (fX6_isPrinciple F p2) (fun r2 => (if r2 = 0 then (fX6_proof_j16 F G p1 p2 p3) else (if p3 < 0 then (fX6_proof_j16 F G p1 p2 p3) else (fX6_proof_j17 F G p1 p2 p3) 1)))
theorem fX6_proof_e (F : xF) (G : xG) (p1 : Int32) (p2 : Int32) (p3 : Int32) : fX6_proof F G p1 p2 p3 = x_b1 (fX6_isPrinciple F p2) (fun r2 => (if r2 = 0 then (fX6_proof_j16 F G p1 p2 p3) else (if p3 < 0 then (fX6_proof_j16 F G p1 p2 p3) else (fX6_proof_j17 F G p1 p2 p3) 1))) := rfl
def rmX6_proof : Room := { frames := 3, cells := 0, slots := 0, locals := 72 }
def fX6_knownOf_x76  (v4 : Int32) : Option (Int32) :=
  (if v4 = 0 then some (0) else some ((-1)))
theorem fX6_knownOf_x76_e  (v4 : Int32) : fX6_knownOf_x76 v4 = (if v4 = 0 then some (0) else some ((-1))) := rfl
def fX6_knownOf_j69 (rec22 : Int32 → Int32 → Option (Int32)) (v7 : Int32) (v9 : Int32) : Option (Int32) :=
  rec22 v9 (v7 + 1)
theorem fX6_knownOf_j69_e (rec22 : Int32 → Int32 → Option (Int32)) (v7 : Int32) (v9 : Int32) : fX6_knownOf_j69 rec22 v7 v9 = rec22 v9 (v7 + 1) := rfl
def fX6_knownOf_j64 (rec22 : Int32 → Int32 → Option (Int32)) (v7 : Int32)  : Option (Int32) :=
  (fX6_knownOf_j69 rec22 v7) 1
theorem fX6_knownOf_j64_e (rec22 : Int32 → Int32 → Option (Int32)) (v7 : Int32)  : fX6_knownOf_j64 rec22 v7 = (fX6_knownOf_j69 rec22 v7) 1 := rfl
def fX6_knownOf_j68 (rec22 : Int32 → Int32 → Option (Int32)) (v7 : Int32)  : Option (Int32) :=
  (fX6_knownOf_j69 rec22 v7) 0
theorem fX6_knownOf_j68_e (rec22 : Int32 → Int32 → Option (Int32)) (v7 : Int32)  : fX6_knownOf_j68 rec22 v7 = (fX6_knownOf_j69 rec22 v7) 0 := rfl
def fX6_knownOf_l22 (F : xF) (G : xG) (p1 : Int32) (p2 : Int32) : Nat → Int32 → Int32 → Option (Int32)
  | 0, _, _ => none
  | n22 + 1, v6, v7 => (if (F 24) ≤ v7 then fX6_knownOf_x76 v6 else (if v6 = 0 then x_ld v7 10 ((if ((x_shr ((G 25) v7.toNatClampNeg) p1) &&& 1) = 1 then x_ld v7 10 ((if ((x_shr ((G 25) v7.toNatClampNeg) p2) &&& 1) = 0 then (fX6_knownOf_j64 (fX6_knownOf_l22 F G p1 p2 n22) v7) else (fX6_knownOf_j68 (fX6_knownOf_l22 F G p1 p2 n22) v7))) else (fX6_knownOf_j68 (fX6_knownOf_l22 F G p1 p2 n22) v7))) else (fX6_knownOf_j64 (fX6_knownOf_l22 F G p1 p2 n22) v7)))
theorem fX6_knownOf_l22_z (F : xF) (G : xG) (p1 : Int32) (p2 : Int32) (v6 : Int32) (v7 : Int32) : fX6_knownOf_l22 F G p1 p2 0 v6 v7 = none := rfl
theorem fX6_knownOf_l22_e (F : xF) (G : xG) (p1 : Int32) (p2 : Int32) (n22 : Nat) (v6 : Int32) (v7 : Int32) : fX6_knownOf_l22 F G p1 p2 (n22 + 1) v6 v7 = (if (F 24) ≤ v7 then fX6_knownOf_x76 v6 else (if v6 = 0 then x_ld v7 10 ((if ((x_shr ((G 25) v7.toNatClampNeg) p1) &&& 1) = 1 then x_ld v7 10 ((if ((x_shr ((G 25) v7.toNatClampNeg) p2) &&& 1) = 0 then (fX6_knownOf_j64 (fX6_knownOf_l22 F G p1 p2 n22) v7) else (fX6_knownOf_j68 (fX6_knownOf_l22 F G p1 p2 n22) v7))) else (fX6_knownOf_j68 (fX6_knownOf_l22 F G p1 p2 n22) v7))) else (fX6_knownOf_j64 (fX6_knownOf_l22 F G p1 p2 n22) v7))) := rfl
def fX6_knownOf (F : xF) (G : xG) (p1 : Int32) (p2 : Int32) : Option (Int32) :=
  x_b1 (fX6_closed F G (x_shl 1 p1)) (fun r2 => (if ((x_shr r2 p2) &&& 1) = 1 then some (1) else (fX6_knownOf_l22 F G p1 p2 4096) 0 0))
theorem fX6_knownOf_e (F : xF) (G : xG) (p1 : Int32) (p2 : Int32) : fX6_knownOf F G p1 p2 = x_b1 (fX6_closed F G (x_shl 1 p1)) (fun r2 => (if ((x_shr r2 p2) &&& 1) = 1 then some (1) else (fX6_knownOf_l22 F G p1 p2 4096) 0 0)) := rfl
def rmX6_knownOf : Room := { frames := 3, cells := 0, slots := 0, locals := 68 }
def fX6_known_j41 (F : xF) (G : xG) (p1 : Int32) (p2 : Int32) (v4 : Int32) : Option (Int32 × xF) :=
  x_b2 (fX6_goesWell F v4) (fun r6 F7 => (if r6 = 0 then some (0, F7) else x_b1 (fX6_knownOf F7 G p1 p2) (fun r10 => some (r10, F7))))
theorem fX6_known_j41_e (F : xF) (G : xG) (p1 : Int32) (p2 : Int32) (v4 : Int32) : fX6_known_j41 F G p1 p2 v4 = x_b2 (fX6_goesWell F v4) (fun r6 F7 => (if r6 = 0 then some (0, F7) else x_b1 (fX6_knownOf F7 G p1 p2) (fun r10 => some (r10, F7)))) := rfl
def fX6_known_j21 (F : xF) (G : xG) (p1 : Int32) (p2 : Int32) (v3 : Int32) : Option (Int32 × xF) :=
  (if v3 = 0 then (fX6_known_j41 F G p1 p2) 1 else (if p1 = p2 then (fX6_known_j41 F G p1 p2) 2 else (fX6_known_j41 F G p1 p2) 0))
theorem fX6_known_j21_e (F : xF) (G : xG) (p1 : Int32) (p2 : Int32) (v3 : Int32) : fX6_known_j21 F G p1 p2 v3 = (if v3 = 0 then (fX6_known_j41 F G p1 p2) 1 else (if p1 = p2 then (fX6_known_j41 F G p1 p2) 2 else (fX6_known_j41 F G p1 p2) 0)) := rfl
def fX6_known_j20 (F : xF) (G : xG) (p1 : Int32) (p2 : Int32)  : Option (Int32 × xF) :=
  (fX6_known_j21 F G p1 p2) 0
theorem fX6_known_j20_e (F : xF) (G : xG) (p1 : Int32) (p2 : Int32)  : fX6_known_j20 F G p1 p2 = (fX6_known_j21 F G p1 p2) 0 := rfl
def fX6_known (F : xF) (G : xG) (p1 : Int32) (p2 : Int32) : Option (Int32 × xF) :=
  x_b1 (fX6_isPrinciple F p1) (fun r2 => (if r2 = 0 then (fX6_known_j20 F G p1 p2) else x_b1 (fX6_isPrinciple F p2) (fun r15 => (if r15 = 0 then (fX6_known_j20 F G p1 p2) else (fX6_known_j21 F G p1 p2) 1))))
theorem fX6_known_e (F : xF) (G : xG) (p1 : Int32) (p2 : Int32) : fX6_known F G p1 p2 = x_b1 (fX6_isPrinciple F p1) (fun r2 => (if r2 = 0 then (fX6_known_j20 F G p1 p2) else x_b1 (fX6_isPrinciple F p2) (fun r15 => (if r15 = 0 then (fX6_known_j20 F G p1 p2) else (fX6_known_j21 F G p1 p2) 1)))) := rfl
def rmX6_known : Room := { frames := 4, cells := 0, slots := 0, locals := 92 }
def fX6_open_x55 (rec9 : Int32 → Int32 → Option (Int32 × xF)) (v2 : Int32) (v4 : Int32) : Option (Int32 × xF) :=
  rec9 v4 (v2 + 1)
theorem fX6_open_x55_e (rec9 : Int32 → Int32 → Option (Int32 × xF)) (v2 : Int32) (v4 : Int32) : fX6_open_x55 rec9 v2 v4 = rec9 v4 (v2 + 1) := rfl
def fX6_open_j47 (rec19 : Int32 → Int32 → Option (Int32 × xF)) (v5 : Int32) (v6 : Int32) (v8 : Int32) : Option (Int32 × xF) :=
  rec19 (v5 + v8) (v6 + 1)
theorem fX6_open_j47_e (rec19 : Int32 → Int32 → Option (Int32 × xF)) (v5 : Int32) (v6 : Int32) (v8 : Int32) : fX6_open_j47 rec19 v5 v6 v8 = rec19 (v5 + v8) (v6 + 1) := rfl
def fX6_open_j46 (rec19 : Int32 → Int32 → Option (Int32 × xF)) (v5 : Int32) (v6 : Int32)  : Option (Int32 × xF) :=
  (fX6_open_j47 rec19 v5 v6) 0
theorem fX6_open_j46_e (rec19 : Int32 → Int32 → Option (Int32 × xF)) (v5 : Int32) (v6 : Int32)  : fX6_open_j46 rec19 v5 v6 = (fX6_open_j47 rec19 v5 v6) 0 := rfl
def fX6_open_l19 (rec9 : Int32 → Int32 → Option (Int32 × xF)) (F : xF) (G : xG) (v2 : Int32) : Nat → Int32 → Int32 → Option (Int32 × xF)
  | 0, _, _ => none
  | n19 + 1, v5, v6 => (if (F 18) ≤ v6 then (fX6_open_x55 rec9 v2) v5 else (if v2 = v6 then (fX6_open_j46 (fX6_open_l19 rec9 F G v2 n19) v5 v6) else x_b1 (fX6_knownOf (va_up F 0 0) G v2 v6) (fun r11 => (if r11 = 0 then (fX6_open_j47 (fX6_open_l19 rec9 F G v2 n19) v5 v6) 1 else (fX6_open_j46 (fX6_open_l19 rec9 F G v2 n19) v5 v6)))))
theorem fX6_open_l19_z (rec9 : Int32 → Int32 → Option (Int32 × xF)) (F : xF) (G : xG) (v2 : Int32) (v5 : Int32) (v6 : Int32) : fX6_open_l19 rec9 F G v2 0 v5 v6 = none := rfl
theorem fX6_open_l19_e (rec9 : Int32 → Int32 → Option (Int32 × xF)) (F : xF) (G : xG) (v2 : Int32) (n19 : Nat) (v5 : Int32) (v6 : Int32) : fX6_open_l19 rec9 F G v2 (n19 + 1) v5 v6 = (if (F 18) ≤ v6 then (fX6_open_x55 rec9 v2) v5 else (if v2 = v6 then (fX6_open_j46 (fX6_open_l19 rec9 F G v2 n19) v5 v6) else x_b1 (fX6_knownOf (va_up F 0 0) G v2 v6) (fun r11 => (if r11 = 0 then (fX6_open_j47 (fX6_open_l19 rec9 F G v2 n19) v5 v6) 1 else (fX6_open_j46 (fX6_open_l19 rec9 F G v2 n19) v5 v6))))) := rfl
def fX6_open_l9 (F : xF) (G : xG) : Nat → Int32 → Int32 → Option (Int32 × xF)
  | 0, _, _ => none
  | n9 + 1, v1, v2 => (if (F 18) ≤ v2 then some (v1, (va_up F 0 0)) else (fX6_open_l19 (fX6_open_l9 F G n9) F G v2 4096) v1 0)
theorem fX6_open_l9_z (F : xF) (G : xG) (v1 : Int32) (v2 : Int32) : fX6_open_l9 F G 0 v1 v2 = none := rfl
theorem fX6_open_l9_e (F : xF) (G : xG) (n9 : Nat) (v1 : Int32) (v2 : Int32) : fX6_open_l9 F G (n9 + 1) v1 v2 = (if (F 18) ≤ v2 then some (v1, (va_up F 0 0)) else (fX6_open_l19 (fX6_open_l9 F G n9) F G v2 4096) v1 0) := rfl
def fX6_open (F : xF) (G : xG) : Option (Int32 × xF) :=
  (fX6_open_l9 F G 4096) 0 0
theorem fX6_open_e (F : xF) (G : xG) : fX6_open F G = (fX6_open_l9 F G 4096) 0 0 := rfl
def rmX6_open : Room := { frames := 4, cells := 0, slots := 0, locals := 92 }
def fX6_bits_l4 (p1 : Int32) : Nat → Int32 → Int32 → Option (Int32)
  | 0, _, _ => none
  | n4 + 1, v1, v2 => (if 10 ≤ v2 then some (v1) else (fX6_bits_l4 p1 n4) (v1 + ((x_shr p1 v2) &&& 1)) (v2 + 1))
theorem fX6_bits_l4_z (p1 : Int32) (v1 : Int32) (v2 : Int32) : fX6_bits_l4 p1 0 v1 v2 = none := rfl
theorem fX6_bits_l4_e (p1 : Int32) (n4 : Nat) (v1 : Int32) (v2 : Int32) : fX6_bits_l4 p1 (n4 + 1) v1 v2 = (if 10 ≤ v2 then some (v1) else (fX6_bits_l4 p1 n4) (v1 + ((x_shr p1 v2) &&& 1)) (v2 + 1)) := rfl
def fX6_bits (p1 : Int32) : Option (Int32) :=
  (fX6_bits_l4 p1 4096) 0 0
theorem fX6_bits_e (p1 : Int32) : fX6_bits p1 = (fX6_bits_l4 p1 4096) 0 0 := rfl
def rmX6_bits : Room := { frames := 0, cells := 0, slots := 0, locals := 0 }
def fX6_leastOf_j109 (rec42 : Int32 → Int32 → Option (Int32 × xF)) (v9 : Int32) (v12 : Int32) : Option (Int32 × xF) :=
  rec42 v12 (v9 + 1)
theorem fX6_leastOf_j109_e (rec42 : Int32 → Int32 → Option (Int32 × xF)) (v9 : Int32) (v12 : Int32) : fX6_leastOf_j109 rec42 v9 v12 = rec42 v12 (v9 + 1) := rfl
def fX6_leastOf_j107 (rec42 : Int32 → Int32 → Option (Int32 × xF)) (v9 : Int32) (v8 : Int32)  : Option (Int32 × xF) :=
  (fX6_leastOf_j109 rec42 v9) v8
theorem fX6_leastOf_j107_e (rec42 : Int32 → Int32 → Option (Int32 × xF)) (v9 : Int32) (v8 : Int32)  : fX6_leastOf_j107 rec42 v9 v8 = (fX6_leastOf_j109 rec42 v9) v8 := rfl
def fX6_leastOf_j81 (rec42 : Int32 → Int32 → Option (Int32 × xF)) (F6 : xF) (G : xG) (v9 : Int32) (v8 : Int32) (p1 : Int32) (v11 : Int32) : Option (Int32 × xF) :=
  (if v11 = 0 then (fX6_leastOf_j107 rec42 v9 v8) else x_b1 (fX6_closed F6 G v9) (fun r15 => (if ((x_shr r15 p1) &&& 1) = 1 then (fX6_leastOf_j109 rec42 v9) v9 else (fX6_leastOf_j107 rec42 v9 v8))))
theorem fX6_leastOf_j81_e (rec42 : Int32 → Int32 → Option (Int32 × xF)) (F6 : xF) (G : xG) (v9 : Int32) (v8 : Int32) (p1 : Int32) (v11 : Int32) : fX6_leastOf_j81 rec42 F6 G v9 v8 p1 v11 = (if v11 = 0 then (fX6_leastOf_j107 rec42 v9 v8) else x_b1 (fX6_closed F6 G v9) (fun r15 => (if ((x_shr r15 p1) &&& 1) = 1 then (fX6_leastOf_j109 rec42 v9) v9 else (fX6_leastOf_j107 rec42 v9 v8)))) := rfl
def fX6_leastOf_j80 (rec42 : Int32 → Int32 → Option (Int32 × xF)) (F6 : xF) (G : xG) (v9 : Int32) (v8 : Int32) (p1 : Int32)  : Option (Int32 × xF) :=
  (fX6_leastOf_j81 rec42 F6 G v9 v8 p1) 0
theorem fX6_leastOf_j80_e (rec42 : Int32 → Int32 → Option (Int32 × xF)) (F6 : xF) (G : xG) (v9 : Int32) (v8 : Int32) (p1 : Int32)  : fX6_leastOf_j80 rec42 F6 G v9 v8 p1 = (fX6_leastOf_j81 rec42 F6 G v9 v8 p1) 0 := rfl
def fX6_leastOf_j76 (rec42 : Int32 → Int32 → Option (Int32 × xF)) (F6 : xF) (G : xG) (v9 : Int32) (v8 : Int32) (p1 : Int32)  : Option (Int32 × xF) :=
  (fX6_leastOf_j81 rec42 F6 G v9 v8 p1) 1
theorem fX6_leastOf_j76_e (rec42 : Int32 → Int32 → Option (Int32 × xF)) (F6 : xF) (G : xG) (v9 : Int32) (v8 : Int32) (p1 : Int32)  : fX6_leastOf_j76 rec42 F6 G v9 v8 p1 = (fX6_leastOf_j81 rec42 F6 G v9 v8 p1) 1 := rfl
def fX6_leastOf_l42 (F6 : xF) (G : xG) (p2 : Int32) (p1 : Int32) : Nat → Int32 → Int32 → Option (Int32 × xF)
  | 0, _, _ => none
  | n42 + 1, v8, v9 => (if p2 < v9 then some (v8, F6) else (if (v9 &&& (p2 ^^^ (-1))) = 0 then (if v8 = (-1) then (fX6_leastOf_j76 (fX6_leastOf_l42 F6 G p2 p1 n42) F6 G v9 v8 p1) else x_b1 (fX6_bits v9) (fun r20 => x_b1 (fX6_bits v8) (fun r22 => (if r22 ≤ r20 then (fX6_leastOf_j80 (fX6_leastOf_l42 F6 G p2 p1 n42) F6 G v9 v8 p1) else (fX6_leastOf_j76 (fX6_leastOf_l42 F6 G p2 p1 n42) F6 G v9 v8 p1))))) else (fX6_leastOf_j80 (fX6_leastOf_l42 F6 G p2 p1 n42) F6 G v9 v8 p1)))
theorem fX6_leastOf_l42_z (F6 : xF) (G : xG) (p2 : Int32) (p1 : Int32) (v8 : Int32) (v9 : Int32) : fX6_leastOf_l42 F6 G p2 p1 0 v8 v9 = none := rfl
theorem fX6_leastOf_l42_e (F6 : xF) (G : xG) (p2 : Int32) (p1 : Int32) (n42 : Nat) (v8 : Int32) (v9 : Int32) : fX6_leastOf_l42 F6 G p2 p1 (n42 + 1) v8 v9 = (if p2 < v9 then some (v8, F6) else (if (v9 &&& (p2 ^^^ (-1))) = 0 then (if v8 = (-1) then (fX6_leastOf_j76 (fX6_leastOf_l42 F6 G p2 p1 n42) F6 G v9 v8 p1) else x_b1 (fX6_bits v9) (fun r20 => x_b1 (fX6_bits v8) (fun r22 => (if r22 ≤ r20 then (fX6_leastOf_j80 (fX6_leastOf_l42 F6 G p2 p1 n42) F6 G v9 v8 p1) else (fX6_leastOf_j76 (fX6_leastOf_l42 F6 G p2 p1 n42) F6 G v9 v8 p1))))) else (fX6_leastOf_j80 (fX6_leastOf_l42 F6 G p2 p1 n42) F6 G v9 v8 p1))) := rfl
def fX6_leastOf_j28 (F : xF) (G : xG) (p2 : Int32) (p1 : Int32) (v3 : Int32) : Option (Int32 × xF) :=
  x_b2 (fX6_goesWell F v3) (fun r5 F6 => (if r5 = 0 then some (0, F6) else (fX6_leastOf_l42 F6 G p2 p1 4096) (-1) 0))
theorem fX6_leastOf_j28_e (F : xF) (G : xG) (p2 : Int32) (p1 : Int32) (v3 : Int32) : fX6_leastOf_j28 F G p2 p1 v3 = x_b2 (fX6_goesWell F v3) (fun r5 F6 => (if r5 = 0 then some (0, F6) else (fX6_leastOf_l42 F6 G p2 p1 4096) (-1) 0)) := rfl
def fX6_leastOf (F : xF) (G : xG) (p1 : Int32) (p2 : Int32) : Option (Int32 × xF) :=
  x_b1 (fX6_isPrinciple F p1) (fun r2 => (if r2 = 0 then (fX6_leastOf_j28 F G p2 p1) 1 else x_b1 (fX6_isSet F p2) (fun r26 => (if r26 = 0 then (fX6_leastOf_j28 F G p2 p1) 2 else (fX6_leastOf_j28 F G p2 p1) 0))))
theorem fX6_leastOf_e (F : xF) (G : xG) (p1 : Int32) (p2 : Int32) : fX6_leastOf F G p1 p2 = x_b1 (fX6_isPrinciple F p1) (fun r2 => (if r2 = 0 then (fX6_leastOf_j28 F G p2 p1) 1 else x_b1 (fX6_isSet F p2) (fun r26 => (if r26 = 0 then (fX6_leastOf_j28 F G p2 p1) 2 else (fX6_leastOf_j28 F G p2 p1) 0)))) := rfl
def rmX6_leastOf : Room := { frames := 3, cells := 0, slots := 0, locals := 68 }
def fX6_least (F : xF) (G : xG) (p1 : Int32) (p2 : Int32) : Option (Int32 × xF) :=
  x_b2 (fX6_leastOf F G p1 p2) (fun r2 F3 => some (r2, F3))
theorem fX6_least_e (F : xF) (G : xG) (p1 : Int32) (p2 : Int32) : fX6_least F G p1 p2 = x_b2 (fX6_leastOf F G p1 p2) (fun r2 F3 => some (r2, F3)) := rfl
def rmX6_least : Room := { frames := 4, cells := 0, slots := 0, locals := 94 }
def fX6_leastAnew (F : xF) (G : xG) (p1 : Int32) (p2 : Int32) : Option (Int32 × xF) :=
  x_b2 (fX6_leastOf F G p1 p2) (fun r2 F3 => some (r2, F3))
theorem fX6_leastAnew_e (F : xF) (G : xG) (p1 : Int32) (p2 : Int32) : fX6_leastAnew F G p1 p2 = x_b2 (fX6_leastOf F G p1 p2) (fun r2 F3 => some (r2, F3)) := rfl
def rmX6_leastAnew : Room := { frames := 4, cells := 0, slots := 0, locals := 94 }
def fX6_ofPrinciple_x116 (G : xG) (F6 : xF) (p2 : Int32) (p1 : Int32) (v8 : Int32) (v9 : Int32) : Option (Int32 × xF) :=
  (if p2 = 0 then x_ld p1 10 (some (((G 19) p1.toNatClampNeg), F6)) else (if p2 = 1 then x_ld p1 10 (some (((G 20) p1.toNatClampNeg), F6)) else (if p2 = 2 then some (v8, F6) else some (v9, F6))))
theorem fX6_ofPrinciple_x116_e (G : xG) (F6 : xF) (p2 : Int32) (p1 : Int32) (v8 : Int32) (v9 : Int32) : fX6_ofPrinciple_x116 G F6 p2 p1 v8 v9 = (if p2 = 0 then x_ld p1 10 (some (((G 19) p1.toNatClampNeg), F6)) else (if p2 = 1 then x_ld p1 10 (some (((G 20) p1.toNatClampNeg), F6)) else (if p2 = 2 then some (v8, F6) else some (v9, F6)))) := rfl
def fX6_ofPrinciple_l85 (F6 : xF) (G : xG) (p2 : Int32) (p1 : Int32) (v8 : Int32) : Nat → Int32 → Int32 → Option (Int32 × xF)
  | 0, _, _ => none
  | n85 + 1, v15, v16 => (if (F6 24) ≤ v16 then (fX6_ofPrinciple_x116 G F6 p2 p1 v8) v15 else x_ld v16 10 ((fX6_ofPrinciple_l85 F6 G p2 p1 v8 n85) (v15 + ((x_shr ((G 25) v16.toNatClampNeg) p1) &&& 1)) (v16 + 1)))
theorem fX6_ofPrinciple_l85_z (F6 : xF) (G : xG) (p2 : Int32) (p1 : Int32) (v8 : Int32) (v15 : Int32) (v16 : Int32) : fX6_ofPrinciple_l85 F6 G p2 p1 v8 0 v15 v16 = none := rfl
theorem fX6_ofPrinciple_l85_e (F6 : xF) (G : xG) (p2 : Int32) (p1 : Int32) (v8 : Int32) (n85 : Nat) (v15 : Int32) (v16 : Int32) : fX6_ofPrinciple_l85 F6 G p2 p1 v8 (n85 + 1) v15 v16 = (if (F6 24) ≤ v16 then (fX6_ofPrinciple_x116 G F6 p2 p1 v8) v15 else x_ld v16 10 ((fX6_ofPrinciple_l85 F6 G p2 p1 v8 n85) (v15 + ((x_shr ((G 25) v16.toNatClampNeg) p1) &&& 1)) (v16 + 1))) := rfl
def fX6_ofPrinciple_x79 (F6 : xF) (G : xG) (p2 : Int32) (p1 : Int32) (v8 : Int32) : Option (Int32 × xF) :=
  (fX6_ofPrinciple_l85 F6 G p2 p1 v8 4096) 0 0
theorem fX6_ofPrinciple_x79_e (F6 : xF) (G : xG) (p2 : Int32) (p1 : Int32) (v8 : Int32) : fX6_ofPrinciple_x79 F6 G p2 p1 v8 = (fX6_ofPrinciple_l85 F6 G p2 p1 v8 4096) 0 0 := rfl
def fX6_ofPrinciple_j70 (rec43 : Int32 → Int32 → Option (Int32 × xF)) (v19 : Int32) (v20 : Int32) (v23 : Int32) : Option (Int32 × xF) :=
  rec43 (v19 + v23) (v20 + 1)
theorem fX6_ofPrinciple_j70_e (rec43 : Int32 → Int32 → Option (Int32 × xF)) (v19 : Int32) (v20 : Int32) (v23 : Int32) : fX6_ofPrinciple_j70 rec43 v19 v20 v23 = rec43 (v19 + v23) (v20 + 1) := rfl
def fX6_ofPrinciple_l43 (F6 : xF) (G : xG) (p2 : Int32) (p1 : Int32) : Nat → Int32 → Int32 → Option (Int32 × xF)
  | 0, _, _ => none
  | n43 + 1, v19, v20 => (if (F6 21) ≤ v20 then (fX6_ofPrinciple_x79 F6 G p2 p1) v19 else x_ld v20 30 ((if ((G 23) v20.toNatClampNeg) = p1 then (fX6_ofPrinciple_j70 (fX6_ofPrinciple_l43 F6 G p2 p1 n43) v19 v20) 1 else (fX6_ofPrinciple_j70 (fX6_ofPrinciple_l43 F6 G p2 p1 n43) v19 v20) 0)))
theorem fX6_ofPrinciple_l43_z (F6 : xF) (G : xG) (p2 : Int32) (p1 : Int32) (v19 : Int32) (v20 : Int32) : fX6_ofPrinciple_l43 F6 G p2 p1 0 v19 v20 = none := rfl
theorem fX6_ofPrinciple_l43_e (F6 : xF) (G : xG) (p2 : Int32) (p1 : Int32) (n43 : Nat) (v19 : Int32) (v20 : Int32) : fX6_ofPrinciple_l43 F6 G p2 p1 (n43 + 1) v19 v20 = (if (F6 21) ≤ v20 then (fX6_ofPrinciple_x79 F6 G p2 p1) v19 else x_ld v20 30 ((if ((G 23) v20.toNatClampNeg) = p1 then (fX6_ofPrinciple_j70 (fX6_ofPrinciple_l43 F6 G p2 p1 n43) v19 v20) 1 else (fX6_ofPrinciple_j70 (fX6_ofPrinciple_l43 F6 G p2 p1 n43) v19 v20) 0))) := rfl
def fX6_ofPrinciple_j29 (F : xF) (G : xG) (p2 : Int32) (p1 : Int32) (v3 : Int32) : Option (Int32 × xF) :=
  x_b2 (fX6_goesWell F v3) (fun r5 F6 => (if r5 = 0 then some (0, F6) else (fX6_ofPrinciple_l43 F6 G p2 p1 4096) 0 0))
theorem fX6_ofPrinciple_j29_e (F : xF) (G : xG) (p2 : Int32) (p1 : Int32) (v3 : Int32) : fX6_ofPrinciple_j29 F G p2 p1 v3 = x_b2 (fX6_goesWell F v3) (fun r5 F6 => (if r5 = 0 then some (0, F6) else (fX6_ofPrinciple_l43 F6 G p2 p1 4096) 0 0)) := rfl
def fX6_ofPrinciple (F : xF) (G : xG) (p1 : Int32) (p2 : Int32) : Option (Int32 × xF) :=
  x_b1 (fX6_isPrinciple F p1) (fun r2 => (if r2 = 0 then (fX6_ofPrinciple_j29 F G p2 p1) 1 else x_b1 (fX6_in p2 0 3) (fun r27 => (if r27 = 0 then (fX6_ofPrinciple_j29 F G p2 p1) 2 else (fX6_ofPrinciple_j29 F G p2 p1) 0))))
theorem fX6_ofPrinciple_e (F : xF) (G : xG) (p1 : Int32) (p2 : Int32) : fX6_ofPrinciple F G p1 p2 = x_b1 (fX6_isPrinciple F p1) (fun r2 => (if r2 = 0 then (fX6_ofPrinciple_j29 F G p2 p1) 1 else x_b1 (fX6_in p2 0 3) (fun r27 => (if r27 = 0 then (fX6_ofPrinciple_j29 F G p2 p1) 2 else (fX6_ofPrinciple_j29 F G p2 p1) 0)))) := rfl
def rmX6_ofPrinciple : Room := { frames := 2, cells := 0, slots := 0, locals := 43 }
def fX6_isProblem (F : xF) (p1 : Int32) : Option (Int32) :=
  x_b1 (fX6_in p1 0 ((F 27) - 1)) (fun r2 => some (x_zn r2))
theorem fX6_isProblem_e (F : xF) (p1 : Int32) : fX6_isProblem F p1 = x_b1 (fX6_in p1 0 ((F 27) - 1)) (fun r2 => some (x_zn r2)) := rfl
def rmX6_isProblem : Room := { frames := 1, cells := 0, slots := 0, locals := 22 }
def fX6_isSolved (p1 : Int32) (p2 : Int32) (p3 : Int32) : Option (Int32) :=
  (if ((x_shr p1 ((4 * p2) + p3)) &&& 1) = 1 then some (1) else some (0))
theorem fX6_isSolved_e (p1 : Int32) (p2 : Int32) (p3 : Int32) : fX6_isSolved p1 p2 p3 = (if ((x_shr p1 ((4 * p2) + p3)) &&& 1) = 1 then some (1) else some (0)) := rfl
def rmX6_isSolved : Room := { frames := 0, cells := 0, slots := 0, locals := 0 }
def fX6_areAnswers_x92  (v1 : Int32) (v2 : Int32) : Option (Int32) :=
  (if v2 = 0 then some (0) else (if v1 = 0 then some (1) else some (0)))
theorem fX6_areAnswers_x92_e  (v1 : Int32) (v2 : Int32) : fX6_areAnswers_x92 v1 v2 = (if v2 = 0 then some (0) else (if v1 = 0 then some (1) else some (0))) := rfl
def fX6_areAnswers_j84 (rec8 : Int32 → Int32 → Int32 → Option (Int32)) (v9 : Int32) (v7 : Int32) (v11 : Int32) : Option (Int32) :=
  rec8 v9 v11 (v7 + 1)
theorem fX6_areAnswers_j84_e (rec8 : Int32 → Int32 → Int32 → Option (Int32)) (v9 : Int32) (v7 : Int32) (v11 : Int32) : fX6_areAnswers_j84 rec8 v9 v7 v11 = rec8 v9 v11 (v7 + 1) := rfl
def fX6_areAnswers_j83 (rec8 : Int32 → Int32 → Int32 → Option (Int32)) (v9 : Int32) (v7 : Int32)  : Option (Int32) :=
  (fX6_areAnswers_j84 rec8 v9 v7) 0
theorem fX6_areAnswers_j83_e (rec8 : Int32 → Int32 → Int32 → Option (Int32)) (v9 : Int32) (v7 : Int32)  : fX6_areAnswers_j83 rec8 v9 v7 = (fX6_areAnswers_j84 rec8 v9 v7) 0 := rfl
def fX6_areAnswers_x69 (rec8 : Int32 → Int32 → Int32 → Option (Int32)) (v6 : Int32) (v7 : Int32) (v9 : Int32) (v10 : Int32) : Option (Int32) :=
  (if v6 = 0 then (fX6_areAnswers_j83 rec8 v9 v7) else (if v10 = 0 then (fX6_areAnswers_j83 rec8 v9 v7) else (fX6_areAnswers_j84 rec8 v9 v7) 1))
theorem fX6_areAnswers_x69_e (rec8 : Int32 → Int32 → Int32 → Option (Int32)) (v6 : Int32) (v7 : Int32) (v9 : Int32) (v10 : Int32) : fX6_areAnswers_x69 rec8 v6 v7 v9 v10 = (if v6 = 0 then (fX6_areAnswers_j83 rec8 v9 v7) else (if v10 = 0 then (fX6_areAnswers_j83 rec8 v9 v7) else (fX6_areAnswers_j84 rec8 v9 v7) 1)) := rfl
def fX6_areAnswers_j47 (rec20 : Int32 → Int32 → Int32 → Option (Int32)) (v14 : Int32) (v7 : Int32) (v16 : Int32) (v18 : Int32) : Option (Int32) :=
  rec20 (v14 &&& ((x_shl 1 ((4 * v7) + v16)) ^^^ (-1))) v18 (v16 + 1)
theorem fX6_areAnswers_j47_e (rec20 : Int32 → Int32 → Int32 → Option (Int32)) (v14 : Int32) (v7 : Int32) (v16 : Int32) (v18 : Int32) : fX6_areAnswers_j47 rec20 v14 v7 v16 v18 = rec20 (v14 &&& ((x_shl 1 ((4 * v7) + v16)) ^^^ (-1))) v18 (v16 + 1) := rfl
def fX6_areAnswers_j42 (rec20 : Int32 → Int32 → Int32 → Option (Int32)) (v14 : Int32) (v7 : Int32) (v16 : Int32)  : Option (Int32) :=
  (fX6_areAnswers_j47 rec20 v14 v7 v16) 1
theorem fX6_areAnswers_j42_e (rec20 : Int32 → Int32 → Int32 → Option (Int32)) (v14 : Int32) (v7 : Int32) (v16 : Int32)  : fX6_areAnswers_j42 rec20 v14 v7 v16 = (fX6_areAnswers_j47 rec20 v14 v7 v16) 1 := rfl
def fX6_areAnswers_l20 (rec8 : Int32 → Int32 → Int32 → Option (Int32)) (p3 : Int32) (v6 : Int32) (v7 : Int32) (p1 : Int32) : Nat → Int32 → Int32 → Int32 → Option (Int32)
  | 0, _, _, _ => none
  | n20 + 1, v14, v15, v16 => (if p3 ≤ v16 then (fX6_areAnswers_x69 rec8 v6 v7) v14 v15 else (if v15 = 0 then x_b1 (fX6_isSolved p1 v7 v16) (fun r21 => (if r21 = 0 then (fX6_areAnswers_j47 (fX6_areAnswers_l20 rec8 p3 v6 v7 p1 n20) v14 v7 v16) 0 else (fX6_areAnswers_j42 (fX6_areAnswers_l20 rec8 p3 v6 v7 p1 n20) v14 v7 v16))) else (fX6_areAnswers_j42 (fX6_areAnswers_l20 rec8 p3 v6 v7 p1 n20) v14 v7 v16)))
theorem fX6_areAnswers_l20_z (rec8 : Int32 → Int32 → Int32 → Option (Int32)) (p3 : Int32) (v6 : Int32) (v7 : Int32) (p1 : Int32) (v14 : Int32) (v15 : Int32) (v16 : Int32) : fX6_areAnswers_l20 rec8 p3 v6 v7 p1 0 v14 v15 v16 = none := rfl
theorem fX6_areAnswers_l20_e (rec8 : Int32 → Int32 → Int32 → Option (Int32)) (p3 : Int32) (v6 : Int32) (v7 : Int32) (p1 : Int32) (n20 : Nat) (v14 : Int32) (v15 : Int32) (v16 : Int32) : fX6_areAnswers_l20 rec8 p3 v6 v7 p1 (n20 + 1) v14 v15 v16 = (if p3 ≤ v16 then (fX6_areAnswers_x69 rec8 v6 v7) v14 v15 else (if v15 = 0 then x_b1 (fX6_isSolved p1 v7 v16) (fun r21 => (if r21 = 0 then (fX6_areAnswers_j47 (fX6_areAnswers_l20 rec8 p3 v6 v7 p1 n20) v14 v7 v16) 0 else (fX6_areAnswers_j42 (fX6_areAnswers_l20 rec8 p3 v6 v7 p1 n20) v14 v7 v16))) else (fX6_areAnswers_j42 (fX6_areAnswers_l20 rec8 p3 v6 v7 p1 n20) v14 v7 v16))) := rfl
def fX6_areAnswers_l8 (p2 : Int32) (p3 : Int32) (p1 : Int32) : Nat → Int32 → Int32 → Int32 → Option (Int32)
  | 0, _, _, _ => none
  | n8 + 1, v5, v6, v7 => (if p2 ≤ v7 then fX6_areAnswers_x92 v5 v6 else (fX6_areAnswers_l20 (fX6_areAnswers_l8 p2 p3 p1 n8) p3 v6 v7 p1 4096) v5 0 0)
theorem fX6_areAnswers_l8_z (p2 : Int32) (p3 : Int32) (p1 : Int32) (v5 : Int32) (v6 : Int32) (v7 : Int32) : fX6_areAnswers_l8 p2 p3 p1 0 v5 v6 v7 = none := rfl
theorem fX6_areAnswers_l8_e (p2 : Int32) (p3 : Int32) (p1 : Int32) (n8 : Nat) (v5 : Int32) (v6 : Int32) (v7 : Int32) : fX6_areAnswers_l8 p2 p3 p1 (n8 + 1) v5 v6 v7 = (if p2 ≤ v7 then fX6_areAnswers_x92 v5 v6 else (fX6_areAnswers_l20 (fX6_areAnswers_l8 p2 p3 p1 n8) p3 v6 v7 p1 4096) v5 0 0) := rfl
def fX6_areAnswers (p1 : Int32) (p2 : Int32) (p3 : Int32) : Option (Int32) :=
  (fX6_areAnswers_l8 p2 p3 p1 4096) p1 1 0
theorem fX6_areAnswers_e (p1 : Int32) (p2 : Int32) (p3 : Int32) : fX6_areAnswers p1 p2 p3 = (fX6_areAnswers_l8 p2 p3 p1 4096) p1 1 0 := rfl
def rmX6_areAnswers : Room := { frames := 1, cells := 0, slots := 0, locals := 22 }
def fX6_addProblem (F : xF) (G : xG) (p1 : Int32) (p2 : Int32) (p3 : Int32) : Option (Int32 × xF × xG) :=
  x_ld (F 27) 6 (x_ld (F 27) 6 (x_ld (F 27) 6 (some ((((F 27) + 1) - 1), (va_up F 27 ((F 27) + 1)), (va_up (va_up (va_up G 28 (upd (G 28) (F 27).toNatClampNeg p1)) 29 (upd (G 29) (F 27).toNatClampNeg p2)) 30 (upd (G 30) (F 27).toNatClampNeg p3))))))
theorem fX6_addProblem_e (F : xF) (G : xG) (p1 : Int32) (p2 : Int32) (p3 : Int32) : fX6_addProblem F G p1 p2 p3 = x_ld (F 27) 6 (x_ld (F 27) 6 (x_ld (F 27) 6 (some ((((F 27) + 1) - 1), (va_up F 27 ((F 27) + 1)), (va_up (va_up (va_up G 28 (upd (G 28) (F 27).toNatClampNeg p1)) 29 (upd (G 29) (F 27).toNatClampNeg p2)) 30 (upd (G 30) (F 27).toNatClampNeg p3)))))) := rfl
def rmX6_addProblem : Room := { frames := 0, cells := 0, slots := 0, locals := 0 }
def fX6_problem_j58 (F : xF) (G : xG) (p1 : Int32) (p2 : Int32) (p3 : Int32) (v4 : Int32) : Option (Int32 × xF × xG) :=
  x_b2 (fX6_goesWell F v4) (fun r6 F7 => (if r6 = 0 then some (0, F7, G) else x_b3 (fX6_addProblem F7 G p1 p2 p3) (fun r10 F11 G12 => some (r10, F11, G12))))
theorem fX6_problem_j58_e (F : xF) (G : xG) (p1 : Int32) (p2 : Int32) (p3 : Int32) (v4 : Int32) : fX6_problem_j58 F G p1 p2 p3 v4 = x_b2 (fX6_goesWell F v4) (fun r6 F7 => (if r6 = 0 then some (0, F7, G) else x_b3 (fX6_addProblem F7 G p1 p2 p3) (fun r10 F11 G12 => some (r10, F11, G12)))) := rfl
def fX6_problem_j32 (F : xF) (G : xG) (p1 : Int32) (p2 : Int32) (p3 : Int32) (v3 : Int32) : Option (Int32 × xF × xG) :=
  (if v3 = 0 then (fX6_problem_j58 F G p1 p2 p3) 1 else (if (F 27) = 6 then (fX6_problem_j58 F G p1 p2 p3) 2 else (fX6_problem_j58 F G p1 p2 p3) 0))
theorem fX6_problem_j32_e (F : xF) (G : xG) (p1 : Int32) (p2 : Int32) (p3 : Int32) (v3 : Int32) : fX6_problem_j32 F G p1 p2 p3 v3 = (if v3 = 0 then (fX6_problem_j58 F G p1 p2 p3) 1 else (if (F 27) = 6 then (fX6_problem_j58 F G p1 p2 p3) 2 else (fX6_problem_j58 F G p1 p2 p3) 0)) := rfl
def fX6_problem_j31 (F : xF) (G : xG) (p1 : Int32) (p2 : Int32) (p3 : Int32)  : Option (Int32 × xF × xG) :=
  (fX6_problem_j32 F G p1 p2 p3) 0
theorem fX6_problem_j31_e (F : xF) (G : xG) (p1 : Int32) (p2 : Int32) (p3 : Int32)  : fX6_problem_j31 F G p1 p2 p3 = (fX6_problem_j32 F G p1 p2 p3) 0 := rfl
def fX6_problem (F : xF) (G : xG) (p1 : Int32) (p2 : Int32) (p3 : Int32) : Option (Int32 × xF × xG) :=
  x_b1 (fX6_in p1 1 4) (fun r2 => (if r2 = 0 then (fX6_problem_j31 F G p1 p2 p3) else x_b1 (fX6_in p2 1 4) (fun r17 => (if r17 = 0 then (fX6_problem_j31 F G p1 p2 p3) else x_b1 (fX6_areAnswers p3 p1 p2) (fun r20 => (if r20 = 0 then (fX6_problem_j31 F G p1 p2 p3) else (fX6_problem_j32 F G p1 p2 p3) 1))))))
theorem fX6_problem_e (F : xF) (G : xG) (p1 : Int32) (p2 : Int32) (p3 : Int32) : fX6_problem F G p1 p2 p3 = x_b1 (fX6_in p1 1 4) (fun r2 => (if r2 = 0 then (fX6_problem_j31 F G p1 p2 p3) else x_b1 (fX6_in p2 1 4) (fun r17 => (if r17 = 0 then (fX6_problem_j31 F G p1 p2 p3) else x_b1 (fX6_areAnswers p3 p1 p2) (fun r20 => (if r20 = 0 then (fX6_problem_j31 F G p1 p2 p3) else (fX6_problem_j32 F G p1 p2 p3) 1)))))) := rfl
def rmX6_problem : Room := { frames := 2, cells := 0, slots := 0, locals := 49 }
def fX6_product_x254 (F8 : xF) (G : xG) (p1 : Int32) (p2 : Int32) (v14 : Int32) : Option (Int32 × xF × xG) :=
  x_b3 (fX6_addProblem F8 G (((G 28) p1.toNatClampNeg) * ((G 28) p2.toNatClampNeg)) (((G 29) p1.toNatClampNeg) * ((G 29) p2.toNatClampNeg)) v14) (fun r16 F17 G18 => some (r16, F17, G18))
theorem fX6_product_x254_e (F8 : xF) (G : xG) (p1 : Int32) (p2 : Int32) (v14 : Int32) : fX6_product_x254 F8 G p1 p2 v14 = x_b3 (fX6_addProblem F8 G (((G 28) p1.toNatClampNeg) * ((G 28) p2.toNatClampNeg)) (((G 29) p1.toNatClampNeg) * ((G 29) p2.toNatClampNeg)) v14) (fun r16 F17 G18 => some (r16, F17, G18)) := rfl
def fX6_product_x248 (rec139 : Int32 → Int32 → Option (Int32 × xF × xG)) (v20 : Int32) (v22 : Int32) : Option (Int32 × xF × xG) :=
  rec139 v22 (v20 + 1)
theorem fX6_product_x248_e (rec139 : Int32 → Int32 → Option (Int32 × xF × xG)) (v20 : Int32) (v22 : Int32) : fX6_product_x248 rec139 v20 v22 = rec139 v22 (v20 + 1) := rfl
def fX6_product_j239 (rec149 : Int32 → Int32 → Option (Int32 × xF × xG)) (v23 : Int32) (v24 : Int32) (v40 : Int32) : Option (Int32 × xF × xG) :=
  rec149 (v23 ||| v40) (v24 + 1)
theorem fX6_product_j239_e (rec149 : Int32 → Int32 → Option (Int32 × xF × xG)) (v23 : Int32) (v24 : Int32) (v40 : Int32) : fX6_product_j239 rec149 v23 v24 v40 = rec149 (v23 ||| v40) (v24 + 1) := rfl
def fX6_product_j238 (rec149 : Int32 → Int32 → Option (Int32 × xF × xG)) (v23 : Int32) (v24 : Int32)  : Option (Int32 × xF × xG) :=
  (fX6_product_j239 rec149 v23 v24) 0
theorem fX6_product_j238_e (rec149 : Int32 → Int32 → Option (Int32 × xF × xG)) (v23 : Int32) (v24 : Int32)  : fX6_product_j238 rec149 v23 v24 = (fX6_product_j239 rec149 v23 v24) 0 := rfl
def fX6_product_l149 (rec139 : Int32 → Int32 → Option (Int32 × xF × xG)) (G : xG) (p1 : Int32) (p2 : Int32) (v20 : Int32) : Nat → Int32 → Int32 → Option (Int32 × xF × xG)
  | 0, _, _ => none
  | n149 + 1, v23, v24 => (if (((G 29) p1.toNatClampNeg) * ((G 29) p2.toNatClampNeg)) ≤ v24 then (fX6_product_x248 rec139 v20) v23 else x_ld p1 6 (x_ld p2 6 (x_dv ((G 28) p2.toNatClampNeg) (x_ld p2 6 (x_dv ((G 29) p2.toNatClampNeg) (x_b1 (fX6_isSolved ((G 30) p1.toNatClampNeg) (v20 / ((G 28) p2.toNatClampNeg)) (v24 / ((G 29) p2.toNatClampNeg))) (fun r32 => x_ld p2 6 (x_ld p2 6 (x_dv ((G 28) p2.toNatClampNeg) (x_ld p2 6 (x_dv ((G 29) p2.toNatClampNeg) (x_b1 (fX6_isSolved ((G 30) p2.toNatClampNeg) (x_rem v20 ((G 28) p2.toNatClampNeg)) (x_rem v24 ((G 29) p2.toNatClampNeg))) (fun r39 => (if r32 = 0 then (fX6_product_j238 (fX6_product_l149 rec139 G p1 p2 v20 n149) v23 v24) else (if r39 = 0 then (fX6_product_j238 (fX6_product_l149 rec139 G p1 p2 v20 n149) v23 v24) else (fX6_product_j239 (fX6_product_l149 rec139 G p1 p2 v20 n149) v23 v24) (x_shl 1 ((4 * v20) + v24)))))))))))))))))
theorem fX6_product_l149_z (rec139 : Int32 → Int32 → Option (Int32 × xF × xG)) (G : xG) (p1 : Int32) (p2 : Int32) (v20 : Int32) (v23 : Int32) (v24 : Int32) : fX6_product_l149 rec139 G p1 p2 v20 0 v23 v24 = none := rfl
theorem fX6_product_l149_e (rec139 : Int32 → Int32 → Option (Int32 × xF × xG)) (G : xG) (p1 : Int32) (p2 : Int32) (v20 : Int32) (n149 : Nat) (v23 : Int32) (v24 : Int32) : fX6_product_l149 rec139 G p1 p2 v20 (n149 + 1) v23 v24 = (if (((G 29) p1.toNatClampNeg) * ((G 29) p2.toNatClampNeg)) ≤ v24 then (fX6_product_x248 rec139 v20) v23 else x_ld p1 6 (x_ld p2 6 (x_dv ((G 28) p2.toNatClampNeg) (x_ld p2 6 (x_dv ((G 29) p2.toNatClampNeg) (x_b1 (fX6_isSolved ((G 30) p1.toNatClampNeg) (v20 / ((G 28) p2.toNatClampNeg)) (v24 / ((G 29) p2.toNatClampNeg))) (fun r32 => x_ld p2 6 (x_ld p2 6 (x_dv ((G 28) p2.toNatClampNeg) (x_ld p2 6 (x_dv ((G 29) p2.toNatClampNeg) (x_b1 (fX6_isSolved ((G 30) p2.toNatClampNeg) (x_rem v20 ((G 28) p2.toNatClampNeg)) (x_rem v24 ((G 29) p2.toNatClampNeg))) (fun r39 => (if r32 = 0 then (fX6_product_j238 (fX6_product_l149 rec139 G p1 p2 v20 n149) v23 v24) else (if r39 = 0 then (fX6_product_j238 (fX6_product_l149 rec139 G p1 p2 v20 n149) v23 v24) else (fX6_product_j239 (fX6_product_l149 rec139 G p1 p2 v20 n149) v23 v24) (x_shl 1 ((4 * v20) + v24))))))))))))))))) := rfl
def fX6_product_l139 (G : xG) (F8 : xF) (p1 : Int32) (p2 : Int32) : Nat → Int32 → Int32 → Option (Int32 × xF × xG)
  | 0, _, _ => none
  | n139 + 1, v19, v20 => (if (((G 28) p1.toNatClampNeg) * ((G 28) p2.toNatClampNeg)) ≤ v20 then (fX6_product_x254 F8 G p1 p2) v19 else (fX6_product_l149 (fX6_product_l139 G F8 p1 p2 n139) G p1 p2 v20 4096) v19 0)
theorem fX6_product_l139_z (G : xG) (F8 : xF) (p1 : Int32) (p2 : Int32) (v19 : Int32) (v20 : Int32) : fX6_product_l139 G F8 p1 p2 0 v19 v20 = none := rfl
theorem fX6_product_l139_e (G : xG) (F8 : xF) (p1 : Int32) (p2 : Int32) (n139 : Nat) (v19 : Int32) (v20 : Int32) : fX6_product_l139 G F8 p1 p2 (n139 + 1) v19 v20 = (if (((G 28) p1.toNatClampNeg) * ((G 28) p2.toNatClampNeg)) ≤ v20 then (fX6_product_x254 F8 G p1 p2) v19 else (fX6_product_l149 (fX6_product_l139 G F8 p1 p2 n139) G p1 p2 v20 4096) v19 0) := rfl
def fX6_product_j95 (F : xF) (G : xG) (p1 : Int32) (p2 : Int32) (v5 : Int32) : Option (Int32 × xF × xG) :=
  x_b2 (fX6_goesWell F v5) (fun r7 F8 => (if r7 = 0 then some (0, F8, G) else x_ld p1 6 (x_ld p2 6 (x_ld p1 6 (x_ld p2 6 ((fX6_product_l139 G F8 p1 p2 4096) 0 0))))))
theorem fX6_product_j95_e (F : xF) (G : xG) (p1 : Int32) (p2 : Int32) (v5 : Int32) : fX6_product_j95 F G p1 p2 v5 = x_b2 (fX6_goesWell F v5) (fun r7 F8 => (if r7 = 0 then some (0, F8, G) else x_ld p1 6 (x_ld p2 6 (x_ld p1 6 (x_ld p2 6 ((fX6_product_l139 G F8 p1 p2 4096) 0 0)))))) := rfl
def fX6_product_j74 (F : xF) (G : xG) (v3 : Int32) (p1 : Int32) (p2 : Int32) (v4 : Int32) : Option (Int32 × xF × xG) :=
  (if v3 = 0 then (fX6_product_j95 F G p1 p2) 1 else (if v4 = 0 then (fX6_product_j95 F G p1 p2) 2 else (fX6_product_j95 F G p1 p2) 0))
theorem fX6_product_j74_e (F : xF) (G : xG) (v3 : Int32) (p1 : Int32) (p2 : Int32) (v4 : Int32) : fX6_product_j74 F G v3 p1 p2 v4 = (if v3 = 0 then (fX6_product_j95 F G p1 p2) 1 else (if v4 = 0 then (fX6_product_j95 F G p1 p2) 2 else (fX6_product_j95 F G p1 p2) 0)) := rfl
def fX6_product_j73 (F : xF) (G : xG) (v3 : Int32) (p1 : Int32) (p2 : Int32)  : Option (Int32 × xF × xG) :=
  (fX6_product_j74 F G v3 p1 p2) 0
theorem fX6_product_j73_e (F : xF) (G : xG) (v3 : Int32) (p1 : Int32) (p2 : Int32)  : fX6_product_j73 F G v3 p1 p2 = (fX6_product_j74 F G v3 p1 p2) 0 := rfl
def fX6_product_j21 (F : xF) (G : xG) (p1 : Int32) (p2 : Int32) (v3 : Int32) : Option (Int32 × xF × xG) :=
  (if v3 = 0 then (fX6_product_j73 F G v3 p1 p2) else (if 6 ≤ (F 27) then (fX6_product_j73 F G v3 p1 p2) else x_ld p1 6 (x_ld p2 6 ((if 4 < (((G 28) p1.toNatClampNeg) * ((G 28) p2.toNatClampNeg)) then (fX6_product_j73 F G v3 p1 p2) else x_ld p1 6 (x_ld p2 6 ((if 4 < (((G 29) p1.toNatClampNeg) * ((G 29) p2.toNatClampNeg)) then (fX6_product_j73 F G v3 p1 p2) else (fX6_product_j74 F G v3 p1 p2) 1))))))))
theorem fX6_product_j21_e (F : xF) (G : xG) (p1 : Int32) (p2 : Int32) (v3 : Int32) : fX6_product_j21 F G p1 p2 v3 = (if v3 = 0 then (fX6_product_j73 F G v3 p1 p2) else (if 6 ≤ (F 27) then (fX6_product_j73 F G v3 p1 p2) else x_ld p1 6 (x_ld p2 6 ((if 4 < (((G 28) p1.toNatClampNeg) * ((G 28) p2.toNatClampNeg)) then (fX6_product_j73 F G v3 p1 p2) else x_ld p1 6 (x_ld p2 6 ((if 4 < (((G 29) p1.toNatClampNeg) * ((G 29) p2.toNatClampNeg)) then (fX6_product_j73 F G v3 p1 p2) else (fX6_product_j74 F G v3 p1 p2) 1)))))))) := rfl
def fX6_product_j20 (F : xF) (G : xG) (p1 : Int32) (p2 : Int32)  : Option (Int32 × xF × xG) :=
  (fX6_product_j21 F G p1 p2) 0
theorem fX6_product_j20_e (F : xF) (G : xG) (p1 : Int32) (p2 : Int32)  : fX6_product_j20 F G p1 p2 = (fX6_product_j21 F G p1 p2) 0 := rfl
def fX6_product (F : xF) (G : xG) (p1 : Int32) (p2 : Int32) : Option (Int32 × xF × xG) :=
  x_b1 (fX6_isProblem F p1) (fun r2 => (if r2 = 0 then (fX6_product_j20 F G p1 p2) else x_b1 (fX6_isProblem F p2) (fun r55 => (if r55 = 0 then (fX6_product_j20 F G p1 p2) else (fX6_product_j21 F G p1 p2) 1))))
theorem fX6_product_e (F : xF) (G : xG) (p1 : Int32) (p2 : Int32) : fX6_product F G p1 p2 = x_b1 (fX6_isProblem F p1) (fun r2 => (if r2 = 0 then (fX6_product_j20 F G p1 p2) else x_b1 (fX6_isProblem F p2) (fun r55 => (if r55 = 0 then (fX6_product_j20 F G p1 p2) else (fX6_product_j21 F G p1 p2) 1)))) := rfl
def rmX6_product : Room := { frames := 2, cells := 0, slots := 0, locals := 43 }
def fX6_given_l5 (p3 : Int32) (p2 : Int32) : Nat → Int32 → Int32 → Option (Int32)
  | 0, _, _ => none
  | n5 + 1, v1, v2 => (if p3 ≤ v2 then x_dv p2 (some ((x_rem v1 p2))) else x_dv p2 ((fX6_given_l5 p3 p2 n5) (v1 / p2) (v2 + 1)))
theorem fX6_given_l5_z (p3 : Int32) (p2 : Int32) (v1 : Int32) (v2 : Int32) : fX6_given_l5 p3 p2 0 v1 v2 = none := rfl
theorem fX6_given_l5_e (p3 : Int32) (p2 : Int32) (n5 : Nat) (v1 : Int32) (v2 : Int32) : fX6_given_l5 p3 p2 (n5 + 1) v1 v2 = (if p3 ≤ v2 then x_dv p2 (some ((x_rem v1 p2))) else x_dv p2 ((fX6_given_l5 p3 p2 n5) (v1 / p2) (v2 + 1))) := rfl
def fX6_given (p1 : Int32) (p2 : Int32) (p3 : Int32) : Option (Int32) :=
  (fX6_given_l5 p3 p2 4096) p1 0
theorem fX6_given_e (p1 : Int32) (p2 : Int32) (p3 : Int32) : fX6_given p1 p2 p3 = (fX6_given_l5 p3 p2 4096) p1 0 := rfl
def rmX6_given : Room := { frames := 0, cells := 0, slots := 0, locals := 0 }
def fX6_served_j107 (rec13 : Int32 → Int32 → Option (Int32)) (v3 : Int32) (v6 : Int32) : Option (Int32) :=
  rec13 v6 (v3 + (-1))
theorem fX6_served_j107_e (rec13 : Int32 → Int32 → Option (Int32)) (v3 : Int32) (v6 : Int32) : fX6_served_j107 rec13 v3 v6 = rec13 v6 (v3 + (-1)) := rfl
def fX6_served_x95 (rec13 : Int32 → Int32 → Option (Int32)) (v3 : Int32) (v2 : Int32) (v5 : Int32) : Option (Int32) :=
  (if v5 = 0 then (fX6_served_j107 rec13 v3) v2 else (fX6_served_j107 rec13 v3) v3)
theorem fX6_served_x95_e (rec13 : Int32 → Int32 → Option (Int32)) (v3 : Int32) (v2 : Int32) (v5 : Int32) : fX6_served_x95 rec13 v3 v2 v5 = (if v5 = 0 then (fX6_served_j107 rec13 v3) v2 else (fX6_served_j107 rec13 v3) v3) := rfl
def fX6_served_j87 (rec24 : Int32 → Int32 → Option (Int32)) (v9 : Int32) (v12 : Int32) : Option (Int32) :=
  rec24 v12 (v9 + 1)
theorem fX6_served_j87_e (rec24 : Int32 → Int32 → Option (Int32)) (v9 : Int32) (v12 : Int32) : fX6_served_j87 rec24 v9 v12 = rec24 v12 (v9 + 1) := rfl
def fX6_served_j86 (rec24 : Int32 → Int32 → Option (Int32)) (v9 : Int32)  : Option (Int32) :=
  (fX6_served_j87 rec24 v9) 0
theorem fX6_served_j86_e (rec24 : Int32 → Int32 → Option (Int32)) (v9 : Int32)  : fX6_served_j86 rec24 v9 = (fX6_served_j87 rec24 v9) 0 := rfl
def fX6_served_j82 (rec24 : Int32 → Int32 → Option (Int32)) (v9 : Int32)  : Option (Int32) :=
  (fX6_served_j87 rec24 v9) 1
theorem fX6_served_j82_e (rec24 : Int32 → Int32 → Option (Int32)) (v9 : Int32)  : fX6_served_j82 rec24 v9 = (fX6_served_j87 rec24 v9) 1 := rfl
def fX6_served_l24 (rec13 : Int32 → Int32 → Option (Int32)) (G : xG) (p2 : Int32) (v3 : Int32) (v2 : Int32) (p1 : Int32) (p3 : Int32) (p4 : Int32) : Nat → Int32 → Int32 → Option (Int32)
  | 0, _, _ => none
  | n24 + 1, v8, v9 => x_ld p2 6 ((if ((G 29) p2.toNatClampNeg) ≤ v9 then (fX6_served_x95 rec13 v3 v2) v8 else (if v8 = 0 then (fX6_served_j86 (fX6_served_l24 rec13 G p2 v3 v2 p1 p3 p4 n24) v9) else x_ld p2 6 (x_b1 (fX6_isSolved ((G 30) p2.toNatClampNeg) v3 v9) (fun r16 => (if r16 = 0 then (fX6_served_j82 (fX6_served_l24 rec13 G p2 v3 v2 p1 p3 p4 n24) v9) else x_ld p1 6 (x_ld p1 6 (x_b1 (fX6_given p3 ((G 29) p1.toNatClampNeg) v9) (fun r21 => x_b1 (fX6_isSolved ((G 30) p1.toNatClampNeg) p4 r21) (fun r23 => (if r23 = 0 then (fX6_served_j86 (fX6_served_l24 rec13 G p2 v3 v2 p1 p3 p4 n24) v9) else (fX6_served_j82 (fX6_served_l24 rec13 G p2 v3 v2 p1 p3 p4 n24) v9))))))))))))
theorem fX6_served_l24_z (rec13 : Int32 → Int32 → Option (Int32)) (G : xG) (p2 : Int32) (v3 : Int32) (v2 : Int32) (p1 : Int32) (p3 : Int32) (p4 : Int32) (v8 : Int32) (v9 : Int32) : fX6_served_l24 rec13 G p2 v3 v2 p1 p3 p4 0 v8 v9 = none := rfl
theorem fX6_served_l24_e (rec13 : Int32 → Int32 → Option (Int32)) (G : xG) (p2 : Int32) (v3 : Int32) (v2 : Int32) (p1 : Int32) (p3 : Int32) (p4 : Int32) (n24 : Nat) (v8 : Int32) (v9 : Int32) : fX6_served_l24 rec13 G p2 v3 v2 p1 p3 p4 (n24 + 1) v8 v9 = x_ld p2 6 ((if ((G 29) p2.toNatClampNeg) ≤ v9 then (fX6_served_x95 rec13 v3 v2) v8 else (if v8 = 0 then (fX6_served_j86 (fX6_served_l24 rec13 G p2 v3 v2 p1 p3 p4 n24) v9) else x_ld p2 6 (x_b1 (fX6_isSolved ((G 30) p2.toNatClampNeg) v3 v9) (fun r16 => (if r16 = 0 then (fX6_served_j82 (fX6_served_l24 rec13 G p2 v3 v2 p1 p3 p4 n24) v9) else x_ld p1 6 (x_ld p1 6 (x_b1 (fX6_given p3 ((G 29) p1.toNatClampNeg) v9) (fun r21 => x_b1 (fX6_isSolved ((G 30) p1.toNatClampNeg) p4 r21) (fun r23 => (if r23 = 0 then (fX6_served_j86 (fX6_served_l24 rec13 G p2 v3 v2 p1 p3 p4 n24) v9) else (fX6_served_j82 (fX6_served_l24 rec13 G p2 v3 v2 p1 p3 p4 n24) v9)))))))))))) := rfl
def fX6_served_l13 (G : xG) (p2 : Int32) (p1 : Int32) (p3 : Int32) (p4 : Int32) : Nat → Int32 → Int32 → Option (Int32)
  | 0, _, _ => none
  | n13 + 1, v2, v3 => (if v3 < 0 then some (v2) else (fX6_served_l24 (fX6_served_l13 G p2 p1 p3 p4 n13) G p2 v3 v2 p1 p3 p4 4096) 1 0)
theorem fX6_served_l13_z (G : xG) (p2 : Int32) (p1 : Int32) (p3 : Int32) (p4 : Int32) (v2 : Int32) (v3 : Int32) : fX6_served_l13 G p2 p1 p3 p4 0 v2 v3 = none := rfl
theorem fX6_served_l13_e (G : xG) (p2 : Int32) (p1 : Int32) (p3 : Int32) (p4 : Int32) (n13 : Nat) (v2 : Int32) (v3 : Int32) : fX6_served_l13 G p2 p1 p3 p4 (n13 + 1) v2 v3 = (if v3 < 0 then some (v2) else (fX6_served_l24 (fX6_served_l13 G p2 p1 p3 p4 n13) G p2 v3 v2 p1 p3 p4 4096) 1 0) := rfl
def fX6_served (G : xG) (p1 : Int32) (p2 : Int32) (p3 : Int32) (p4 : Int32) : Option (Int32) :=
  x_ld p2 6 ((fX6_served_l13 G p2 p1 p3 p4 4096) (-1) (((G 28) p2.toNatClampNeg) - 1))
theorem fX6_served_e (G : xG) (p1 : Int32) (p2 : Int32) (p3 : Int32) (p4 : Int32) : fX6_served G p1 p2 p3 p4 = x_ld p2 6 ((fX6_served_l13 G p2 p1 p3 p4 4096) (-1) (((G 28) p2.toNatClampNeg) - 1)) := rfl
def rmX6_served : Room := { frames := 1, cells := 0, slots := 0, locals := 24 }
def fX6_codeOf_x89 (rec34 : Int32 → Option (Int32)) (v2 : Int32) (v4 : Int32) : Option (Int32) :=
  (if v4 = 0 then rec34 (v2 + 1) else some (v2))
theorem fX6_codeOf_x89_e (rec34 : Int32 → Option (Int32)) (v2 : Int32) (v4 : Int32) : fX6_codeOf_x89 rec34 v2 v4 = (if v4 = 0 then rec34 (v2 + 1) else some (v2)) := rfl
def fX6_codeOf_j81 (rec46 : Int32 → Int32 → Option (Int32)) (v7 : Int32) (v10 : Int32) : Option (Int32) :=
  rec46 v10 (v7 + 1)
theorem fX6_codeOf_j81_e (rec46 : Int32 → Int32 → Option (Int32)) (v7 : Int32) (v10 : Int32) : fX6_codeOf_j81 rec46 v7 v10 = rec46 v10 (v7 + 1) := rfl
def fX6_codeOf_j80 (rec46 : Int32 → Int32 → Option (Int32)) (v7 : Int32)  : Option (Int32) :=
  (fX6_codeOf_j81 rec46 v7) 0
theorem fX6_codeOf_j80_e (rec46 : Int32 → Int32 → Option (Int32)) (v7 : Int32)  : fX6_codeOf_j80 rec46 v7 = (fX6_codeOf_j81 rec46 v7) 0 := rfl
def fX6_codeOf_l46 (rec34 : Int32 → Option (Int32)) (G : xG) (p1 : Int32) (v2 : Int32) (p2 : Int32) : Nat → Int32 → Int32 → Option (Int32)
  | 0, _, _ => none
  | n46 + 1, v6, v7 => x_ld p1 6 ((if ((G 28) p1.toNatClampNeg) ≤ v7 then (fX6_codeOf_x89 rec34 v2) v6 else (if v6 = 0 then (fX6_codeOf_j80 (fX6_codeOf_l46 rec34 G p1 v2 p2 n46) v7) else x_b1 (fX6_served G p1 p2 v2 v7) (fun r13 => (if r13 = (-1) then (fX6_codeOf_j80 (fX6_codeOf_l46 rec34 G p1 v2 p2 n46) v7) else (fX6_codeOf_j81 (fX6_codeOf_l46 rec34 G p1 v2 p2 n46) v7) 1)))))
theorem fX6_codeOf_l46_z (rec34 : Int32 → Option (Int32)) (G : xG) (p1 : Int32) (v2 : Int32) (p2 : Int32) (v6 : Int32) (v7 : Int32) : fX6_codeOf_l46 rec34 G p1 v2 p2 0 v6 v7 = none := rfl
theorem fX6_codeOf_l46_e (rec34 : Int32 → Option (Int32)) (G : xG) (p1 : Int32) (v2 : Int32) (p2 : Int32) (n46 : Nat) (v6 : Int32) (v7 : Int32) : fX6_codeOf_l46 rec34 G p1 v2 p2 (n46 + 1) v6 v7 = x_ld p1 6 ((if ((G 28) p1.toNatClampNeg) ≤ v7 then (fX6_codeOf_x89 rec34 v2) v6 else (if v6 = 0 then (fX6_codeOf_j80 (fX6_codeOf_l46 rec34 G p1 v2 p2 n46) v7) else x_b1 (fX6_served G p1 p2 v2 v7) (fun r13 => (if r13 = (-1) then (fX6_codeOf_j80 (fX6_codeOf_l46 rec34 G p1 v2 p2 n46) v7) else (fX6_codeOf_j81 (fX6_codeOf_l46 rec34 G p1 v2 p2 n46) v7) 1))))) := rfl
def fX6_codeOf_l34 (G : xG) (v1 : Int32) (p1 : Int32) (p2 : Int32) : Nat → Int32 → Option (Int32)
  | 0, _ => none
  | n34 + 1, v2 => (if v1 ≤ v2 then some ((-1)) else (fX6_codeOf_l46 (fX6_codeOf_l34 G v1 p1 p2 n34) G p1 v2 p2 4096) 1 0)
theorem fX6_codeOf_l34_z (G : xG) (v1 : Int32) (p1 : Int32) (p2 : Int32) (v2 : Int32) : fX6_codeOf_l34 G v1 p1 p2 0 v2 = none := rfl
theorem fX6_codeOf_l34_e (G : xG) (v1 : Int32) (p1 : Int32) (p2 : Int32) (n34 : Nat) (v2 : Int32) : fX6_codeOf_l34 G v1 p1 p2 (n34 + 1) v2 = (if v1 ≤ v2 then some ((-1)) else (fX6_codeOf_l46 (fX6_codeOf_l34 G v1 p1 p2 n34) G p1 v2 p2 4096) 1 0) := rfl
def fX6_codeOf_x31 (G : xG) (p1 : Int32) (p2 : Int32) (v1 : Int32) : Option (Int32) :=
  (fX6_codeOf_l34 G v1 p1 p2 4096) 0
theorem fX6_codeOf_x31_e (G : xG) (p1 : Int32) (p2 : Int32) (v1 : Int32) : fX6_codeOf_x31 G p1 p2 v1 = (fX6_codeOf_l34 G v1 p1 p2 4096) 0 := rfl
def fX6_codeOf_l5 (G : xG) (p2 : Int32) (p1 : Int32) : Nat → Int32 → Int32 → Option (Int32)
  | 0, _, _ => none
  | n5 + 1, v15, v16 => x_ld p2 6 ((if ((G 29) p2.toNatClampNeg) ≤ v16 then (fX6_codeOf_x31 G p1 p2) v15 else x_ld p1 6 ((fX6_codeOf_l5 G p2 p1 n5) (v15 * ((G 29) p1.toNatClampNeg)) (v16 + 1))))
theorem fX6_codeOf_l5_z (G : xG) (p2 : Int32) (p1 : Int32) (v15 : Int32) (v16 : Int32) : fX6_codeOf_l5 G p2 p1 0 v15 v16 = none := rfl
theorem fX6_codeOf_l5_e (G : xG) (p2 : Int32) (p1 : Int32) (n5 : Nat) (v15 : Int32) (v16 : Int32) : fX6_codeOf_l5 G p2 p1 (n5 + 1) v15 v16 = x_ld p2 6 ((if ((G 29) p2.toNatClampNeg) ≤ v16 then (fX6_codeOf_x31 G p1 p2) v15 else x_ld p1 6 ((fX6_codeOf_l5 G p2 p1 n5) (v15 * ((G 29) p1.toNatClampNeg)) (v16 + 1)))) := rfl
def fX6_codeOf (G : xG) (p1 : Int32) (p2 : Int32) : Option (Int32) :=
  (fX6_codeOf_l5 G p2 p1 4096) 1 0
theorem fX6_codeOf_e (G : xG) (p1 : Int32) (p2 : Int32) : fX6_codeOf G p1 p2 = (fX6_codeOf_l5 G p2 p1 4096) 1 0 := rfl
def rmX6_codeOf : Room := { frames := 2, cells := 0, slots := 0, locals := 52 }
def fX6_reduces_j22 (F : xF) (G : xG) (p1 : Int32) (p2 : Int32) (v3 : Int32) : Option (Int32 × xF) :=
  x_b2 (fX6_goesWell F v3) (fun r5 F6 => (if r5 = 0 then some (0, F6) else x_b1 (fX6_codeOf G p1 p2) (fun r9 => some (r9, F6))))
theorem fX6_reduces_j22_e (F : xF) (G : xG) (p1 : Int32) (p2 : Int32) (v3 : Int32) : fX6_reduces_j22 F G p1 p2 v3 = x_b2 (fX6_goesWell F v3) (fun r5 F6 => (if r5 = 0 then some (0, F6) else x_b1 (fX6_codeOf G p1 p2) (fun r9 => some (r9, F6)))) := rfl
def fX6_reduces_j21 (F : xF) (G : xG) (p1 : Int32) (p2 : Int32)  : Option (Int32 × xF) :=
  (fX6_reduces_j22 F G p1 p2) 1
theorem fX6_reduces_j21_e (F : xF) (G : xG) (p1 : Int32) (p2 : Int32)  : fX6_reduces_j21 F G p1 p2 = (fX6_reduces_j22 F G p1 p2) 1 := rfl
def fX6_reduces (F : xF) (G : xG) (p1 : Int32) (p2 : Int32) : Option (Int32 × xF) :=
  x_b1 (fX6_isProblem F p1) (fun r2 => (if r2 = 0 then (fX6_reduces_j21 F G p1 p2) else x_b1 (fX6_isProblem F p2) (fun r12 => (if r12 = 0 then (fX6_reduces_j21 F G p1 p2) else (fX6_reduces_j22 F G p1 p2) 0))))
theorem fX6_reduces_e (F : xF) (G : xG) (p1 : Int32) (p2 : Int32) : fX6_reduces F G p1 p2 = x_b1 (fX6_isProblem F p1) (fun r2 => (if r2 = 0 then (fX6_reduces_j21 F G p1 p2) else x_b1 (fX6_isProblem F p2) (fun r12 => (if r12 = 0 then (fX6_reduces_j21 F G p1 p2) else (fX6_reduces_j22 F G p1 p2) 0)))) := rfl
def rmX6_reduces : Room := { frames := 3, cells := 0, slots := 0, locals := 78 }
def fX6_reducesAnew_j22 (F : xF) (G : xG) (p1 : Int32) (p2 : Int32) (v3 : Int32) : Option (Int32 × xF) :=
  x_b2 (fX6_goesWell F v3) (fun r5 F6 => (if r5 = 0 then some (0, F6) else x_b1 (fX6_codeOf G p1 p2) (fun r9 => some (r9, F6))))
theorem fX6_reducesAnew_j22_e (F : xF) (G : xG) (p1 : Int32) (p2 : Int32) (v3 : Int32) : fX6_reducesAnew_j22 F G p1 p2 v3 = x_b2 (fX6_goesWell F v3) (fun r5 F6 => (if r5 = 0 then some (0, F6) else x_b1 (fX6_codeOf G p1 p2) (fun r9 => some (r9, F6)))) := rfl
def fX6_reducesAnew_j21 (F : xF) (G : xG) (p1 : Int32) (p2 : Int32)  : Option (Int32 × xF) :=
  (fX6_reducesAnew_j22 F G p1 p2) 1
theorem fX6_reducesAnew_j21_e (F : xF) (G : xG) (p1 : Int32) (p2 : Int32)  : fX6_reducesAnew_j21 F G p1 p2 = (fX6_reducesAnew_j22 F G p1 p2) 1 := rfl
def fX6_reducesAnew (F : xF) (G : xG) (p1 : Int32) (p2 : Int32) : Option (Int32 × xF) :=
  x_b1 (fX6_isProblem F p1) (fun r2 => (if r2 = 0 then (fX6_reducesAnew_j21 F G p1 p2) else x_b1 (fX6_isProblem F p2) (fun r12 => (if r12 = 0 then (fX6_reducesAnew_j21 F G p1 p2) else (fX6_reducesAnew_j22 F G p1 p2) 0))))
theorem fX6_reducesAnew_e (F : xF) (G : xG) (p1 : Int32) (p2 : Int32) : fX6_reducesAnew F G p1 p2 = x_b1 (fX6_isProblem F p1) (fun r2 => (if r2 = 0 then (fX6_reducesAnew_j21 F G p1 p2) else x_b1 (fX6_isProblem F p2) (fun r12 => (if r12 = 0 then (fX6_reducesAnew_j21 F G p1 p2) else (fX6_reducesAnew_j22 F G p1 p2) 0)))) := rfl
def rmX6_reducesAnew : Room := { frames := 3, cells := 0, slots := 0, locals := 78 }
def fX6_forth_j50 (F : xF) (G : xG) (p1 : Int32) (p2 : Int32) (p3 : Int32) (v4 : Int32) : Option (Int32 × xF) :=
  x_b2 (fX6_goesWell F v4) (fun r6 F7 => (if r6 = 0 then some (0, F7) else x_b1 (fX6_codeOf G p1 p2) (fun r10 => (if r10 = (-1) then some ((-1), F7) else x_b1 (fX6_served G p1 p2 r10 p3) (fun r13 => some (r13, F7))))))
theorem fX6_forth_j50_e (F : xF) (G : xG) (p1 : Int32) (p2 : Int32) (p3 : Int32) (v4 : Int32) : fX6_forth_j50 F G p1 p2 p3 v4 = x_b2 (fX6_goesWell F v4) (fun r6 F7 => (if r6 = 0 then some (0, F7) else x_b1 (fX6_codeOf G p1 p2) (fun r10 => (if r10 = (-1) then some ((-1), F7) else x_b1 (fX6_served G p1 p2 r10 p3) (fun r13 => some (r13, F7)))))) := rfl
def fX6_forth_j37 (F : xF) (G : xG) (p1 : Int32) (p2 : Int32) (p3 : Int32) (v3 : Int32) : Option (Int32 × xF) :=
  (if v3 = 0 then (fX6_forth_j50 F G p1 p2 p3) 1 else (fX6_forth_j50 F G p1 p2 p3) 0)
theorem fX6_forth_j37_e (F : xF) (G : xG) (p1 : Int32) (p2 : Int32) (p3 : Int32) (v3 : Int32) : fX6_forth_j37 F G p1 p2 p3 v3 = (if v3 = 0 then (fX6_forth_j50 F G p1 p2 p3) 1 else (fX6_forth_j50 F G p1 p2 p3) 0) := rfl
def fX6_forth_j36 (F : xF) (G : xG) (p1 : Int32) (p2 : Int32) (p3 : Int32)  : Option (Int32 × xF) :=
  (fX6_forth_j37 F G p1 p2 p3) 0
theorem fX6_forth_j36_e (F : xF) (G : xG) (p1 : Int32) (p2 : Int32) (p3 : Int32)  : fX6_forth_j36 F G p1 p2 p3 = (fX6_forth_j37 F G p1 p2 p3) 0 := rfl
def fX6_forth (F : xF) (G : xG) (p1 : Int32) (p2 : Int32) (p3 : Int32) : Option (Int32 × xF) :=
  x_b1 (fX6_isProblem F p1) (fun r2 => (if r2 = 0 then (fX6_forth_j36 F G p1 p2 p3) else x_b1 (fX6_isProblem F p2) (fun r17 => (if r17 = 0 then (fX6_forth_j36 F G p1 p2 p3) else x_ld p1 6 (x_b1 (fX6_in p3 0 (((G 28) p1.toNatClampNeg) - 1)) (fun r21 => (if r21 = 0 then (fX6_forth_j36 F G p1 p2 p3) else (fX6_forth_j37 F G p1 p2 p3) 1)))))))
theorem fX6_forth_e (F : xF) (G : xG) (p1 : Int32) (p2 : Int32) (p3 : Int32) : fX6_forth F G p1 p2 p3 = x_b1 (fX6_isProblem F p1) (fun r2 => (if r2 = 0 then (fX6_forth_j36 F G p1 p2 p3) else x_b1 (fX6_isProblem F p2) (fun r17 => (if r17 = 0 then (fX6_forth_j36 F G p1 p2 p3) else x_ld p1 6 (x_b1 (fX6_in p3 0 (((G 28) p1.toNatClampNeg) - 1)) (fun r21 => (if r21 = 0 then (fX6_forth_j36 F G p1 p2 p3) else (fX6_forth_j37 F G p1 p2 p3) 1))))))) := rfl
def rmX6_forth : Room := { frames := 3, cells := 0, slots := 0, locals := 78 }
def fX6_ofProblem_j29 (F : xF) (G : xG) (p2 : Int32) (p1 : Int32) (v3 : Int32) : Option (Int32 × xF) :=
  x_b2 (fX6_goesWell F v3) (fun r5 F6 => (if r5 = 0 then some (0, F6) else (if p2 = 0 then x_ld p1 6 (some (((G 28) p1.toNatClampNeg), F6)) else (if p2 = 1 then x_ld p1 6 (some (((G 29) p1.toNatClampNeg), F6)) else x_ld p1 6 (some (((G 30) p1.toNatClampNeg), F6))))))
theorem fX6_ofProblem_j29_e (F : xF) (G : xG) (p2 : Int32) (p1 : Int32) (v3 : Int32) : fX6_ofProblem_j29 F G p2 p1 v3 = x_b2 (fX6_goesWell F v3) (fun r5 F6 => (if r5 = 0 then some (0, F6) else (if p2 = 0 then x_ld p1 6 (some (((G 28) p1.toNatClampNeg), F6)) else (if p2 = 1 then x_ld p1 6 (some (((G 29) p1.toNatClampNeg), F6)) else x_ld p1 6 (some (((G 30) p1.toNatClampNeg), F6)))))) := rfl
def fX6_ofProblem (F : xF) (G : xG) (p1 : Int32) (p2 : Int32) : Option (Int32 × xF) :=
  x_b1 (fX6_isProblem F p1) (fun r2 => (if r2 = 0 then (fX6_ofProblem_j29 F G p2 p1) 1 else x_b1 (fX6_in p2 0 2) (fun r15 => (if r15 = 0 then (fX6_ofProblem_j29 F G p2 p1) 2 else (fX6_ofProblem_j29 F G p2 p1) 0))))
theorem fX6_ofProblem_e (F : xF) (G : xG) (p1 : Int32) (p2 : Int32) : fX6_ofProblem F G p1 p2 = x_b1 (fX6_isProblem F p1) (fun r2 => (if r2 = 0 then (fX6_ofProblem_j29 F G p2 p1) 1 else x_b1 (fX6_in p2 0 2) (fun r15 => (if r15 = 0 then (fX6_ofProblem_j29 F G p2 p1) 2 else (fX6_ofProblem_j29 F G p2 p1) 0)))) := rfl
def rmX6_ofProblem : Room := { frames := 2, cells := 0, slots := 0, locals := 43 }
def fX6_isHad_x144  (G2 : xG) : Option (Int32 × xG) :=
  x_ld 0 16 (some (x_zn ((G2 31) (0 : Int32).toNatClampNeg), G2))
theorem fX6_isHad_x144_e  (G2 : xG) : fX6_isHad_x144 G2 = x_ld 0 16 (some (x_zn ((G2 31) (0 : Int32).toNatClampNeg), G2)) := rfl
def fX6_isHad_x138 (rec39 : Int32 → xG → Option (Int32 × xG)) (v4 : Int32) (G7 : xG) : Option (Int32 × xG) :=
  rec39 (v4 + (-1)) G7
theorem fX6_isHad_x138_e (rec39 : Int32 → xG → Option (Int32 × xG)) (v4 : Int32) (G7 : xG) : fX6_isHad_x138 rec39 v4 G7 = rec39 (v4 + (-1)) G7 := rfl
def fX6_isHad_j131 (rec46 : Int32 → xG → Option (Int32 × xG)) (G9 : xG) (v8 : Int32) (v12 : Int32) : Option (Int32 × xG) :=
  x_ld v8 16 (rec46 (v8 + 1) (va_up G9 31 (upd (G9 31) v8.toNatClampNeg (x_zn v12))))
theorem fX6_isHad_j131_e (rec46 : Int32 → xG → Option (Int32 × xG)) (G9 : xG) (v8 : Int32) (v12 : Int32) : fX6_isHad_j131 rec46 G9 v8 v12 = x_ld v8 16 (rec46 (v8 + 1) (va_up G9 31 (upd (G9 31) v8.toNatClampNeg (x_zn v12)))) := rfl
def fX6_isHad_j130 (rec46 : Int32 → xG → Option (Int32 × xG)) (G9 : xG) (v8 : Int32)  : Option (Int32 × xG) :=
  (fX6_isHad_j131 rec46 G9 v8) 0
theorem fX6_isHad_j130_e (rec46 : Int32 → xG → Option (Int32 × xG)) (G9 : xG) (v8 : Int32)  : fX6_isHad_j130 rec46 G9 v8 = (fX6_isHad_j131 rec46 G9 v8) 0 := rfl
def fX6_isHad_j92 (rec46 : Int32 → xG → Option (Int32 × xG)) (G9 : xG) (v8 : Int32)  : Option (Int32 × xG) :=
  (fX6_isHad_j131 rec46 G9 v8) 1
theorem fX6_isHad_j92_e (rec46 : Int32 → xG → Option (Int32 × xG)) (G9 : xG) (v8 : Int32)  : fX6_isHad_j92 rec46 G9 v8 = (fX6_isHad_j131 rec46 G9 v8) 1 := rfl
def fX6_isHad_l46 (rec39 : Int32 → xG → Option (Int32 × xG)) (v4 : Int32) : Nat → Int32 → xG → Option (Int32 × xG)
  | 0, _, _ => none
  | n46 + 1, v8, G9 => (if (x_shl 1 v4) ≤ v8 then (fX6_isHad_x138 rec39 v4) G9 else x_dv 2 ((if (x_rem v4 2) = 0 then x_ld (2 * v8) 16 ((if ((G9 31) (2 * v8).toNatClampNeg) = 0 then x_ld ((2 * v8) + 1) 16 ((if ((G9 31) ((2 * v8) + 1).toNatClampNeg) = 0 then (fX6_isHad_j131 (fX6_isHad_l46 rec39 v4 n46) G9 v8) 0 else (fX6_isHad_j92 (fX6_isHad_l46 rec39 v4 n46) G9 v8))) else (fX6_isHad_j92 (fX6_isHad_l46 rec39 v4 n46) G9 v8))) else x_ld (2 * v8) 16 ((if ((G9 31) (2 * v8).toNatClampNeg) = 0 then (fX6_isHad_j130 (fX6_isHad_l46 rec39 v4 n46) G9 v8) else x_ld ((2 * v8) + 1) 16 ((if ((G9 31) ((2 * v8) + 1).toNatClampNeg) = 0 then (fX6_isHad_j130 (fX6_isHad_l46 rec39 v4 n46) G9 v8) else (fX6_isHad_j131 (fX6_isHad_l46 rec39 v4 n46) G9 v8) 1)))))))
theorem fX6_isHad_l46_z (rec39 : Int32 → xG → Option (Int32 × xG)) (v4 : Int32) (v8 : Int32) (G9 : xG) : fX6_isHad_l46 rec39 v4 0 v8 G9 = none := rfl
theorem fX6_isHad_l46_e (rec39 : Int32 → xG → Option (Int32 × xG)) (v4 : Int32) (n46 : Nat) (v8 : Int32) (G9 : xG) : fX6_isHad_l46 rec39 v4 (n46 + 1) v8 G9 = (if (x_shl 1 v4) ≤ v8 then (fX6_isHad_x138 rec39 v4) G9 else x_dv 2 ((if (x_rem v4 2) = 0 then x_ld (2 * v8) 16 ((if ((G9 31) (2 * v8).toNatClampNeg) = 0 then x_ld ((2 * v8) + 1) 16 ((if ((G9 31) ((2 * v8) + 1).toNatClampNeg) = 0 then (fX6_isHad_j131 (fX6_isHad_l46 rec39 v4 n46) G9 v8) 0 else (fX6_isHad_j92 (fX6_isHad_l46 rec39 v4 n46) G9 v8))) else (fX6_isHad_j92 (fX6_isHad_l46 rec39 v4 n46) G9 v8))) else x_ld (2 * v8) 16 ((if ((G9 31) (2 * v8).toNatClampNeg) = 0 then (fX6_isHad_j130 (fX6_isHad_l46 rec39 v4 n46) G9 v8) else x_ld ((2 * v8) + 1) 16 ((if ((G9 31) ((2 * v8) + 1).toNatClampNeg) = 0 then (fX6_isHad_j130 (fX6_isHad_l46 rec39 v4 n46) G9 v8) else (fX6_isHad_j131 (fX6_isHad_l46 rec39 v4 n46) G9 v8) 1))))))) := rfl
def fX6_isHad_l39  : Nat → Int32 → xG → Option (Int32 × xG)
  | 0, _, _ => none
  | n39 + 1, v4, G5 => (if v4 < 0 then fX6_isHad_x144 G5 else (fX6_isHad_l46 (fX6_isHad_l39 n39) v4 4096) 0 G5)
theorem fX6_isHad_l39_z  (v4 : Int32) (G5 : xG) : fX6_isHad_l39 0 v4 G5 = none := rfl
theorem fX6_isHad_l39_e  (n39 : Nat) (v4 : Int32) (G5 : xG) : fX6_isHad_l39 (n39 + 1) v4 G5 = (if v4 < 0 then fX6_isHad_x144 G5 else (fX6_isHad_l46 (fX6_isHad_l39 n39) v4 4096) 0 G5) := rfl
def fX6_isHad_x35 (p1 : Int32) (G1 : xG) : Option (Int32 × xG) :=
  (fX6_isHad_l39 4096) (p1 - 1) G1
theorem fX6_isHad_x35_e (p1 : Int32) (G1 : xG) : fX6_isHad_x35 p1 G1 = (fX6_isHad_l39 4096) (p1 - 1) G1 := rfl
def fX6_isHad_j28 (rec2 : Int32 → xG → Option (Int32 × xG)) (G24 : xG) (v23 : Int32) (v26 : Int32) : Option (Int32 × xG) :=
  x_ld v23 16 (rec2 (v23 + 1) (va_up G24 31 (upd (G24 31) v23.toNatClampNeg (x_zn v26))))
theorem fX6_isHad_j28_e (rec2 : Int32 → xG → Option (Int32 × xG)) (G24 : xG) (v23 : Int32) (v26 : Int32) : fX6_isHad_j28 rec2 G24 v23 v26 = x_ld v23 16 (rec2 (v23 + 1) (va_up G24 31 (upd (G24 31) v23.toNatClampNeg (x_zn v26)))) := rfl
def fX6_isHad_l2 (p1 : Int32) (p2 : Int32) : Nat → Int32 → xG → Option (Int32 × xG)
  | 0, _, _ => none
  | n2 + 1, v23, G24 => (if (x_shl 1 p1) ≤ v23 then (fX6_isHad_x35 p1) G24 else (if ((x_shr p2 v23) &&& 1) = 1 then (fX6_isHad_j28 (fX6_isHad_l2 p1 p2 n2) G24 v23) 1 else (fX6_isHad_j28 (fX6_isHad_l2 p1 p2 n2) G24 v23) 0))
theorem fX6_isHad_l2_z (p1 : Int32) (p2 : Int32) (v23 : Int32) (G24 : xG) : fX6_isHad_l2 p1 p2 0 v23 G24 = none := rfl
theorem fX6_isHad_l2_e (p1 : Int32) (p2 : Int32) (n2 : Nat) (v23 : Int32) (G24 : xG) : fX6_isHad_l2 p1 p2 (n2 + 1) v23 G24 = (if (x_shl 1 p1) ≤ v23 then (fX6_isHad_x35 p1) G24 else (if ((x_shr p2 v23) &&& 1) = 1 then (fX6_isHad_j28 (fX6_isHad_l2 p1 p2 n2) G24 v23) 1 else (fX6_isHad_j28 (fX6_isHad_l2 p1 p2 n2) G24 v23) 0)) := rfl
def fX6_isHad (G : xG) (p1 : Int32) (p2 : Int32) : Option (Int32 × xG) :=
  (fX6_isHad_l2 p1 p2 4096) 0 G
theorem fX6_isHad_e (G : xG) (p1 : Int32) (p2 : Int32) : fX6_isHad G p1 p2 = (fX6_isHad_l2 p1 p2 4096) 0 G := rfl
def rmX6_isHad : Room := { frames := 0, cells := 0, slots := 0, locals := 0 }
def fX6_ask_j40 (F : xF) (G : xG) (p1 : Int32) (p2 : Int32) (v4 : Int32) : Option (Int32 × xF × xG) :=
  x_b2 (fX6_goesWell F v4) (fun r6 F7 => (if r6 = 0 then some (0, F7, G) else x_b2 (fX6_isHad G p1 p2) (fun r10 G11 => (if r10 = 0 then some (0, F7, G11) else some (1, F7, G11)))))
theorem fX6_ask_j40_e (F : xF) (G : xG) (p1 : Int32) (p2 : Int32) (v4 : Int32) : fX6_ask_j40 F G p1 p2 v4 = x_b2 (fX6_goesWell F v4) (fun r6 F7 => (if r6 = 0 then some (0, F7, G) else x_b2 (fX6_isHad G p1 p2) (fun r10 G11 => (if r10 = 0 then some (0, F7, G11) else some (1, F7, G11))))) := rfl
def fX6_ask_j29 (F : xF) (G : xG) (p1 : Int32) (p2 : Int32) (v3 : Int32) : Option (Int32 × xF × xG) :=
  (if v3 = 0 then (fX6_ask_j40 F G p1 p2) 1 else (fX6_ask_j40 F G p1 p2) 0)
theorem fX6_ask_j29_e (F : xF) (G : xG) (p1 : Int32) (p2 : Int32) (v3 : Int32) : fX6_ask_j29 F G p1 p2 v3 = (if v3 = 0 then (fX6_ask_j40 F G p1 p2) 1 else (fX6_ask_j40 F G p1 p2) 0) := rfl
def fX6_ask_j28 (F : xF) (G : xG) (p1 : Int32) (p2 : Int32)  : Option (Int32 × xF × xG) :=
  (fX6_ask_j29 F G p1 p2) 0
theorem fX6_ask_j28_e (F : xF) (G : xG) (p1 : Int32) (p2 : Int32)  : fX6_ask_j28 F G p1 p2 = (fX6_ask_j29 F G p1 p2) 0 := rfl
def fX6_ask (F : xF) (G : xG) (p1 : Int32) (p2 : Int32) : Option (Int32 × xF × xG) :=
  x_b1 (fX6_in p1 1 4) (fun r2 => (if r2 = 0 then (fX6_ask_j28 F G p1 p2) else x_b1 (fX6_in p2 0 ((x_shl 1 (x_shl 1 p1)) - 1)) (fun r16 => (if r16 = 0 then (fX6_ask_j28 F G p1 p2) else (fX6_ask_j29 F G p1 p2) 1))))
theorem fX6_ask_e (F : xF) (G : xG) (p1 : Int32) (p2 : Int32) : fX6_ask F G p1 p2 = x_b1 (fX6_in p1 1 4) (fun r2 => (if r2 = 0 then (fX6_ask_j28 F G p1 p2) else x_b1 (fX6_in p2 0 ((x_shl 1 (x_shl 1 p1)) - 1)) (fun r16 => (if r16 = 0 then (fX6_ask_j28 F G p1 p2) else (fX6_ask_j29 F G p1 p2) 1)))) := rfl
def rmX6_ask : Room := { frames := 1, cells := 0, slots := 0, locals := 24 }
def fX6_has (F : xF) (G : xG) (p1 : Int32) (p2 : Int32) : Option (Int32 × xF × xG) :=
  x_b3 (fX6_ask F G p1 p2) (fun r2 F3 G4 => some (x_zn r2, F3, G4))
theorem fX6_has_e (F : xF) (G : xG) (p1 : Int32) (p2 : Int32) : fX6_has F G p1 p2 = x_b3 (fX6_ask F G p1 p2) (fun r2 F3 G4 => some (x_zn r2, F3, G4)) := rfl
def rmX6_has : Room := { frames := 2, cells := 0, slots := 0, locals := 47 }
def fX6_hasAnew (F : xF) (G : xG) (p1 : Int32) (p2 : Int32) : Option (Int32 × xF × xG) :=
  x_b3 (fX6_ask F G p1 p2) (fun r2 F3 G4 => some (x_zn r2, F3, G4))
theorem fX6_hasAnew_e (F : xF) (G : xG) (p1 : Int32) (p2 : Int32) : fX6_hasAnew F G p1 p2 = x_b3 (fX6_ask F G p1 p2) (fun r2 F3 G4 => some (x_zn r2, F3, G4)) := rfl
def rmX6_hasAnew : Room := { frames := 2, cells := 0, slots := 0, locals := 47 }
def fX5_blank (Fp : xF) (Fo : xF) : Option (Int32 × xF × xF) :=
  x_b3 (fX2_wipe Fp Fo) (fun r2 F3 F4 => some (r2, F3, F4))
theorem fX5_blank_e (Fp : xF) (Fo : xF) : fX5_blank Fp Fo = x_b3 (fX2_wipe Fp Fo) (fun r2 F3 F4 => some (r2, F3, F4)) := rfl
def rmX5_blank : Room := { frames := 2, cells := 0, slots := 0, locals := 41 }
def fX5_fault (Fp : xF) : Option (Int32) :=
  x_b1 (fX2_faultPlace Fp) (fun r2 => some (r2))
theorem fX5_fault_e (Fp : xF) : fX5_fault Fp = x_b1 (fX2_faultPlace Fp) (fun r2 => some (r2)) := rfl
def rmX5_fault : Room := { frames := 1, cells := 0, slots := 0, locals := 20 }
def fX5_sigma (Fp : xF) (Go : xG) : Option (Int32) :=
  x_b1 (fX2_isFormula Fp) (fun r2 => (if r2 = 0 then some ((-1)) else x_b1 (fX0_wholeSigma Go) (fun r5 => some (r5))))
theorem fX5_sigma_e (Fp : xF) (Go : xG) : fX5_sigma Fp Go = x_b1 (fX2_isFormula Fp) (fun r2 => (if r2 = 0 then some ((-1)) else x_b1 (fX0_wholeSigma Go) (fun r5 => some (r5)))) := rfl
def rmX5_sigma : Room := { frames := 1, cells := 0, slots := 0, locals := 20 }
def fX5_pi (Fp : xF) (Go : xG) : Option (Int32) :=
  x_b1 (fX2_isFormula Fp) (fun r2 => (if r2 = 0 then some ((-1)) else x_b1 (fX0_wholePi Go) (fun r5 => some (r5))))
theorem fX5_pi_e (Fp : xF) (Go : xG) : fX5_pi Fp Go = x_b1 (fX2_isFormula Fp) (fun r2 => (if r2 = 0 then some ((-1)) else x_b1 (fX0_wholePi Go) (fun r5 => some (r5)))) := rfl
def rmX5_pi : Room := { frames := 1, cells := 0, slots := 0, locals := 20 }
def fX5_free (Fp : xF) (Go : xG) : Option (Int32) :=
  x_b1 (fX2_isFormula Fp) (fun r2 => (if r2 = 0 then some ((-1)) else x_b1 (fX0_wholeFree Go) (fun r5 => some (r5))))
theorem fX5_free_e (Fp : xF) (Go : xG) : fX5_free Fp Go = x_b1 (fX2_isFormula Fp) (fun r2 => (if r2 = 0 then some ((-1)) else x_b1 (fX0_wholeFree Go) (fun r5 => some (r5)))) := rfl
def rmX5_free : Room := { frames := 1, cells := 0, slots := 0, locals := 20 }
def fX5_open (Fz : xF) (Gz : xG) : Option (Int32) :=
  x_b1 (fX4_openPairs Fz Gz) (fun r2 => some (r2))
theorem fX5_open_e (Fz : xF) (Gz : xG) : fX5_open Fz Gz = x_b1 (fX4_openPairs Fz Gz) (fun r2 => some (r2)) := rfl
def rmX5_open : Room := { frames := 6, cells := 0, slots := 0, locals := 135 }
