def fX5_letter (Fp : xF) (Gp : xG) (Fo : xF) (Go : xG) (p1 : Int32) : Option (Int32 × Int32 × xF × xG × xF × xG) :=
  x_b1 (fX2_isLetter p1) (fun r2 => (if r2 = 0 then some (1, 0, Fp, Gp, Fo, Go) else x_b1 (fX2_isFull Fp) (fun r5 => (if r5 = 0 then x_b5 (fX2_type Fp Gp Fo Go p1) (fun r8 F9 G10 F11 G12 => some (0, r8, F9, G10, F11, G12)) else some (2, 0, Fp, Gp, Fo, Go)))))
theorem fX5_letter_e (Fp : xF) (Gp : xG) (Fo : xF) (Go : xG) (p1 : Int32) : fX5_letter Fp Gp Fo Go p1 = x_b1 (fX2_isLetter p1) (fun r2 => (if r2 = 0 then some (1, 0, Fp, Gp, Fo, Go) else x_b1 (fX2_isFull Fp) (fun r5 => (if r5 = 0 then x_b5 (fX2_type Fp Gp Fo Go p1) (fun r8 F9 G10 F11 G12 => some (0, r8, F9, G10, F11, G12)) else some (2, 0, Fp, Gp, Fo, Go))))) := rfl
def rmX5_letter : Room := { frames := 7, cells := 1, slots := 6, locals := 170 }
def exX5_letter : Int32 → String := fun k => if k = 1 then yIAE else yISE
def fX5_isSo_j34 (Go : xG)  : Option (Int32 × Int32 × xG) :=
  some (1, 0, Go)
theorem fX5_isSo_j34_e (Go : xG)  : fX5_isSo_j34 Go = some (1, 0, Go) := rfl
def fX5_isSo_j69 (Go : xG)  : Option (Int32 × Int32 × xG) :=
  some (2, 0, Go)
theorem fX5_isSo_j69_e (Go : xG)  : fX5_isSo_j69 Go = some (2, 0, Go) := rfl
def fX5_isSo (Fp : xF) (Fo : xF) (Go : xG) (p1 : Int32) (p2 : Int32) (p3 : Int32) (p4 : Int32) : Option (Int32 × Int32 × xG) :=
  x_b1 (fX5_isBetween 1 p1 5) (fun r2 => (if r2 = 0 then (fX5_isSo_j34 Go) else x_b1 (fX5_isBelow p2 p1) (fun r5 => (if r5 = 0 then (fX5_isSo_j34 Go) else x_b1 (fX5_isBelow p3 p1) (fun r8 => (if r8 = 0 then (fX5_isSo_j34 Go) else x_b1 (fX5_isBelow p4 p1) (fun r11 => (if r11 = 0 then (fX5_isSo_j34 Go) else x_b1 (fX2_isFormula Fp) (fun r14 => (if r14 = 0 then (fX5_isSo_j69 Go) else (if (Fo 10) ≤ 6 then x_b2 (fX0_isTrue Fo Go p1 p2 p3 p4) (fun r18 G19 => some (0, x_zn r18, G19)) else (fX5_isSo_j69 Go))))))))))))
theorem fX5_isSo_e (Fp : xF) (Fo : xF) (Go : xG) (p1 : Int32) (p2 : Int32) (p3 : Int32) (p4 : Int32) : fX5_isSo Fp Fo Go p1 p2 p3 p4 = x_b1 (fX5_isBetween 1 p1 5) (fun r2 => (if r2 = 0 then (fX5_isSo_j34 Go) else x_b1 (fX5_isBelow p2 p1) (fun r5 => (if r5 = 0 then (fX5_isSo_j34 Go) else x_b1 (fX5_isBelow p3 p1) (fun r8 => (if r8 = 0 then (fX5_isSo_j34 Go) else x_b1 (fX5_isBelow p4 p1) (fun r11 => (if r11 = 0 then (fX5_isSo_j34 Go) else x_b1 (fX2_isFormula Fp) (fun r14 => (if r14 = 0 then (fX5_isSo_j69 Go) else (if (Fo 10) ≤ 6 then x_b2 (fX0_isTrue Fo Go p1 p2 p3 p4) (fun r18 G19 => some (0, x_zn r18, G19)) else (fX5_isSo_j69 Go)))))))))))) := rfl
def rmX5_isSo : Room := { frames := 6, cells := 1, slots := 6, locals := 100 }
def exX5_isSo : Int32 → String := fun k => if k = 1 then yIAE else yISE
def fX5_principle_j33 (Fp : xF) (Fo : xF) (Fz : xF) (Gz : xG)  : Option (Int32 × Int32 × xF × xF × xF × xG) :=
  some (1, 0, Fp, Fo, Fz, Gz)
theorem fX5_principle_j33_e (Fp : xF) (Fo : xF) (Fz : xF) (Gz : xG)  : fX5_principle_j33 Fp Fo Fz Gz = some (1, 0, Fp, Fo, Fz, Gz) := rfl
def fX5_principle (Fp : xF) (Fo : xF) (Go : xG) (Fz : xF) (Gz : xG) : Option (Int32 × Int32 × xF × xF × xF × xG) :=
  x_b1 (fX2_isFormula Fp) (fun r2 => (if r2 = 0 then (fX5_principle_j33 Fp Fo Fz Gz) else x_b1 (fX0_wholeFree Go) (fun r5 => (if r5 = 0 then x_b1 (fX4_hasAllPrinciples Fz) (fun r8 => (if r8 = 0 then x_b1 (fX0_wholeSigma Go) (fun r11 => x_b1 (fX0_wholePi Go) (fun r13 => x_b3 (fX4_addPrinciple Fz Gz r11 r13) (fun r15 F16 G17 => x_b3 (fX2_wipe Fp Fo) (fun r19 F20 F21 => some (0, r15, F20, F21, F16, G17))))) else (fX5_principle_j33 Fp Fo Fz Gz))) else (fX5_principle_j33 Fp Fo Fz Gz)))))
theorem fX5_principle_e (Fp : xF) (Fo : xF) (Go : xG) (Fz : xF) (Gz : xG) : fX5_principle Fp Fo Go Fz Gz = x_b1 (fX2_isFormula Fp) (fun r2 => (if r2 = 0 then (fX5_principle_j33 Fp Fo Fz Gz) else x_b1 (fX0_wholeFree Go) (fun r5 => (if r5 = 0 then x_b1 (fX4_hasAllPrinciples Fz) (fun r8 => (if r8 = 0 then x_b1 (fX0_wholeSigma Go) (fun r11 => x_b1 (fX0_wholePi Go) (fun r13 => x_b3 (fX4_addPrinciple Fz Gz r11 r13) (fun r15 F16 G17 => x_b3 (fX2_wipe Fp Fo) (fun r19 F20 F21 => some (0, r15, F20, F21, F16, G17))))) else (fX5_principle_j33 Fp Fo Fz Gz))) else (fX5_principle_j33 Fp Fo Fz Gz))))) := rfl
def rmX5_principle : Room := { frames := 6, cells := 1, slots := 6, locals := 82 }
def exX5_principle : Int32 → String := fun _ => yISE
def fX5_rule_j40 (Fz : xF) (Gz : xG)  : Option (Int32 × Int32 × xF × xG) :=
  some (2, 0, Fz, Gz)
theorem fX5_rule_j40_e (Fz : xF) (Gz : xG)  : fX5_rule_j40 Fz Gz = some (2, 0, Fz, Gz) := rfl
def fX5_rule_j72 (Fz : xF) (Gz : xG)  : Option (Int32 × Int32 × xF × xG) :=
  some (3, 0, Fz, Gz)
theorem fX5_rule_j72_e (Fz : xF) (Gz : xG)  : fX5_rule_j72 Fz Gz = some (3, 0, Fz, Gz) := rfl
def fX5_rule (Fz : xF) (Gz : xG) (p1 : Int32) (p2 : Int32) : Option (Int32 × Int32 × xF × xG) :=
  x_b1 (fX4_hasPrinciple Fz p2) (fun r2 => (if r2 = 0 then some (1, 0, Fz, Gz) else x_b1 (fX4_isSet Fz p1) (fun r5 => (if r5 = 0 then (fX5_rule_j40 Fz Gz) else x_b1 (fX4_contains p1 p2) (fun r8 => (if r8 = 0 then x_b1 (fX4_hasAllRules Fz) (fun r11 => (if r11 = 0 then x_b1 (fX4_isBrokenByModel Fz Gz p1 p2) (fun r14 => (if r14 = 0 then x_b3 (fX4_addRule Fz Gz p1 p2) (fun r17 F18 G19 => some (0, r17, F18, G19)) else (fX5_rule_j72 Fz Gz))) else (fX5_rule_j72 Fz Gz))) else (fX5_rule_j40 Fz Gz)))))))
theorem fX5_rule_e (Fz : xF) (Gz : xG) (p1 : Int32) (p2 : Int32) : fX5_rule Fz Gz p1 p2 = x_b1 (fX4_hasPrinciple Fz p2) (fun r2 => (if r2 = 0 then some (1, 0, Fz, Gz) else x_b1 (fX4_isSet Fz p1) (fun r5 => (if r5 = 0 then (fX5_rule_j40 Fz Gz) else x_b1 (fX4_contains p1 p2) (fun r8 => (if r8 = 0 then x_b1 (fX4_hasAllRules Fz) (fun r11 => (if r11 = 0 then x_b1 (fX4_isBrokenByModel Fz Gz p1 p2) (fun r14 => (if r14 = 0 then x_b3 (fX4_addRule Fz Gz p1 p2) (fun r17 F18 G19 => some (0, r17, F18, G19)) else (fX5_rule_j72 Fz Gz))) else (fX5_rule_j72 Fz Gz))) else (fX5_rule_j40 Fz Gz))))))) := rfl
def rmX5_rule : Room := { frames := 6, cells := 1, slots := 6, locals := 82 }
def exX5_rule : Int32 → String := fun k => if k = 1 then yIOE else if k = 2 then yIAE else yISE
def fX5_model_j42 (Fz : xF) (Gz : xG)  : Option (Int32 × Int32 × xF × xG) :=
  some (2, 0, Fz, Gz)
theorem fX5_model_j42_e (Fz : xF) (Gz : xG)  : fX5_model_j42 Fz Gz = some (2, 0, Fz, Gz) := rfl
def fX5_model (Fz : xF) (Gz : xG) (p1 : Int32) : Option (Int32 × Int32 × xF × xG) :=
  x_b1 (fX4_isSet Fz p1) (fun r2 => (if r2 = 0 then some (1, 0, Fz, Gz) else x_b1 (fX4_hasAllModels Fz) (fun r5 => (if r5 = 0 then x_b1 (fX4_breaksRule Fz Gz p1) (fun r8 => (if r8 = 0 then x_b3 (fX4_addModel Fz Gz p1) (fun r11 F12 G13 => some (0, r11, F12, G13)) else (fX5_model_j42 Fz Gz))) else (fX5_model_j42 Fz Gz)))))
theorem fX5_model_e (Fz : xF) (Gz : xG) (p1 : Int32) : fX5_model Fz Gz p1 = x_b1 (fX4_isSet Fz p1) (fun r2 => (if r2 = 0 then some (1, 0, Fz, Gz) else x_b1 (fX4_hasAllModels Fz) (fun r5 => (if r5 = 0 then x_b1 (fX4_breaksRule Fz Gz p1) (fun r8 => (if r8 = 0 then x_b3 (fX4_addModel Fz Gz p1) (fun r11 F12 G13 => some (0, r11, F12, G13)) else (fX5_model_j42 Fz Gz))) else (fX5_model_j42 Fz Gz))))) := rfl
def rmX5_model : Room := { frames := 6, cells := 1, slots := 6, locals := 86 }
def exX5_model : Int32 → String := fun k => if k = 1 then yIAE else yISE
def fX5_proves (Fz : xF) (Gz : xG) (p1 : Int32) : Option (Int32 × Int32) :=
  x_b1 (fX4_isSet Fz p1) (fun r2 => (if r2 = 0 then some (1, 0) else x_b1 (fX4_closure Fz Gz p1) (fun r5 => some (0, r5))))
theorem fX5_proves_e (Fz : xF) (Gz : xG) (p1 : Int32) : fX5_proves Fz Gz p1 = x_b1 (fX4_isSet Fz p1) (fun r2 => (if r2 = 0 then some (1, 0) else x_b1 (fX4_closure Fz Gz p1) (fun r5 => some (0, r5)))) := rfl
def rmX5_proves : Room := { frames := 6, cells := 1, slots := 6, locals := 89 }
def exX5_proves : Int32 → String := fun _ => yIAE
def fX5_proof_j15 (Gz : xG)  : Option (Int32 × Int32 × xG) :=
  some (1, 0, Gz)
theorem fX5_proof_j15_e (Gz : xG)  : fX5_proof_j15 Gz = some (1, 0, Gz) := rfl
def fX5_proof (Fz : xF) (Gz : xG) (p1 : Int32) (p2 : Int32) (p3 : Int32) : Option (Int32 × Int32 × xG) :=
  x_b1 (fX4_hasPrinciple Fz p2) (fun r2 => (if r2 = 0 then (fX5_proof_j15 Gz) else (if 0 ≤ p3 then x_b1 (fX4_isSet Fz p1) (fun r6 => (if r6 = 0 then some (2, 0, Gz) else x_b2 (fX4_proofStep Fz Gz p1 p2 p3) (fun r9 G10 => some (0, r9, G10)))) else (fX5_proof_j15 Gz))))
theorem fX5_proof_e (Fz : xF) (Gz : xG) (p1 : Int32) (p2 : Int32) (p3 : Int32) : fX5_proof Fz Gz p1 p2 p3 = x_b1 (fX4_hasPrinciple Fz p2) (fun r2 => (if r2 = 0 then (fX5_proof_j15 Gz) else (if 0 ≤ p3 then x_b1 (fX4_isSet Fz p1) (fun r6 => (if r6 = 0 then some (2, 0, Gz) else x_b2 (fX4_proofStep Fz Gz p1 p2 p3) (fun r9 G10 => some (0, r9, G10)))) else (fX5_proof_j15 Gz)))) := rfl
def rmX5_proof : Room := { frames := 6, cells := 1, slots := 6, locals := 114 }
def exX5_proof : Int32 → String := fun k => if k = 1 then yIOE else yIAE
def fX5_known_j22   : Option (Int32 × Int32) :=
  some (1, 0)
theorem fX5_known_j22_e   : fX5_known_j22  = some (1, 0) := rfl
def fX5_known (Fz : xF) (Gz : xG) (p1 : Int32) (p2 : Int32) : Option (Int32 × Int32) :=
  x_b1 (fX4_hasPrinciple Fz p1) (fun r2 => (if r2 = 0 then fX5_known_j22 else x_b1 (fX4_hasPrinciple Fz p2) (fun r5 => (if r5 = 0 then fX5_known_j22 else (if p1 = p2 then some (2, 0) else x_b1 (fX4_verdict Fz Gz p1 p2) (fun r9 => some (0, r9)))))))
theorem fX5_known_e (Fz : xF) (Gz : xG) (p1 : Int32) (p2 : Int32) : fX5_known Fz Gz p1 p2 = x_b1 (fX4_hasPrinciple Fz p1) (fun r2 => (if r2 = 0 then fX5_known_j22 else x_b1 (fX4_hasPrinciple Fz p2) (fun r5 => (if r5 = 0 then fX5_known_j22 else (if p1 = p2 then some (2, 0) else x_b1 (fX4_verdict Fz Gz p1 p2) (fun r9 => some (0, r9))))))) := rfl
def rmX5_known : Room := { frames := 6, cells := 1, slots := 6, locals := 112 }
def exX5_known : Int32 → String := fun k => if k = 1 then yIOE else yIAE
def fX5_least (Fz : xF) (Gz : xG) (p1 : Int32) (p2 : Int32) : Option (Int32 × Int32) :=
  x_b1 (fX4_hasPrinciple Fz p1) (fun r2 => (if r2 = 0 then some (1, 0) else x_b1 (fX4_isSet Fz p2) (fun r5 => (if r5 = 0 then some (2, 0) else x_b1 (fX4_leastBySize Fz Gz p1 p2) (fun r8 => some (0, r8))))))
theorem fX5_least_e (Fz : xF) (Gz : xG) (p1 : Int32) (p2 : Int32) : fX5_least Fz Gz p1 p2 = x_b1 (fX4_hasPrinciple Fz p1) (fun r2 => (if r2 = 0 then some (1, 0) else x_b1 (fX4_isSet Fz p2) (fun r5 => (if r5 = 0 then some (2, 0) else x_b1 (fX4_leastBySize Fz Gz p1 p2) (fun r8 => some (0, r8)))))) := rfl
def rmX5_least : Room := { frames := 6, cells := 1, slots := 6, locals := 113 }
def exX5_least : Int32 → String := fun k => if k = 1 then yIOE else yIAE
def fX5_leastAnew (Fz : xF) (Gz : xG) (p1 : Int32) (p2 : Int32) : Option (Int32 × Int32) :=
  x_b1 (fX4_hasPrinciple Fz p1) (fun r2 => (if r2 = 0 then some (1, 0) else x_b1 (fX4_isSet Fz p2) (fun r5 => (if r5 = 0 then some (2, 0) else x_b1 (fX4_leastOfAll Fz Gz p1 p2) (fun r8 => some (0, r8))))))
theorem fX5_leastAnew_e (Fz : xF) (Gz : xG) (p1 : Int32) (p2 : Int32) : fX5_leastAnew Fz Gz p1 p2 = x_b1 (fX4_hasPrinciple Fz p1) (fun r2 => (if r2 = 0 then some (1, 0) else x_b1 (fX4_isSet Fz p2) (fun r5 => (if r5 = 0 then some (2, 0) else x_b1 (fX4_leastOfAll Fz Gz p1 p2) (fun r8 => some (0, r8)))))) := rfl
def rmX5_leastAnew : Room := { frames := 6, cells := 1, slots := 6, locals := 115 }
def exX5_leastAnew : Int32 → String := fun k => if k = 1 then yIOE else yIAE
def fX5_ofPrinciple (Fz : xF) (Gz : xG) (p1 : Int32) (p2 : Int32) : Option (Int32 × Int32) :=
  x_b1 (fX4_hasPrinciple Fz p1) (fun r2 => (if r2 = 0 then some (1, 0) else x_b1 (fX5_isBelow p2 4) (fun r5 => (if r5 = 0 then some (2, 0) else x_b1 (fX4_tell Fz Gz p1 p2) (fun r8 => some (0, r8))))))
theorem fX5_ofPrinciple_e (Fz : xF) (Gz : xG) (p1 : Int32) (p2 : Int32) : fX5_ofPrinciple Fz Gz p1 p2 = x_b1 (fX4_hasPrinciple Fz p1) (fun r2 => (if r2 = 0 then some (1, 0) else x_b1 (fX5_isBelow p2 4) (fun r5 => (if r5 = 0 then some (2, 0) else x_b1 (fX4_tell Fz Gz p1 p2) (fun r8 => some (0, r8)))))) := rfl
def rmX5_ofPrinciple : Room := { frames := 6, cells := 1, slots := 6, locals := 82 }
def exX5_ofPrinciple : Int32 → String := fun k => if k = 1 then yIOE else yIAE
def fX5_problem (Fq : xF) (Gq : xG) (p1 : Int32) (p2 : Int32) (p3 : Int32) : Option (Int32 × Int32 × xF × xG) :=
  x_b1 (fX3_areInRange p1 p2 p3) (fun r2 => (if r2 = 0 then some (1, 0, Fq, Gq) else x_b1 (fX3_hasAll Fq) (fun r5 => (if r5 = 0 then x_b3 (fX3_add Fq Gq p1 p2 p3) (fun r8 F9 G10 => some (0, r8, F9, G10)) else some (2, 0, Fq, Gq)))))
theorem fX5_problem_e (Fq : xF) (Gq : xG) (p1 : Int32) (p2 : Int32) (p3 : Int32) : fX5_problem Fq Gq p1 p2 p3 = x_b1 (fX3_areInRange p1 p2 p3) (fun r2 => (if r2 = 0 then some (1, 0, Fq, Gq) else x_b1 (fX3_hasAll Fq) (fun r5 => (if r5 = 0 then x_b3 (fX3_add Fq Gq p1 p2 p3) (fun r8 F9 G10 => some (0, r8, F9, G10)) else some (2, 0, Fq, Gq))))) := rfl
def rmX5_problem : Room := { frames := 6, cells := 1, slots := 6, locals := 82 }
def exX5_problem : Int32 → String := fun k => if k = 1 then yIAE else yISE
def fX5_product_j44 (Fq : xF) (Gq : xG)  : Option (Int32 × Int32 × xF × xG) :=
  some (2, 0, Fq, Gq)
theorem fX5_product_j44_e (Fq : xF) (Gq : xG)  : fX5_product_j44 Fq Gq = some (2, 0, Fq, Gq) := rfl
def fX5_product (Fq : xF) (Gq : xG) (p1 : Int32) (p2 : Int32) : Option (Int32 × Int32 × xF × xG) :=
  x_b1 (fX3_hasBoth Fq p1 p2) (fun r2 => (if r2 = 0 then some (1, 0, Fq, Gq) else x_b1 (fX3_hasAll Fq) (fun r5 => (if r5 = 0 then x_b1 (fX3_canMultiply Gq p1 p2) (fun r8 => (if r8 = 0 then (fX5_product_j44 Fq Gq) else x_b3 (fX3_addProduct Fq Gq p1 p2) (fun r11 F12 G13 => some (0, r11, F12, G13)))) else (fX5_product_j44 Fq Gq)))))
theorem fX5_product_e (Fq : xF) (Gq : xG) (p1 : Int32) (p2 : Int32) : fX5_product Fq Gq p1 p2 = x_b1 (fX3_hasBoth Fq p1 p2) (fun r2 => (if r2 = 0 then some (1, 0, Fq, Gq) else x_b1 (fX3_hasAll Fq) (fun r5 => (if r5 = 0 then x_b1 (fX3_canMultiply Gq p1 p2) (fun r8 => (if r8 = 0 then (fX5_product_j44 Fq Gq) else x_b3 (fX3_addProduct Fq Gq p1 p2) (fun r11 F12 G13 => some (0, r11, F12, G13)))) else (fX5_product_j44 Fq Gq))))) := rfl
def rmX5_product : Room := { frames := 6, cells := 1, slots := 6, locals := 82 }
def exX5_product : Int32 → String := fun k => if k = 1 then yIOE else yISE
def fX5_reduces (Fq : xF) (Gq : xG) (p1 : Int32) (p2 : Int32) : Option (Int32 × Int32 × xG) :=
  x_b1 (fX3_hasBoth Fq p1 p2) (fun r2 => (if r2 = 0 then some (1, 0, Gq) else x_b2 (fX3_lowestCode Gq p1 p2 0) (fun r5 G6 => some (0, r5, G6))))
theorem fX5_reduces_e (Fq : xF) (Gq : xG) (p1 : Int32) (p2 : Int32) : fX5_reduces Fq Gq p1 p2 = x_b1 (fX3_hasBoth Fq p1 p2) (fun r2 => (if r2 = 0 then some (1, 0, Gq) else x_b2 (fX3_lowestCode Gq p1 p2 0) (fun r5 G6 => some (0, r5, G6)))) := rfl
def rmX5_reduces : Room := { frames := 6, cells := 1, slots := 6, locals := 116 }
def exX5_reduces : Int32 → String := fun _ => yIOE
def fX5_reducesAnew (Fq : xF) (Gq : xG) (p1 : Int32) (p2 : Int32) : Option (Int32 × Int32 × xG) :=
  x_b1 (fX3_hasBoth Fq p1 p2) (fun r2 => (if r2 = 0 then some (1, 0, Gq) else x_b2 (fX3_lowestCode Gq p1 p2 1) (fun r5 G6 => some (0, r5, G6))))
theorem fX5_reducesAnew_e (Fq : xF) (Gq : xG) (p1 : Int32) (p2 : Int32) : fX5_reducesAnew Fq Gq p1 p2 = x_b1 (fX3_hasBoth Fq p1 p2) (fun r2 => (if r2 = 0 then some (1, 0, Gq) else x_b2 (fX3_lowestCode Gq p1 p2 1) (fun r5 G6 => some (0, r5, G6)))) := rfl
def rmX5_reducesAnew : Room := { frames := 6, cells := 1, slots := 6, locals := 116 }
def exX5_reducesAnew : Int32 → String := fun _ => yIOE
def fX5_forth_j24 (Gq : xG)  : Option (Int32 × Int32 × xG) :=
  some (1, 0, Gq)
theorem fX5_forth_j24_e (Gq : xG)  : fX5_forth_j24 Gq = some (1, 0, Gq) := rfl
def fX5_forth (Fq : xF) (Gq : xG) (p1 : Int32) (p2 : Int32) (p3 : Int32) : Option (Int32 × Int32 × xG) :=
  x_b1 (fX3_hasBoth Fq p1 p2) (fun r2 => (if r2 = 0 then (fX5_forth_j24 Gq) else x_b1 (fX3_hasInstance Gq p1 p3) (fun r5 => (if r5 = 0 then (fX5_forth_j24 Gq) else x_b2 (fX3_forthOf Gq p1 p2 p3) (fun r8 G9 => some (0, r8, G9))))))
theorem fX5_forth_e (Fq : xF) (Gq : xG) (p1 : Int32) (p2 : Int32) (p3 : Int32) : fX5_forth Fq Gq p1 p2 p3 = x_b1 (fX3_hasBoth Fq p1 p2) (fun r2 => (if r2 = 0 then (fX5_forth_j24 Gq) else x_b1 (fX3_hasInstance Gq p1 p3) (fun r5 => (if r5 = 0 then (fX5_forth_j24 Gq) else x_b2 (fX3_forthOf Gq p1 p2 p3) (fun r8 G9 => some (0, r8, G9)))))) := rfl
def rmX5_forth : Room := { frames := 6, cells := 1, slots := 6, locals := 139 }
def exX5_forth : Int32 → String := fun _ => yIOE
def fX5_ofProblem (Fq : xF) (Gq : xG) (p1 : Int32) (p2 : Int32) : Option (Int32 × Int32) :=
  x_b1 (fX3_hasNumber Fq p1) (fun r2 => (if r2 = 0 then some (1, 0) else x_b1 (fX5_isBelow p2 3) (fun r5 => (if r5 = 0 then some (2, 0) else x_b1 (fX3_tell Gq p1 p2) (fun r8 => some (0, r8))))))
theorem fX5_ofProblem_e (Fq : xF) (Gq : xG) (p1 : Int32) (p2 : Int32) : fX5_ofProblem Fq Gq p1 p2 = x_b1 (fX3_hasNumber Fq p1) (fun r2 => (if r2 = 0 then some (1, 0) else x_b1 (fX5_isBelow p2 3) (fun r5 => (if r5 = 0 then some (2, 0) else x_b1 (fX3_tell Gq p1 p2) (fun r8 => some (0, r8)))))) := rfl
def rmX5_ofProblem : Room := { frames := 6, cells := 1, slots := 6, locals := 82 }
def exX5_ofProblem : Int32 → String := fun k => if k = 1 then yIOE else yIAE
def fX5_has (p1 : Int32) (p2 : Int32) : Option (Int32 × Int32) :=
  x_b1 (fX1_isInRange p1 p2) (fun r2 => (if r2 = 0 then some (1, 0) else x_b1 (fX1_isWonBackwards p1 p2) (fun r5 => some (0, x_zn r5))))
theorem fX5_has_e (p1 : Int32) (p2 : Int32) : fX5_has p1 p2 = x_b1 (fX1_isInRange p1 p2) (fun r2 => (if r2 = 0 then some (1, 0) else x_b1 (fX1_isWonBackwards p1 p2) (fun r5 => some (0, x_zn r5)))) := rfl
def rmX5_has : Room := { frames := 6, cells := 1, slots := 6, locals := 82 }
def exX5_has : Int32 → String := fun _ => yIAE
def fX5_hasAnew (p1 : Int32) (p2 : Int32) : Option (Int32 × Int32) :=
  x_b1 (fX1_isInRange p1 p2) (fun r2 => (if r2 = 0 then some (1, 0) else x_b1 (fX1_isWonBySomePlan p1 p2) (fun r5 => some (0, x_zn r5))))
theorem fX5_hasAnew_e (p1 : Int32) (p2 : Int32) : fX5_hasAnew p1 p2 = x_b1 (fX1_isInRange p1 p2) (fun r2 => (if r2 = 0 then some (1, 0) else x_b1 (fX1_isWonBySomePlan p1 p2) (fun r5 => some (0, x_zn r5)))) := rfl
def rmX5_hasAnew : Room := { frames := 6, cells := 1, slots := 6, locals := 92 }
def exX5_hasAnew : Int32 → String := fun _ => yIAE
