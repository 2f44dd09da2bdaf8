def vm_isN (w : Cond) : Bool := match w with
  | .methodLinkNest _ _ _ _ => true
  | _ => false
def vm_ws : List Cond := lw_tbl.filter goodWord
def vm_nw : List Cond := lw_tbl.filter vm_isN
def vm_e3 : String := "TriangleSets$Polynomial"
def vm_e4 : String := "TriangleSets$Row"
def vm_TX0 : u_T := fun k => match k with
  | 0 => ("TriangleSets$Places", "count", "I", false)
  | 1 => ("TriangleSets$Places", "free", "[Z", true)
  | 2 => ("TriangleSets$Places", "point", "[J", true)
  | _ => ("TriangleSets$Places", "variables", "[I", true)
def vm_tyX0 : Nat → FieldType := fun k => match k with
  | 0 => .int
  | 1 => .array .boolean
  | 2 => .array .long
  | _ => .array .int
def vm_TX1 : u_T := fun k => match k with
  | 0 => ("TriangleSets$Polynomial", "keys", "[J", true)
  | 1 => ("TriangleSets$Polynomial", "factors", "[J", true)
  | _ => ("TriangleSets$Polynomial", "count", "I", false)
def vm_tyX1 : Nat → FieldType := fun k => match k with
  | 0 => .array .long
  | 1 => .array .long
  | _ => .int
def vm_TX2 : u_T := fun k => match k with
  | 0 => ("TriangleSets$Row", "sum", "LTriangleSets$Polynomial;", true)
  | 1 => ("TriangleSets$Row", "place", "I", false)
  | _ => ("TriangleSets$Row", "degree", "I", false)
def vm_tyX2 : Nat → FieldType := fun k => match k with
  | 0 => .object "TriangleSets$Polynomial"
  | 1 => .int
  | _ => .int
def vm_TX3 : u_T := fun k => match k with
  | 0 => ("TriangleSets$Stepper", "keys", "[J", false)
  | 1 => ("TriangleSets$Stepper", "factors", "[J", false)
  | 2 => ("TriangleSets$Stepper", "otherKeys", "[J", false)
  | 3 => ("TriangleSets$Stepper", "otherFactors", "[J", false)
  | _ => ("TriangleSets$Stepper", "count", "I", false)
def vm_tyX3 : Nat → FieldType := fun k => match k with
  | 0 => .array .long
  | 1 => .array .long
  | 2 => .array .long
  | 3 => .array .long
  | _ => .int
def vm_TX4 : u_T := fun k => match k with
  | 0 => ("TriangleSets$Triangle", "members", "[LTriangleSets$Row;", true)
  | _ => ("TriangleSets$Triangle", "size", "I", false)
def vm_tyX4 : Nat → FieldType := fun k => match k with
  | 0 => .array (.object "TriangleSets$Row")
  | _ => .int
def vm_TX5 : u_T := fun k => match k with
  | 0 => ("TriangleSets", "places", "LTriangleSets$Places;", true)
  | 1 => ("TriangleSets", "polynomials", "[LTriangleSets$Polynomial;", true)
  | 2 => ("TriangleSets", "hypotheses", "[Z", true)
  | 3 => ("TriangleSets", "polynomialCount", "I", false)
  | 4 => ("TriangleSets", "rows", "[LTriangleSets$Row;", true)
  | 5 => ("TriangleSets", "rowCount", "I", false)
  | 6 => ("TriangleSets", "set", "LTriangleSets$Triangle;", true)
  | 7 => ("TriangleSets", "stepper", "LTriangleSets$Stepper;", true)
  | 8 => ("TriangleSets", "condition", "LTriangleSets$Polynomial;", true)
  | 9 => ("TriangleSets", "remainder", "LTriangleSets$Polynomial;", true)
  | 10 => ("TriangleSets", "proved", "LTriangleSets$Polynomial;", true)
  | 11 => ("TriangleSets", "provedSteps", "[I", true)
  | 12 => ("TriangleSets", "work", "LTriangleSets$Polynomial;", true)
  | 13 => ("TriangleSets", "workSteps", "[I", true)
  | 14 => ("TriangleSets", "workStepCount", "I", false)
  | 15 => ("TriangleSets", "decomposeRounds", "I", false)
  | 16 => ("TriangleSets", "decomposeSteps", "I", false)
  | _ => ("TriangleSets", "proveSteps", "I", false)
def vm_tyX5 : Nat → FieldType := fun k => match k with
  | 0 => .object "TriangleSets$Places"
  | 1 => .array (.object "TriangleSets$Polynomial")
  | 2 => .array .boolean
  | 3 => .int
  | 4 => .array (.object "TriangleSets$Row")
  | 5 => .int
  | 6 => .object "TriangleSets$Triangle"
  | 7 => .object "TriangleSets$Stepper"
  | 8 => .object "TriangleSets$Polynomial"
  | 9 => .object "TriangleSets$Polynomial"
  | 10 => .object "TriangleSets$Polynomial"
  | 11 => .array .int
  | 12 => .object "TriangleSets$Polynomial"
  | 13 => .array .int
  | 14 => .int
  | 15 => .int
  | 16 => .int
  | _ => .int
def vm_TX6 : u_T := fun k => match k with
  | 0 => ("TriangleSetsModel", "thrown", "I", false)
  | 1 => ("TriangleSetsModel", "variables", "I", false)
  | 2 => ("TriangleSetsModel", "isFree", "[Z", true)
  | 3 => ("TriangleSetsModel", "order", "[I", true)
  | 4 => ("TriangleSetsModel", "polys", "I", false)
  | 5 => ("TriangleSetsModel", "used", "[Z", true)
  | 6 => ("TriangleSetsModel", "count", "[I", true)
  | 7 => ("TriangleSetsModel", "coef", "[J", true)
  | 8 => ("TriangleSetsModel", "key", "[J", true)
  | 9 => ("TriangleSetsModel", "point", "[J", true)
  | 10 => ("TriangleSetsModel", "isSet", "Z", false)
  | 11 => ("TriangleSetsModel", "members", "I", false)
  | 12 => ("TriangleSetsModel", "hasRemainder", "Z", false)
  | 13 => ("TriangleSetsModel", "hasCondition", "Z", false)
  | 14 => ("TriangleSetsModel", "roundsMade", "I", false)
  | 15 => ("TriangleSetsModel", "rowsLeft", "I", false)
  | 16 => ("TriangleSetsModel", "stepsMade", "I", false)
  | 17 => ("TriangleSetsModel", "proofSteps", "I", false)
  | 18 => ("TriangleSetsModel", "isProof", "Z", false)
  | 19 => ("TriangleSetsModel", "steps", "I", false)
  | 20 => ("TriangleSetsModel", "stepBy", "[I", true)
  | 21 => ("TriangleSetsModel", "stepFrom", "[I", true)
  | 22 => ("TriangleSetsModel", "stepMany", "[I", true)
  | 23 => ("TriangleSetsModel", "stepCoef", "[J", true)
  | 24 => ("TriangleSetsModel", "stepKey", "[J", true)
  | 25 => ("TriangleSetsModel", "kept", "I", false)
  | 26 => ("TriangleSetsModel", "madeBy", "[I", true)
  | 27 => ("TriangleSetsModel", "newSteps", "I", false)
  | 28 => ("TriangleSetsModel", "newKept", "I", false)
  | 29 => ("TriangleSetsModel", "newBy", "[I", true)
  | 30 => ("TriangleSetsModel", "newFrom", "[I", true)
  | 31 => ("TriangleSetsModel", "newMany", "[I", true)
  | 32 => ("TriangleSetsModel", "newCoef", "[J", true)
  | 33 => ("TriangleSetsModel", "newKey", "[J", true)
  | 34 => ("TriangleSetsModel", "gatheredKey", "[J", true)
  | 35 => ("TriangleSetsModel", "gathered", "[J", true)
  | 36 => ("TriangleSetsModel", "isGathered", "[Z", true)
  | 37 => ("TriangleSetsModel", "places", "[I", true)
  | 38 => ("TriangleSetsModel", "many", "I", false)
  | 39 => ("TriangleSetsModel", "base", "[I", true)
  | 40 => ("TriangleSetsModel", "based", "I", false)
  | 41 => ("TriangleSetsModel", "reduced", "I", false)
  | 42 => ("TriangleSetsModel", "rows", "I", false)
  | _ => ("TriangleSetsModel", "quotients", "[J", true)
def vm_tyX6 : Nat → FieldType := fun k => match k with
  | 0 => .int
  | 1 => .int
  | 2 => .array .boolean
  | 3 => .array .int
  | 4 => .int
  | 5 => .array .boolean
  | 6 => .array .int
  | 7 => .array .long
  | 8 => .array .long
  | 9 => .array .long
  | 10 => .boolean
  | 11 => .int
  | 12 => .boolean
  | 13 => .boolean
  | 14 => .int
  | 15 => .int
  | 16 => .int
  | 17 => .int
  | 18 => .boolean
  | 19 => .int
  | 20 => .array .int
  | 21 => .array .int
  | 22 => .array .int
  | 23 => .array .long
  | 24 => .array .long
  | 25 => .int
  | 26 => .array .int
  | 27 => .int
  | 28 => .int
  | 29 => .array .int
  | 30 => .array .int
  | 31 => .array .int
  | 32 => .array .long
  | 33 => .array .long
  | 34 => .array .long
  | 35 => .array .long
  | 36 => .array .boolean
  | 37 => .array .int
  | 38 => .int
  | 39 => .array .int
  | 40 => .int
  | 41 => .int
  | 42 => .int
  | _ => .array .long
def vm_cls : List vw_C := [("TriangleSets$Places", vm_TX0, 4), ("TriangleSets$Polynomial", vm_TX1, 3), ("TriangleSets$Row", vm_TX2, 3), ("TriangleSets$Stepper", vm_TX3, 5), ("TriangleSets$Triangle", vm_TX4, 2), ("TriangleSets", vm_TX5, 18), ("TriangleSetsModel", vm_TX6, 44)]
def vm_tyF (x : Nat) : Nat → FieldType := match x with
  | 0 => vm_tyX0
  | 1 => vm_tyX1
  | 2 => vm_tyX2
  | 3 => vm_tyX3
  | 4 => vm_tyX4
  | 5 => vm_tyX5
  | 6 => vm_tyX6
  | _ => fun _ => .int
def vm_aok (t ci : Nat) : Bool := (t == 3 && ci == 1) || (t == 4 && ci == 2)
def vm_n : Nat := 57
def vm_name (k : Nat) : MethodName := match k with
  | 0 => ⟨"TriangleSetsLaw", "law", "([I)Z"⟩
  | 1 => ⟨"TriangleSets$Places", "<init>", "()V"⟩
  | 2 => ⟨"TriangleSets$Places", "has", "(I)Z"⟩
  | 3 => ⟨"TriangleSets$Places", "append", "(Z)I"⟩
  | 4 => ⟨"TriangleSets$Places", "valueOf", "(LTriangleSets$Polynomial;)J"⟩
  | 5 => ⟨"TriangleSets$Polynomial", "<init>", "()V"⟩
  | 6 => ⟨"TriangleSets$Polynomial", "clear", "()V"⟩
  | 7 => ⟨"TriangleSets$Polynomial", "hasTerm", "(I)Z"⟩
  | 8 => ⟨"TriangleSets$Row", "<init>", "()V"⟩
  | 9 => ⟨"TriangleSets$Stepper", "<init>", "()V"⟩
  | 10 => ⟨"TriangleSets$Triangle", "<init>", "()V"⟩
  | 11 => ⟨"TriangleSets", "<init>", "()V"⟩
  | 12 => ⟨"TriangleSets", "variable", "(Z)I"⟩
  | 13 => ⟨"TriangleSets", "order", "(II)Z"⟩
  | 14 => ⟨"TriangleSets", "polynomial", "()I"⟩
  | 15 => ⟨"TriangleSets", "term", "(IJI)Z"⟩
  | 16 => ⟨"TriangleSets", "use", "(IZ)Z"⟩
  | 17 => ⟨"TriangleSets", "decompose", "()I"⟩
  | 18 => ⟨"TriangleSets", "prove", "(I)I"⟩
  | 19 => ⟨"TriangleSets", "member", "(II)I"⟩
  | 20 => ⟨"TriangleSets", "told", "(I)I"⟩
  | 21 => ⟨"TriangleSets", "coefficient", "(III)J"⟩
  | 22 => ⟨"TriangleSets", "powers", "(III)I"⟩
  | 23 => ⟨"TriangleSets", "point", "(IJ)Z"⟩
  | 24 => ⟨"TriangleSets", "value", "(II)J"⟩
  | 25 => ⟨"TriangleSets", "quotient", "(I)J"⟩
  | 26 => ⟨"TriangleSets", "pseudo", "(JJ)J"⟩
  | 27 => ⟨"TriangleSets", "hasPolynomial", "(I)Z"⟩
  | 28 => ⟨"TriangleSets", "hasMember", "(I)Z"⟩
  | 29 => ⟨"TriangleSets", "hypothesisCount", "()I"⟩
  | 30 => ⟨"TriangleSets", "find", "(II)LTriangleSets$Polynomial;"⟩
  | 31 => ⟨"TriangleSets", "forgetSet", "()V"⟩
  | 32 => ⟨"TriangleSets", "hasSomethingToDecompose", "()Z"⟩
  | 33 => ⟨"TriangleSetsModel", "<init>", "()V"⟩
  | 34 => ⟨"TriangleSetsModel", "thrown", "()I"⟩
  | 35 => ⟨"TriangleSetsModel", "forget", "()V"⟩
  | 36 => ⟨"TriangleSetsModel", "decompose", "()I"⟩
  | 37 => ⟨"TriangleSetsModel", "noPoly", "(I)Z"⟩
  | 38 => ⟨"TriangleSetsModel", "prove", "(I)I"⟩
  | 39 => ⟨"TriangleSetsModel", "variable", "(Z)I"⟩
  | 40 => ⟨"TriangleSetsModel", "order", "(II)Z"⟩
  | 41 => ⟨"TriangleSetsModel", "polynomial", "()I"⟩
  | 42 => ⟨"TriangleSetsModel", "term", "(IJI)Z"⟩
  | 43 => ⟨"TriangleSetsModel", "use", "(IZ)Z"⟩
  | 44 => ⟨"TriangleSetsModel", "noMember", "(I)Z"⟩
  | 45 => ⟨"TriangleSetsModel", "member", "(II)I"⟩
  | 46 => ⟨"TriangleSetsModel", "told", "(I)I"⟩
  | 47 => ⟨"TriangleSetsModel", "slotOf", "(II)I"⟩
  | 48 => ⟨"TriangleSetsModel", "coefficient", "(III)J"⟩
  | 49 => ⟨"TriangleSetsModel", "powers", "(III)I"⟩
  | 50 => ⟨"TriangleSetsModel", "point", "(IJ)Z"⟩
  | 51 => ⟨"TriangleSetsModel", "valueOf", "(I)J"⟩
  | 52 => ⟨"TriangleSetsModel", "value", "(II)J"⟩
  | 53 => ⟨"TriangleSetsModel", "quotient", "(I)J"⟩
  | 54 => ⟨"TriangleSetsModel", "pseudo", "(JJ)J"⟩
  | 55 => ⟨"java/util/Arrays", "fill", "([II)V"⟩
  | 56 => ⟨"TriangleSetsLaw", "pseudo", "(LTriangleSets;JJ[J)I"⟩
  | _ => ⟨"", "", ""⟩
def vm_code (k : Nat) : ByteArray := match k with
  | 0 => code
  | 1 => prog_2_method_1_code
  | 2 => prog_2_method_2_code
  | 3 => prog_2_method_3_code
  | 4 => prog_2_method_13_code
  | 5 => prog_3_method_1_code
  | 6 => prog_3_method_2_code
  | 7 => prog_3_method_3_code
  | 8 => prog_4_method_1_code
  | 9 => prog_5_method_1_code
  | 10 => prog_6_method_1_code
  | 11 => prog_1_method_1_code
  | 12 => prog_1_method_2_code
  | 13 => prog_1_method_3_code
  | 14 => prog_1_method_4_code
  | 15 => prog_1_method_5_code
  | 16 => prog_1_method_6_code
  | 17 => prog_1_method_7_code
  | 18 => prog_1_method_8_code
  | 19 => prog_1_method_9_code
  | 20 => prog_1_method_10_code
  | 21 => prog_1_method_11_code
  | 22 => prog_1_method_12_code
  | 23 => prog_1_method_13_code
  | 24 => prog_1_method_14_code
  | 25 => prog_1_method_15_code
  | 26 => prog_1_method_16_code
  | 27 => prog_1_method_17_code
  | 28 => prog_1_method_18_code
  | 29 => prog_1_method_19_code
  | 30 => prog_1_method_20_code
  | 31 => prog_1_method_21_code
  | 32 => prog_1_method_24_code
  | 33 => prog_8_method_1_code
  | 34 => prog_8_method_2_code
  | 35 => prog_8_method_26_code
  | 36 => prog_8_method_27_code
  | 37 => prog_8_method_28_code
  | 38 => prog_8_method_29_code
  | 39 => prog_8_method_30_code
  | 40 => prog_8_method_31_code
  | 41 => prog_8_method_32_code
  | 42 => prog_8_method_33_code
  | 43 => prog_8_method_34_code
  | 44 => prog_8_method_35_code
  | 45 => prog_8_method_37_code
  | 46 => prog_8_method_38_code
  | 47 => prog_8_method_39_code
  | 48 => prog_8_method_40_code
  | 49 => prog_8_method_41_code
  | 50 => prog_8_method_42_code
  | 51 => prog_8_method_44_code
  | 52 => prog_8_method_45_code
  | 53 => prog_8_method_46_code
  | 54 => prog_8_method_47_code
  | 55 => prog_16_method_103_code
  | 56 => method_3_code
  | _ => ⟨#[]⟩
def vm_max (k : Nat) : Nat := match k with
  | 0 => 8
  | 1 => 1
  | 2 => 2
  | 3 => 2
  | 4 => 5
  | 5 => 1
  | 6 => 1
  | 7 => 2
  | 8 => 1
  | 9 => 1
  | 10 => 1
  | 11 => 2
  | 12 => 3
  | 13 => 4
  | 14 => 1
  | 15 => 5
  | 16 => 3
  | 17 => 2
  | 18 => 3
  | 19 => 4
  | 20 => 2
  | 21 => 5
  | 22 => 5
  | 23 => 4
  | 24 => 4
  | 25 => 7
  | 26 => 5
  | 27 => 2
  | 28 => 2
  | 29 => 3
  | 30 => 3
  | 31 => 1
  | 32 => 2
  | 33 => 1
  | 34 => 1
  | 35 => 1
  | 36 => 5
  | 37 => 2
  | 38 => 4
  | 39 => 2
  | 40 => 5
  | 41 => 1
  | 42 => 13
  | 43 => 3
  | 44 => 2
  | 45 => 3
  | 46 => 4
  | 47 => 3
  | 48 => 5
  | 49 => 7
  | 50 => 4
  | 51 => 5
  | 52 => 4
  | 53 => 8
  | 54 => 5
  | 55 => 4
  | 56 => 7
  | _ => 0
def vm_ret (k : Nat) : Option FieldType := match k with
  | 0 => (some .boolean)
  | 1 => (Option.none : Option Jvm.ClassFile.FieldType)
  | 2 => (Option.some Jvm.ClassFile.FieldType.boolean)
  | 3 => (Option.some Jvm.ClassFile.FieldType.int)
  | 4 => (Option.some Jvm.ClassFile.FieldType.long)
  | 5 => (Option.none : Option Jvm.ClassFile.FieldType)
  | 6 => (Option.none : Option Jvm.ClassFile.FieldType)
  | 7 => (Option.some Jvm.ClassFile.FieldType.boolean)
  | 8 => (Option.none : Option Jvm.ClassFile.FieldType)
  | 9 => (Option.none : Option Jvm.ClassFile.FieldType)
  | 10 => (Option.none : Option Jvm.ClassFile.FieldType)
  | 11 => (Option.none : Option Jvm.ClassFile.FieldType)
  | 12 => (Option.some Jvm.ClassFile.FieldType.int)
  | 13 => (Option.some Jvm.ClassFile.FieldType.boolean)
  | 14 => (Option.some Jvm.ClassFile.FieldType.int)
  | 15 => (Option.some Jvm.ClassFile.FieldType.boolean)
  | 16 => (Option.some Jvm.ClassFile.FieldType.boolean)
  | 17 => (Option.some Jvm.ClassFile.FieldType.int)
  | 18 => (Option.some Jvm.ClassFile.FieldType.int)
  | 19 => (Option.some Jvm.ClassFile.FieldType.int)
  | 20 => (Option.some Jvm.ClassFile.FieldType.int)
  | 21 => (Option.some Jvm.ClassFile.FieldType.long)
  | 22 => (Option.some Jvm.ClassFile.FieldType.int)
  | 23 => (Option.some Jvm.ClassFile.FieldType.boolean)
  | 24 => (Option.some Jvm.ClassFile.FieldType.long)
  | 25 => (Option.some Jvm.ClassFile.FieldType.long)
  | 26 => (Option.some Jvm.ClassFile.FieldType.long)
  | 27 => (Option.some Jvm.ClassFile.FieldType.boolean)
  | 28 => (Option.some Jvm.ClassFile.FieldType.boolean)
  | 29 => (Option.some Jvm.ClassFile.FieldType.int)
  | 30 => (Option.some (Jvm.ClassFile.FieldType.object "TriangleSets$Polynomial"))
  | 31 => (Option.none : Option Jvm.ClassFile.FieldType)
  | 32 => (Option.some Jvm.ClassFile.FieldType.boolean)
  | 33 => (Option.none : Option Jvm.ClassFile.FieldType)
  | 34 => (Option.some Jvm.ClassFile.FieldType.int)
  | 35 => (Option.none : Option Jvm.ClassFile.FieldType)
  | 36 => (Option.some Jvm.ClassFile.FieldType.int)
  | 37 => (Option.some Jvm.ClassFile.FieldType.boolean)
  | 38 => (Option.some Jvm.ClassFile.FieldType.int)
  | 39 => (Option.some Jvm.ClassFile.FieldType.int)
  | 40 => (Option.some Jvm.ClassFile.FieldType.boolean)
  | 41 => (Option.some Jvm.ClassFile.FieldType.int)
  | 42 => (Option.some Jvm.ClassFile.FieldType.boolean)
  | 43 => (Option.some Jvm.ClassFile.FieldType.boolean)
  | 44 => (Option.some Jvm.ClassFile.FieldType.boolean)
  | 45 => (Option.some Jvm.ClassFile.FieldType.int)
  | 46 => (Option.some Jvm.ClassFile.FieldType.int)
  | 47 => (Option.some Jvm.ClassFile.FieldType.int)
  | 48 => (Option.some Jvm.ClassFile.FieldType.long)
  | 49 => (Option.some Jvm.ClassFile.FieldType.int)
  | 50 => (Option.some Jvm.ClassFile.FieldType.boolean)
  | 51 => (Option.some Jvm.ClassFile.FieldType.long)
  | 52 => (Option.some Jvm.ClassFile.FieldType.long)
  | 53 => (Option.some Jvm.ClassFile.FieldType.long)
  | 54 => (Option.some Jvm.ClassFile.FieldType.long)
  | 55 => (Option.none : Option Jvm.ClassFile.FieldType)
  | 56 => (some .int)
  | _ => none
def vm_na (k : Nat) : Nat := match k with
  | 0 => 1
  | 1 => 0
  | 2 => 1
  | 3 => 1
  | 4 => 1
  | 5 => 0
  | 6 => 0
  | 7 => 1
  | 8 => 0
  | 9 => 0
  | 10 => 0
  | 11 => 0
  | 12 => 1
  | 13 => 2
  | 14 => 0
  | 15 => 3
  | 16 => 2
  | 17 => 0
  | 18 => 1
  | 19 => 2
  | 20 => 1
  | 21 => 3
  | 22 => 3
  | 23 => 2
  | 24 => 2
  | 25 => 1
  | 26 => 2
  | 27 => 1
  | 28 => 1
  | 29 => 0
  | 30 => 2
  | 31 => 0
  | 32 => 0
  | 33 => 0
  | 34 => 0
  | 35 => 0
  | 36 => 0
  | 37 => 1
  | 38 => 1
  | 39 => 1
  | 40 => 2
  | 41 => 0
  | 42 => 3
  | 43 => 2
  | 44 => 1
  | 45 => 2
  | 46 => 1
  | 47 => 2
  | 48 => 3
  | 49 => 3
  | 50 => 2
  | 51 => 1
  | 52 => 2
  | 53 => 1
  | 54 => 2
  | 55 => 2
  | 56 => 4
  | _ => 0
def vm_ci (k : Nat) : Nat := match k with
  | 0 => 99
  | 1 => 0
  | 2 => 0
  | 3 => 0
  | 4 => 0
  | 5 => 1
  | 6 => 1
  | 7 => 1
  | 8 => 2
  | 9 => 3
  | 10 => 4
  | 11 => 5
  | 12 => 5
  | 13 => 5
  | 14 => 5
  | 15 => 5
  | 16 => 5
  | 17 => 5
  | 18 => 5
  | 19 => 5
  | 20 => 5
  | 21 => 5
  | 22 => 5
  | 23 => 5
  | 24 => 5
  | 25 => 5
  | 26 => 5
  | 27 => 5
  | 28 => 5
  | 29 => 5
  | 30 => 5
  | 31 => 5
  | 32 => 5
  | 33 => 6
  | 34 => 6
  | 35 => 6
  | 36 => 6
  | 37 => 6
  | 38 => 6
  | 39 => 6
  | 40 => 6
  | 41 => 6
  | 42 => 6
  | 43 => 6
  | 44 => 6
  | 45 => 6
  | 46 => 6
  | 47 => 6
  | 48 => 6
  | 49 => 6
  | 50 => 6
  | 51 => 6
  | 52 => 6
  | 53 => 6
  | 54 => 6
  | 55 => 99
  | 56 => 99
  | _ => 99
def vm_mp (k : Nat) : Nat × Nat × Nat × Nat × Nat := match k with
  | 0 => (0, 0, 0, 0, 0)
  | 1 => (2, 78, 53, 77, 0)
  | 2 => (3, 276, 53, 274, 275)
  | 3 => (3, 257, 53, 255, 256)
  | 4 => (3, 540, 53, 538, 539)
  | 5 => (2, 103, 54, 102, 0)
  | 6 => (3, 265, 54, 263, 264)
  | 7 => (3, 523, 54, 521, 522)
  | 8 => (2, 131, 55, 130, 0)
  | 9 => (2, 177, 57, 176, 0)
  | 10 => (2, 161, 56, 160, 0)
  | 11 => (2, 70, 52, 69, 0)
  | 12 => (3, 253, 52, 251, 252)
  | 13 => (3, 272, 52, 270, 271)
  | 14 => (3, 315, 52, 313, 314)
  | 15 => (3, 319, 52, 317, 318)
  | 16 => (3, 354, 52, 352, 353)
  | 17 => (3, 358, 52, 356, 357)
  | 18 => (3, 485, 52, 483, 484)
  | 19 => (3, 490, 52, 488, 489)
  | 20 => (3, 503, 52, 501, 502)
  | 21 => (3, 511, 52, 509, 510)
  | 22 => (3, 527, 52, 525, 526)
  | 23 => (3, 532, 52, 530, 531)
  | 24 => (3, 536, 52, 534, 535)
  | 25 => (3, 548, 52, 546, 547)
  | 26 => (3, 561, 52, 559, 560)
  | 27 => (3, 323, 52, 322, 2)
  | 28 => (3, 494, 52, 493, 19)
  | 29 => (3, 507, 52, 506, 20)
  | 30 => (3, 515, 52, 514, 21)
  | 31 => (3, 261, 52, 260, 0)
  | 32 => (3, 362, 52, 361, 5)
  | 33 => (2, 632, 58, 631, 0)
  | 34 => (3, 770, 58, 768, 769)
  | 35 => (3, 778, 58, 777, 24)
  | 36 => (3, 774, 58, 772, 773)
  | 37 => (3, 880, 58, 879, 45)
  | 38 => (3, 876, 58, 874, 875)
  | 39 => (3, 884, 58, 882, 883)
  | 40 => (3, 888, 58, 886, 887)
  | 41 => (3, 892, 58, 890, 891)
  | 42 => (3, 896, 58, 894, 895)
  | 43 => (3, 902, 58, 900, 901)
  | 44 => (3, 910, 58, 909, 46)
  | 45 => (3, 906, 58, 904, 905)
  | 46 => (3, 918, 58, 916, 917)
  | 47 => (3, 926, 58, 925, 48)
  | 48 => (3, 922, 58, 920, 921)
  | 49 => (3, 930, 58, 928, 929)
  | 50 => (3, 934, 58, 932, 933)
  | 51 => (3, 942, 58, 941, 49)
  | 52 => (3, 938, 58, 936, 937)
  | 53 => (3, 950, 58, 948, 949)
  | 54 => (3, 954, 58, 952, 953)
  | 55 => (1, 268, 59, 267, 0)
  | 56 => (0, 0, 0, 0, 0)
  | _ => (0, 0, 0, 0, 0)
/-- TriangleSetsLaw.law.([I)Z -/
def vm_t0 : List (Nat × (Jvm.ClassFile.Instr × Nat × Nat × Nat)) := [(0, (.new 8, 5, 0, 66)), (3, (.dup, 0, 0, 0)), (4, (.invokespecial 15, 11, 6, 68)), (7, (.astore_n 1, 0, 0, 0)), (8, (.new 16, 6, 0, 628)), (11, (.dup, 0, 0, 0)), (12, (.invokespecial 18, 33, 6, 630)), (15, (.astore_n 2, 0, 0, 0)), (16, (.iconst 1, 0, 0, 0)), (17, (.newarray .long, 0, 0, 0)), (19, (.astore_n 3, 0, 0, 0)), (20, (.iconst 0, 0, 0, 0)), (21, (.istore 4, 0, 0, 0)), (23, (.iload 4, 0, 0, 0)), (25, (.aload_n 0, 0, 0, 0)), (26, (.arraylength, 0, 0, 0)), (27, (.iconst 5, 0, 0, 0)), (28, (.isub, 0, 0, 0)), (29, (.if_icmp .gt 777, 806, 0, 0)), (32, (.aload_n 0, 0, 0, 0)), (33, (.iload 4, 0, 0, 0)), (35, (.iaload, 0, 0, 0)), (36, (.bipush 15, 0, 0, 0)), (38, (.iand, 0, 0, 0)), (39, (.tableswitch 761 0 14 #[73, 114, 151, 164, 245, 298, 311, 336, 373, 398, 448, 497, 566, 604, 630], 73, 0, 0)), (112, (.aload_n 1, 0, 0, 0)), (113, (.aload_n 0, 0, 0, 0)), (114, (.iload 4, 0, 0, 0)), (116, (.iconst 1, 0, 0, 0)), (117, (.iadd, 0, 0, 0)), (118, (.iaload, 0, 0, 0)), (119, (.ifCond .eq 7, 126, 0, 0)), (122, (.iconst 1, 0, 0, 0)), (123, (.goto 4, 127, 0, 0)), (126, (.iconst 0, 0, 0, 0)), (127, (.invokevirtual 19, 12, 4, 250)), (130, (.aload_n 2, 0, 0, 0)), (131, (.aload_n 0, 0, 0, 0)), (132, (.iload 4, 0, 0, 0)), (134, (.iconst 1, 0, 0, 0)), (135, (.iadd, 0, 0, 0)), (136, (.iaload, 0, 0, 0)), (137, (.ifCond .eq 7, 144, 0, 0)), (140, (.iconst 1, 0, 0, 0)), (141, (.goto 4, 145, 0, 0)), (144, (.iconst 0, 0, 0, 0)), (145, (.invokevirtual 23, 39, 4, 881)), (148, (.if_icmp .eq 652, 800, 0, 0)), (151, (.iconst 0, 0, 0, 0)), (152, (.ireturn, 0, 0, 0)), (153, (.aload_n 1, 0, 0, 0)), (154, (.aload_n 0, 0, 0, 0)), (155, (.iload 4, 0, 0, 0)), (157, (.iconst 1, 0, 0, 0)), (158, (.iadd, 0, 0, 0)), (159, (.iaload, 0, 0, 0)), (160, (.aload_n 0, 0, 0, 0)), (161, (.iload 4, 0, 0, 0)), (163, (.iconst 2, 0, 0, 0)), (164, (.iadd, 0, 0, 0)), (165, (.iaload, 0, 0, 0)), (166, (.invokevirtual 24, 13, 4, 269)), (169, (.aload_n 2, 0, 0, 0)), (170, (.aload_n 0, 0, 0, 0)), (171, (.iload 4, 0, 0, 0)), (173, (.iconst 1, 0, 0, 0)), (174, (.iadd, 0, 0, 0)), (175, (.iaload, 0, 0, 0)), (176, (.aload_n 0, 0, 0, 0)), (177, (.iload 4, 0, 0, 0)), (179, (.iconst 2, 0, 0, 0)), (180, (.iadd, 0, 0, 0)), (181, (.iaload, 0, 0, 0)), (182, (.invokevirtual 28, 40, 4, 885)), (185, (.if_icmp .eq 615, 800, 0, 0)), (188, (.iconst 0, 0, 0, 0)), (189, (.ireturn, 0, 0, 0)), (190, (.aload_n 1, 0, 0, 0)), (191, (.invokevirtual 29, 14, 4, 312)), (194, (.aload_n 2, 0, 0, 0)), (195, (.invokevirtual 33, 41, 4, 889)), (198, (.if_icmp .eq 602, 800, 0, 0)), (201, (.iconst 0, 0, 0, 0)), (202, (.ireturn, 0, 0, 0)), (203, (.aload_n 1, 0, 0, 0)), (204, (.aload_n 0, 0, 0, 0)), (205, (.iload 4, 0, 0, 0)), (207, (.iconst 1, 0, 0, 0)), (208, (.iadd, 0, 0, 0)), (209, (.iaload, 0, 0, 0)), (210, (.aload_n 0, 0, 0, 0)), (211, (.iload 4, 0, 0, 0)), (213, (.iconst 2, 0, 0, 0)), (214, (.iadd, 0, 0, 0)), (215, (.iaload, 0, 0, 0)), (216, (.i2l, 0, 0, 0)), (217, (.bipush 32, 0, 0, 0)), (219, (.lshl, 0, 0, 0)), (220, (.aload_n 0, 0, 0, 0)), (221, (.iload 4, 0, 0, 0)), (223, (.iconst 3, 0, 0, 0)), (224, (.iadd, 0, 0, 0)), (225, (.iaload, 0, 0, 0)), (226, (.i2l, 0, 0, 0)), (227, (.ldc2_w 34, 4294967295, 0, 955)), (230, (.land, 0, 0, 0)), (231, (.lor, 0, 0, 0)), (232, (.aload_n 0, 0, 0, 0)), (233, (.iload 4, 0, 0, 0)), (235, (.iconst 4, 0, 0, 0)), (236, (.iadd, 0, 0, 0)), (237, (.iaload, 0, 0, 0)), (238, (.invokevirtual 36, 15, 4, 316)), (241, (.aload_n 2, 0, 0, 0)), (242, (.aload_n 0, 0, 0, 0)), (243, (.iload 4, 0, 0, 0)), (245, (.iconst 1, 0, 0, 0)), (246, (.iadd, 0, 0, 0)), (247, (.iaload, 0, 0, 0)), (248, (.aload_n 0, 0, 0, 0)), (249, (.iload 4, 0, 0, 0)), (251, (.iconst 2, 0, 0, 0)), (252, (.iadd, 0, 0, 0)), (253, (.iaload, 0, 0, 0)), (254, (.i2l, 0, 0, 0)), (255, (.bipush 32, 0, 0, 0)), (257, (.lshl, 0, 0, 0)), (258, (.aload_n 0, 0, 0, 0)), (259, (.iload 4, 0, 0, 0)), (261, (.iconst 3, 0, 0, 0)), (262, (.iadd, 0, 0, 0)), (263, (.iaload, 0, 0, 0)), (264, (.i2l, 0, 0, 0)), (265, (.ldc2_w 34, 4294967295, 0, 955)), (268, (.land, 0, 0, 0)), (269, (.lor, 0, 0, 0)), (270, (.aload_n 0, 0, 0, 0)), (271, (.iload 4, 0, 0, 0)), (273, (.iconst 4, 0, 0, 0)), (274, (.iadd, 0, 0, 0)), (275, (.iaload, 0, 0, 0)), (276, (.invokevirtual 40, 42, 4, 893)), (279, (.if_icmp .eq 521, 800, 0, 0)), (282, (.iconst 0, 0, 0, 0)), (283, (.ireturn, 0, 0, 0)), (284, (.aload_n 1, 0, 0, 0)), (285, (.aload_n 0, 0, 0, 0)), (286, (.iload 4, 0, 0, 0)), (288, (.iconst 1, 0, 0, 0)), (289, (.iadd, 0, 0, 0)), (290, (.iaload, 0, 0, 0)), (291, (.aload_n 0, 0, 0, 0)), (292, (.iload 4, 0, 0, 0)), (294, (.iconst 2, 0, 0, 0)), (295, (.iadd, 0, 0, 0)), (296, (.iaload, 0, 0, 0)), (297, (.ifCond .eq 7, 304, 0, 0)), (300, (.iconst 1, 0, 0, 0)), (301, (.goto 4, 305, 0, 0)), (304, (.iconst 0, 0, 0, 0)), (305, (.invokevirtual 41, 16, 4, 351)), (308, (.aload_n 2, 0, 0, 0)), (309, (.aload_n 0, 0, 0, 0)), (310, (.iload 4, 0, 0, 0)), (312, (.iconst 1, 0, 0, 0)), (313, (.iadd, 0, 0, 0)), (314, (.iaload, 0, 0, 0)), (315, (.aload_n 0, 0, 0, 0)), (316, (.iload 4, 0, 0, 0)), (318, (.iconst 2, 0, 0, 0)), (319, (.iadd, 0, 0, 0)), (320, (.iaload, 0, 0, 0)), (321, (.ifCond .eq 7, 328, 0, 0)), (324, (.iconst 1, 0, 0, 0)), (325, (.goto 4, 329, 0, 0)), (328, (.iconst 0, 0, 0, 0)), (329, (.invokevirtual 45, 43, 4, 899)), (332, (.if_icmp .eq 468, 800, 0, 0)), (335, (.iconst 0, 0, 0, 0)), (336, (.ireturn, 0, 0, 0)), (337, (.aload_n 1, 0, 0, 0)), (338, (.invokevirtual 46, 17, 4, 355)), (341, (.aload_n 2, 0, 0, 0)), (342, (.invokevirtual 49, 36, 4, 771)), (345, (.if_icmp .eq 455, 800, 0, 0)), (348, (.iconst 0, 0, 0, 0)), (349, (.ireturn, 0, 0, 0)), (350, (.aload_n 1, 0, 0, 0)), (351, (.aload_n 0, 0, 0, 0)), (352, (.iload 4, 0, 0, 0)), (354, (.iconst 1, 0, 0, 0)), (355, (.iadd, 0, 0, 0)), (356, (.iaload, 0, 0, 0)), (357, (.invokevirtual 50, 18, 4, 482)), (360, (.aload_n 2, 0, 0, 0)), (361, (.aload_n 0, 0, 0, 0)), (362, (.iload 4, 0, 0, 0)), (364, (.iconst 1, 0, 0, 0)), (365, (.iadd, 0, 0, 0)), (366, (.iaload, 0, 0, 0)), (367, (.invokevirtual 54, 38, 4, 873)), (370, (.if_icmp .eq 430, 800, 0, 0)), (373, (.iconst 0, 0, 0, 0)), (374, (.ireturn, 0, 0, 0)), (375, (.aload_n 1, 0, 0, 0)), (376, (.aload_n 0, 0, 0, 0)), (377, (.iload 4, 0, 0, 0)), (379, (.iconst 1, 0, 0, 0)), (380, (.iadd, 0, 0, 0)), (381, (.iaload, 0, 0, 0)), (382, (.aload_n 0, 0, 0, 0)), (383, (.iload 4, 0, 0, 0)), (385, (.iconst 2, 0, 0, 0)), (386, (.iadd, 0, 0, 0)), (387, (.iaload, 0, 0, 0)), (388, (.invokevirtual 55, 19, 4, 487)), (391, (.aload_n 2, 0, 0, 0)), (392, (.aload_n 0, 0, 0, 0)), (393, (.iload 4, 0, 0, 0)), (395, (.iconst 1, 0, 0, 0)), (396, (.iadd, 0, 0, 0)), (397, (.iaload, 0, 0, 0)), (398, (.aload_n 0, 0, 0, 0)), (399, (.iload 4, 0, 0, 0)), (401, (.iconst 2, 0, 0, 0)), (402, (.iadd, 0, 0, 0)), (403, (.iaload, 0, 0, 0)), (404, (.invokevirtual 59, 45, 4, 903)), (407, (.if_icmp .eq 393, 800, 0, 0)), (410, (.iconst 0, 0, 0, 0)), (411, (.ireturn, 0, 0, 0)), (412, (.aload_n 1, 0, 0, 0)), (413, (.aload_n 0, 0, 0, 0)), (414, (.iload 4, 0, 0, 0)), (416, (.iconst 1, 0, 0, 0)), (417, (.iadd, 0, 0, 0)), (418, (.iaload, 0, 0, 0)), (419, (.invokevirtual 60, 20, 4, 500)), (422, (.aload_n 2, 0, 0, 0)), (423, (.aload_n 0, 0, 0, 0)), (424, (.iload 4, 0, 0, 0)), (426, (.iconst 1, 0, 0, 0)), (427, (.iadd, 0, 0, 0)), (428, (.iaload, 0, 0, 0)), (429, (.invokevirtual 63, 46, 4, 915)), (432, (.if_icmp .eq 368, 800, 0, 0)), (435, (.iconst 0, 0, 0, 0)), (436, (.ireturn, 0, 0, 0)), (437, (.aload_n 1, 0, 0, 0)), (438, (.aload_n 0, 0, 0, 0)), (439, (.iload 4, 0, 0, 0)), (441, (.iconst 1, 0, 0, 0)), (442, (.iadd, 0, 0, 0)), (443, (.iaload, 0, 0, 0)), (444, (.aload_n 0, 0, 0, 0)), (445, (.iload 4, 0, 0, 0)), (447, (.iconst 2, 0, 0, 0)), (448, (.iadd, 0, 0, 0)), (449, (.iaload, 0, 0, 0)), (450, (.aload_n 0, 0, 0, 0)), (451, (.iload 4, 0, 0, 0)), (453, (.iconst 3, 0, 0, 0)), (454, (.iadd, 0, 0, 0)), (455, (.iaload, 0, 0, 0)), (456, (.invokevirtual 64, 21, 4, 508)), (459, (.aload_n 2, 0, 0, 0)), (460, (.aload_n 0, 0, 0, 0)), (461, (.iload 4, 0, 0, 0)), (463, (.iconst 1, 0, 0, 0)), (464, (.iadd, 0, 0, 0)), (465, (.iaload, 0, 0, 0)), (466, (.aload_n 0, 0, 0, 0)), (467, (.iload 4, 0, 0, 0)), (469, (.iconst 2, 0, 0, 0)), (470, (.iadd, 0, 0, 0)), (471, (.iaload, 0, 0, 0)), (472, (.aload_n 0, 0, 0, 0)), (473, (.iload 4, 0, 0, 0)), (475, (.iconst 3, 0, 0, 0)), (476, (.iadd, 0, 0, 0)), (477, (.iaload, 0, 0, 0)), (478, (.invokevirtual 68, 48, 4, 919)), (481, (.lcmp, 0, 0, 0)), (482, (.ifCond .eq 318, 800, 0, 0)), (485, (.iconst 0, 0, 0, 0)), (486, (.ireturn, 0, 0, 0)), (487, (.aload_n 1, 0, 0, 0)), (488, (.aload_n 0, 0, 0, 0)), (489, (.iload 4, 0, 0, 0)), (491, (.iconst 1, 0, 0, 0)), (492, (.iadd, 0, 0, 0)), (493, (.iaload, 0, 0, 0)), (494, (.aload_n 0, 0, 0, 0)), (495, (.iload 4, 0, 0, 0)), (497, (.iconst 2, 0, 0, 0)), (498, (.iadd, 0, 0, 0)), (499, (.iaload, 0, 0, 0)), (500, (.aload_n 0, 0, 0, 0)), (501, (.iload 4, 0, 0, 0)), (503, (.iconst 3, 0, 0, 0)), (504, (.iadd, 0, 0, 0)), (505, (.iaload, 0, 0, 0)), (506, (.invokevirtual 69, 22, 4, 524)), (509, (.aload_n 2, 0, 0, 0)), (510, (.aload_n 0, 0, 0, 0)), (511, (.iload 4, 0, 0, 0)), (513, (.iconst 1, 0, 0, 0)), (514, (.iadd, 0, 0, 0)), (515, (.iaload, 0, 0, 0)), (516, (.aload_n 0, 0, 0, 0)), (517, (.iload 4, 0, 0, 0)), (519, (.iconst 2, 0, 0, 0)), (520, (.iadd, 0, 0, 0)), (521, (.iaload, 0, 0, 0)), (522, (.aload_n 0, 0, 0, 0)), (523, (.iload 4, 0, 0, 0)), (525, (.iconst 3, 0, 0, 0)), (526, (.iadd, 0, 0, 0)), (527, (.iaload, 0, 0, 0)), (528, (.invokevirtual 73, 49, 4, 927)), (531, (.if_icmp .eq 269, 800, 0, 0)), (534, (.iconst 0, 0, 0, 0)), (535, (.ireturn, 0, 0, 0)), (536, (.aload_n 1, 0, 0, 0)), (537, (.aload_n 0, 0, 0, 0)), (538, (.iload 4, 0, 0, 0)), (540, (.iconst 1, 0, 0, 0)), (541, (.iadd, 0, 0, 0)), (542, (.iaload, 0, 0, 0)), (543, (.aload_n 0, 0, 0, 0)), (544, (.iload 4, 0, 0, 0)), (546, (.iconst 2, 0, 0, 0)), (547, (.iadd, 0, 0, 0)), (548, (.iaload, 0, 0, 0)), (549, (.i2l, 0, 0, 0)), (550, (.bipush 32, 0, 0, 0)), (552, (.lshl, 0, 0, 0)), (553, (.aload_n 0, 0, 0, 0)), (554, (.iload 4, 0, 0, 0)), (556, (.iconst 3, 0, 0, 0)), (557, (.iadd, 0, 0, 0)), (558, (.iaload, 0, 0, 0)), (559, (.i2l, 0, 0, 0)), (560, (.ldc2_w 34, 4294967295, 0, 955)), (563, (.land, 0, 0, 0)), (564, (.lor, 0, 0, 0)), (565, (.invokevirtual 74, 23, 4, 529)), (568, (.aload_n 2, 0, 0, 0)), (569, (.aload_n 0, 0, 0, 0)), (570, (.iload 4, 0, 0, 0)), (572, (.iconst 1, 0, 0, 0)), (573, (.iadd, 0, 0, 0)), (574, (.iaload, 0, 0, 0)), (575, (.aload_n 0, 0, 0, 0)), (576, (.iload 4, 0, 0, 0)), (578, (.iconst 2, 0, 0, 0)), (579, (.iadd, 0, 0, 0)), (580, (.iaload, 0, 0, 0)), (581, (.i2l, 0, 0, 0)), (582, (.bipush 32, 0, 0, 0)), (584, (.lshl, 0, 0, 0)), (585, (.aload_n 0, 0, 0, 0)), (586, (.iload 4, 0, 0, 0)), (588, (.iconst 3, 0, 0, 0)), (589, (.iadd, 0, 0, 0)), (590, (.iaload, 0, 0, 0)), (591, (.i2l, 0, 0, 0)), (592, (.ldc2_w 34, 4294967295, 0, 955)), (595, (.land, 0, 0, 0)), (596, (.lor, 0, 0, 0)), (597, (.invokevirtual 78, 50, 4, 931)), (600, (.if_icmp .eq 200, 800, 0, 0)), (603, (.iconst 0, 0, 0, 0)), (604, (.ireturn, 0, 0, 0)), (605, (.aload_n 1, 0, 0, 0)), (606, (.aload_n 0, 0, 0, 0)), (607, (.iload 4, 0, 0, 0)), (609, (.iconst 1, 0, 0, 0)), (610, (.iadd, 0, 0, 0)), (611, (.iaload, 0, 0, 0)), (612, (.aload_n 0, 0, 0, 0)), (613, (.iload 4, 0, 0, 0)), (615, (.iconst 2, 0, 0, 0)), (616, (.iadd, 0, 0, 0)), (617, (.iaload, 0, 0, 0)), (618, (.invokevirtual 79, 24, 4, 533)), (621, (.aload_n 2, 0, 0, 0)), (622, (.aload_n 0, 0, 0, 0)), (623, (.iload 4, 0, 0, 0)), (625, (.iconst 1, 0, 0, 0)), (626, (.iadd, 0, 0, 0)), (627, (.iaload, 0, 0, 0)), (628, (.aload_n 0, 0, 0, 0)), (629, (.iload 4, 0, 0, 0)), (631, (.iconst 2, 0, 0, 0)), (632, (.iadd, 0, 0, 0)), (633, (.iaload, 0, 0, 0)), (634, (.invokevirtual 83, 52, 4, 935)), (637, (.lcmp, 0, 0, 0)), (638, (.ifCond .eq 162, 800, 0, 0)), (641, (.iconst 0, 0, 0, 0)), (642, (.ireturn, 0, 0, 0)), (643, (.aload_n 1, 0, 0, 0)), (644, (.aload_n 0, 0, 0, 0)), (645, (.iload 4, 0, 0, 0)), (647, (.iconst 1, 0, 0, 0)), (648, (.iadd, 0, 0, 0)), (649, (.iaload, 0, 0, 0)), (650, (.invokevirtual 84, 25, 4, 545)), (653, (.aload_n 2, 0, 0, 0)), (654, (.aload_n 0, 0, 0, 0)), (655, (.iload 4, 0, 0, 0)), (657, (.iconst 1, 0, 0, 0)), (658, (.iadd, 0, 0, 0)), (659, (.iaload, 0, 0, 0)), (660, (.invokevirtual 88, 53, 4, 947)), (663, (.lcmp, 0, 0, 0)), (664, (.ifCond .eq 136, 800, 0, 0)), (667, (.iconst 0, 0, 0, 0)), (668, (.ireturn, 0, 0, 0)), (669, (.aload_n 1, 0, 0, 0)), (670, (.aload_n 0, 0, 0, 0)), (671, (.iload 4, 0, 0, 0)), (673, (.iconst 1, 0, 0, 0)), (674, (.iadd, 0, 0, 0)), (675, (.iaload, 0, 0, 0)), (676, (.i2l, 0, 0, 0)), (677, (.bipush 32, 0, 0, 0)), (679, (.lshl, 0, 0, 0)), (680, (.aload_n 0, 0, 0, 0)), (681, (.iload 4, 0, 0, 0)), (683, (.iconst 2, 0, 0, 0)), (684, (.iadd, 0, 0, 0)), (685, (.iaload, 0, 0, 0)), (686, (.i2l, 0, 0, 0)), (687, (.ldc2_w 34, 4294967295, 0, 955)), (690, (.land, 0, 0, 0)), (691, (.lor, 0, 0, 0)), (692, (.aload_n 0, 0, 0, 0)), (693, (.iload 4, 0, 0, 0)), (695, (.iconst 3, 0, 0, 0)), (696, (.iadd, 0, 0, 0)), (697, (.iaload, 0, 0, 0)), (698, (.i2l, 0, 0, 0)), (699, (.bipush 32, 0, 0, 0)), (701, (.lshl, 0, 0, 0)), (702, (.aload_n 0, 0, 0, 0)), (703, (.iload 4, 0, 0, 0)), (705, (.iconst 4, 0, 0, 0)), (706, (.iadd, 0, 0, 0)), (707, (.iaload, 0, 0, 0)), (708, (.i2l, 0, 0, 0)), (709, (.ldc2_w 34, 4294967295, 0, 955)), (712, (.land, 0, 0, 0)), (713, (.lor, 0, 0, 0)), (714, (.aload_n 3, 0, 0, 0)), (715, (.invokestatic 89, 56, 2, 554)), (718, (.istore 5, 0, 0, 0)), (720, (.aload_n 2, 0, 0, 0)), (721, (.aload_n 0, 0, 0, 0)), (722, (.iload 4, 0, 0, 0)), (724, (.iconst 1, 0, 0, 0)), (725, (.iadd, 0, 0, 0)), (726, (.iaload, 0, 0, 0)), (727, (.i2l, 0, 0, 0)), (728, (.bipush 32, 0, 0, 0)), (730, (.lshl, 0, 0, 0)), (731, (.aload_n 0, 0, 0, 0)), (732, (.iload 4, 0, 0, 0)), (734, (.iconst 2, 0, 0, 0)), (735, (.iadd, 0, 0, 0)), (736, (.iaload, 0, 0, 0)), (737, (.i2l, 0, 0, 0)), (738, (.ldc2_w 34, 4294967295, 0, 955)), (741, (.land, 0, 0, 0)), (742, (.lor, 0, 0, 0)), (743, (.aload_n 0, 0, 0, 0)), (744, (.iload 4, 0, 0, 0)), (746, (.iconst 3, 0, 0, 0)), (747, (.iadd, 0, 0, 0)), (748, (.iaload, 0, 0, 0)), (749, (.i2l, 0, 0, 0)), (750, (.bipush 32, 0, 0, 0)), (752, (.lshl, 0, 0, 0)), (753, (.aload_n 0, 0, 0, 0)), (754, (.iload 4, 0, 0, 0)), (756, (.iconst 4, 0, 0, 0)), (757, (.iadd, 0, 0, 0)), (758, (.iaload, 0, 0, 0)), (759, (.i2l, 0, 0, 0)), (760, (.ldc2_w 34, 4294967295, 0, 955)), (763, (.land, 0, 0, 0)), (764, (.lor, 0, 0, 0)), (765, (.invokevirtual 94, 54, 4, 951)), (768, (.lstore 6, 0, 0, 0)), (770, (.aload_n 2, 0, 0, 0)), (771, (.invokevirtual 95, 34, 4, 767)), (774, (.iload 5, 0, 0, 0)), (776, (.if_icmp .eq 5, 781, 0, 0)), (779, (.iconst 0, 0, 0, 0)), (780, (.ireturn, 0, 0, 0)), (781, (.iload 5, 0, 0, 0)), (783, (.ifCond .ne 14, 797, 0, 0)), (786, (.aload_n 3, 0, 0, 0)), (787, (.iconst 0, 0, 0, 0)), (788, (.laload, 0, 0, 0)), (789, (.lload 6, 0, 0, 0)), (791, (.lcmp, 0, 0, 0)), (792, (.ifCond .eq 5, 797, 0, 0)), (795, (.iconst 0, 0, 0, 0)), (796, (.ireturn, 0, 0, 0)), (797, (.goto 3, 800, 0, 0)), (800, (.iinc 4 5, 0, 0, 0)), (803, (.goto (-780), 23, 0, 0)), (806, (.iconst 1, 0, 0, 0)), (807, (.ireturn, 0, 0, 0))]
/-- TriangleSets$Places.<init>.()V -/
def vm_t1 : List (Nat × (Jvm.ClassFile.Instr × Nat × Nat × Nat)) := [(0, (.aload_n 0, 0, 0, 0)), (1, (.invokespecial 3, 0, 8, 79)), (4, (.aload_n 0, 0, 0, 0)), (5, (.bipush 8, 0, 0, 0)), (7, (.newarray .boolean, 0, 0, 0)), (9, (.putfield 9, 0, 1, 82)), (12, (.aload_n 0, 0, 0, 0)), (13, (.bipush 8, 0, 0, 0)), (15, (.newarray .long, 0, 0, 0)), (17, (.putfield 15, 0, 2, 83)), (20, (.aload_n 0, 0, 0, 0)), (21, (.bipush 8, 0, 0, 0)), (23, (.newarray .int, 0, 0, 0)), (25, (.putfield 19, 0, 3, 85)), (28, (.return_, 0, 0, 0))]
/-- TriangleSets$Places.has.(I)Z -/
def vm_t2 : List (Nat × (Jvm.ClassFile.Instr × Nat × Nat × Nat)) := [(0, (.iload_n 1, 0, 0, 0)), (1, (.ifCond .lt 15, 16, 0, 0)), (4, (.iload_n 1, 0, 0, 0)), (5, (.aload_n 0, 0, 0, 0)), (6, (.getfield 23, 0, 0, 80)), (9, (.if_icmp .ge 7, 16, 0, 0)), (12, (.iconst 1, 0, 0, 0)), (13, (.goto 4, 17, 0, 0)), (16, (.iconst 0, 0, 0, 0)), (17, (.ireturn, 0, 0, 0))]
/-- TriangleSets$Places.append.(Z)I -/
def vm_t3 : List (Nat × (Jvm.ClassFile.Instr × Nat × Nat × Nat)) := [(0, (.aload_n 0, 0, 0, 0)), (1, (.getfield 23, 0, 0, 80)), (4, (.bipush 8, 0, 0, 0)), (6, (.if_icmp .lt 5, 11, 0, 0)), (9, (.iconst (-1), 0, 0, 0)), (10, (.ireturn, 0, 0, 0)), (11, (.aload_n 0, 0, 0, 0)), (12, (.getfield 9, 0, 1, 82)), (15, (.aload_n 0, 0, 0, 0)), (16, (.getfield 23, 0, 0, 80)), (19, (.iload_n 1, 0, 0, 0)), (20, (.bastore, 0, 0, 0)), (21, (.aload_n 0, 0, 0, 0)), (22, (.getfield 19, 0, 3, 85)), (25, (.aload_n 0, 0, 0, 0)), (26, (.getfield 23, 0, 0, 80)), (29, (.aload_n 0, 0, 0, 0)), (30, (.getfield 23, 0, 0, 80)), (33, (.iastore, 0, 0, 0)), (34, (.aload_n 0, 0, 0, 0)), (35, (.dup, 0, 0, 0)), (36, (.getfield 23, 0, 0, 80)), (39, (.iconst 1, 0, 0, 0)), (40, (.iadd, 0, 0, 0)), (41, (.putfield 23, 0, 0, 80)), (44, (.aload_n 0, 0, 0, 0)), (45, (.getfield 23, 0, 0, 80)), (48, (.iconst 1, 0, 0, 0)), (49, (.isub, 0, 0, 0)), (50, (.ireturn, 0, 0, 0))]
/-- TriangleSets$Places.valueOf.(LTriangleSets$Polynomial;)J -/
def vm_t4 : List (Nat × (Jvm.ClassFile.Instr × Nat × Nat × Nat)) := [(0, (.lconst 0, 0, 0, 0)), (1, (.lstore_n 2, 0, 0, 0)), (2, (.iconst 0, 0, 0, 0)), (3, (.istore 4, 0, 0, 0)), (5, (.iload 4, 0, 0, 0)), (7, (.aload_n 1, 0, 0, 0)), (8, (.getfield 35, 1, 2, 118)), (11, (.if_icmp .ge 31, 42, 0, 0)), (14, (.lload_n 2, 0, 0, 0)), (15, (.aload_n 1, 0, 0, 0)), (16, (.getfield 56, 1, 1, 112)), (19, (.iload 4, 0, 0, 0)), (21, (.laload, 0, 0, 0)), (22, (.aload_n 0, 0, 0, 0)), (23, (.aload_n 1, 0, 0, 0)), (24, (.getfield 38, 1, 0, 107)), (27, (.iload 4, 0, 0, 0)), (29, (.laload, 0, 0, 0)), (30, (.invokevirtual 59, 9999, 99, 541)), (33, (.lmul, 0, 0, 0)), (34, (.ladd, 0, 0, 0)), (35, (.lstore_n 2, 0, 0, 0)), (36, (.iinc 4 1, 0, 0, 0)), (39, (.goto (-34), 5, 0, 0)), (42, (.lload_n 2, 0, 0, 0)), (43, (.lreturn, 0, 0, 0))]
/-- TriangleSets$Polynomial.<init>.()V -/
def vm_t5 : List (Nat × (Jvm.ClassFile.Instr × Nat × Nat × Nat)) := [(0, (.aload_n 0, 0, 0, 0)), (1, (.invokespecial 3, 0, 8, 104)), (4, (.aload_n 0, 0, 0, 0)), (5, (.bipush 60, 0, 0, 0)), (7, (.newarray .long, 0, 0, 0)), (9, (.putfield 9, 1, 0, 105)), (12, (.aload_n 0, 0, 0, 0)), (13, (.bipush 60, 0, 0, 0)), (15, (.newarray .long, 0, 0, 0)), (17, (.putfield 15, 1, 1, 109)), (20, (.return_, 0, 0, 0))]
/-- TriangleSets$Polynomial.clear.()V -/
def vm_t6 : List (Nat × (Jvm.ClassFile.Instr × Nat × Nat × Nat)) := [(0, (.aload_n 0, 0, 0, 0)), (1, (.iconst 0, 0, 0, 0)), (2, (.putfield 18, 1, 2, 113)), (5, (.return_, 0, 0, 0))]
/-- TriangleSets$Polynomial.hasTerm.(I)Z -/
def vm_t7 : List (Nat × (Jvm.ClassFile.Instr × Nat × Nat × Nat)) := [(0, (.iload_n 1, 0, 0, 0)), (1, (.ifCond .lt 15, 16, 0, 0)), (4, (.iload_n 1, 0, 0, 0)), (5, (.aload_n 0, 0, 0, 0)), (6, (.getfield 18, 1, 2, 113)), (9, (.if_icmp .ge 7, 16, 0, 0)), (12, (.iconst 1, 0, 0, 0)), (13, (.goto 4, 17, 0, 0)), (16, (.iconst 0, 0, 0, 0)), (17, (.ireturn, 0, 0, 0))]
/-- TriangleSets$Row.<init>.()V -/
def vm_t8 : List (Nat × (Jvm.ClassFile.Instr × Nat × Nat × Nat)) := [(0, (.aload_n 0, 0, 0, 0)), (1, (.invokespecial 3, 0, 8, 132)), (4, (.aload_n 0, 0, 0, 0)), (5, (.new 9, 1, 0, 133)), (8, (.dup, 0, 0, 0)), (9, (.invokespecial 11, 5, 7, 134)), (12, (.putfield 12, 2, 0, 135)), (15, (.aload_n 0, 0, 0, 0)), (16, (.iconst (-1), 0, 0, 0)), (17, (.putfield 18, 2, 1, 140)), (20, (.return_, 0, 0, 0))]
/-- TriangleSets$Stepper.<init>.()V -/
def vm_t9 : List (Nat × (Jvm.ClassFile.Instr × Nat × Nat × Nat)) := [(0, (.aload_n 0, 0, 0, 0)), (1, (.invokespecial 3, 0, 8, 178)), (4, (.aload_n 0, 0, 0, 0)), (5, (.sipush 3660, 0, 0, 0)), (8, (.newarray .long, 0, 0, 0)), (10, (.putfield 9, 3, 0, 179)), (13, (.aload_n 0, 0, 0, 0)), (14, (.sipush 3660, 0, 0, 0)), (17, (.newarray .long, 0, 0, 0)), (19, (.putfield 15, 3, 1, 180)), (22, (.aload_n 0, 0, 0, 0)), (23, (.sipush 3660, 0, 0, 0)), (26, (.newarray .long, 0, 0, 0)), (28, (.putfield 18, 3, 2, 181)), (31, (.aload_n 0, 0, 0, 0)), (32, (.sipush 3660, 0, 0, 0)), (35, (.newarray .long, 0, 0, 0)), (37, (.putfield 21, 3, 3, 182)), (40, (.return_, 0, 0, 0))]
/-- TriangleSets$Triangle.<init>.()V -/
def vm_t10 : List (Nat × (Jvm.ClassFile.Instr × Nat × Nat × Nat)) := [(0, (.aload_n 0, 0, 0, 0)), (1, (.invokespecial 3, 0, 8, 162)), (4, (.aload_n 0, 0, 0, 0)), (5, (.bipush 8, 0, 0, 0)), (7, (.anewarray 9, 4, 0, 163)), (10, (.putfield 11, 4, 0, 164)), (13, (.return_, 0, 0, 0))]
/-- TriangleSets.<init>.()V -/
def vm_t11 : List (Nat × (Jvm.ClassFile.Instr × Nat × Nat × Nat)) := [(0, (.aload_n 0, 0, 0, 0)), (1, (.invokespecial 3, 0, 8, 71)), (4, (.aload_n 0, 0, 0, 0)), (5, (.new 9, 0, 0, 74)), (8, (.dup, 0, 0, 0)), (9, (.invokespecial 11, 1, 7, 76)), (12, (.putfield 12, 5, 0, 195)), (15, (.aload_n 0, 0, 0, 0)), (16, (.bipush 16, 0, 0, 0)), (18, (.anewarray 16, 3, 0, 98)), (21, (.putfield 18, 5, 1, 196)), (24, (.iconst 0, 0, 0, 0)), (25, (.istore_n 1, 0, 0, 0)), (26, (.iload_n 1, 0, 0, 0)), (27, (.bipush 16, 0, 0, 0)), (29, (.if_icmp .ge 22, 51, 0, 0)), (32, (.aload_n 0, 0, 0, 0)), (33, (.getfield 18, 5, 1, 196)), (36, (.iload_n 1, 0, 0, 0)), (37, (.new 16, 1, 0, 98)), (40, (.dup, 0, 0, 0)), (41, (.invokespecial 22, 5, 7, 101)), (44, (.aastore, 0, 0, 0)), (45, (.iinc 1 1, 0, 0, 0)), (48, (.goto (-22), 26, 0, 0)), (51, (.aload_n 0, 0, 0, 0)), (52, (.bipush 16, 0, 0, 0)), (54, (.newarray .boolean, 0, 0, 0)), (56, (.putfield 23, 5, 2, 197)), (59, (.aload_n 0, 0, 0, 0)), (60, (.bipush 40, 0, 0, 0)), (62, (.anewarray 27, 4, 0, 126)), (65, (.putfield 29, 5, 4, 199)), (68, (.iconst 0, 0, 0, 0)), (69, (.istore_n 1, 0, 0, 0)), (70, (.iload_n 1, 0, 0, 0)), (71, (.bipush 40, 0, 0, 0)), (73, (.if_icmp .ge 22, 95, 0, 0)), (76, (.aload_n 0, 0, 0, 0)), (77, (.getfield 29, 5, 4, 199)), (80, (.iload_n 1, 0, 0, 0)), (81, (.new 27, 2, 0, 126)), (84, (.dup, 0, 0, 0)), (85, (.invokespecial 33, 8, 7, 129)), (88, (.aastore, 0, 0, 0)), (89, (.iinc 1 1, 0, 0, 0)), (92, (.goto (-22), 70, 0, 0)), (95, (.aload_n 0, 0, 0, 0)), (96, (.new 34, 4, 0, 157)), (99, (.dup, 0, 0, 0)), (100, (.invokespecial 36, 10, 7, 159)), (103, (.putfield 37, 5, 6, 201)), (106, (.aload_n 0, 0, 0, 0)), (107, (.new 41, 3, 0, 173)), (110, (.dup, 0, 0, 0)), (111, (.invokespecial 43, 9, 7, 175)), (114, (.putfield 44, 5, 7, 202)), (117, (.aload_n 0, 0, 0, 0)), (118, (.new 16, 1, 0, 98)), (121, (.dup, 0, 0, 0)), (122, (.invokespecial 22, 5, 7, 101)), (125, (.putfield 48, 5, 8, 203)), (128, (.aload_n 0, 0, 0, 0)), (129, (.new 16, 1, 0, 98)), (132, (.dup, 0, 0, 0)), (133, (.invokespecial 22, 5, 7, 101)), (136, (.putfield 52, 5, 9, 204)), (139, (.aload_n 0, 0, 0, 0)), (140, (.new 16, 1, 0, 98)), (143, (.dup, 0, 0, 0)), (144, (.invokespecial 22, 5, 7, 101)), (147, (.putfield 55, 5, 10, 205)), (150, (.aload_n 0, 0, 0, 0)), (151, (.bipush 8, 0, 0, 0)), (153, (.newarray .int, 0, 0, 0)), (155, (.putfield 58, 5, 11, 206)), (158, (.aload_n 0, 0, 0, 0)), (159, (.new 16, 1, 0, 98)), (162, (.dup, 0, 0, 0)), (163, (.invokespecial 22, 5, 7, 101)), (166, (.putfield 62, 5, 12, 207)), (169, (.aload_n 0, 0, 0, 0)), (170, (.bipush 8, 0, 0, 0)), (172, (.newarray .int, 0, 0, 0)), (174, (.putfield 65, 5, 13, 208)), (177, (.return_, 0, 0, 0))]
/-- TriangleSets.variable.(Z)I -/
def vm_t12 : List (Nat × (Jvm.ClassFile.Instr × Nat × Nat × Nat)) := [(0, (.aload_n 0, 0, 0, 0)), (1, (.getfield 12, 5, 0, 195)), (4, (.iload_n 1, 0, 0, 0)), (5, (.invokevirtual 68, 3, 4, 254)), (8, (.istore_n 2, 0, 0, 0)), (9, (.iload_n 2, 0, 0, 0)), (10, (.iconst (-1), 0, 0, 0)), (11, (.if_icmp .eq 7, 18, 0, 0)), (14, (.aload_n 0, 0, 0, 0)), (15, (.invokevirtual 72, 31, 4, 258)), (18, (.iload_n 2, 0, 0, 0)), (19, (.ireturn, 0, 0, 0))]
/-- TriangleSets.order.(II)Z -/
def vm_t13 : List (Nat × (Jvm.ClassFile.Instr × Nat × Nat × Nat)) := [(0, (.aload_n 0, 0, 0, 0)), (1, (.getfield 12, 5, 0, 195)), (4, (.iload_n 1, 0, 0, 0)), (5, (.invokevirtual 75, 2, 4, 273)), (8, (.ifCond .eq 14, 22, 0, 0)), (11, (.aload_n 0, 0, 0, 0)), (12, (.getfield 12, 5, 0, 195)), (15, (.iload_n 2, 0, 0, 0)), (16, (.invokevirtual 75, 2, 4, 273)), (19, (.ifCond .ne 5, 24, 0, 0)), (22, (.iconst 0, 0, 0, 0)), (23, (.ireturn, 0, 0, 0)), (24, (.aload_n 0, 0, 0, 0)), (25, (.getfield 12, 5, 0, 195)), (28, (.iload_n 2, 0, 0, 0)), (29, (.invokevirtual 79, 9999, 99, 277)), (32, (.istore_n 3, 0, 0, 0)), (33, (.iload_n 3, 0, 0, 0)), (34, (.iconst (-1), 0, 0, 0)), (35, (.if_icmp .eq 18, 53, 0, 0)), (38, (.iload_n 3, 0, 0, 0)), (39, (.iload_n 1, 0, 0, 0)), (40, (.if_icmp .eq 13, 53, 0, 0)), (43, (.aload_n 0, 0, 0, 0)), (44, (.iload_n 3, 0, 0, 0)), (45, (.iload_n 1, 0, 0, 0)), (46, (.invokevirtual 83, 9999, 99, 281)), (49, (.aload_n 0, 0, 0, 0)), (50, (.invokevirtual 72, 31, 4, 258)), (53, (.iconst 1, 0, 0, 0)), (54, (.ireturn, 0, 0, 0))]
/-- TriangleSets.polynomial.()I -/
def vm_t14 : List (Nat × (Jvm.ClassFile.Instr × Nat × Nat × Nat)) := [(0, (.aload_n 0, 0, 0, 0)), (1, (.getfield 87, 5, 3, 198)), (4, (.bipush 16, 0, 0, 0)), (6, (.if_icmp .lt 5, 11, 0, 0)), (9, (.iconst (-1), 0, 0, 0)), (10, (.ireturn, 0, 0, 0)), (11, (.aload_n 0, 0, 0, 0)), (12, (.dup, 0, 0, 0)), (13, (.getfield 87, 5, 3, 198)), (16, (.iconst 1, 0, 0, 0)), (17, (.iadd, 0, 0, 0)), (18, (.putfield 87, 5, 3, 198)), (21, (.aload_n 0, 0, 0, 0)), (22, (.getfield 87, 5, 3, 198)), (25, (.iconst 1, 0, 0, 0)), (26, (.isub, 0, 0, 0)), (27, (.ireturn, 0, 0, 0))]
/-- TriangleSets.term.(IJI)Z -/
def vm_t15 : List (Nat × (Jvm.ClassFile.Instr × Nat × Nat × Nat)) := [(0, (.aload_n 0, 0, 0, 0)), (1, (.iload_n 1, 0, 0, 0)), (2, (.invokevirtual 91, 27, 4, 320)), (5, (.ifCond .eq 15, 20, 0, 0)), (8, (.aload_n 0, 0, 0, 0)), (9, (.getfield 12, 5, 0, 195)), (12, (.iload 4, 0, 0, 0)), (14, (.invokevirtual 94, 9999, 99, 324)), (17, (.ifCond .ne 5, 22, 0, 0)), (20, (.iconst 0, 0, 0, 0)), (21, (.ireturn, 0, 0, 0)), (22, (.lload_n 2, 0, 0, 0)), (23, (.lconst 0, 0, 0, 0)), (24, (.lcmp, 0, 0, 0)), (25, (.ifCond .ne 5, 30, 0, 0)), (28, (.iconst 1, 0, 0, 0)), (29, (.ireturn, 0, 0, 0)), (30, (.aload_n 0, 0, 0, 0)), (31, (.getfield 18, 5, 1, 196)), (34, (.iload_n 1, 0, 0, 0)), (35, (.aaload, 0, 0, 0)), (36, (.aload_n 0, 0, 0, 0)), (37, (.getfield 12, 5, 0, 195)), (40, (.iload 4, 0, 0, 0)), (42, (.invokevirtual 97, 9999, 99, 328)), (45, (.lload_n 2, 0, 0, 0)), (46, (.invokevirtual 101, 9999, 99, 329)), (49, (.ifCond .ne 5, 54, 0, 0)), (52, (.iconst 0, 0, 0, 0)), (53, (.ireturn, 0, 0, 0)), (54, (.aload_n 0, 0, 0, 0)), (55, (.getfield 23, 5, 2, 197)), (58, (.iload_n 1, 0, 0, 0)), (59, (.baload, 0, 0, 0)), (60, (.ifCond .eq 7, 67, 0, 0)), (63, (.aload_n 0, 0, 0, 0)), (64, (.invokevirtual 72, 31, 4, 258)), (67, (.iconst 1, 0, 0, 0)), (68, (.ireturn, 0, 0, 0))]
/-- TriangleSets.use.(IZ)Z -/
def vm_t16 : List (Nat × (Jvm.ClassFile.Instr × Nat × Nat × Nat)) := [(0, (.aload_n 0, 0, 0, 0)), (1, (.iload_n 1, 0, 0, 0)), (2, (.invokevirtual 91, 27, 4, 320)), (5, (.ifCond .eq 13, 18, 0, 0)), (8, (.aload_n 0, 0, 0, 0)), (9, (.getfield 23, 5, 2, 197)), (12, (.iload_n 1, 0, 0, 0)), (13, (.baload, 0, 0, 0)), (14, (.iload_n 2, 0, 0, 0)), (15, (.if_icmp .ne 5, 20, 0, 0)), (18, (.iconst 0, 0, 0, 0)), (19, (.ireturn, 0, 0, 0)), (20, (.aload_n 0, 0, 0, 0)), (21, (.getfield 23, 5, 2, 197)), (24, (.iload_n 1, 0, 0, 0)), (25, (.iload_n 2, 0, 0, 0)), (26, (.bastore, 0, 0, 0)), (27, (.aload_n 0, 0, 0, 0)), (28, (.invokevirtual 72, 31, 4, 258)), (31, (.iconst 1, 0, 0, 0)), (32, (.ireturn, 0, 0, 0))]
/-- TriangleSets.decompose.()I -/
def vm_t17 : List (Nat × (Jvm.ClassFile.Instr × Nat × Nat × Nat)) := [(0, (.aload_n 0, 0, 0, 0)), (1, (.invokevirtual 105, 32, 4, 359)), (4, (.ifCond .ne 5, 9, 0, 0)), (7, (.iconst (-1), 0, 0, 0)), (8, (.ireturn, 0, 0, 0)), (9, (.aload_n 0, 0, 0, 0)), (10, (.getfield 52, 5, 9, 204)), (13, (.invokevirtual 109, 6, 4, 262)), (16, (.aload_n 0, 0, 0, 0)), (17, (.getfield 37, 5, 6, 201)), (20, (.getfield 112, 4, 1, 167)), (23, (.ifCond .le 5, 28, 0, 0)), (26, (.iconst 1, 0, 0, 0)), (27, (.ireturn, 0, 0, 0)), (28, (.aload_n 0, 0, 0, 0)), (29, (.getfield 48, 5, 8, 203)), (32, (.invokevirtual 109, 6, 4, 262)), (35, (.aload_n 0, 0, 0, 0)), (36, (.iconst 0, 0, 0, 0)), (37, (.putfield 115, 5, 15, 210)), (40, (.aload_n 0, 0, 0, 0)), (41, (.iconst 0, 0, 0, 0)), (42, (.putfield 118, 5, 16, 211)), (45, (.aload_n 0, 0, 0, 0)), (46, (.invokevirtual 121, 9999, 99, 367)), (49, (.aload_n 0, 0, 0, 0)), (50, (.invokevirtual 124, 9999, 99, 402)), (53, (.ifCond .eq 7, 60, 0, 0)), (56, (.iconst 0, 0, 0, 0)), (57, (.goto 4, 61, 0, 0)), (60, (.iconst 3, 0, 0, 0)), (61, (.istore_n 1, 0, 0, 0)), (62, (.iload_n 1, 0, 0, 0)), (63, (.iconst 3, 0, 0, 0)), (64, (.if_icmp .ne 30, 94, 0, 0)), (67, (.aload_n 0, 0, 0, 0)), (68, (.getfield 115, 5, 15, 210)), (71, (.bipush 12, 0, 0, 0)), (73, (.if_icmp .ge 21, 94, 0, 0)), (76, (.aload_n 0, 0, 0, 0)), (77, (.dup, 0, 0, 0)), (78, (.getfield 115, 5, 15, 210)), (81, (.iconst 1, 0, 0, 0)), (82, (.iadd, 0, 0, 0)), (83, (.putfield 115, 5, 15, 210)), (86, (.aload_n 0, 0, 0, 0)), (87, (.invokevirtual 127, 9999, 99, 407)), (90, (.istore_n 1, 0, 0, 0)), (91, (.goto (-29), 62, 0, 0)), (94, (.iload_n 1, 0, 0, 0)), (95, (.iconst 1, 0, 0, 0)), (96, (.if_icmp .eq 11, 107, 0, 0)), (99, (.aload_n 0, 0, 0, 0)), (100, (.getfield 37, 5, 6, 201)), (103, (.iconst 0, 0, 0, 0)), (104, (.putfield 112, 4, 1, 167)), (107, (.iload_n 1, 0, 0, 0)), (108, (.iconst 3, 0, 0, 0)), (109, (.if_icmp .ne 7, 116, 0, 0)), (112, (.iconst 2, 0, 0, 0)), (113, (.goto 4, 117, 0, 0)), (116, (.iload_n 1, 0, 0, 0)), (117, (.ireturn, 0, 0, 0))]
/-- TriangleSets.prove.(I)I -/
def vm_t18 : List (Nat × (Jvm.ClassFile.Instr × Nat × Nat × Nat)) := [(0, (.aload_n 0, 0, 0, 0)), (1, (.iload_n 1, 0, 0, 0)), (2, (.invokevirtual 91, 27, 4, 320)), (5, (.ifCond .eq 13, 18, 0, 0)), (8, (.aload_n 0, 0, 0, 0)), (9, (.getfield 37, 5, 6, 201)), (12, (.getfield 112, 4, 1, 167)), (15, (.ifCond .ne 5, 20, 0, 0)), (18, (.iconst (-1), 0, 0, 0)), (19, (.ireturn, 0, 0, 0)), (20, (.aload_n 0, 0, 0, 0)), (21, (.getfield 52, 5, 9, 204)), (24, (.invokevirtual 109, 6, 4, 262)), (27, (.aload_n 0, 0, 0, 0)), (28, (.getfield 62, 5, 12, 207)), (31, (.aload_n 0, 0, 0, 0)), (32, (.getfield 18, 5, 1, 196)), (35, (.iload_n 1, 0, 0, 0)), (36, (.aaload, 0, 0, 0)), (37, (.invokevirtual 131, 9999, 99, 406)), (40, (.aload_n 0, 0, 0, 0)), (41, (.sipush 200, 0, 0, 0)), (44, (.invokevirtual 135, 9999, 99, 439)), (47, (.istore_n 2, 0, 0, 0)), (48, (.aload_n 0, 0, 0, 0)), (49, (.aload_n 0, 0, 0, 0)), (50, (.getfield 138, 5, 14, 209)), (53, (.putfield 141, 5, 17, 212)), (56, (.iload_n 2, 0, 0, 0)), (57, (.ifCond .ne 5, 62, 0, 0)), (60, (.iconst 2, 0, 0, 0)), (61, (.ireturn, 0, 0, 0)), (62, (.aload_n 0, 0, 0, 0)), (63, (.getfield 55, 5, 10, 205)), (66, (.aload_n 0, 0, 0, 0)), (67, (.getfield 18, 5, 1, 196)), (70, (.iload_n 1, 0, 0, 0)), (71, (.aaload, 0, 0, 0)), (72, (.invokevirtual 131, 9999, 99, 406)), (75, (.aload_n 0, 0, 0, 0)), (76, (.getfield 65, 5, 13, 208)), (79, (.iconst 0, 0, 0, 0)), (80, (.aload_n 0, 0, 0, 0)), (81, (.getfield 58, 5, 11, 206)), (84, (.iconst 0, 0, 0, 0)), (85, (.bipush 8, 0, 0, 0)), (87, (.invokestatic 144, 9999, 9, 486)), (90, (.aload_n 0, 0, 0, 0)), (91, (.getfield 52, 5, 9, 204)), (94, (.aload_n 0, 0, 0, 0)), (95, (.getfield 62, 5, 12, 207)), (98, (.invokevirtual 131, 9999, 99, 406)), (101, (.aload_n 0, 0, 0, 0)), (102, (.getfield 52, 5, 9, 204)), (105, (.getfield 150, 1, 2, 117)), (108, (.ifCond .ne 7, 115, 0, 0)), (111, (.iconst 1, 0, 0, 0)), (112, (.goto 4, 116, 0, 0)), (115, (.iconst 0, 0, 0, 0)), (116, (.ireturn, 0, 0, 0))]
/-- TriangleSets.member.(II)I -/
def vm_t19 : List (Nat × (Jvm.ClassFile.Instr × Nat × Nat × Nat)) := [(0, (.aload_n 0, 0, 0, 0)), (1, (.iload_n 1, 0, 0, 0)), (2, (.invokevirtual 153, 28, 4, 491)), (5, (.ifCond .ne 5, 10, 0, 0)), (8, (.iconst (-1), 0, 0, 0)), (9, (.ireturn, 0, 0, 0)), (10, (.aload_n 0, 0, 0, 0)), (11, (.getfield 37, 5, 6, 201)), (14, (.getfield 156, 4, 0, 165)), (17, (.iload_n 1, 0, 0, 0)), (18, (.aaload, 0, 0, 0)), (19, (.astore_n 3, 0, 0, 0)), (20, (.iload_n 2, 0, 0, 0)), (21, (.tableswitch 63 0 3 #[31, 43, 48, 56], 31, 0, 0)), (52, (.aload_n 0, 0, 0, 0)), (53, (.getfield 12, 5, 0, 195)), (56, (.aload_n 3, 0, 0, 0)), (57, (.getfield 159, 2, 1, 144)), (60, (.invokevirtual 162, 9999, 99, 495)), (63, (.ireturn, 0, 0, 0)), (64, (.aload_n 3, 0, 0, 0)), (65, (.getfield 165, 2, 2, 149)), (68, (.ireturn, 0, 0, 0)), (69, (.aload_n 3, 0, 0, 0)), (70, (.getfield 168, 2, 0, 139)), (73, (.getfield 150, 1, 2, 117)), (76, (.ireturn, 0, 0, 0)), (77, (.aload_n 0, 0, 0, 0)), (78, (.getfield 58, 5, 11, 206)), (81, (.iload_n 1, 0, 0, 0)), (82, (.iaload, 0, 0, 0)), (83, (.ireturn, 0, 0, 0)), (84, (.iconst (-1), 0, 0, 0)), (85, (.ireturn, 0, 0, 0))]
/-- TriangleSets.told.(I)I -/
def vm_t20 : List (Nat × (Jvm.ClassFile.Instr × Nat × Nat × Nat)) := [(0, (.iload_n 1, 0, 0, 0)), (1, (.tableswitch 117 0 9 #[55, 63, 68, 73, 81, 86, 91, 96, 101, 109], 55, 0, 0)), (56, (.aload_n 0, 0, 0, 0)), (57, (.getfield 12, 5, 0, 195)), (60, (.getfield 171, 0, 0, 81)), (63, (.ireturn, 0, 0, 0)), (64, (.aload_n 0, 0, 0, 0)), (65, (.getfield 87, 5, 3, 198)), (68, (.ireturn, 0, 0, 0)), (69, (.aload_n 0, 0, 0, 0)), (70, (.invokevirtual 172, 29, 4, 504)), (73, (.ireturn, 0, 0, 0)), (74, (.aload_n 0, 0, 0, 0)), (75, (.getfield 37, 5, 6, 201)), (78, (.getfield 112, 4, 1, 167)), (81, (.ireturn, 0, 0, 0)), (82, (.aload_n 0, 0, 0, 0)), (83, (.getfield 115, 5, 15, 210)), (86, (.ireturn, 0, 0, 0)), (87, (.aload_n 0, 0, 0, 0)), (88, (.getfield 175, 5, 5, 200)), (91, (.ireturn, 0, 0, 0)), (92, (.aload_n 0, 0, 0, 0)), (93, (.getfield 118, 5, 16, 211)), (96, (.ireturn, 0, 0, 0)), (97, (.aload_n 0, 0, 0, 0)), (98, (.getfield 141, 5, 17, 212)), (101, (.ireturn, 0, 0, 0)), (102, (.aload_n 0, 0, 0, 0)), (103, (.getfield 48, 5, 8, 203)), (106, (.getfield 150, 1, 2, 117)), (109, (.ireturn, 0, 0, 0)), (110, (.aload_n 0, 0, 0, 0)), (111, (.getfield 52, 5, 9, 204)), (114, (.getfield 150, 1, 2, 117)), (117, (.ireturn, 0, 0, 0)), (118, (.iconst (-1), 0, 0, 0)), (119, (.ireturn, 0, 0, 0))]
/-- TriangleSets.coefficient.(III)J -/
def vm_t21 : List (Nat × (Jvm.ClassFile.Instr × Nat × Nat × Nat)) := [(0, (.aload_n 0, 0, 0, 0)), (1, (.iload_n 1, 0, 0, 0)), (2, (.iload_n 2, 0, 0, 0)), (3, (.invokevirtual 178, 30, 4, 512)), (6, (.astore 4, 0, 0, 0)), (8, (.aload 4, 0, 0, 0)), (10, (.ifnull 12, 22, 0, 0)), (13, (.aload 4, 0, 0, 0)), (15, (.iload_n 3, 0, 0, 0)), (16, (.invokevirtual 182, 7, 4, 520)), (19, (.ifCond .ne 5, 24, 0, 0)), (22, (.lconst 0, 0, 0, 0)), (23, (.lreturn, 0, 0, 0)), (24, (.aload 4, 0, 0, 0)), (26, (.getfield 185, 1, 1, 111)), (29, (.iload_n 3, 0, 0, 0)), (30, (.laload, 0, 0, 0)), (31, (.lreturn, 0, 0, 0))]
/-- TriangleSets.powers.(III)I -/
def vm_t22 : List (Nat × (Jvm.ClassFile.Instr × Nat × Nat × Nat)) := [(0, (.aload_n 0, 0, 0, 0)), (1, (.iload_n 1, 0, 0, 0)), (2, (.iload_n 2, 0, 0, 0)), (3, (.invokevirtual 178, 30, 4, 512)), (6, (.astore 4, 0, 0, 0)), (8, (.aload 4, 0, 0, 0)), (10, (.ifnull 12, 22, 0, 0)), (13, (.aload 4, 0, 0, 0)), (15, (.iload_n 3, 0, 0, 0)), (16, (.invokevirtual 182, 7, 4, 520)), (19, (.ifCond .ne 5, 24, 0, 0)), (22, (.iconst (-1), 0, 0, 0)), (23, (.ireturn, 0, 0, 0)), (24, (.aload_n 0, 0, 0, 0)), (25, (.getfield 12, 5, 0, 195)), (28, (.aload 4, 0, 0, 0)), (30, (.getfield 189, 1, 0, 108)), (33, (.iload_n 3, 0, 0, 0)), (34, (.laload, 0, 0, 0)), (35, (.invokevirtual 192, 9999, 99, 528)), (38, (.ireturn, 0, 0, 0))]
/-- TriangleSets.point.(IJ)Z -/
def vm_t23 : List (Nat × (Jvm.ClassFile.Instr × Nat × Nat × Nat)) := [(0, (.aload_n 0, 0, 0, 0)), (1, (.getfield 12, 5, 0, 195)), (4, (.iload_n 1, 0, 0, 0)), (5, (.invokevirtual 75, 2, 4, 273)), (8, (.ifCond .ne 5, 13, 0, 0)), (11, (.iconst 0, 0, 0, 0)), (12, (.ireturn, 0, 0, 0)), (13, (.aload_n 0, 0, 0, 0)), (14, (.getfield 12, 5, 0, 195)), (17, (.getfield 196, 0, 2, 84)), (20, (.iload_n 1, 0, 0, 0)), (21, (.lload_n 2, 0, 0, 0)), (22, (.lastore, 0, 0, 0)), (23, (.iconst 1, 0, 0, 0)), (24, (.ireturn, 0, 0, 0))]
/-- TriangleSets.value.(II)J -/
def vm_t24 : List (Nat × (Jvm.ClassFile.Instr × Nat × Nat × Nat)) := [(0, (.aload_n 0, 0, 0, 0)), (1, (.iload_n 1, 0, 0, 0)), (2, (.iload_n 2, 0, 0, 0)), (3, (.invokevirtual 178, 30, 4, 512)), (6, (.astore_n 3, 0, 0, 0)), (7, (.aload_n 3, 0, 0, 0)), (8, (.ifnonnull 7, 15, 0, 0)), (11, (.lconst 0, 0, 0, 0)), (12, (.goto 11, 23, 0, 0)), (15, (.aload_n 0, 0, 0, 0)), (16, (.getfield 12, 5, 0, 195)), (19, (.aload_n 3, 0, 0, 0)), (20, (.invokevirtual 199, 4, 4, 537)), (23, (.lreturn, 0, 0, 0))]
/-- TriangleSets.quotient.(I)J -/
def vm_t25 : List (Nat × (Jvm.ClassFile.Instr × Nat × Nat × Nat)) := [(0, (.aload_n 0, 0, 0, 0)), (1, (.iload_n 1, 0, 0, 0)), (2, (.invokevirtual 153, 28, 4, 491)), (5, (.ifCond .ne 5, 10, 0, 0)), (8, (.lconst 0, 0, 0, 0)), (9, (.lreturn, 0, 0, 0)), (10, (.aload_n 0, 0, 0, 0)), (11, (.getfield 62, 5, 12, 207)), (14, (.aload_n 0, 0, 0, 0)), (15, (.getfield 55, 5, 10, 205)), (18, (.invokevirtual 131, 9999, 99, 406)), (21, (.lconst 0, 0, 0, 0)), (22, (.lstore_n 2, 0, 0, 0)), (23, (.aload_n 0, 0, 0, 0)), (24, (.getfield 37, 5, 6, 201)), (27, (.getfield 112, 4, 1, 167)), (30, (.iconst 1, 0, 0, 0)), (31, (.isub, 0, 0, 0)), (32, (.istore 4, 0, 0, 0)), (34, (.iconst 0, 0, 0, 0)), (35, (.istore 5, 0, 0, 0)), (37, (.iload 5, 0, 0, 0)), (39, (.sipush 200, 0, 0, 0)), (42, (.if_icmp .ge 136, 178, 0, 0)), (45, (.aload_n 0, 0, 0, 0)), (46, (.getfield 37, 5, 6, 201)), (49, (.iload 4, 0, 0, 0)), (51, (.aload_n 0, 0, 0, 0)), (52, (.getfield 62, 5, 12, 207)), (55, (.invokevirtual 203, 9999, 99, 443)), (58, (.istore 4, 0, 0, 0)), (60, (.iload 4, 0, 0, 0)), (62, (.iconst (-1), 0, 0, 0)), (63, (.if_icmp .ne 6, 69, 0, 0)), (66, (.goto 112, 178, 0, 0)), (69, (.aload_n 0, 0, 0, 0)), (70, (.getfield 37, 5, 6, 201)), (73, (.getfield 156, 4, 0, 165)), (76, (.iload 4, 0, 0, 0)), (78, (.aaload, 0, 0, 0)), (79, (.astore 6, 0, 0, 0)), (81, (.lload_n 2, 0, 0, 0)), (82, (.aload_n 0, 0, 0, 0)), (83, (.getfield 12, 5, 0, 195)), (86, (.aload 6, 0, 0, 0)), (88, (.getfield 168, 2, 0, 139)), (91, (.aload 6, 0, 0, 0)), (93, (.getfield 159, 2, 1, 144)), (96, (.aload 6, 0, 0, 0)), (98, (.getfield 165, 2, 2, 149)), (101, (.aload 6, 0, 0, 0)), (103, (.getfield 165, 2, 2, 149)), (106, (.invokevirtual 207, 9999, 99, 549)), (109, (.lmul, 0, 0, 0)), (110, (.lstore_n 2, 0, 0, 0)), (111, (.iload 4, 0, 0, 0)), (113, (.iload_n 1, 0, 0, 0)), (114, (.if_icmp .ne 39, 153, 0, 0)), (117, (.lload_n 2, 0, 0, 0)), (118, (.aload_n 0, 0, 0, 0)), (119, (.getfield 12, 5, 0, 195)), (122, (.aload_n 0, 0, 0, 0)), (123, (.getfield 62, 5, 12, 207)), (126, (.aload 6, 0, 0, 0)), (128, (.getfield 159, 2, 1, 144)), (131, (.aload_n 0, 0, 0, 0)), (132, (.getfield 62, 5, 12, 207)), (135, (.aload 6, 0, 0, 0)), (137, (.getfield 159, 2, 1, 144)), (140, (.invokevirtual 211, 9999, 99, 553)), (143, (.aload 6, 0, 0, 0)), (145, (.getfield 165, 2, 2, 149)), (148, (.invokevirtual 207, 9999, 99, 549)), (151, (.ladd, 0, 0, 0)), (152, (.lstore_n 2, 0, 0, 0)), (153, (.aload_n 0, 0, 0, 0)), (154, (.getfield 44, 5, 7, 202)), (157, (.aload_n 0, 0, 0, 0)), (158, (.getfield 62, 5, 12, 207)), (161, (.aload 6, 0, 0, 0)), (163, (.invokevirtual 213, 9999, 99, 447)), (166, (.ifCond .ne 6, 172, 0, 0)), (169, (.goto 9, 178, 0, 0)), (172, (.iinc 5 1, 0, 0, 0)), (175, (.goto (-138), 37, 0, 0)), (178, (.lload_n 2, 0, 0, 0)), (179, (.lreturn, 0, 0, 0))]
/-- TriangleSets.pseudo.(JJ)J -/
def vm_t26 : List (Nat × (Jvm.ClassFile.Instr × Nat × Nat × Nat)) := [(0, (.lload_n 3, 0, 0, 0)), (1, (.lconst 0, 0, 0, 0)), (2, (.lcmp, 0, 0, 0)), (3, (.ifCond .ne 13, 16, 0, 0)), (6, (.new 217, 99, 0, 0)), (9, (.dup, 0, 0, 0)), (10, (.ldc 219, 0, 0, 0)), (12, (.invokespecial 221, 9999, 99, 602)), (15, (.athrow, 0, 0, 0)), (16, (.lload_n 1, 0, 0, 0)), (17, (.bipush 32, 0, 0, 0)), (19, (.lshl, 0, 0, 0)), (20, (.lload_n 3, 0, 0, 0)), (21, (.ldiv, 0, 0, 0)), (22, (.lreturn, 0, 0, 0))]
/-- TriangleSets.hasPolynomial.(I)Z -/
def vm_t27 : List (Nat × (Jvm.ClassFile.Instr × Nat × Nat × Nat)) := [(0, (.iload_n 1, 0, 0, 0)), (1, (.ifCond .lt 15, 16, 0, 0)), (4, (.iload_n 1, 0, 0, 0)), (5, (.aload_n 0, 0, 0, 0)), (6, (.getfield 87, 5, 3, 198)), (9, (.if_icmp .ge 7, 16, 0, 0)), (12, (.iconst 1, 0, 0, 0)), (13, (.goto 4, 17, 0, 0)), (16, (.iconst 0, 0, 0, 0)), (17, (.ireturn, 0, 0, 0))]
/-- TriangleSets.hasMember.(I)Z -/
def vm_t28 : List (Nat × (Jvm.ClassFile.Instr × Nat × Nat × Nat)) := [(0, (.iload_n 1, 0, 0, 0)), (1, (.ifCond .lt 18, 19, 0, 0)), (4, (.iload_n 1, 0, 0, 0)), (5, (.aload_n 0, 0, 0, 0)), (6, (.getfield 37, 5, 6, 201)), (9, (.getfield 112, 4, 1, 167)), (12, (.if_icmp .ge 7, 19, 0, 0)), (15, (.iconst 1, 0, 0, 0)), (16, (.goto 4, 20, 0, 0)), (19, (.iconst 0, 0, 0, 0)), (20, (.ireturn, 0, 0, 0))]
/-- TriangleSets.hypothesisCount.()I -/
def vm_t29 : List (Nat × (Jvm.ClassFile.Instr × Nat × Nat × Nat)) := [(0, (.iconst 0, 0, 0, 0)), (1, (.istore_n 1, 0, 0, 0)), (2, (.iconst 0, 0, 0, 0)), (3, (.istore_n 2, 0, 0, 0)), (4, (.iload_n 2, 0, 0, 0)), (5, (.aload_n 0, 0, 0, 0)), (6, (.getfield 87, 5, 3, 198)), (9, (.if_icmp .ge 21, 30, 0, 0)), (12, (.aload_n 0, 0, 0, 0)), (13, (.getfield 23, 5, 2, 197)), (16, (.iload_n 2, 0, 0, 0)), (17, (.baload, 0, 0, 0)), (18, (.ifCond .eq 6, 24, 0, 0)), (21, (.iinc 1 1, 0, 0, 0)), (24, (.iinc 2 1, 0, 0, 0)), (27, (.goto (-23), 4, 0, 0)), (30, (.iload_n 1, 0, 0, 0)), (31, (.ireturn, 0, 0, 0))]
/-- TriangleSets.find.(II)LTriangleSets$Polynomial; -/
def vm_t30 : List (Nat × (Jvm.ClassFile.Instr × Nat × Nat × Nat)) := [(0, (.iload_n 1, 0, 0, 0)), (1, (.ifCond .ne 18, 19, 0, 0)), (4, (.aload_n 0, 0, 0, 0)), (5, (.iload_n 2, 0, 0, 0)), (6, (.invokevirtual 91, 27, 4, 320)), (9, (.ifCond .eq 10, 19, 0, 0)), (12, (.aload_n 0, 0, 0, 0)), (13, (.getfield 18, 5, 1, 196)), (16, (.iload_n 2, 0, 0, 0)), (17, (.aaload, 0, 0, 0)), (18, (.areturn, 0, 0, 0)), (19, (.iload_n 1, 0, 0, 0)), (20, (.iconst 1, 0, 0, 0)), (21, (.if_icmp .ne 24, 45, 0, 0)), (24, (.aload_n 0, 0, 0, 0)), (25, (.iload_n 2, 0, 0, 0)), (26, (.invokevirtual 153, 28, 4, 491)), (29, (.ifCond .eq 16, 45, 0, 0)), (32, (.aload_n 0, 0, 0, 0)), (33, (.getfield 37, 5, 6, 201)), (36, (.getfield 156, 4, 0, 165)), (39, (.iload_n 2, 0, 0, 0)), (40, (.aaload, 0, 0, 0)), (41, (.getfield 168, 2, 0, 139)), (44, (.areturn, 0, 0, 0)), (45, (.iload_n 1, 0, 0, 0)), (46, (.iconst 2, 0, 0, 0)), (47, (.if_icmp .ne 32, 79, 0, 0)), (50, (.aload_n 0, 0, 0, 0)), (51, (.iload_n 2, 0, 0, 0)), (52, (.invokevirtual 153, 28, 4, 491)), (55, (.ifCond .eq 24, 79, 0, 0)), (58, (.aload_n 0, 0, 0, 0)), (59, (.getfield 62, 5, 12, 207)), (62, (.aload_n 0, 0, 0, 0)), (63, (.getfield 37, 5, 6, 201)), (66, (.getfield 156, 4, 0, 165)), (69, (.iload_n 2, 0, 0, 0)), (70, (.aaload, 0, 0, 0)), (71, (.invokevirtual 224, 9999, 99, 516)), (74, (.aload_n 0, 0, 0, 0)), (75, (.getfield 62, 5, 12, 207)), (78, (.areturn, 0, 0, 0)), (79, (.iload_n 1, 0, 0, 0)), (80, (.iconst 3, 0, 0, 0)), (81, (.if_icmp .ne 12, 93, 0, 0)), (84, (.iload_n 2, 0, 0, 0)), (85, (.ifCond .ne 8, 93, 0, 0)), (88, (.aload_n 0, 0, 0, 0)), (89, (.getfield 52, 5, 9, 204)), (92, (.areturn, 0, 0, 0)), (93, (.iload_n 1, 0, 0, 0)), (94, (.iconst 4, 0, 0, 0)), (95, (.if_icmp .ne 12, 107, 0, 0)), (98, (.iload_n 2, 0, 0, 0)), (99, (.ifCond .ne 8, 107, 0, 0)), (102, (.aload_n 0, 0, 0, 0)), (103, (.getfield 48, 5, 8, 203)), (106, (.areturn, 0, 0, 0)), (107, (.aconst_null, 0, 0, 0)), (108, (.areturn, 0, 0, 0))]
/-- TriangleSets.forgetSet.()V -/
def vm_t31 : List (Nat × (Jvm.ClassFile.Instr × Nat × Nat × Nat)) := [(0, (.aload_n 0, 0, 0, 0)), (1, (.getfield 37, 5, 6, 201)), (4, (.iconst 0, 0, 0, 0)), (5, (.putfield 112, 4, 1, 167)), (8, (.aload_n 0, 0, 0, 0)), (9, (.getfield 52, 5, 9, 204)), (12, (.invokevirtual 109, 6, 4, 262)), (15, (.aload_n 0, 0, 0, 0)), (16, (.getfield 55, 5, 10, 205)), (19, (.invokevirtual 109, 6, 4, 262)), (22, (.aload_n 0, 0, 0, 0)), (23, (.getfield 58, 5, 11, 206)), (26, (.iconst 0, 0, 0, 0)), (27, (.invokestatic 228, 55, 1, 266)), (30, (.return_, 0, 0, 0))]
/-- TriangleSets.hasSomethingToDecompose.()Z -/
def vm_t32 : List (Nat × (Jvm.ClassFile.Instr × Nat × Nat × Nat)) := [(0, (.iconst 0, 0, 0, 0)), (1, (.istore_n 1, 0, 0, 0)), (2, (.iload_n 1, 0, 0, 0)), (3, (.aload_n 0, 0, 0, 0)), (4, (.getfield 87, 5, 3, 198)), (7, (.if_icmp .ge 19, 26, 0, 0)), (10, (.aload_n 0, 0, 0, 0)), (11, (.iload_n 1, 0, 0, 0)), (12, (.invokevirtual 243, 9999, 99, 363)), (15, (.ifCond .eq 5, 20, 0, 0)), (18, (.iconst 1, 0, 0, 0)), (19, (.ireturn, 0, 0, 0)), (20, (.iinc 1 1, 0, 0, 0)), (23, (.goto (-21), 2, 0, 0)), (26, (.iconst 0, 0, 0, 0)), (27, (.ireturn, 0, 0, 0))]
/-- TriangleSetsModel.<init>.()V -/
def vm_t33 : List (Nat × (Jvm.ClassFile.Instr × Nat × Nat × Nat)) := [(0, (.aload_n 0, 0, 0, 0)), (1, (.invokespecial 1, 0, 8, 633)), (4, (.aload_n 0, 0, 0, 0)), (5, (.bipush 8, 0, 0, 0)), (7, (.newarray .boolean, 0, 0, 0)), (9, (.putfield 7, 6, 2, 636)), (12, (.aload_n 0, 0, 0, 0)), (13, (.bipush 8, 0, 0, 0)), (15, (.newarray .int, 0, 0, 0)), (17, (.putfield 13, 6, 3, 637)), (20, (.aload_n 0, 0, 0, 0)), (21, (.bipush 16, 0, 0, 0)), (23, (.newarray .boolean, 0, 0, 0)), (25, (.putfield 17, 6, 5, 639)), (28, (.aload_n 0, 0, 0, 0)), (29, (.bipush 72, 0, 0, 0)), (31, (.newarray .int, 0, 0, 0)), (33, (.putfield 20, 6, 6, 640)), (36, (.aload_n 0, 0, 0, 0)), (37, (.sipush 4320, 0, 0, 0)), (40, (.newarray .long, 0, 0, 0)), (42, (.putfield 23, 6, 7, 641)), (45, (.aload_n 0, 0, 0, 0)), (46, (.sipush 4320, 0, 0, 0)), (49, (.newarray .long, 0, 0, 0)), (51, (.putfield 27, 6, 8, 642)), (54, (.aload_n 0, 0, 0, 0)), (55, (.bipush 8, 0, 0, 0)), (57, (.newarray .long, 0, 0, 0)), (59, (.putfield 30, 6, 9, 643)), (62, (.aload_n 0, 0, 0, 0)), (63, (.sipush 256, 0, 0, 0)), (66, (.newarray .int, 0, 0, 0)), (68, (.putfield 33, 6, 20, 654)), (71, (.aload_n 0, 0, 0, 0)), (72, (.sipush 256, 0, 0, 0)), (75, (.newarray .int, 0, 0, 0)), (77, (.putfield 36, 6, 21, 655)), (80, (.aload_n 0, 0, 0, 0)), (81, (.sipush 256, 0, 0, 0)), (84, (.newarray .int, 0, 0, 0)), (86, (.putfield 39, 6, 22, 656)), (89, (.aload_n 0, 0, 0, 0)), (90, (.sipush 12300, 0, 0, 0)), (93, (.newarray .long, 0, 0, 0)), (95, (.putfield 42, 6, 23, 657)), (98, (.aload_n 0, 0, 0, 0)), (99, (.sipush 12300, 0, 0, 0)), (102, (.newarray .long, 0, 0, 0)), (104, (.putfield 45, 6, 24, 658)), (107, (.aload_n 0, 0, 0, 0)), (108, (.bipush 8, 0, 0, 0)), (110, (.newarray .int, 0, 0, 0)), (112, (.putfield 48, 6, 26, 660)), (115, (.aload_n 0, 0, 0, 0)), (116, (.sipush 256, 0, 0, 0)), (119, (.newarray .int, 0, 0, 0)), (121, (.putfield 51, 6, 29, 663)), (124, (.aload_n 0, 0, 0, 0)), (125, (.sipush 256, 0, 0, 0)), (128, (.newarray .int, 0, 0, 0)), (130, (.putfield 54, 6, 30, 664)), (133, (.aload_n 0, 0, 0, 0)), (134, (.sipush 256, 0, 0, 0)), (137, (.newarray .int, 0, 0, 0)), (139, (.putfield 57, 6, 31, 665)), (142, (.aload_n 0, 0, 0, 0)), (143, (.sipush 12300, 0, 0, 0)), (146, (.newarray .long, 0, 0, 0)), (148, (.putfield 60, 6, 32, 666)), (151, (.aload_n 0, 0, 0, 0)), (152, (.sipush 12300, 0, 0, 0)), (155, (.newarray .long, 0, 0, 0)), (157, (.putfield 63, 6, 33, 667)), (160, (.aload_n 0, 0, 0, 0)), (161, (.sipush 16384, 0, 0, 0)), (164, (.newarray .long, 0, 0, 0)), (166, (.putfield 66, 6, 34, 668)), (169, (.aload_n 0, 0, 0, 0)), (170, (.sipush 16384, 0, 0, 0)), (173, (.newarray .long, 0, 0, 0)), (175, (.putfield 69, 6, 35, 669)), (178, (.aload_n 0, 0, 0, 0)), (179, (.sipush 16384, 0, 0, 0)), (182, (.newarray .boolean, 0, 0, 0)), (184, (.putfield 72, 6, 36, 670)), (187, (.aload_n 0, 0, 0, 0)), (188, (.sipush 8000, 0, 0, 0)), (191, (.newarray .int, 0, 0, 0)), (193, (.putfield 75, 6, 37, 671)), (196, (.aload_n 0, 0, 0, 0)), (197, (.bipush 8, 0, 0, 0)), (199, (.newarray .int, 0, 0, 0)), (201, (.putfield 78, 6, 39, 673)), (204, (.aload_n 0, 0, 0, 0)), (205, (.bipush 8, 0, 0, 0)), (207, (.newarray .long, 0, 0, 0)), (209, (.putfield 81, 6, 43, 677)), (212, (.return_, 0, 0, 0))]
/-- TriangleSetsModel.thrown.()I -/
def vm_t34 : List (Nat × (Jvm.ClassFile.Instr × Nat × Nat × Nat)) := [(0, (.aload_n 0, 0, 0, 0)), (1, (.getfield 84, 6, 0, 634)), (4, (.ireturn, 0, 0, 0))]
/-- TriangleSetsModel.forget.()V -/
def vm_t35 : List (Nat × (Jvm.ClassFile.Instr × Nat × Nat × Nat)) := [(0, (.aload_n 0, 0, 0, 0)), (1, (.iconst 0, 0, 0, 0)), (2, (.putfield 210, 6, 10, 644)), (5, (.aload_n 0, 0, 0, 0)), (6, (.iconst 0, 0, 0, 0)), (7, (.putfield 213, 6, 11, 645)), (10, (.aload_n 0, 0, 0, 0)), (11, (.iconst 0, 0, 0, 0)), (12, (.putfield 216, 6, 12, 646)), (15, (.aload_n 0, 0, 0, 0)), (16, (.iconst 0, 0, 0, 0)), (17, (.putfield 219, 6, 18, 652)), (20, (.return_, 0, 0, 0))]
/-- TriangleSetsModel.decompose.()I -/
def vm_t36 : List (Nat × (Jvm.ClassFile.Instr × Nat × Nat × Nat)) := [(0, (.aload_n 0, 0, 0, 0)), (1, (.iconst 0, 0, 0, 0)), (2, (.putfield 84, 6, 0, 634)), (5, (.iconst 0, 0, 0, 0)), (6, (.istore_n 1, 0, 0, 0)), (7, (.iconst 0, 0, 0, 0)), (8, (.istore_n 2, 0, 0, 0)), (9, (.iload_n 2, 0, 0, 0)), (10, (.aload_n 0, 0, 0, 0)), (11, (.getfield 222, 6, 4, 638)), (14, (.if_icmp .ge 35, 49, 0, 0)), (17, (.iload_n 1, 0, 0, 0)), (18, (.aload_n 0, 0, 0, 0)), (19, (.getfield 17, 6, 5, 639)), (22, (.iload_n 2, 0, 0, 0)), (23, (.baload, 0, 0, 0)), (24, (.ifCond .eq 16, 40, 0, 0)), (27, (.aload_n 0, 0, 0, 0)), (28, (.getfield 20, 6, 6, 640)), (31, (.iload_n 2, 0, 0, 0)), (32, (.iaload, 0, 0, 0)), (33, (.ifCond .le 7, 40, 0, 0)), (36, (.iconst 1, 0, 0, 0)), (37, (.goto 4, 41, 0, 0)), (40, (.iconst 0, 0, 0, 0)), (41, (.iadd, 0, 0, 0)), (42, (.istore_n 1, 0, 0, 0)), (43, (.iinc 2 1, 0, 0, 0)), (46, (.goto (-37), 9, 0, 0)), (49, (.iload_n 1, 0, 0, 0)), (50, (.ifCond .ne 5, 55, 0, 0)), (53, (.iconst (-1), 0, 0, 0)), (54, (.ireturn, 0, 0, 0)), (55, (.aload_n 0, 0, 0, 0)), (56, (.invokevirtual 225, 35, 4, 775)), (59, (.aload_n 0, 0, 0, 0)), (60, (.iconst 0, 0, 0, 0)), (61, (.putfield 181, 6, 13, 647)), (64, (.aload_n 0, 0, 0, 0)), (65, (.iconst 0, 0, 0, 0)), (66, (.putfield 185, 6, 14, 648)), (69, (.aload_n 0, 0, 0, 0)), (70, (.iconst 0, 0, 0, 0)), (71, (.putfield 194, 6, 16, 650)), (74, (.aload_n 0, 0, 0, 0)), (75, (.iconst 0, 0, 0, 0)), (76, (.putfield 164, 6, 42, 676)), (79, (.iconst (-1), 0, 0, 0)), (80, (.istore_n 2, 0, 0, 0)), (81, (.iconst 0, 0, 0, 0)), (82, (.istore_n 3, 0, 0, 0)), (83, (.iload_n 3, 0, 0, 0)), (84, (.aload_n 0, 0, 0, 0)), (85, (.getfield 222, 6, 4, 638)), (88, (.if_icmp .ge 87, 175, 0, 0)), (91, (.aload_n 0, 0, 0, 0)), (92, (.getfield 17, 6, 5, 639)), (95, (.iload_n 3, 0, 0, 0)), (96, (.baload, 0, 0, 0)), (97, (.ifCond .eq 72, 169, 0, 0)), (100, (.aload_n 0, 0, 0, 0)), (101, (.getfield 20, 6, 6, 640)), (104, (.iload_n 3, 0, 0, 0)), (105, (.iaload, 0, 0, 0)), (106, (.ifCond .le 63, 169, 0, 0)), (109, (.aload_n 0, 0, 0, 0)), (110, (.iload_n 3, 0, 0, 0)), (111, (.bipush 16, 0, 0, 0)), (113, (.aload_n 0, 0, 0, 0)), (114, (.getfield 164, 6, 42, 676)), (117, (.iadd, 0, 0, 0)), (118, (.invokevirtual 177, 9999, 99, 779)), (121, (.aload_n 0, 0, 0, 0)), (122, (.bipush 16, 0, 0, 0)), (124, (.aload_n 0, 0, 0, 0)), (125, (.getfield 164, 6, 42, 676)), (128, (.iadd, 0, 0, 0)), (129, (.invokevirtual 201, 9999, 99, 783)), (132, (.iload_n 2, 0, 0, 0)), (133, (.ifCond .ge 26, 159, 0, 0)), (136, (.aload_n 0, 0, 0, 0)), (137, (.bipush 16, 0, 0, 0)), (139, (.aload_n 0, 0, 0, 0)), (140, (.getfield 164, 6, 42, 676)), (143, (.iadd, 0, 0, 0)), (144, (.invokevirtual 152, 9999, 99, 790)), (147, (.iconst (-1), 0, 0, 0)), (148, (.if_icmp .ne 11, 159, 0, 0)), (151, (.bipush 16, 0, 0, 0)), (153, (.aload_n 0, 0, 0, 0)), (154, (.getfield 164, 6, 42, 676)), (157, (.iadd, 0, 0, 0)), (158, (.istore_n 2, 0, 0, 0)), (159, (.aload_n 0, 0, 0, 0)), (160, (.dup, 0, 0, 0)), (161, (.getfield 164, 6, 42, 676)), (164, (.iconst 1, 0, 0, 0)), (165, (.iadd, 0, 0, 0)), (166, (.putfield 164, 6, 42, 676)), (169, (.iinc 3 1, 0, 0, 0)), (172, (.goto (-89), 83, 0, 0)), (175, (.aload_n 0, 0, 0, 0)), (176, (.aload_n 0, 0, 0, 0)), (177, (.getfield 164, 6, 42, 676)), (180, (.putfield 228, 6, 15, 649)), (183, (.iload_n 2, 0, 0, 0)), (184, (.ifCond .lt 10, 194, 0, 0)), (187, (.aload_n 0, 0, 0, 0)), (188, (.iload_n 2, 0, 0, 0)), (189, (.invokevirtual 207, 9999, 99, 801)), (192, (.iconst 0, 0, 0, 0)), (193, (.ireturn, 0, 0, 0)), (194, (.iconst 3, 0, 0, 0)), (195, (.istore_n 3, 0, 0, 0)), (196, (.iload_n 3, 0, 0, 0)), (197, (.iconst 3, 0, 0, 0)), (198, (.if_icmp .ne 20, 218, 0, 0)), (201, (.aload_n 0, 0, 0, 0)), (202, (.getfield 185, 6, 14, 648)), (205, (.bipush 12, 0, 0, 0)), (207, (.if_icmp .ge 11, 218, 0, 0)), (210, (.aload_n 0, 0, 0, 0)), (211, (.invokevirtual 231, 9999, 99, 805)), (214, (.istore_n 3, 0, 0, 0)), (215, (.goto (-19), 196, 0, 0)), (218, (.aload_n 0, 0, 0, 0)), (219, (.aload_n 0, 0, 0, 0)), (220, (.getfield 164, 6, 42, 676)), (223, (.putfield 228, 6, 15, 649)), (226, (.iload_n 3, 0, 0, 0)), (227, (.iconst 1, 0, 0, 0)), (228, (.if_icmp .ne 50, 278, 0, 0)), (231, (.aload_n 0, 0, 0, 0)), (232, (.iconst 1, 0, 0, 0)), (233, (.putfield 210, 6, 10, 644)), (236, (.aload_n 0, 0, 0, 0)), (237, (.aload_n 0, 0, 0, 0)), (238, (.getfield 149, 6, 40, 674)), (241, (.putfield 213, 6, 11, 645)), (244, (.iconst 0, 0, 0, 0)), (245, (.istore 4, 0, 0, 0)), (247, (.iload 4, 0, 0, 0)), (249, (.aload_n 0, 0, 0, 0)), (250, (.getfield 149, 6, 40, 674)), (253, (.if_icmp .ge 25, 278, 0, 0)), (256, (.aload_n 0, 0, 0, 0)), (257, (.aload_n 0, 0, 0, 0)), (258, (.getfield 78, 6, 39, 673)), (261, (.iload 4, 0, 0, 0)), (263, (.iaload, 0, 0, 0)), (264, (.bipush 58, 0, 0, 0)), (266, (.iload 4, 0, 0, 0)), (268, (.iadd, 0, 0, 0)), (269, (.invokevirtual 177, 9999, 99, 779)), (272, (.iinc 4 1, 0, 0, 0)), (275, (.goto (-28), 247, 0, 0)), (278, (.iload_n 3, 0, 0, 0)), (279, (.iconst 3, 0, 0, 0)), (280, (.if_icmp .ne 7, 287, 0, 0)), (283, (.iconst 2, 0, 0, 0)), (284, (.goto 4, 288, 0, 0)), (287, (.iload_n 3, 0, 0, 0)), (288, (.ireturn, 0, 0, 0))]
/-- TriangleSetsModel.noPoly.(I)Z -/
def vm_t37 : List (Nat × (Jvm.ClassFile.Instr × Nat × Nat × Nat)) := [(0, (.iload_n 1, 0, 0, 0)), (1, (.ifCond .lt 11, 12, 0, 0)), (4, (.iload_n 1, 0, 0, 0)), (5, (.aload_n 0, 0, 0, 0)), (6, (.getfield 222, 6, 4, 638)), (9, (.if_icmp .lt 7, 16, 0, 0)), (12, (.iconst 1, 0, 0, 0)), (13, (.goto 4, 17, 0, 0)), (16, (.iconst 0, 0, 0, 0)), (17, (.ireturn, 0, 0, 0))]
/-- TriangleSetsModel.prove.(I)I -/
def vm_t38 : List (Nat × (Jvm.ClassFile.Instr × Nat × Nat × Nat)) := [(0, (.aload_n 0, 0, 0, 0)), (1, (.iconst 0, 0, 0, 0)), (2, (.putfield 84, 6, 0, 634)), (5, (.aload_n 0, 0, 0, 0)), (6, (.iload_n 1, 0, 0, 0)), (7, (.invokevirtual 235, 37, 4, 877)), (10, (.ifCond .ne 10, 20, 0, 0)), (13, (.aload_n 0, 0, 0, 0)), (14, (.getfield 210, 6, 10, 644)), (17, (.ifCond .ne 5, 22, 0, 0)), (20, (.iconst (-1), 0, 0, 0)), (21, (.ireturn, 0, 0, 0)), (22, (.aload_n 0, 0, 0, 0)), (23, (.iload_n 1, 0, 0, 0)), (24, (.bipush 69, 0, 0, 0)), (26, (.invokevirtual 177, 9999, 99, 779)), (29, (.aload_n 0, 0, 0, 0)), (30, (.aload_n 0, 0, 0, 0)), (31, (.getfield 213, 6, 11, 645)), (34, (.putfield 149, 6, 40, 674)), (37, (.iconst 0, 0, 0, 0)), (38, (.istore_n 2, 0, 0, 0)), (39, (.iload_n 2, 0, 0, 0)), (40, (.aload_n 0, 0, 0, 0)), (41, (.getfield 213, 6, 11, 645)), (44, (.if_icmp .ge 19, 63, 0, 0)), (47, (.aload_n 0, 0, 0, 0)), (48, (.getfield 78, 6, 39, 673)), (51, (.iload_n 2, 0, 0, 0)), (52, (.bipush 58, 0, 0, 0)), (54, (.iload_n 2, 0, 0, 0)), (55, (.iadd, 0, 0, 0)), (56, (.iastore, 0, 0, 0)), (57, (.iinc 2 1, 0, 0, 0)), (60, (.goto (-21), 39, 0, 0)), (63, (.aload_n 0, 0, 0, 0)), (64, (.iconst 0, 0, 0, 0)), (65, (.putfield 140, 6, 27, 661)), (68, (.aload_n 0, 0, 0, 0)), (69, (.iconst 0, 0, 0, 0)), (70, (.putfield 143, 6, 28, 662)), (73, (.aload_n 0, 0, 0, 0)), (74, (.iconst 1, 0, 0, 0)), (75, (.sipush 200, 0, 0, 0)), (78, (.invokevirtual 197, 9999, 99, 825)), (81, (.istore_n 2, 0, 0, 0)), (82, (.aload_n 0, 0, 0, 0)), (83, (.aload_n 0, 0, 0, 0)), (84, (.getfield 146, 6, 41, 675)), (87, (.putfield 238, 6, 17, 651)), (90, (.aload_n 0, 0, 0, 0)), (91, (.iload_n 2, 0, 0, 0)), (92, (.putfield 216, 6, 12, 646)), (95, (.iload_n 2, 0, 0, 0)), (96, (.ifCond .ne 5, 101, 0, 0)), (99, (.iconst 2, 0, 0, 0)), (100, (.ireturn, 0, 0, 0)), (101, (.aload_n 0, 0, 0, 0)), (102, (.bipush 69, 0, 0, 0)), (104, (.bipush 67, 0, 0, 0)), (106, (.invokevirtual 177, 9999, 99, 779)), (109, (.aload_n 0, 0, 0, 0)), (110, (.iconst 1, 0, 0, 0)), (111, (.putfield 219, 6, 18, 652)), (114, (.aload_n 0, 0, 0, 0)), (115, (.aload_n 0, 0, 0, 0)), (116, (.getfield 140, 6, 27, 661)), (119, (.putfield 241, 6, 19, 653)), (122, (.aload_n 0, 0, 0, 0)), (123, (.aload_n 0, 0, 0, 0)), (124, (.getfield 143, 6, 28, 662)), (127, (.putfield 244, 6, 25, 659)), (130, (.iconst 0, 0, 0, 0)), (131, (.istore_n 3, 0, 0, 0)), (132, (.iload_n 3, 0, 0, 0)), (133, (.bipush 8, 0, 0, 0)), (135, (.if_icmp .ge 16, 151, 0, 0)), (138, (.aload_n 0, 0, 0, 0)), (139, (.getfield 48, 6, 26, 660)), (142, (.iload_n 3, 0, 0, 0)), (143, (.iconst 0, 0, 0, 0)), (144, (.iastore, 0, 0, 0)), (145, (.iinc 3 1, 0, 0, 0)), (148, (.goto (-16), 132, 0, 0)), (151, (.iconst 0, 0, 0, 0)), (152, (.istore_n 3, 0, 0, 0)), (153, (.iload_n 3, 0, 0, 0)), (154, (.aload_n 0, 0, 0, 0)), (155, (.getfield 241, 6, 19, 653)), (158, (.if_icmp .ge 60, 218, 0, 0)), (161, (.aload_n 0, 0, 0, 0)), (162, (.getfield 33, 6, 20, 654)), (165, (.iload_n 3, 0, 0, 0)), (166, (.aload_n 0, 0, 0, 0)), (167, (.getfield 51, 6, 29, 663)), (170, (.iload_n 3, 0, 0, 0)), (171, (.iaload, 0, 0, 0)), (172, (.iastore, 0, 0, 0)), (173, (.aload_n 0, 0, 0, 0)), (174, (.getfield 36, 6, 21, 655)), (177, (.iload_n 3, 0, 0, 0)), (178, (.aload_n 0, 0, 0, 0)), (179, (.getfield 54, 6, 30, 664)), (182, (.iload_n 3, 0, 0, 0)), (183, (.iaload, 0, 0, 0)), (184, (.iastore, 0, 0, 0)), (185, (.aload_n 0, 0, 0, 0)), (186, (.getfield 39, 6, 22, 656)), (189, (.iload_n 3, 0, 0, 0)), (190, (.aload_n 0, 0, 0, 0)), (191, (.getfield 57, 6, 31, 665)), (194, (.iload_n 3, 0, 0, 0)), (195, (.iaload, 0, 0, 0)), (196, (.iastore, 0, 0, 0)), (197, (.aload_n 0, 0, 0, 0)), (198, (.getfield 48, 6, 26, 660)), (201, (.aload_n 0, 0, 0, 0)), (202, (.getfield 51, 6, 29, 663)), (205, (.iload_n 3, 0, 0, 0)), (206, (.iaload, 0, 0, 0)), (207, (.dup2, 0, 0, 0)), (208, (.iaload, 0, 0, 0)), (209, (.iconst 1, 0, 0, 0)), (210, (.iadd, 0, 0, 0)), (211, (.iastore, 0, 0, 0)), (212, (.iinc 3 1, 0, 0, 0)), (215, (.goto (-62), 153, 0, 0)), (218, (.iconst 0, 0, 0, 0)), (219, (.istore_n 3, 0, 0, 0)), (220, (.iload_n 3, 0, 0, 0)), (221, (.aload_n 0, 0, 0, 0)), (222, (.getfield 244, 6, 25, 659)), (225, (.if_icmp .ge 33, 258, 0, 0)), (228, (.aload_n 0, 0, 0, 0)), (229, (.getfield 42, 6, 23, 657)), (232, (.iload_n 3, 0, 0, 0)), (233, (.aload_n 0, 0, 0, 0)), (234, (.getfield 60, 6, 32, 666)), (237, (.iload_n 3, 0, 0, 0)), (238, (.laload, 0, 0, 0)), (239, (.lastore, 0, 0, 0)), (240, (.aload_n 0, 0, 0, 0)), (241, (.getfield 45, 6, 24, 658)), (244, (.iload_n 3, 0, 0, 0)), (245, (.aload_n 0, 0, 0, 0)), (246, (.getfield 63, 6, 33, 667)), (249, (.iload_n 3, 0, 0, 0)), (250, (.laload, 0, 0, 0)), (251, (.lastore, 0, 0, 0)), (252, (.iinc 3 1, 0, 0, 0)), (255, (.goto (-35), 220, 0, 0)), (258, (.aload_n 0, 0, 0, 0)), (259, (.getfield 20, 6, 6, 640)), (262, (.bipush 67, 0, 0, 0)), (264, (.iaload, 0, 0, 0)), (265, (.ifCond .ne 7, 272, 0, 0)), (268, (.iconst 1, 0, 0, 0)), (269, (.goto 4, 273, 0, 0)), (272, (.iconst 0, 0, 0, 0)), (273, (.ireturn, 0, 0, 0))]
/-- TriangleSetsModel.variable.(Z)I -/
def vm_t39 : List (Nat × (Jvm.ClassFile.Instr × Nat × Nat × Nat)) := [(0, (.aload_n 0, 0, 0, 0)), (1, (.iconst 0, 0, 0, 0)), (2, (.putfield 84, 6, 0, 634)), (5, (.aload_n 0, 0, 0, 0)), (6, (.getfield 88, 6, 1, 635)), (9, (.bipush 8, 0, 0, 0)), (11, (.if_icmp .ne 5, 16, 0, 0)), (14, (.iconst (-1), 0, 0, 0)), (15, (.ireturn, 0, 0, 0)), (16, (.aload_n 0, 0, 0, 0)), (17, (.getfield 7, 6, 2, 636)), (20, (.aload_n 0, 0, 0, 0)), (21, (.getfield 88, 6, 1, 635)), (24, (.iload_n 1, 0, 0, 0)), (25, (.bastore, 0, 0, 0)), (26, (.aload_n 0, 0, 0, 0)), (27, (.getfield 13, 6, 3, 637)), (30, (.aload_n 0, 0, 0, 0)), (31, (.getfield 88, 6, 1, 635)), (34, (.aload_n 0, 0, 0, 0)), (35, (.getfield 88, 6, 1, 635)), (38, (.iastore, 0, 0, 0)), (39, (.aload_n 0, 0, 0, 0)), (40, (.dup, 0, 0, 0)), (41, (.getfield 88, 6, 1, 635)), (44, (.iconst 1, 0, 0, 0)), (45, (.iadd, 0, 0, 0)), (46, (.putfield 88, 6, 1, 635)), (49, (.aload_n 0, 0, 0, 0)), (50, (.invokevirtual 225, 35, 4, 775)), (53, (.aload_n 0, 0, 0, 0)), (54, (.getfield 88, 6, 1, 635)), (57, (.iconst 1, 0, 0, 0)), (58, (.isub, 0, 0, 0)), (59, (.ireturn, 0, 0, 0))]
/-- TriangleSetsModel.order.(II)Z -/
def vm_t40 : List (Nat × (Jvm.ClassFile.Instr × Nat × Nat × Nat)) := [(0, (.aload_n 0, 0, 0, 0)), (1, (.iconst 0, 0, 0, 0)), (2, (.putfield 84, 6, 0, 634)), (5, (.iload_n 2, 0, 0, 0)), (6, (.ifCond .lt 23, 29, 0, 0)), (9, (.iload_n 2, 0, 0, 0)), (10, (.aload_n 0, 0, 0, 0)), (11, (.getfield 88, 6, 1, 635)), (14, (.if_icmp .ge 15, 29, 0, 0)), (17, (.iload_n 1, 0, 0, 0)), (18, (.ifCond .lt 11, 29, 0, 0)), (21, (.iload_n 1, 0, 0, 0)), (22, (.aload_n 0, 0, 0, 0)), (23, (.getfield 88, 6, 1, 635)), (26, (.if_icmp .lt 5, 31, 0, 0)), (29, (.iconst 0, 0, 0, 0)), (30, (.ireturn, 0, 0, 0)), (31, (.iconst 0, 0, 0, 0)), (32, (.istore_n 3, 0, 0, 0)), (33, (.aload_n 0, 0, 0, 0)), (34, (.getfield 13, 6, 3, 637)), (37, (.iload_n 3, 0, 0, 0)), (38, (.iaload, 0, 0, 0)), (39, (.iload_n 2, 0, 0, 0)), (40, (.if_icmp .eq 9, 49, 0, 0)), (43, (.iinc 3 1, 0, 0, 0)), (46, (.goto (-13), 33, 0, 0)), (49, (.iload_n 3, 0, 0, 0)), (50, (.iload_n 1, 0, 0, 0)), (51, (.if_icmp .ne 5, 56, 0, 0)), (54, (.iconst 1, 0, 0, 0)), (55, (.ireturn, 0, 0, 0)), (56, (.iload_n 3, 0, 0, 0)), (57, (.iload_n 1, 0, 0, 0)), (58, (.if_icmp .ge 23, 81, 0, 0)), (61, (.aload_n 0, 0, 0, 0)), (62, (.getfield 13, 6, 3, 637)), (65, (.iload_n 3, 0, 0, 0)), (66, (.aload_n 0, 0, 0, 0)), (67, (.getfield 13, 6, 3, 637)), (70, (.iload_n 3, 0, 0, 0)), (71, (.iconst 1, 0, 0, 0)), (72, (.iadd, 0, 0, 0)), (73, (.iaload, 0, 0, 0)), (74, (.iastore, 0, 0, 0)), (75, (.iinc 3 1, 0, 0, 0)), (78, (.goto (-22), 56, 0, 0)), (81, (.iload_n 3, 0, 0, 0)), (82, (.iload_n 1, 0, 0, 0)), (83, (.if_icmp .le 23, 106, 0, 0)), (86, (.aload_n 0, 0, 0, 0)), (87, (.getfield 13, 6, 3, 637)), (90, (.iload_n 3, 0, 0, 0)), (91, (.aload_n 0, 0, 0, 0)), (92, (.getfield 13, 6, 3, 637)), (95, (.iload_n 3, 0, 0, 0)), (96, (.iconst 1, 0, 0, 0)), (97, (.isub, 0, 0, 0)), (98, (.iaload, 0, 0, 0)), (99, (.iastore, 0, 0, 0)), (100, (.iinc 3 (-1), 0, 0, 0)), (103, (.goto (-22), 81, 0, 0)), (106, (.aload_n 0, 0, 0, 0)), (107, (.getfield 13, 6, 3, 637)), (110, (.iload_n 1, 0, 0, 0)), (111, (.iload_n 2, 0, 0, 0)), (112, (.iastore, 0, 0, 0)), (113, (.aload_n 0, 0, 0, 0)), (114, (.invokevirtual 225, 35, 4, 775)), (117, (.iconst 0, 0, 0, 0)), (118, (.istore 4, 0, 0, 0)), (120, (.iload 4, 0, 0, 0)), (122, (.aload_n 0, 0, 0, 0)), (123, (.getfield 222, 6, 4, 638)), (126, (.if_icmp .ge 15, 141, 0, 0)), (129, (.aload_n 0, 0, 0, 0)), (130, (.iload 4, 0, 0, 0)), (132, (.invokevirtual 124, 9999, 99, 857)), (135, (.iinc 4 1, 0, 0, 0)), (138, (.goto (-18), 120, 0, 0)), (141, (.aload_n 0, 0, 0, 0)), (142, (.bipush 68, 0, 0, 0)), (144, (.invokevirtual 124, 9999, 99, 857)), (147, (.iconst 1, 0, 0, 0)), (148, (.ireturn, 0, 0, 0))]
/-- TriangleSetsModel.polynomial.()I -/
def vm_t41 : List (Nat × (Jvm.ClassFile.Instr × Nat × Nat × Nat)) := [(0, (.aload_n 0, 0, 0, 0)), (1, (.iconst 0, 0, 0, 0)), (2, (.putfield 84, 6, 0, 634)), (5, (.aload_n 0, 0, 0, 0)), (6, (.getfield 222, 6, 4, 638)), (9, (.bipush 16, 0, 0, 0)), (11, (.if_icmp .ne 5, 16, 0, 0)), (14, (.iconst (-1), 0, 0, 0)), (15, (.ireturn, 0, 0, 0)), (16, (.aload_n 0, 0, 0, 0)), (17, (.getfield 20, 6, 6, 640)), (20, (.aload_n 0, 0, 0, 0)), (21, (.getfield 222, 6, 4, 638)), (24, (.iconst 0, 0, 0, 0)), (25, (.iastore, 0, 0, 0)), (26, (.aload_n 0, 0, 0, 0)), (27, (.getfield 17, 6, 5, 639)), (30, (.aload_n 0, 0, 0, 0)), (31, (.getfield 222, 6, 4, 638)), (34, (.iconst 0, 0, 0, 0)), (35, (.bastore, 0, 0, 0)), (36, (.aload_n 0, 0, 0, 0)), (37, (.dup, 0, 0, 0)), (38, (.getfield 222, 6, 4, 638)), (41, (.iconst 1, 0, 0, 0)), (42, (.iadd, 0, 0, 0)), (43, (.putfield 222, 6, 4, 638)), (46, (.aload_n 0, 0, 0, 0)), (47, (.getfield 222, 6, 4, 638)), (50, (.iconst 1, 0, 0, 0)), (51, (.isub, 0, 0, 0)), (52, (.ireturn, 0, 0, 0))]
/-- TriangleSetsModel.term.(IJI)Z -/
def vm_t42 : List (Nat × (Jvm.ClassFile.Instr × Nat × Nat × Nat)) := [(0, (.aload_n 0, 0, 0, 0)), (1, (.iconst 0, 0, 0, 0)), (2, (.putfield 84, 6, 0, 634)), (5, (.aload_n 0, 0, 0, 0)), (6, (.iload_n 1, 0, 0, 0)), (7, (.invokevirtual 235, 37, 4, 877)), (10, (.ifCond .eq 5, 15, 0, 0)), (13, (.iconst 0, 0, 0, 0)), (14, (.ireturn, 0, 0, 0)), (15, (.lconst 0, 0, 0, 0)), (16, (.lstore 5, 0, 0, 0)), (18, (.iconst 0, 0, 0, 0)), (19, (.istore 7, 0, 0, 0)), (21, (.iload 7, 0, 0, 0)), (23, (.bipush 8, 0, 0, 0)), (25, (.if_icmp .ge 51, 76, 0, 0)), (28, (.iload 4, 0, 0, 0)), (30, (.iconst 4, 0, 0, 0)), (31, (.iload 7, 0, 0, 0)), (33, (.imul, 0, 0, 0)), (34, (.iushr, 0, 0, 0)), (35, (.bipush 15, 0, 0, 0)), (37, (.iand, 0, 0, 0)), (38, (.istore 8, 0, 0, 0)), (40, (.iload 8, 0, 0, 0)), (42, (.ifCond .le 14, 56, 0, 0)), (45, (.iload 7, 0, 0, 0)), (47, (.aload_n 0, 0, 0, 0)), (48, (.getfield 88, 6, 1, 635)), (51, (.if_icmp .lt 5, 56, 0, 0)), (54, (.iconst 0, 0, 0, 0)), (55, (.ireturn, 0, 0, 0)), (56, (.lload 5, 0, 0, 0)), (58, (.iload 8, 0, 0, 0)), (60, (.i2l, 0, 0, 0)), (61, (.bipush 8, 0, 0, 0)), (63, (.iload 7, 0, 0, 0)), (65, (.imul, 0, 0, 0)), (66, (.lshl, 0, 0, 0)), (67, (.lor, 0, 0, 0)), (68, (.lstore 5, 0, 0, 0)), (70, (.iinc 7 1, 0, 0, 0)), (73, (.goto (-52), 21, 0, 0)), (76, (.bipush 60, 0, 0, 0)), (78, (.iload_n 1, 0, 0, 0)), (79, (.imul, 0, 0, 0)), (80, (.istore 7, 0, 0, 0)), (82, (.iconst 0, 0, 0, 0)), (83, (.istore 8, 0, 0, 0)), (85, (.iload 8, 0, 0, 0)), (87, (.aload_n 0, 0, 0, 0)), (88, (.getfield 20, 6, 6, 640)), (91, (.iload_n 1, 0, 0, 0)), (92, (.iaload, 0, 0, 0)), (93, (.if_icmp .ge 25, 118, 0, 0)), (96, (.aload_n 0, 0, 0, 0)), (97, (.getfield 27, 6, 8, 642)), (100, (.iload 7, 0, 0, 0)), (102, (.iload 8, 0, 0, 0)), (104, (.iadd, 0, 0, 0)), (105, (.laload, 0, 0, 0)), (106, (.lload 5, 0, 0, 0)), (108, (.lcmp, 0, 0, 0)), (109, (.ifCond .eq 9, 118, 0, 0)), (112, (.iinc 8 1, 0, 0, 0)), (115, (.goto (-30), 85, 0, 0)), (118, (.iload 8, 0, 0, 0)), (120, (.aload_n 0, 0, 0, 0)), (121, (.getfield 20, 6, 6, 640)), (124, (.iload_n 1, 0, 0, 0)), (125, (.iaload, 0, 0, 0)), (126, (.if_icmp .ge 7, 133, 0, 0)), (129, (.iconst 1, 0, 0, 0)), (130, (.goto 4, 134, 0, 0)), (133, (.iconst 0, 0, 0, 0)), (134, (.istore 9, 0, 0, 0)), (136, (.iload 9, 0, 0, 0)), (138, (.ifCond .eq 16, 154, 0, 0)), (141, (.aload_n 0, 0, 0, 0)), (142, (.getfield 23, 6, 7, 641)), (145, (.iload 7, 0, 0, 0)), (147, (.iload 8, 0, 0, 0)), (149, (.iadd, 0, 0, 0)), (150, (.laload, 0, 0, 0)), (151, (.goto 4, 155, 0, 0)), (154, (.lconst 0, 0, 0, 0)), (155, (.lstore 10, 0, 0, 0)), (157, (.lload_n 2, 0, 0, 0)), (158, (.ldc2_w 247, 18446744073575333888, 0, 897)), (161, (.lcmp, 0, 0, 0)), (162, (.ifCond .lt 51, 213, 0, 0)), (165, (.lload_n 2, 0, 0, 0)), (166, (.ldc2_w 249, 134217728, 0, 898)), (169, (.lcmp, 0, 0, 0)), (170, (.ifCond .gt 43, 213, 0, 0)), (173, (.lload 10, 0, 0, 0)), (175, (.lload_n 2, 0, 0, 0)), (176, (.ladd, 0, 0, 0)), (177, (.ldc2_w 116, 18446744073642442752, 0, 852)), (180, (.lcmp, 0, 0, 0)), (181, (.ifCond .lt 32, 213, 0, 0)), (184, (.lload 10, 0, 0, 0)), (186, (.lload_n 2, 0, 0, 0)), (187, (.ladd, 0, 0, 0)), (188, (.ldc2_w 118, 67108864, 0, 853)), (191, (.lcmp, 0, 0, 0)), (192, (.ifCond .gt 21, 213, 0, 0)), (195, (.iload 9, 0, 0, 0)), (197, (.ifCond .ne 18, 215, 0, 0)), (200, (.lload_n 2, 0, 0, 0)), (201, (.lconst 0, 0, 0, 0)), (202, (.lcmp, 0, 0, 0)), (203, (.ifCond .eq 12, 215, 0, 0)), (206, (.iload 8, 0, 0, 0)), (208, (.bipush 60, 0, 0, 0)), (210, (.if_icmp .ne 5, 215, 0, 0)), (213, (.iconst 0, 0, 0, 0)), (214, (.ireturn, 0, 0, 0)), (215, (.lload_n 2, 0, 0, 0)), (216, (.lconst 0, 0, 0, 0)), (217, (.lcmp, 0, 0, 0)), (218, (.ifCond .ne 5, 223, 0, 0)), (221, (.iconst 1, 0, 0, 0)), (222, (.ireturn, 0, 0, 0)), (223, (.aload_n 0, 0, 0, 0)), (224, (.getfield 17, 6, 5, 639)), (227, (.iload_n 1, 0, 0, 0)), (228, (.baload, 0, 0, 0)), (229, (.ifCond .eq 7, 236, 0, 0)), (232, (.aload_n 0, 0, 0, 0)), (233, (.invokevirtual 225, 35, 4, 775)), (236, (.iload 9, 0, 0, 0)), (238, (.ifCond .ne 39, 277, 0, 0)), (241, (.aload_n 0, 0, 0, 0)), (242, (.getfield 23, 6, 7, 641)), (245, (.iload 7, 0, 0, 0)), (247, (.iload 8, 0, 0, 0)), (249, (.iadd, 0, 0, 0)), (250, (.lload_n 2, 0, 0, 0)), (251, (.lastore, 0, 0, 0)), (252, (.aload_n 0, 0, 0, 0)), (253, (.getfield 27, 6, 8, 642)), (256, (.iload 7, 0, 0, 0)), (258, (.iload 8, 0, 0, 0)), (260, (.iadd, 0, 0, 0)), (261, (.lload 5, 0, 0, 0)), (263, (.lastore, 0, 0, 0)), (264, (.aload_n 0, 0, 0, 0)), (265, (.getfield 20, 6, 6, 640)), (268, (.iload_n 1, 0, 0, 0)), (269, (.dup2, 0, 0, 0)), (270, (.iaload, 0, 0, 0)), (271, (.iconst 1, 0, 0, 0)), (272, (.iadd, 0, 0, 0)), (273, (.iastore, 0, 0, 0)), (274, (.goto 106, 380, 0, 0)), (277, (.lload 10, 0, 0, 0)), (279, (.lload_n 2, 0, 0, 0)), (280, (.ladd, 0, 0, 0)), (281, (.lconst 0, 0, 0, 0)), (282, (.lcmp, 0, 0, 0)), (283, (.ifCond .ne 83, 366, 0, 0)), (286, (.iload 8, 0, 0, 0)), (288, (.istore 12, 0, 0, 0)), (290, (.iload 12, 0, 0, 0)), (292, (.iconst 1, 0, 0, 0)), (293, (.iadd, 0, 0, 0)), (294, (.aload_n 0, 0, 0, 0)), (295, (.getfield 20, 6, 6, 640)), (298, (.iload_n 1, 0, 0, 0)), (299, (.iaload, 0, 0, 0)), (300, (.if_icmp .ge 53, 353, 0, 0)), (303, (.aload_n 0, 0, 0, 0)), (304, (.getfield 23, 6, 7, 641)), (307, (.iload 7, 0, 0, 0)), (309, (.iload 12, 0, 0, 0)), (311, (.iadd, 0, 0, 0)), (312, (.aload_n 0, 0, 0, 0)), (313, (.getfield 23, 6, 7, 641)), (316, (.iload 7, 0, 0, 0)), (318, (.iload 12, 0, 0, 0)), (320, (.iadd, 0, 0, 0)), (321, (.iconst 1, 0, 0, 0)), (322, (.iadd, 0, 0, 0)), (323, (.laload, 0, 0, 0)), (324, (.lastore, 0, 0, 0)), (325, (.aload_n 0, 0, 0, 0)), (326, (.getfield 27, 6, 8, 642)), (329, (.iload 7, 0, 0, 0)), (331, (.iload 12, 0, 0, 0)), (333, (.iadd, 0, 0, 0)), (334, (.aload_n 0, 0, 0, 0)), (335, (.getfield 27, 6, 8, 642)), (338, (.iload 7, 0, 0, 0)), (340, (.iload 12, 0, 0, 0)), (342, (.iadd, 0, 0, 0)), (343, (.iconst 1, 0, 0, 0)), (344, (.iadd, 0, 0, 0)), (345, (.laload, 0, 0, 0)), (346, (.lastore, 0, 0, 0)), (347, (.iinc 12 1, 0, 0, 0)), (350, (.goto (-60), 290, 0, 0)), (353, (.aload_n 0, 0, 0, 0)), (354, (.getfield 20, 6, 6, 640)), (357, (.iload_n 1, 0, 0, 0)), (358, (.dup2, 0, 0, 0)), (359, (.iaload, 0, 0, 0)), (360, (.iconst 1, 0, 0, 0)), (361, (.isub, 0, 0, 0)), (362, (.iastore, 0, 0, 0)), (363, (.goto 17, 380, 0, 0)), (366, (.aload_n 0, 0, 0, 0)), (367, (.getfield 23, 6, 7, 641)), (370, (.iload 7, 0, 0, 0)), (372, (.iload 8, 0, 0, 0)), (374, (.iadd, 0, 0, 0)), (375, (.lload 10, 0, 0, 0)), (377, (.lload_n 2, 0, 0, 0)), (378, (.ladd, 0, 0, 0)), (379, (.lastore, 0, 0, 0)), (380, (.aload_n 0, 0, 0, 0)), (381, (.iload_n 1, 0, 0, 0)), (382, (.invokevirtual 124, 9999, 99, 857)), (385, (.iconst 1, 0, 0, 0)), (386, (.ireturn, 0, 0, 0))]
/-- TriangleSetsModel.use.(IZ)Z -/
def vm_t43 : List (Nat × (Jvm.ClassFile.Instr × Nat × Nat × Nat)) := [(0, (.aload_n 0, 0, 0, 0)), (1, (.iconst 0, 0, 0, 0)), (2, (.putfield 84, 6, 0, 634)), (5, (.aload_n 0, 0, 0, 0)), (6, (.iload_n 1, 0, 0, 0)), (7, (.invokevirtual 235, 37, 4, 877)), (10, (.ifCond .ne 13, 23, 0, 0)), (13, (.aload_n 0, 0, 0, 0)), (14, (.getfield 17, 6, 5, 639)), (17, (.iload_n 1, 0, 0, 0)), (18, (.baload, 0, 0, 0)), (19, (.iload_n 2, 0, 0, 0)), (20, (.if_icmp .ne 5, 25, 0, 0)), (23, (.iconst 0, 0, 0, 0)), (24, (.ireturn, 0, 0, 0)), (25, (.aload_n 0, 0, 0, 0)), (26, (.getfield 17, 6, 5, 639)), (29, (.iload_n 1, 0, 0, 0)), (30, (.iload_n 2, 0, 0, 0)), (31, (.bastore, 0, 0, 0)), (32, (.aload_n 0, 0, 0, 0)), (33, (.invokevirtual 225, 35, 4, 775)), (36, (.iconst 1, 0, 0, 0)), (37, (.ireturn, 0, 0, 0))]
/-- TriangleSetsModel.noMember.(I)Z -/
def vm_t44 : List (Nat × (Jvm.ClassFile.Instr × Nat × Nat × Nat)) := [(0, (.iload_n 1, 0, 0, 0)), (1, (.ifCond .lt 11, 12, 0, 0)), (4, (.iload_n 1, 0, 0, 0)), (5, (.aload_n 0, 0, 0, 0)), (6, (.getfield 213, 6, 11, 645)), (9, (.if_icmp .lt 7, 16, 0, 0)), (12, (.iconst 1, 0, 0, 0)), (13, (.goto 4, 17, 0, 0)), (16, (.iconst 0, 0, 0, 0)), (17, (.ireturn, 0, 0, 0))]
/-- TriangleSetsModel.member.(II)I -/
def vm_t45 : List (Nat × (Jvm.ClassFile.Instr × Nat × Nat × Nat)) := [(0, (.aload_n 0, 0, 0, 0)), (1, (.iconst 0, 0, 0, 0)), (2, (.putfield 84, 6, 0, 634)), (5, (.aload_n 0, 0, 0, 0)), (6, (.iload_n 1, 0, 0, 0)), (7, (.invokevirtual 251, 44, 4, 907)), (10, (.ifCond .ne 12, 22, 0, 0)), (13, (.iload_n 2, 0, 0, 0)), (14, (.ifCond .lt 8, 22, 0, 0)), (17, (.iload_n 2, 0, 0, 0)), (18, (.iconst 3, 0, 0, 0)), (19, (.if_icmp .le 5, 24, 0, 0)), (22, (.iconst (-1), 0, 0, 0)), (23, (.ireturn, 0, 0, 0)), (24, (.iload_n 2, 0, 0, 0)), (25, (.ifCond .ne 11, 36, 0, 0)), (28, (.aload_n 0, 0, 0, 0)), (29, (.iload_n 1, 0, 0, 0)), (30, (.invokevirtual 254, 9999, 99, 911)), (33, (.goto 58, 91, 0, 0)), (36, (.iload_n 2, 0, 0, 0)), (37, (.iconst 1, 0, 0, 0)), (38, (.if_icmp .ne 19, 57, 0, 0)), (41, (.aload_n 0, 0, 0, 0)), (42, (.bipush 58, 0, 0, 0)), (44, (.iload_n 1, 0, 0, 0)), (45, (.iadd, 0, 0, 0)), (46, (.aload_n 0, 0, 0, 0)), (47, (.iload_n 1, 0, 0, 0)), (48, (.invokevirtual 254, 9999, 99, 911)), (51, (.invokevirtual 103, 9999, 99, 794)), (54, (.goto 37, 91, 0, 0)), (57, (.iload_n 2, 0, 0, 0)), (58, (.iconst 2, 0, 0, 0)), (59, (.if_icmp .ne 15, 74, 0, 0)), (62, (.aload_n 0, 0, 0, 0)), (63, (.getfield 20, 6, 6, 640)), (66, (.bipush 58, 0, 0, 0)), (68, (.iload_n 1, 0, 0, 0)), (69, (.iadd, 0, 0, 0)), (70, (.iaload, 0, 0, 0)), (71, (.goto 20, 91, 0, 0)), (74, (.aload_n 0, 0, 0, 0)), (75, (.getfield 219, 6, 18, 652)), (78, (.ifCond .eq 12, 90, 0, 0)), (81, (.aload_n 0, 0, 0, 0)), (82, (.getfield 48, 6, 26, 660)), (85, (.iload_n 1, 0, 0, 0)), (86, (.iaload, 0, 0, 0)), (87, (.goto 4, 91, 0, 0)), (90, (.iconst 0, 0, 0, 0)), (91, (.ireturn, 0, 0, 0))]
/-- TriangleSetsModel.told.(I)I -/
def vm_t46 : List (Nat × (Jvm.ClassFile.Instr × Nat × Nat × Nat)) := [(0, (.aload_n 0, 0, 0, 0)), (1, (.iconst 0, 0, 0, 0)), (2, (.putfield 84, 6, 0, 634)), (5, (.iconst 0, 0, 0, 0)), (6, (.istore_n 2, 0, 0, 0)), (7, (.iconst 0, 0, 0, 0)), (8, (.istore_n 3, 0, 0, 0)), (9, (.iload_n 3, 0, 0, 0)), (10, (.aload_n 0, 0, 0, 0)), (11, (.getfield 222, 6, 4, 638)), (14, (.if_icmp .ge 26, 40, 0, 0)), (17, (.iload_n 2, 0, 0, 0)), (18, (.aload_n 0, 0, 0, 0)), (19, (.getfield 17, 6, 5, 639)), (22, (.iload_n 3, 0, 0, 0)), (23, (.baload, 0, 0, 0)), (24, (.ifCond .eq 7, 31, 0, 0)), (27, (.iconst 1, 0, 0, 0)), (28, (.goto 4, 32, 0, 0)), (31, (.iconst 0, 0, 0, 0)), (32, (.iadd, 0, 0, 0)), (33, (.istore_n 2, 0, 0, 0)), (34, (.iinc 3 1, 0, 0, 0)), (37, (.goto (-28), 9, 0, 0)), (40, (.iload_n 1, 0, 0, 0)), (41, (.tableswitch 130 0 9 #[55, 60, 65, 67, 72, 77, 82, 87, 92, 111], 55, 0, 0)), (96, (.aload_n 0, 0, 0, 0)), (97, (.getfield 88, 6, 1, 635)), (100, (.ireturn, 0, 0, 0)), (101, (.aload_n 0, 0, 0, 0)), (102, (.getfield 222, 6, 4, 638)), (105, (.ireturn, 0, 0, 0)), (106, (.iload_n 2, 0, 0, 0)), (107, (.ireturn, 0, 0, 0)), (108, (.aload_n 0, 0, 0, 0)), (109, (.getfield 213, 6, 11, 645)), (112, (.ireturn, 0, 0, 0)), (113, (.aload_n 0, 0, 0, 0)), (114, (.getfield 185, 6, 14, 648)), (117, (.ireturn, 0, 0, 0)), (118, (.aload_n 0, 0, 0, 0)), (119, (.getfield 228, 6, 15, 649)), (122, (.ireturn, 0, 0, 0)), (123, (.aload_n 0, 0, 0, 0)), (124, (.getfield 194, 6, 16, 650)), (127, (.ireturn, 0, 0, 0)), (128, (.aload_n 0, 0, 0, 0)), (129, (.getfield 238, 6, 17, 651)), (132, (.ireturn, 0, 0, 0)), (133, (.aload_n 0, 0, 0, 0)), (134, (.getfield 181, 6, 13, 647)), (137, (.ifCond .eq 13, 150, 0, 0)), (140, (.aload_n 0, 0, 0, 0)), (141, (.getfield 20, 6, 6, 640)), (144, (.bipush 68, 0, 0, 0)), (146, (.iaload, 0, 0, 0)), (147, (.goto 4, 151, 0, 0)), (150, (.iconst 0, 0, 0, 0)), (151, (.ireturn, 0, 0, 0)), (152, (.aload_n 0, 0, 0, 0)), (153, (.getfield 216, 6, 12, 646)), (156, (.ifCond .eq 13, 169, 0, 0)), (159, (.aload_n 0, 0, 0, 0)), (160, (.getfield 20, 6, 6, 640)), (163, (.bipush 67, 0, 0, 0)), (165, (.iaload, 0, 0, 0)), (166, (.goto 4, 170, 0, 0)), (169, (.iconst 0, 0, 0, 0)), (170, (.ireturn, 0, 0, 0)), (171, (.iconst (-1), 0, 0, 0)), (172, (.ireturn, 0, 0, 0))]
/-- TriangleSetsModel.slotOf.(II)I -/
def vm_t47 : List (Nat × (Jvm.ClassFile.Instr × Nat × Nat × Nat)) := [(0, (.iload_n 1, 0, 0, 0)), (1, (.tableswitch 141 0 4 #[35, 49, 66, 105, 123], 35, 0, 0)), (36, (.aload_n 0, 0, 0, 0)), (37, (.iload_n 2, 0, 0, 0)), (38, (.invokevirtual 235, 37, 4, 877)), (41, (.ifCond .eq 7, 48, 0, 0)), (44, (.iconst (-1), 0, 0, 0)), (45, (.goto 4, 49, 0, 0)), (48, (.iload_n 2, 0, 0, 0)), (49, (.ireturn, 0, 0, 0)), (50, (.aload_n 0, 0, 0, 0)), (51, (.iload_n 2, 0, 0, 0)), (52, (.invokevirtual 251, 44, 4, 907)), (55, (.ifCond .eq 7, 62, 0, 0)), (58, (.iconst (-1), 0, 0, 0)), (59, (.goto 7, 66, 0, 0)), (62, (.bipush 58, 0, 0, 0)), (64, (.iload_n 2, 0, 0, 0)), (65, (.iadd, 0, 0, 0)), (66, (.ireturn, 0, 0, 0)), (67, (.aload_n 0, 0, 0, 0)), (68, (.iload_n 2, 0, 0, 0)), (69, (.invokevirtual 251, 44, 4, 907)), (72, (.ifCond .eq 5, 77, 0, 0)), (75, (.iconst (-1), 0, 0, 0)), (76, (.ireturn, 0, 0, 0)), (77, (.aload_n 0, 0, 0, 0)), (78, (.bipush 58, 0, 0, 0)), (80, (.iload_n 2, 0, 0, 0)), (81, (.iadd, 0, 0, 0)), (82, (.aload_n 0, 0, 0, 0)), (83, (.iload_n 2, 0, 0, 0)), (84, (.invokevirtual 254, 9999, 99, 911)), (87, (.aload_n 0, 0, 0, 0)), (88, (.bipush 58, 0, 0, 0)), (90, (.iload_n 2, 0, 0, 0)), (91, (.iadd, 0, 0, 0)), (92, (.aload_n 0, 0, 0, 0)), (93, (.iload_n 2, 0, 0, 0)), (94, (.invokevirtual 254, 9999, 99, 911)), (97, (.invokevirtual 103, 9999, 99, 794)), (100, (.invokevirtual 128, 9999, 99, 833)), (103, (.bipush 70, 0, 0, 0)), (105, (.ireturn, 0, 0, 0)), (106, (.iload_n 2, 0, 0, 0)), (107, (.ifCond .ne 15, 122, 0, 0)), (110, (.aload_n 0, 0, 0, 0)), (111, (.getfield 216, 6, 12, 646)), (114, (.ifCond .eq 8, 122, 0, 0)), (117, (.bipush 67, 0, 0, 0)), (119, (.goto 4, 123, 0, 0)), (122, (.iconst (-1), 0, 0, 0)), (123, (.ireturn, 0, 0, 0)), (124, (.iload_n 2, 0, 0, 0)), (125, (.ifCond .ne 15, 140, 0, 0)), (128, (.aload_n 0, 0, 0, 0)), (129, (.getfield 181, 6, 13, 647)), (132, (.ifCond .eq 8, 140, 0, 0)), (135, (.bipush 68, 0, 0, 0)), (137, (.goto 4, 141, 0, 0)), (140, (.iconst (-1), 0, 0, 0)), (141, (.ireturn, 0, 0, 0)), (142, (.iconst (-1), 0, 0, 0)), (143, (.ireturn, 0, 0, 0))]
/-- TriangleSetsModel.coefficient.(III)J -/
def vm_t48 : List (Nat × (Jvm.ClassFile.Instr × Nat × Nat × Nat)) := [(0, (.aload_n 0, 0, 0, 0)), (1, (.iconst 0, 0, 0, 0)), (2, (.putfield 84, 6, 0, 634)), (5, (.aload_n 0, 0, 0, 0)), (6, (.iload_n 1, 0, 0, 0)), (7, (.iload_n 2, 0, 0, 0)), (8, (.invokevirtual 257, 47, 4, 923)), (11, (.istore 4, 0, 0, 0)), (13, (.iload 4, 0, 0, 0)), (15, (.ifCond .lt 18, 33, 0, 0)), (18, (.iload_n 3, 0, 0, 0)), (19, (.ifCond .lt 14, 33, 0, 0)), (22, (.iload_n 3, 0, 0, 0)), (23, (.aload_n 0, 0, 0, 0)), (24, (.getfield 20, 6, 6, 640)), (27, (.iload 4, 0, 0, 0)), (29, (.iaload, 0, 0, 0)), (30, (.if_icmp .lt 7, 37, 0, 0)), (33, (.lconst 0, 0, 0, 0)), (34, (.goto 15, 49, 0, 0)), (37, (.aload_n 0, 0, 0, 0)), (38, (.getfield 23, 6, 7, 641)), (41, (.bipush 60, 0, 0, 0)), (43, (.iload 4, 0, 0, 0)), (45, (.imul, 0, 0, 0)), (46, (.iload_n 3, 0, 0, 0)), (47, (.iadd, 0, 0, 0)), (48, (.laload, 0, 0, 0)), (49, (.lreturn, 0, 0, 0))]
/-- TriangleSetsModel.powers.(III)I -/
def vm_t49 : List (Nat × (Jvm.ClassFile.Instr × Nat × Nat × Nat)) := [(0, (.aload_n 0, 0, 0, 0)), (1, (.iconst 0, 0, 0, 0)), (2, (.putfield 84, 6, 0, 634)), (5, (.aload_n 0, 0, 0, 0)), (6, (.iload_n 1, 0, 0, 0)), (7, (.iload_n 2, 0, 0, 0)), (8, (.invokevirtual 257, 47, 4, 923)), (11, (.istore 4, 0, 0, 0)), (13, (.iload 4, 0, 0, 0)), (15, (.ifCond .lt 18, 33, 0, 0)), (18, (.iload_n 3, 0, 0, 0)), (19, (.ifCond .lt 14, 33, 0, 0)), (22, (.iload_n 3, 0, 0, 0)), (23, (.aload_n 0, 0, 0, 0)), (24, (.getfield 20, 6, 6, 640)), (27, (.iload 4, 0, 0, 0)), (29, (.iaload, 0, 0, 0)), (30, (.if_icmp .lt 5, 35, 0, 0)), (33, (.iconst (-1), 0, 0, 0)), (34, (.ireturn, 0, 0, 0)), (35, (.iconst 0, 0, 0, 0)), (36, (.istore 5, 0, 0, 0)), (38, (.iconst 0, 0, 0, 0)), (39, (.istore 6, 0, 0, 0)), (41, (.iload 6, 0, 0, 0)), (43, (.bipush 8, 0, 0, 0)), (45, (.if_icmp .ge 36, 81, 0, 0)), (48, (.iload 5, 0, 0, 0)), (50, (.aload_n 0, 0, 0, 0)), (51, (.getfield 27, 6, 8, 642)), (54, (.bipush 60, 0, 0, 0)), (56, (.iload 4, 0, 0, 0)), (58, (.imul, 0, 0, 0)), (59, (.iload_n 3, 0, 0, 0)), (60, (.iadd, 0, 0, 0)), (61, (.laload, 0, 0, 0)), (62, (.iload 6, 0, 0, 0)), (64, (.invokestatic 91, 9999, 99, 798)), (67, (.iconst 4, 0, 0, 0)), (68, (.iload 6, 0, 0, 0)), (70, (.imul, 0, 0, 0)), (71, (.ishl, 0, 0, 0)), (72, (.ior, 0, 0, 0)), (73, (.istore 5, 0, 0, 0)), (75, (.iinc 6 1, 0, 0, 0)), (78, (.goto (-37), 41, 0, 0)), (81, (.iload 5, 0, 0, 0)), (83, (.ireturn, 0, 0, 0))]
/-- TriangleSetsModel.point.(IJ)Z -/
def vm_t50 : List (Nat × (Jvm.ClassFile.Instr × Nat × Nat × Nat)) := [(0, (.aload_n 0, 0, 0, 0)), (1, (.iconst 0, 0, 0, 0)), (2, (.putfield 84, 6, 0, 634)), (5, (.iload_n 1, 0, 0, 0)), (6, (.ifCond .lt 11, 17, 0, 0)), (9, (.iload_n 1, 0, 0, 0)), (10, (.aload_n 0, 0, 0, 0)), (11, (.getfield 88, 6, 1, 635)), (14, (.if_icmp .lt 5, 19, 0, 0)), (17, (.iconst 0, 0, 0, 0)), (18, (.ireturn, 0, 0, 0)), (19, (.aload_n 0, 0, 0, 0)), (20, (.getfield 30, 6, 9, 643)), (23, (.iload_n 1, 0, 0, 0)), (24, (.lload_n 2, 0, 0, 0)), (25, (.lastore, 0, 0, 0)), (26, (.iconst 1, 0, 0, 0)), (27, (.ireturn, 0, 0, 0))]
/-- TriangleSetsModel.valueOf.(I)J -/
def vm_t51 : List (Nat × (Jvm.ClassFile.Instr × Nat × Nat × Nat)) := [(0, (.lconst 0, 0, 0, 0)), (1, (.lstore_n 2, 0, 0, 0)), (2, (.iconst 0, 0, 0, 0)), (3, (.istore 4, 0, 0, 0)), (5, (.iload 4, 0, 0, 0)), (7, (.aload_n 0, 0, 0, 0)), (8, (.getfield 20, 6, 6, 640)), (11, (.iload_n 1, 0, 0, 0)), (12, (.iaload, 0, 0, 0)), (13, (.if_icmp .ge 41, 54, 0, 0)), (16, (.lload_n 2, 0, 0, 0)), (17, (.aload_n 0, 0, 0, 0)), (18, (.getfield 23, 6, 7, 641)), (21, (.bipush 60, 0, 0, 0)), (23, (.iload_n 1, 0, 0, 0)), (24, (.imul, 0, 0, 0)), (25, (.iload 4, 0, 0, 0)), (27, (.iadd, 0, 0, 0)), (28, (.laload, 0, 0, 0)), (29, (.aload_n 0, 0, 0, 0)), (30, (.aload_n 0, 0, 0, 0)), (31, (.getfield 27, 6, 8, 642)), (34, (.bipush 60, 0, 0, 0)), (36, (.iload_n 1, 0, 0, 0)), (37, (.imul, 0, 0, 0)), (38, (.iload 4, 0, 0, 0)), (40, (.iadd, 0, 0, 0)), (41, (.laload, 0, 0, 0)), (42, (.invokevirtual 260, 9999, 99, 943)), (45, (.lmul, 0, 0, 0)), (46, (.ladd, 0, 0, 0)), (47, (.lstore_n 2, 0, 0, 0)), (48, (.iinc 4 1, 0, 0, 0)), (51, (.goto (-46), 5, 0, 0)), (54, (.lload_n 2, 0, 0, 0)), (55, (.lreturn, 0, 0, 0))]
/-- TriangleSetsModel.value.(II)J -/
def vm_t52 : List (Nat × (Jvm.ClassFile.Instr × Nat × Nat × Nat)) := [(0, (.aload_n 0, 0, 0, 0)), (1, (.iconst 0, 0, 0, 0)), (2, (.putfield 84, 6, 0, 634)), (5, (.aload_n 0, 0, 0, 0)), (6, (.iload_n 1, 0, 0, 0)), (7, (.iload_n 2, 0, 0, 0)), (8, (.invokevirtual 257, 47, 4, 923)), (11, (.istore_n 3, 0, 0, 0)), (12, (.iload_n 3, 0, 0, 0)), (13, (.ifCond .ge 7, 20, 0, 0)), (16, (.lconst 0, 0, 0, 0)), (17, (.goto 8, 25, 0, 0)), (20, (.aload_n 0, 0, 0, 0)), (21, (.iload_n 3, 0, 0, 0)), (22, (.invokevirtual 263, 51, 4, 939)), (25, (.lreturn, 0, 0, 0))]
/-- TriangleSetsModel.quotient.(I)J -/
def vm_t53 : List (Nat × (Jvm.ClassFile.Instr × Nat × Nat × Nat)) := [(0, (.aload_n 0, 0, 0, 0)), (1, (.iconst 0, 0, 0, 0)), (2, (.putfield 84, 6, 0, 634)), (5, (.aload_n 0, 0, 0, 0)), (6, (.iload_n 1, 0, 0, 0)), (7, (.invokevirtual 251, 44, 4, 907)), (10, (.ifCond .ne 10, 20, 0, 0)), (13, (.aload_n 0, 0, 0, 0)), (14, (.getfield 219, 6, 18, 652)), (17, (.ifCond .ne 5, 22, 0, 0)), (20, (.lconst 0, 0, 0, 0)), (21, (.lreturn, 0, 0, 0)), (22, (.iconst 0, 0, 0, 0)), (23, (.istore_n 2, 0, 0, 0)), (24, (.iload_n 2, 0, 0, 0)), (25, (.bipush 8, 0, 0, 0)), (27, (.if_icmp .ge 16, 43, 0, 0)), (30, (.aload_n 0, 0, 0, 0)), (31, (.getfield 81, 6, 43, 677)), (34, (.iload_n 2, 0, 0, 0)), (35, (.lconst 0, 0, 0, 0)), (36, (.lastore, 0, 0, 0)), (37, (.iinc 2 1, 0, 0, 0)), (40, (.goto (-16), 24, 0, 0)), (43, (.iconst 0, 0, 0, 0)), (44, (.istore_n 2, 0, 0, 0)), (45, (.iload_n 2, 0, 0, 0)), (46, (.aload_n 0, 0, 0, 0)), (47, (.getfield 241, 6, 19, 653)), (50, (.if_icmp .ge 122, 172, 0, 0)), (53, (.aload_n 0, 0, 0, 0)), (54, (.getfield 33, 6, 20, 654)), (57, (.iload_n 2, 0, 0, 0)), (58, (.iaload, 0, 0, 0)), (59, (.istore_n 3, 0, 0, 0)), (60, (.aload_n 0, 0, 0, 0)), (61, (.iconst 2, 0, 0, 0)), (62, (.iload_n 3, 0, 0, 0)), (63, (.invokevirtual 257, 47, 4, 923)), (66, (.istore 4, 0, 0, 0)), (68, (.aload_n 0, 0, 0, 0)), (69, (.iload 4, 0, 0, 0)), (71, (.invokevirtual 263, 51, 4, 939)), (74, (.lstore 5, 0, 0, 0)), (76, (.iconst 0, 0, 0, 0)), (77, (.istore 7, 0, 0, 0)), (79, (.iload 7, 0, 0, 0)), (81, (.aload_n 0, 0, 0, 0)), (82, (.getfield 213, 6, 11, 645)), (85, (.if_icmp .ge 21, 106, 0, 0)), (88, (.aload_n 0, 0, 0, 0)), (89, (.getfield 81, 6, 43, 677)), (92, (.iload 7, 0, 0, 0)), (94, (.dup2, 0, 0, 0)), (95, (.laload, 0, 0, 0)), (96, (.lload 5, 0, 0, 0)), (98, (.lmul, 0, 0, 0)), (99, (.lastore, 0, 0, 0)), (100, (.iinc 7 1, 0, 0, 0)), (103, (.goto (-24), 79, 0, 0)), (106, (.aload_n 0, 0, 0, 0)), (107, (.getfield 36, 6, 21, 655)), (110, (.iload_n 2, 0, 0, 0)), (111, (.iaload, 0, 0, 0)), (112, (.istore 7, 0, 0, 0)), (114, (.iload 7, 0, 0, 0)), (116, (.aload_n 0, 0, 0, 0)), (117, (.getfield 36, 6, 21, 655)), (120, (.iload_n 2, 0, 0, 0)), (121, (.iaload, 0, 0, 0)), (122, (.aload_n 0, 0, 0, 0)), (123, (.getfield 39, 6, 22, 656)), (126, (.iload_n 2, 0, 0, 0)), (127, (.iaload, 0, 0, 0)), (128, (.iadd, 0, 0, 0)), (129, (.if_icmp .ge 37, 166, 0, 0)), (132, (.aload_n 0, 0, 0, 0)), (133, (.getfield 81, 6, 43, 677)), (136, (.iload_n 3, 0, 0, 0)), (137, (.dup2, 0, 0, 0)), (138, (.laload, 0, 0, 0)), (139, (.aload_n 0, 0, 0, 0)), (140, (.getfield 42, 6, 23, 657)), (143, (.iload 7, 0, 0, 0)), (145, (.laload, 0, 0, 0)), (146, (.aload_n 0, 0, 0, 0)), (147, (.aload_n 0, 0, 0, 0)), (148, (.getfield 45, 6, 24, 658)), (151, (.iload 7, 0, 0, 0)), (153, (.laload, 0, 0, 0)), (154, (.invokevirtual 260, 9999, 99, 943)), (157, (.lmul, 0, 0, 0)), (158, (.ladd, 0, 0, 0)), (159, (.lastore, 0, 0, 0)), (160, (.iinc 7 1, 0, 0, 0)), (163, (.goto (-49), 114, 0, 0)), (166, (.iinc 2 1, 0, 0, 0)), (169, (.goto (-124), 45, 0, 0)), (172, (.aload_n 0, 0, 0, 0)), (173, (.getfield 81, 6, 43, 677)), (176, (.iload_n 1, 0, 0, 0)), (177, (.laload, 0, 0, 0)), (178, (.lreturn, 0, 0, 0))]
/-- TriangleSetsModel.pseudo.(JJ)J -/
def vm_t54 : List (Nat × (Jvm.ClassFile.Instr × Nat × Nat × Nat)) := [(0, (.aload_n 0, 0, 0, 0)), (1, (.lload_n 3, 0, 0, 0)), (2, (.lconst 0, 0, 0, 0)), (3, (.lcmp, 0, 0, 0)), (4, (.ifCond .ne 7, 11, 0, 0)), (7, (.iconst 1, 0, 0, 0)), (8, (.goto 4, 12, 0, 0)), (11, (.iconst 0, 0, 0, 0)), (12, (.putfield 84, 6, 0, 634)), (15, (.aload_n 0, 0, 0, 0)), (16, (.getfield 84, 6, 0, 634)), (19, (.ifCond .le 7, 26, 0, 0)), (22, (.lconst 0, 0, 0, 0)), (23, (.goto 9, 32, 0, 0)), (26, (.lload_n 1, 0, 0, 0)), (27, (.bipush 32, 0, 0, 0)), (29, (.lshl, 0, 0, 0)), (30, (.lload_n 3, 0, 0, 0)), (31, (.ldiv, 0, 0, 0)), (32, (.lreturn, 0, 0, 0))]
/-- java/util/Arrays.fill.([II)V -/
def vm_t55 : List (Nat × (Jvm.ClassFile.Instr × Nat × Nat × Nat)) := [(0, (.iconst 0, 0, 0, 0)), (1, (.istore_n 2, 0, 0, 0)), (2, (.aload_n 0, 0, 0, 0)), (3, (.arraylength, 0, 0, 0)), (4, (.istore_n 3, 0, 0, 0)), (5, (.iload_n 2, 0, 0, 0)), (6, (.iload_n 3, 0, 0, 0)), (7, (.if_icmp .ge 13, 20, 0, 0)), (10, (.aload_n 0, 0, 0, 0)), (11, (.iload_n 2, 0, 0, 0)), (12, (.iload_n 1, 0, 0, 0)), (13, (.iastore, 0, 0, 0)), (14, (.iinc 2 1, 0, 0, 0)), (17, (.goto (-12), 5, 0, 0)), (20, (.return_, 0, 0, 0))]
/-- TriangleSetsLaw.pseudo.(LTriangleSets;JJ[J)I -/
def vm_t56 : List (Nat × (Jvm.ClassFile.Instr × Nat × Nat × Nat)) := [(0, (.aload 5, 0, 0, 0)), (2, (.iconst 0, 0, 0, 0)), (3, (.aload_n 0, 0, 0, 0)), (4, (.lload_n 1, 0, 0, 0)), (5, (.lload_n 3, 0, 0, 0)), (6, (.invokevirtual 7, 26, 4, 558)), (9, (.lastore, 0, 0, 0)), (10, (.goto 7, 17, 0, 0)), (13, (.astore 6, 0, 0, 0)), (15, (.iconst 1, 0, 0, 0)), (16, (.ireturn, 0, 0, 0)), (17, (.iconst 0, 0, 0, 0)), (18, (.ireturn, 0, 0, 0))]
def vm_tab (k : Nat) : List (Nat × (Jvm.ClassFile.Instr × Nat × Nat × Nat)) := match k with
  | 0 => vm_t0
  | 1 => vm_t1
  | 2 => vm_t2
  | 3 => vm_t3
  | 4 => vm_t4
  | 5 => vm_t5
  | 6 => vm_t6
  | 7 => vm_t7
  | 8 => vm_t8
  | 9 => vm_t9
  | 10 => vm_t10
  | 11 => vm_t11
  | 12 => vm_t12
  | 13 => vm_t13
  | 14 => vm_t14
  | 15 => vm_t15
  | 16 => vm_t16
  | 17 => vm_t17
  | 18 => vm_t18
  | 19 => vm_t19
  | 20 => vm_t20
  | 21 => vm_t21
  | 22 => vm_t22
  | 23 => vm_t23
  | 24 => vm_t24
  | 25 => vm_t25
  | 26 => vm_t26
  | 27 => vm_t27
  | 28 => vm_t28
  | 29 => vm_t29
  | 30 => vm_t30
  | 31 => vm_t31
  | 32 => vm_t32
  | 33 => vm_t33
  | 34 => vm_t34
  | 35 => vm_t35
  | 36 => vm_t36
  | 37 => vm_t37
  | 38 => vm_t38
  | 39 => vm_t39
  | 40 => vm_t40
  | 41 => vm_t41
  | 42 => vm_t42
  | 43 => vm_t43
  | 44 => vm_t44
  | 45 => vm_t45
  | 46 => vm_t46
  | 47 => vm_t47
  | 48 => vm_t48
  | 49 => vm_t49
  | 50 => vm_t50
  | 51 => vm_t51
  | 52 => vm_t52
  | 53 => vm_t53
  | 54 => vm_t54
  | 55 => vm_t55
  | 56 => vm_t56
  | _ => []
def vm_ent (k pc : Nat) : Option (Jvm.ClassFile.Instr × Nat × Nat × Nat) := (vm_tab k).lookup pc
def vm_ilen (i : Jvm.ClassFile.Instr) (x : Nat) : Nat := match i with
  | .tableswitch _ _ _ _ => x
  | .bipush _ => 2
  | .sipush _ => 3
  | .ldc _ => 2
  | .ldc2_w _ => 3
  | .iload _ => 2
  | .lload _ => 2
  | .aload _ => 2
  | .istore _ => 2
  | .lstore _ => 2
  | .astore _ => 2
  | .iinc _ _ => 3
  | .goto _ => 3
  | .ifCond _ _ => 3
  | .if_icmp _ _ => 3
  | .if_acmp _ _ => 3
  | .ifnull _ => 3
  | .ifnonnull _ => 3
  | .getfield _ => 3
  | .putfield _ => 3
  | .new _ => 3
  | .newarray _ => 2
  | .anewarray _ => 3
  | .invokestatic _ => 3
  | .invokevirtual _ => 3
  | .invokespecial _ => 3
  | _ => 1
/-- the word at that place of the tables' -/
def vm_has (z : Nat) (w : Cond) : Bool := match lw_tbl[z]? with
  | some v => decide (v = w) && goodWord w
  | none => false
def vm_hasN (z : Nat) (w : Cond) : Bool := match lw_tbl[z]? with
  | some v => decide (v = w) && vm_isN w
  | none => false
def vm_lnk (k pc : Nat) (i : Jvm.ClassFile.Instr) (x y z : Nat) : Bool := match i with
  | .ldc2_w o => vm_has z (.constantLong (vm_name k).cls o (Int64.ofNat x))
  | .goto o => decide ((pc : Int) + o = (x : Int))
  | .ifCond _ o => decide ((pc : Int) + o = (x : Int))
  | .if_icmp _ o => decide ((pc : Int) + o = (x : Int))
  | .if_acmp _ o => decide ((pc : Int) + o = (x : Int))
  | .ifnull o => decide ((pc : Int) + o = (x : Int))
  | .ifnonnull o => decide ((pc : Int) + o = (x : Int))
  | .getfield o => (match vm_cls[x]? with
    | some q => decide (y < q.2.2) && vm_has z (.fieldLink (vm_name k).cls o (q.2.1 y).1 (q.2.1 y).2.1 (q.2.1 y).2.2.1)
    | none => false)
  | .putfield o => (match vm_cls[x]? with
    | some q => decide (y < q.2.2) && vm_has z (.fieldLink (vm_name k).cls o (q.2.1 y).1 (q.2.1 y).2.1 (q.2.1 y).2.2.1) && (!(q.2.1 y).2.2.2 || (decide ((vm_name k).name = "<init>") && decide ((q.2.1 y).1 = (vm_name k).cls)))
    | none => false)
  | .new o => (match vm_cls[x]? with
    | some q => vm_has z (.classLink (vm_name k).cls o q.1)
    | none => true)
  | .anewarray o => (decide (x = 3) && vm_has z (.classLink (vm_name k).cls o vm_e3)) || (decide (x = 4) && vm_has z (.classLink (vm_name k).cls o vm_e4))
  | .invokestatic o => (match y with
    | 1 => decide (x < vm_n ∧ (vm_mp x).1 = 1) && vm_has z (.methodLink (vm_name k).cls o (vm_name x))
    | 3 => decide (x < vm_n ∧ (vm_mp x).1 = 1) && vm_hasN z (.methodLinkNest (vm_name k).cls o (vm_name x) "TriangleSets")
    | _ => true)
  | .invokevirtual o => (match y with
    | 4 => decide (x < vm_n ∧ (vm_mp x).1 = 3) && vm_has z (.methodLink (vm_name k).cls o (vm_name x))
    | 5 => decide (x < vm_n ∧ (vm_mp x).1 = 3) && vm_hasN z (.methodLinkNest (vm_name k).cls o (vm_name x) "TriangleSets")
    | _ => true)
  | .invokespecial o => (match y with
    | 6 => decide (x < vm_n ∧ (vm_mp x).1 = 2) && vm_has z (.methodLink (vm_name k).cls o (vm_name x))
    | 7 => decide (x < vm_n ∧ (vm_mp x).1 = 2) && vm_hasN z (.methodLinkNest (vm_name k).cls o (vm_name x) "TriangleSets")
    | 8 => vm_has z (.methodLink (vm_name k).cls o objectInit)
    | _ => true)
  | _ => true
def vm_okE (k : Nat) (q : Nat × (Jvm.ClassFile.Instr × Nat × Nat × Nat)) : Bool := decide (decode (vm_code k) q.1 = .ok (q.2.1, vm_ilen q.2.1 q.2.2.1)) && vm_lnk k q.1 q.2.1 q.2.2.1 q.2.2.2.1 q.2.2.2.2
