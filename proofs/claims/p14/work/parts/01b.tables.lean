def vm_isN (w : Cond) : Bool := match w with
  | .methodLinkNest _ _ _ _ => true
  | _ => false
def vm_ws : List Cond := lw_tbl.filter goodWord
def vm_nw : List Cond := lw_tbl.filter vm_isN
def vm_e3 : String := "TriangleSets$Polynomial"
def vm_e4 : String := "TriangleSets$Row"
def vm_TX0 : u_T := fun k => match k with
  | 0 => ("TriangleSets$Places", "count", "I", false)
  | 1 => ("TriangleSets$Places", "free", "[Z", true)
  | 2 => ("TriangleSets$Places", "point", "[J", true)
  | _ => ("TriangleSets$Places", "variables", "[I", true)
def vm_tyX0 : Nat → FieldType := fun k => match k with
  | 0 => .int
  | 1 => .array .boolean
  | 2 => .array .long
  | _ => .array .int
def vm_TX1 : u_T := fun k => match k with
  | 0 => ("TriangleSets$Polynomial", "keys", "[J", true)
  | 1 => ("TriangleSets$Polynomial", "factors", "[J", true)
  | _ => ("TriangleSets$Polynomial", "count", "I", false)
def vm_tyX1 : Nat → FieldType := fun k => match k with
  | 0 => .array .long
  | 1 => .array .long
  | _ => .int
def vm_TX2 : u_T := fun k => match k with
  | 0 => ("TriangleSets$Row", "sum", "LTriangleSets$Polynomial;", true)
  | 1 => ("TriangleSets$Row", "place", "I", false)
  | _ => ("TriangleSets$Row", "degree", "I", false)
def vm_tyX2 : Nat → FieldType := fun k => match k with
  | 0 => .object "TriangleSets$Polynomial"
  | 1 => .int
  | _ => .int
def vm_TX3 : u_T := fun k => match k with
  | 0 => ("TriangleSets$Stepper", "keys", "[J", false)
  | 1 => ("TriangleSets$Stepper", "factors", "[J", false)
  | 2 => ("TriangleSets$Stepper", "otherKeys", "[J", false)
  | 3 => ("TriangleSets$Stepper", "otherFactors", "[J", false)
  | _ => ("TriangleSets$Stepper", "count", "I", false)
def vm_tyX3 : Nat → FieldType := fun k => match k with
  | 0 => .array .long
  | 1 => .array .long
  | 2 => .array .long
  | 3 => .array .long
  | _ => .int
def vm_TX4 : u_T := fun k => match k with
  | 0 => ("TriangleSets$Triangle", "members", "[LTriangleSets$Row;", true)
  | _ => ("TriangleSets$Triangle", "size", "I", false)
def vm_tyX4 : Nat → FieldType := fun k => match k with
  | 0 => .array (.object "TriangleSets$Row")
  | _ => .int
def vm_TX5 : u_T := fun k => match k with
  | 0 => ("TriangleSets", "places", "LTriangleSets$Places;", true)
  | 1 => ("TriangleSets", "polynomials", "[LTriangleSets$Polynomial;", true)
  | 2 => ("TriangleSets", "hypotheses", "[Z", true)
  | 3 => ("TriangleSets", "polynomialCount", "I", false)
  | 4 => ("TriangleSets", "rows", "[LTriangleSets$Row;", true)
  | 5 => ("TriangleSets", "rowCount", "I", false)
  | 6 => ("TriangleSets", "set", "LTriangleSets$Triangle;", true)
  | 7 => ("TriangleSets", "stepper", "LTriangleSets$Stepper;", true)
  | 8 => ("TriangleSets", "condition", "LTriangleSets$Polynomial;", true)
  | 9 => ("TriangleSets", "remainder", "LTriangleSets$Polynomial;", true)
  | 10 => ("TriangleSets", "proved", "LTriangleSets$Polynomial;", true)
  | 11 => ("TriangleSets", "provedSteps", "[I", true)
  | 12 => ("TriangleSets", "work", "LTriangleSets$Polynomial;", true)
  | 13 => ("TriangleSets", "workSteps", "[I", true)
  | 14 => ("TriangleSets", "workStepCount", "I", false)
  | 15 => ("TriangleSets", "decomposeRounds", "I", false)
  | 16 => ("TriangleSets", "decomposeSteps", "I", false)
  | _ => ("TriangleSets", "proveSteps", "I", false)
def vm_tyX5 : Nat → FieldType := fun k => match k with
  | 0 => .object "TriangleSets$Places"
  | 1 => .array (.object "TriangleSets$Polynomial")
  | 2 => .array .boolean
  | 3 => .int
  | 4 => .array (.object "TriangleSets$Row")
  | 5 => .int
  | 6 => .object "TriangleSets$Triangle"
  | 7 => .object "TriangleSets$Stepper"
  | 8 => .object "TriangleSets$Polynomial"
  | 9 => .object "TriangleSets$Polynomial"
  | 10 => .object "TriangleSets$Polynomial"
  | 11 => .array .int
  | 12 => .object "TriangleSets$Polynomial"
  | 13 => .array .int
  | 14 => .int
  | 15 => .int
  | 16 => .int
  | _ => .int
def vm_TX6 : u_T := fun k => match k with
  | 0 => ("TriangleSetsModel", "thrown", "I", false)
  | 1 => ("TriangleSetsModel", "variables", "I", false)
  | 2 => ("TriangleSetsModel", "isFree", "[Z", true)
  | 3 => ("TriangleSetsModel", "order", "[I", true)
  | 4 => ("TriangleSetsModel", "polys", "I", false)
  | 5 => ("TriangleSetsModel", "used", "[Z", true)
  | 6 => ("TriangleSetsModel", "count", "[I", true)
  | 7 => ("TriangleSetsModel", "coef", "[J", true)
  | 8 => ("TriangleSetsModel", "key", "[J", true)
  | 9 => ("TriangleSetsModel", "point", "[J", true)
  | 10 => ("TriangleSetsModel", "isSet", "Z", false)
  | 11 => ("TriangleSetsModel", "members", "I", false)
  | 12 => ("TriangleSetsModel", "hasRemainder", "Z", false)
  | 13 => ("TriangleSetsModel", "hasCondition", "Z", false)
  | 14 => ("TriangleSetsModel", "roundsMade", "I", false)
  | 15 => ("TriangleSetsModel", "rowsLeft", "I", false)
  | 16 => ("TriangleSetsModel", "stepsMade", "I", false)
  | 17 => ("TriangleSetsModel", "proofSteps", "I", false)
  | 18 => ("TriangleSetsModel", "isProof", "Z", false)
  | 19 => ("TriangleSetsModel", "steps", "I", false)
  | 20 => ("TriangleSetsModel", "stepBy", "[I", true)
  | 21 => ("TriangleSetsModel", "stepFrom", "[I", true)
  | 22 => ("TriangleSetsModel", "stepMany", "[I", true)
  | 23 => ("TriangleSetsModel", "stepCoef", "[J", true)
  | 24 => ("TriangleSetsModel", "stepKey", "[J", true)
  | 25 => ("TriangleSetsModel", "kept", "I", false)
  | 26 => ("TriangleSetsModel", "madeBy", "[I", true)
  | 27 => ("TriangleSetsModel", "newSteps", "I", false)
  | 28 => ("TriangleSetsModel", "newKept", "I", false)
  | 29 => ("TriangleSetsModel", "newBy", "[I", true)
  | 30 => ("TriangleSetsModel", "newFrom", "[I", true)
  | 31 => ("TriangleSetsModel", "newMany", "[I", true)
  | 32 => ("TriangleSetsModel", "newCoef", "[J", true)
  | 33 => ("TriangleSetsModel", "newKey", "[J", true)
  | 34 => ("TriangleSetsModel", "gatheredKey", "[J", true)
  | 35 => ("TriangleSetsModel", "gathered", "[J", true)
  | 36 => ("TriangleSetsModel", "isGathered", "[Z", true)
  | 37 => ("TriangleSetsModel", "places", "[I", true)
  | 38 => ("TriangleSetsModel", "many", "I", false)
  | 39 => ("TriangleSetsModel", "base", "[I", true)
  | 40 => ("TriangleSetsModel", "based", "I", false)
  | 41 => ("TriangleSetsModel", "reduced", "I", false)
  | 42 => ("TriangleSetsModel", "rows", "I", false)
  | _ => ("TriangleSetsModel", "quotients", "[J", true)
def vm_tyX6 : Nat → FieldType := fun k => match k with
  | 0 => .int
  | 1 => .int
  | 2 => .array .boolean
  | 3 => .array .int
  | 4 => .int
  | 5 => .array .boolean
  | 6 => .array .int
  | 7 => .array .long
  | 8 => .array .long
  | 9 => .array .long
  | 10 => .boolean
  | 11 => .int
  | 12 => .boolean
  | 13 => .boolean
  | 14 => .int
  | 15 => .int
  | 16 => .int
  | 17 => .int
  | 18 => .boolean
  | 19 => .int
  | 20 => .array .int
  | 21 => .array .int
  | 22 => .array .int
  | 23 => .array .long
  | 24 => .array .long
  | 25 => .int
  | 26 => .array .int
  | 27 => .int
  | 28 => .int
  | 29 => .array .int
  | 30 => .array .int
  | 31 => .array .int
  | 32 => .array .long
  | 33 => .array .long
  | 34 => .array .long
  | 35 => .array .long
  | 36 => .array .boolean
  | 37 => .array .int
  | 38 => .int
  | 39 => .array .int
  | 40 => .int
  | 41 => .int
  | 42 => .int
  | _ => .array .long
def vm_cls : List vw_C := [("TriangleSets$Places", vm_TX0, 4), ("TriangleSets$Polynomial", vm_TX1, 3), ("TriangleSets$Row", vm_TX2, 3), ("TriangleSets$Stepper", vm_TX3, 5), ("TriangleSets$Triangle", vm_TX4, 2), ("TriangleSets", vm_TX5, 18), ("TriangleSetsModel", vm_TX6, 44)]
def vm_tyF (x : Nat) : Nat → FieldType := match x with
  | 0 => vm_tyX0
  | 1 => vm_tyX1
  | 2 => vm_tyX2
  | 3 => vm_tyX3
  | 4 => vm_tyX4
  | 5 => vm_tyX5
  | 6 => vm_tyX6
  | _ => fun _ => .int
def vm_aok (t ci : Nat) : Bool := (t == 3 && ci == 1) || (t == 4 && ci == 2)
def vm_n : Nat := 125
def vm_name (k : Nat) : MethodName := match k with
  | 0 => ⟨"TriangleSetsLaw", "law", "([I)Z"⟩
  | 1 => ⟨"TriangleSets$Places", "<init>", "()V"⟩
  | 2 => ⟨"TriangleSets$Places", "has", "(I)Z"⟩
  | 3 => ⟨"TriangleSets$Places", "append", "(Z)I"⟩
  | 4 => ⟨"TriangleSets$Places", "variableAt", "(I)I"⟩
  | 5 => ⟨"TriangleSets$Places", "placeOf", "(I)I"⟩
  | 6 => ⟨"TriangleSets$Places", "move", "(II)V"⟩
  | 7 => ⟨"TriangleSets$Places", "haveAllOf", "(I)Z"⟩
  | 8 => ⟨"TriangleSets$Places", "keyOf", "(I)J"⟩
  | 9 => ⟨"TriangleSets$Places", "powersOf", "(J)I"⟩
  | 10 => ⟨"TriangleSets$Places", "keysToPowers", "(LTriangleSets$Polynomial;)V"⟩
  | 11 => ⟨"TriangleSets$Places", "powersToKeys", "(LTriangleSets$Polynomial;)V"⟩
  | 12 => ⟨"TriangleSets$Places", "mainPlace", "(LTriangleSets$Polynomial;)I"⟩
  | 13 => ⟨"TriangleSets$Places", "valueOf", "(LTriangleSets$Polynomial;)J"⟩
  | 14 => ⟨"TriangleSets$Places", "valueOfLead", "(LTriangleSets$Polynomial;III)J"⟩
  | 15 => ⟨"TriangleSets$Places", "valueOfKey", "(J)J"⟩
  | 16 => ⟨"TriangleSets$Polynomial", "<init>", "()V"⟩
  | 17 => ⟨"TriangleSets$Polynomial", "clear", "()V"⟩
  | 18 => ⟨"TriangleSets$Polynomial", "hasTerm", "(I)Z"⟩
  | 19 => ⟨"TriangleSets$Polynomial", "copy", "(LTriangleSets$Polynomial;)V"⟩
  | 20 => ⟨"TriangleSets$Polynomial", "copyInitial", "(LTriangleSets$Row;)V"⟩
  | 21 => ⟨"TriangleSets$Polynomial", "isSameAs", "(LTriangleSets$Polynomial;)Z"⟩
  | 22 => ⟨"TriangleSets$Polynomial", "degree", "(I)I"⟩
  | 23 => ⟨"TriangleSets$Polynomial", "add", "(JJ)Z"⟩
  | 24 => ⟨"TriangleSets$Polynomial", "openGap", "(I)V"⟩
  | 25 => ⟨"TriangleSets$Polynomial", "closeGap", "(I)V"⟩
  | 26 => ⟨"TriangleSets$Polynomial", "makePrimitive", "()V"⟩
  | 27 => ⟨"TriangleSets$Polynomial", "sort", "()V"⟩
  | 28 => ⟨"TriangleSets$Row", "<init>", "()V"⟩
  | 29 => ⟨"TriangleSets$Row", "take", "(LTriangleSets$Polynomial;LTriangleSets$Places;)V"⟩
  | 30 => ⟨"TriangleSets$Row", "isLessThan", "(LTriangleSets$Row;)Z"⟩
  | 31 => ⟨"TriangleSets$Stepper", "<init>", "()V"⟩
  | 32 => ⟨"TriangleSets$Stepper", "step", "(LTriangleSets$Polynomial;LTriangleSets$Row;)Z"⟩
  | 33 => ⟨"TriangleSets$Stepper", "addMultiple", "(JJLTriangleSets$Polynomial;II)Z"⟩
  | 34 => ⟨"TriangleSets$Stepper", "swap", "()V"⟩
  | 35 => ⟨"TriangleSets$Stepper", "isSound", "()Z"⟩
  | 36 => ⟨"TriangleSets$Stepper", "store", "(LTriangleSets$Polynomial;)V"⟩
  | 37 => ⟨"TriangleSets$Triangle", "<init>", "()V"⟩
  | 38 => ⟨"TriangleSets$Triangle", "takeBase", "([LTriangleSets$Row;I)V"⟩
  | 39 => ⟨"TriangleSets$Triangle", "leastThatFits", "([LTriangleSets$Row;I)LTriangleSets$Row;"⟩
  | 40 => ⟨"TriangleSets$Triangle", "fits", "(LTriangleSets$Row;)Z"⟩
  | 41 => ⟨"TriangleSets$Triangle", "holds", "(LTriangleSets$Row;)Z"⟩
  | 42 => ⟨"TriangleSets$Triangle", "dueAtOrBelow", "(ILTriangleSets$Polynomial;)I"⟩
  | 43 => ⟨"TriangleSets", "<init>", "()V"⟩
  | 44 => ⟨"TriangleSets", "variable", "(Z)I"⟩
  | 45 => ⟨"TriangleSets", "order", "(II)Z"⟩
  | 46 => ⟨"TriangleSets", "polynomial", "()I"⟩
  | 47 => ⟨"TriangleSets", "term", "(IJI)Z"⟩
  | 48 => ⟨"TriangleSets", "use", "(IZ)Z"⟩
  | 49 => ⟨"TriangleSets", "decompose", "()I"⟩
  | 50 => ⟨"TriangleSets", "prove", "(I)I"⟩
  | 51 => ⟨"TriangleSets", "member", "(II)I"⟩
  | 52 => ⟨"TriangleSets", "told", "(I)I"⟩
  | 53 => ⟨"TriangleSets", "coefficient", "(III)J"⟩
  | 54 => ⟨"TriangleSets", "powers", "(III)I"⟩
  | 55 => ⟨"TriangleSets", "point", "(IJ)Z"⟩
  | 56 => ⟨"TriangleSets", "value", "(II)J"⟩
  | 57 => ⟨"TriangleSets", "quotient", "(I)J"⟩
  | 58 => ⟨"TriangleSets", "pseudo", "(JJ)J"⟩
  | 59 => ⟨"TriangleSets", "hasPolynomial", "(I)Z"⟩
  | 60 => ⟨"TriangleSets", "hasMember", "(I)Z"⟩
  | 61 => ⟨"TriangleSets", "hypothesisCount", "()I"⟩
  | 62 => ⟨"TriangleSets", "find", "(II)LTriangleSets$Polynomial;"⟩
  | 63 => ⟨"TriangleSets", "forgetSet", "()V"⟩
  | 64 => ⟨"TriangleSets", "moveVariable", "(II)V"⟩
  | 65 => ⟨"TriangleSets", "comesToRows", "(I)Z"⟩
  | 66 => ⟨"TriangleSets", "hasSomethingToDecompose", "()Z"⟩
  | 67 => ⟨"TriangleSets", "takeHypotheses", "()V"⟩
  | 68 => ⟨"TriangleSets", "tellConditionOfRows", "()Z"⟩
  | 69 => ⟨"TriangleSets", "makeRound", "()I"⟩
  | 70 => ⟨"TriangleSets", "reduceRow", "(LTriangleSets$Row;)I"⟩
  | 71 => ⟨"TriangleSets", "rowsHold", "(LTriangleSets$Polynomial;)Z"⟩
  | 72 => ⟨"TriangleSets", "reduceWork", "(I)Z"⟩
  | 73 => ⟨"TriangleSets", "powerAt", "(JI)I"⟩
  | 74 => ⟨"TriangleSets", "isSoundCoefficient", "(J)Z"⟩
  | 75 => ⟨"TriangleSets", "greatestCommonDivisor", "(JJ)J"⟩
  | 76 => ⟨"TriangleSetsModel", "<init>", "()V"⟩
  | 77 => ⟨"TriangleSetsModel", "thrown", "()I"⟩
  | 78 => ⟨"TriangleSetsModel", "powerOf", "(JI)I"⟩
  | 79 => ⟨"TriangleSetsModel", "rank", "(J)J"⟩
  | 80 => ⟨"TriangleSetsModel", "sort", "(I)V"⟩
  | 81 => ⟨"TriangleSetsModel", "copy", "(II)V"⟩
  | 82 => ⟨"TriangleSetsModel", "common", "(JJ)J"⟩
  | 83 => ⟨"TriangleSetsModel", "primitive", "(I)V"⟩
  | 84 => ⟨"TriangleSetsModel", "isSame", "(II)Z"⟩
  | 85 => ⟨"TriangleSetsModel", "degree", "(II)I"⟩
  | 86 => ⟨"TriangleSetsModel", "mainPlace", "(I)I"⟩
  | 87 => ⟨"TriangleSetsModel", "lead", "(III)V"⟩
  | 88 => ⟨"TriangleSetsModel", "gather", "(JJ)V"⟩
  | 89 => ⟨"TriangleSetsModel", "isSmall", "(J)Z"⟩
  | 90 => ⟨"TriangleSetsModel", "settle", "(I)Z"⟩
  | 91 => ⟨"TriangleSetsModel", "step", "(III)Z"⟩
  | 92 => ⟨"TriangleSetsModel", "keepStep", "(IIII)V"⟩
  | 93 => ⟨"TriangleSetsModel", "reduce", "(ZI)Z"⟩
  | 94 => ⟨"TriangleSetsModel", "isLess", "(II)Z"⟩
  | 95 => ⟨"TriangleSetsModel", "mayCome", "(I)Z"⟩
  | 96 => ⟨"TriangleSetsModel", "findBase", "()V"⟩
  | 97 => ⟨"TriangleSetsModel", "isBase", "(I)Z"⟩
  | 98 => ⟨"TriangleSetsModel", "isRow", "(I)Z"⟩
  | 99 => ⟨"TriangleSetsModel", "tellCondition", "(I)V"⟩
  | 100 => ⟨"TriangleSetsModel", "round", "()I"⟩
  | 101 => ⟨"TriangleSetsModel", "forget", "()V"⟩
  | 102 => ⟨"TriangleSetsModel", "decompose", "()I"⟩
  | 103 => ⟨"TriangleSetsModel", "noPoly", "(I)Z"⟩
  | 104 => ⟨"TriangleSetsModel", "prove", "(I)I"⟩
  | 105 => ⟨"TriangleSetsModel", "variable", "(Z)I"⟩
  | 106 => ⟨"TriangleSetsModel", "order", "(II)Z"⟩
  | 107 => ⟨"TriangleSetsModel", "polynomial", "()I"⟩
  | 108 => ⟨"TriangleSetsModel", "term", "(IJI)Z"⟩
  | 109 => ⟨"TriangleSetsModel", "use", "(IZ)Z"⟩
  | 110 => ⟨"TriangleSetsModel", "noMember", "(I)Z"⟩
  | 111 => ⟨"TriangleSetsModel", "mainOf", "(I)I"⟩
  | 112 => ⟨"TriangleSetsModel", "member", "(II)I"⟩
  | 113 => ⟨"TriangleSetsModel", "told", "(I)I"⟩
  | 114 => ⟨"TriangleSetsModel", "slotOf", "(II)I"⟩
  | 115 => ⟨"TriangleSetsModel", "coefficient", "(III)J"⟩
  | 116 => ⟨"TriangleSetsModel", "powers", "(III)I"⟩
  | 117 => ⟨"TriangleSetsModel", "point", "(IJ)Z"⟩
  | 118 => ⟨"TriangleSetsModel", "valueAt", "(J)J"⟩
  | 119 => ⟨"TriangleSetsModel", "valueOf", "(I)J"⟩
  | 120 => ⟨"TriangleSetsModel", "value", "(II)J"⟩
  | 121 => ⟨"TriangleSetsModel", "quotient", "(I)J"⟩
  | 122 => ⟨"TriangleSetsModel", "pseudo", "(JJ)J"⟩
  | 123 => ⟨"java/util/Arrays", "fill", "([II)V"⟩
  | 124 => ⟨"TriangleSetsLaw", "pseudo", "(LTriangleSets;JJ[J)I"⟩
  | _ => ⟨"", "", ""⟩
def vm_code (k : Nat) : ByteArray := match k with
  | 0 => code
  | 1 => prog_2_method_1_code
  | 2 => prog_2_method_2_code
  | 3 => prog_2_method_3_code
  | 4 => prog_2_method_4_code
  | 5 => prog_2_method_5_code
  | 6 => prog_2_method_6_code
  | 7 => prog_2_method_7_code
  | 8 => prog_2_method_8_code
  | 9 => prog_2_method_9_code
  | 10 => prog_2_method_10_code
  | 11 => prog_2_method_11_code
  | 12 => prog_2_method_12_code
  | 13 => prog_2_method_13_code
  | 14 => prog_2_method_14_code
  | 15 => prog_2_method_15_code
  | 16 => prog_3_method_1_code
  | 17 => prog_3_method_2_code
  | 18 => prog_3_method_3_code
  | 19 => prog_3_method_4_code
  | 20 => prog_3_method_5_code
  | 21 => prog_3_method_6_code
  | 22 => prog_3_method_7_code
  | 23 => prog_3_method_8_code
  | 24 => prog_3_method_9_code
  | 25 => prog_3_method_10_code
  | 26 => prog_3_method_11_code
  | 27 => prog_3_method_12_code
  | 28 => prog_4_method_1_code
  | 29 => prog_4_method_2_code
  | 30 => prog_4_method_3_code
  | 31 => prog_5_method_1_code
  | 32 => prog_5_method_2_code
  | 33 => prog_5_method_3_code
  | 34 => prog_5_method_4_code
  | 35 => prog_5_method_5_code
  | 36 => prog_5_method_6_code
  | 37 => prog_6_method_1_code
  | 38 => prog_6_method_2_code
  | 39 => prog_6_method_3_code
  | 40 => prog_6_method_4_code
  | 41 => prog_6_method_5_code
  | 42 => prog_6_method_6_code
  | 43 => prog_1_method_1_code
  | 44 => prog_1_method_2_code
  | 45 => prog_1_method_3_code
  | 46 => prog_1_method_4_code
  | 47 => prog_1_method_5_code
  | 48 => prog_1_method_6_code
  | 49 => prog_1_method_7_code
  | 50 => prog_1_method_8_code
  | 51 => prog_1_method_9_code
  | 52 => prog_1_method_10_code
  | 53 => prog_1_method_11_code
  | 54 => prog_1_method_12_code
  | 55 => prog_1_method_13_code
  | 56 => prog_1_method_14_code
  | 57 => prog_1_method_15_code
  | 58 => prog_1_method_16_code
  | 59 => prog_1_method_17_code
  | 60 => prog_1_method_18_code
  | 61 => prog_1_method_19_code
  | 62 => prog_1_method_20_code
  | 63 => prog_1_method_21_code
  | 64 => prog_1_method_22_code
  | 65 => prog_1_method_23_code
  | 66 => prog_1_method_24_code
  | 67 => prog_1_method_25_code
  | 68 => prog_1_method_26_code
  | 69 => prog_1_method_27_code
  | 70 => prog_1_method_28_code
  | 71 => prog_1_method_29_code
  | 72 => prog_1_method_30_code
  | 73 => prog_1_method_31_code
  | 74 => prog_1_method_32_code
  | 75 => prog_1_method_33_code
  | 76 => prog_8_method_1_code
  | 77 => (⟨#[]⟩ : ByteArray)
  | 78 => prog_8_method_3_code
  | 79 => prog_8_method_4_code
  | 80 => prog_8_method_5_code
  | 81 => prog_8_method_6_code
  | 82 => prog_8_method_7_code
  | 83 => prog_8_method_8_code
  | 84 => prog_8_method_9_code
  | 85 => prog_8_method_10_code
  | 86 => prog_8_method_11_code
  | 87 => prog_8_method_12_code
  | 88 => prog_8_method_13_code
  | 89 => prog_8_method_14_code
  | 90 => prog_8_method_15_code
  | 91 => prog_8_method_16_code
  | 92 => prog_8_method_17_code
  | 93 => prog_8_method_18_code
  | 94 => prog_8_method_19_code
  | 95 => prog_8_method_20_code
  | 96 => prog_8_method_21_code
  | 97 => prog_8_method_22_code
  | 98 => prog_8_method_23_code
  | 99 => prog_8_method_24_code
  | 100 => prog_8_method_25_code
  | 101 => prog_8_method_26_code
  | 102 => prog_8_method_27_code
  | 103 => prog_8_method_28_code
  | 104 => prog_8_method_29_code
  | 105 => prog_8_method_30_code
  | 106 => prog_8_method_31_code
  | 107 => prog_8_method_32_code
  | 108 => prog_8_method_33_code
  | 109 => prog_8_method_34_code
  | 110 => prog_8_method_35_code
  | 111 => prog_8_method_36_code
  | 112 => prog_8_method_37_code
  | 113 => prog_8_method_38_code
  | 114 => prog_8_method_39_code
  | 115 => prog_8_method_40_code
  | 116 => prog_8_method_41_code
  | 117 => prog_8_method_42_code
  | 118 => prog_8_method_43_code
  | 119 => prog_8_method_44_code
  | 120 => prog_8_method_45_code
  | 121 => prog_8_method_46_code
  | 122 => prog_8_method_47_code
  | 123 => prog_16_method_103_code
  | 124 => method_3_code
  | _ => ⟨#[]⟩
def vm_max (k : Nat) : Nat := match k with
  | 0 => 8
  | 1 => 1
  | 2 => 2
  | 3 => 2
  | 4 => 2
  | 5 => 3
  | 6 => 5
  | 7 => 2
  | 8 => 7
  | 9 => 5
  | 10 => 3
  | 11 => 3
  | 12 => 3
  | 13 => 5
  | 14 => 10
  | 15 => 8
  | 16 => 1
  | 17 => 1
  | 18 => 2
  | 19 => 2
  | 20 => 6
  | 21 => 3
  | 22 => 4
  | 23 => 9
  | 24 => 2
  | 25 => 2
  | 26 => 4
  | 27 => 7
  | 28 => 1
  | 29 => 3
  | 30 => 2
  | 31 => 1
  | 32 => 9
  | 33 => 15
  | 34 => 3
  | 35 => 2
  | 36 => 2
  | 37 => 1
  | 38 => 4
  | 39 => 5
  | 40 => 3
  | 41 => 3
  | 42 => 4
  | 43 => 2
  | 44 => 3
  | 45 => 4
  | 46 => 1
  | 47 => 5
  | 48 => 3
  | 49 => 2
  | 50 => 3
  | 51 => 4
  | 52 => 2
  | 53 => 5
  | 54 => 5
  | 55 => 4
  | 56 => 4
  | 57 => 7
  | 58 => 5
  | 59 => 2
  | 60 => 2
  | 61 => 3
  | 62 => 3
  | 63 => 1
  | 64 => 4
  | 65 => 2
  | 66 => 2
  | 67 => 2
  | 68 => 2
  | 69 => 4
  | 70 => 3
  | 71 => 3
  | 72 => 4
  | 73 => 3
  | 74 => 2
  | 75 => 11
  | 76 => 1
  | 77 => 1
  | 78 => 3
  | 79 => 6
  | 80 => 11
  | 81 => 4
  | 82 => 10
  | 83 => 5
  | 84 => 5
  | 85 => 6
  | 86 => 3
  | 87 => 8
  | 88 => 8
  | 89 => 4
  | 90 => 8
  | 91 => 9
  | 92 => 6
  | 93 => 6
  | 94 => 7
  | 95 => 5
  | 96 => 4
  | 97 => 4
  | 98 => 4
  | 99 => 2
  | 100 => 5
  | 101 => 1
  | 102 => 5
  | 103 => 2
  | 104 => 4
  | 105 => 2
  | 106 => 5
  | 107 => 1
  | 108 => 13
  | 109 => 3
  | 110 => 2
  | 111 => 2
  | 112 => 3
  | 113 => 4
  | 114 => 3
  | 115 => 5
  | 116 => 7
  | 117 => 4
  | 118 => 7
  | 119 => 5
  | 120 => 4
  | 121 => 8
  | 122 => 5
  | 123 => 4
  | 124 => 7
  | _ => 0
def vm_ret (k : Nat) : Option FieldType := match k with
  | 0 => (some .boolean)
  | 1 => (Option.none : Option Jvm.ClassFile.FieldType)
  | 2 => (Option.some Jvm.ClassFile.FieldType.boolean)
  | 3 => (Option.some Jvm.ClassFile.FieldType.int)
  | 4 => (Option.some Jvm.ClassFile.FieldType.int)
  | 5 => (Option.some Jvm.ClassFile.FieldType.int)
  | 6 => (Option.none : Option Jvm.ClassFile.FieldType)
  | 7 => (Option.some Jvm.ClassFile.FieldType.boolean)
  | 8 => (Option.some Jvm.ClassFile.FieldType.long)
  | 9 => (Option.some Jvm.ClassFile.FieldType.int)
  | 10 => (Option.none : Option Jvm.ClassFile.FieldType)
  | 11 => (Option.none : Option Jvm.ClassFile.FieldType)
  | 12 => (Option.some Jvm.ClassFile.FieldType.int)
  | 13 => (Option.some Jvm.ClassFile.FieldType.long)
  | 14 => (Option.some Jvm.ClassFile.FieldType.long)
  | 15 => (Option.some Jvm.ClassFile.FieldType.long)
  | 16 => (Option.none : Option Jvm.ClassFile.FieldType)
  | 17 => (Option.none : Option Jvm.ClassFile.FieldType)
  | 18 => (Option.some Jvm.ClassFile.FieldType.boolean)
  | 19 => (Option.none : Option Jvm.ClassFile.FieldType)
  | 20 => (Option.none : Option Jvm.ClassFile.FieldType)
  | 21 => (Option.some Jvm.ClassFile.FieldType.boolean)
  | 22 => (Option.some Jvm.ClassFile.FieldType.int)
  | 23 => (Option.some Jvm.ClassFile.FieldType.boolean)
  | 24 => (Option.none : Option Jvm.ClassFile.FieldType)
  | 25 => (Option.none : Option Jvm.ClassFile.FieldType)
  | 26 => (Option.none : Option Jvm.ClassFile.FieldType)
  | 27 => (Option.none : Option Jvm.ClassFile.FieldType)
  | 28 => (Option.none : Option Jvm.ClassFile.FieldType)
  | 29 => (Option.none : Option Jvm.ClassFile.FieldType)
  | 30 => (Option.some Jvm.ClassFile.FieldType.boolean)
  | 31 => (Option.none : Option Jvm.ClassFile.FieldType)
  | 32 => (Option.some Jvm.ClassFile.FieldType.boolean)
  | 33 => (Option.some Jvm.ClassFile.FieldType.boolean)
  | 34 => (Option.none : Option Jvm.ClassFile.FieldType)
  | 35 => (Option.some Jvm.ClassFile.FieldType.boolean)
  | 36 => (Option.none : Option Jvm.ClassFile.FieldType)
  | 37 => (Option.none : Option Jvm.ClassFile.FieldType)
  | 38 => (Option.none : Option Jvm.ClassFile.FieldType)
  | 39 => (Option.some (Jvm.ClassFile.FieldType.object "TriangleSets$Row"))
  | 40 => (Option.some Jvm.ClassFile.FieldType.boolean)
  | 41 => (Option.some Jvm.ClassFile.FieldType.boolean)
  | 42 => (Option.some Jvm.ClassFile.FieldType.int)
  | 43 => (Option.none : Option Jvm.ClassFile.FieldType)
  | 44 => (Option.some Jvm.ClassFile.FieldType.int)
  | 45 => (Option.some Jvm.ClassFile.FieldType.boolean)
  | 46 => (Option.some Jvm.ClassFile.FieldType.int)
  | 47 => (Option.some Jvm.ClassFile.FieldType.boolean)
  | 48 => (Option.some Jvm.ClassFile.FieldType.boolean)
  | 49 => (Option.some Jvm.ClassFile.FieldType.int)
  | 50 => (Option.some Jvm.ClassFile.FieldType.int)
  | 51 => (Option.some Jvm.ClassFile.FieldType.int)
  | 52 => (Option.some Jvm.ClassFile.FieldType.int)
  | 53 => (Option.some Jvm.ClassFile.FieldType.long)
  | 54 => (Option.some Jvm.ClassFile.FieldType.int)
  | 55 => (Option.some Jvm.ClassFile.FieldType.boolean)
  | 56 => (Option.some Jvm.ClassFile.FieldType.long)
  | 57 => (Option.some Jvm.ClassFile.FieldType.long)
  | 58 => (Option.some Jvm.ClassFile.FieldType.long)
  | 59 => (Option.some Jvm.ClassFile.FieldType.boolean)
  | 60 => (Option.some Jvm.ClassFile.FieldType.boolean)
  | 61 => (Option.some Jvm.ClassFile.FieldType.int)
  | 62 => (Option.some (Jvm.ClassFile.FieldType.object "TriangleSets$Polynomial"))
  | 63 => (Option.none : Option Jvm.ClassFile.FieldType)
  | 64 => (Option.none : Option Jvm.ClassFile.FieldType)
  | 65 => (Option.some Jvm.ClassFile.FieldType.boolean)
  | 66 => (Option.some Jvm.ClassFile.FieldType.boolean)
  | 67 => (Option.none : Option Jvm.ClassFile.FieldType)
  | 68 => (Option.some Jvm.ClassFile.FieldType.boolean)
  | 69 => (Option.some Jvm.ClassFile.FieldType.int)
  | 70 => (Option.some Jvm.ClassFile.FieldType.int)
  | 71 => (Option.some Jvm.ClassFile.FieldType.boolean)
  | 72 => (Option.some Jvm.ClassFile.FieldType.boolean)
  | 73 => (Option.some Jvm.ClassFile.FieldType.int)
  | 74 => (Option.some Jvm.ClassFile.FieldType.boolean)
  | 75 => (Option.some Jvm.ClassFile.FieldType.long)
  | 76 => (Option.none : Option Jvm.ClassFile.FieldType)
  | 77 => (some .int)
  | 78 => (Option.some Jvm.ClassFile.FieldType.int)
  | 79 => (Option.some Jvm.ClassFile.FieldType.long)
  | 80 => (Option.none : Option Jvm.ClassFile.FieldType)
  | 81 => (Option.none : Option Jvm.ClassFile.FieldType)
  | 82 => (Option.some Jvm.ClassFile.FieldType.long)
  | 83 => (Option.none : Option Jvm.ClassFile.FieldType)
  | 84 => (Option.some Jvm.ClassFile.FieldType.boolean)
  | 85 => (Option.some Jvm.ClassFile.FieldType.int)
  | 86 => (Option.some Jvm.ClassFile.FieldType.int)
  | 87 => (Option.none : Option Jvm.ClassFile.FieldType)
  | 88 => (Option.none : Option Jvm.ClassFile.FieldType)
  | 89 => (Option.some Jvm.ClassFile.FieldType.boolean)
  | 90 => (Option.some Jvm.ClassFile.FieldType.boolean)
  | 91 => (Option.some Jvm.ClassFile.FieldType.boolean)
  | 92 => (Option.none : Option Jvm.ClassFile.FieldType)
  | 93 => (Option.some Jvm.ClassFile.FieldType.boolean)
  | 94 => (Option.some Jvm.ClassFile.FieldType.boolean)
  | 95 => (Option.some Jvm.ClassFile.FieldType.boolean)
  | 96 => (Option.none : Option Jvm.ClassFile.FieldType)
  | 97 => (Option.some Jvm.ClassFile.FieldType.boolean)
  | 98 => (Option.some Jvm.ClassFile.FieldType.boolean)
  | 99 => (Option.none : Option Jvm.ClassFile.FieldType)
  | 100 => (Option.some Jvm.ClassFile.FieldType.int)
  | 101 => (Option.none : Option Jvm.ClassFile.FieldType)
  | 102 => (Option.some Jvm.ClassFile.FieldType.int)
  | 103 => (Option.some Jvm.ClassFile.FieldType.boolean)
  | 104 => (Option.some Jvm.ClassFile.FieldType.int)
  | 105 => (Option.some Jvm.ClassFile.FieldType.int)
  | 106 => (Option.some Jvm.ClassFile.FieldType.boolean)
  | 107 => (Option.some Jvm.ClassFile.FieldType.int)
  | 108 => (Option.some Jvm.ClassFile.FieldType.boolean)
  | 109 => (Option.some Jvm.ClassFile.FieldType.boolean)
  | 110 => (Option.some Jvm.ClassFile.FieldType.boolean)
  | 111 => (Option.some Jvm.ClassFile.FieldType.int)
  | 112 => (Option.some Jvm.ClassFile.FieldType.int)
  | 113 => (Option.some Jvm.ClassFile.FieldType.int)
  | 114 => (Option.some Jvm.ClassFile.FieldType.int)
  | 115 => (Option.some Jvm.ClassFile.FieldType.long)
  | 116 => (Option.some Jvm.ClassFile.FieldType.int)
  | 117 => (Option.some Jvm.ClassFile.FieldType.boolean)
  | 118 => (Option.some Jvm.ClassFile.FieldType.long)
  | 119 => (Option.some Jvm.ClassFile.FieldType.long)
  | 120 => (Option.some Jvm.ClassFile.FieldType.long)
  | 121 => (Option.some Jvm.ClassFile.FieldType.long)
  | 122 => (Option.some Jvm.ClassFile.FieldType.long)
  | 123 => (Option.none : Option Jvm.ClassFile.FieldType)
  | 124 => (some .int)
  | _ => none
def vm_na (k : Nat) : Nat := match k with
  | 0 => 1
  | 1 => 0
  | 2 => 1
  | 3 => 1
  | 4 => 1
  | 5 => 1
  | 6 => 2
  | 7 => 1
  | 8 => 1
  | 9 => 1
  | 10 => 1
  | 11 => 1
  | 12 => 1
  | 13 => 1
  | 14 => 4
  | 15 => 1
  | 16 => 0
  | 17 => 0
  | 18 => 1
  | 19 => 1
  | 20 => 1
  | 21 => 1
  | 22 => 1
  | 23 => 2
  | 24 => 1
  | 25 => 1
  | 26 => 0
  | 27 => 0
  | 28 => 0
  | 29 => 2
  | 30 => 1
  | 31 => 0
  | 32 => 2
  | 33 => 5
  | 34 => 0
  | 35 => 0
  | 36 => 1
  | 37 => 0
  | 38 => 2
  | 39 => 2
  | 40 => 1
  | 41 => 1
  | 42 => 2
  | 43 => 0
  | 44 => 1
  | 45 => 2
  | 46 => 0
  | 47 => 3
  | 48 => 2
  | 49 => 0
  | 50 => 1
  | 51 => 2
  | 52 => 1
  | 53 => 3
  | 54 => 3
  | 55 => 2
  | 56 => 2
  | 57 => 1
  | 58 => 2
  | 59 => 1
  | 60 => 1
  | 61 => 0
  | 62 => 2
  | 63 => 0
  | 64 => 2
  | 65 => 1
  | 66 => 0
  | 67 => 0
  | 68 => 0
  | 69 => 0
  | 70 => 1
  | 71 => 1
  | 72 => 1
  | 73 => 2
  | 74 => 1
  | 75 => 2
  | 76 => 0
  | 77 => 0
  | 78 => 2
  | 79 => 1
  | 80 => 1
  | 81 => 2
  | 82 => 2
  | 83 => 1
  | 84 => 2
  | 85 => 2
  | 86 => 1
  | 87 => 3
  | 88 => 2
  | 89 => 1
  | 90 => 1
  | 91 => 3
  | 92 => 4
  | 93 => 2
  | 94 => 2
  | 95 => 1
  | 96 => 0
  | 97 => 1
  | 98 => 1
  | 99 => 1
  | 100 => 0
  | 101 => 0
  | 102 => 0
  | 103 => 1
  | 104 => 1
  | 105 => 1
  | 106 => 2
  | 107 => 0
  | 108 => 3
  | 109 => 2
  | 110 => 1
  | 111 => 1
  | 112 => 2
  | 113 => 1
  | 114 => 2
  | 115 => 3
  | 116 => 3
  | 117 => 2
  | 118 => 1
  | 119 => 1
  | 120 => 2
  | 121 => 1
  | 122 => 2
  | 123 => 2
  | 124 => 4
  | _ => 0
def vm_ci (k : Nat) : Nat := match k with
  | 0 => 99
  | 1 => 0
  | 2 => 0
  | 3 => 0
  | 4 => 0
  | 5 => 0
  | 6 => 0
  | 7 => 0
  | 8 => 0
  | 9 => 0
  | 10 => 0
  | 11 => 0
  | 12 => 0
  | 13 => 0
  | 14 => 0
  | 15 => 0
  | 16 => 1
  | 17 => 1
  | 18 => 1
  | 19 => 1
  | 20 => 1
  | 21 => 1
  | 22 => 1
  | 23 => 1
  | 24 => 1
  | 25 => 1
  | 26 => 1
  | 27 => 1
  | 28 => 2
  | 29 => 2
  | 30 => 2
  | 31 => 3
  | 32 => 3
  | 33 => 3
  | 34 => 3
  | 35 => 3
  | 36 => 3
  | 37 => 4
  | 38 => 4
  | 39 => 4
  | 40 => 4
  | 41 => 4
  | 42 => 4
  | 43 => 5
  | 44 => 5
  | 45 => 5
  | 46 => 5
  | 47 => 5
  | 48 => 5
  | 49 => 5
  | 50 => 5
  | 51 => 5
  | 52 => 5
  | 53 => 5
  | 54 => 5
  | 55 => 5
  | 56 => 5
  | 57 => 5
  | 58 => 5
  | 59 => 5
  | 60 => 5
  | 61 => 5
  | 62 => 5
  | 63 => 5
  | 64 => 5
  | 65 => 5
  | 66 => 5
  | 67 => 5
  | 68 => 5
  | 69 => 5
  | 70 => 5
  | 71 => 5
  | 72 => 5
  | 73 => 5
  | 74 => 5
  | 75 => 5
  | 76 => 6
  | 77 => 6
  | 78 => 6
  | 79 => 6
  | 80 => 6
  | 81 => 6
  | 82 => 6
  | 83 => 6
  | 84 => 6
  | 85 => 6
  | 86 => 6
  | 87 => 6
  | 88 => 6
  | 89 => 6
  | 90 => 6
  | 91 => 6
  | 92 => 6
  | 93 => 6
  | 94 => 6
  | 95 => 6
  | 96 => 6
  | 97 => 6
  | 98 => 6
  | 99 => 6
  | 100 => 6
  | 101 => 6
  | 102 => 6
  | 103 => 6
  | 104 => 6
  | 105 => 6
  | 106 => 6
  | 107 => 6
  | 108 => 6
  | 109 => 6
  | 110 => 6
  | 111 => 6
  | 112 => 6
  | 113 => 6
  | 114 => 6
  | 115 => 6
  | 116 => 6
  | 117 => 6
  | 118 => 6
  | 119 => 6
  | 120 => 6
  | 121 => 6
  | 122 => 6
  | 123 => 99
  | 124 => 99
  | _ => 99
def vm_mp (k : Nat) : Nat × Nat × Nat × Nat × Nat := match k with
  | 0 => (0, 0, 0, 0, 0)
  | 1 => (2, 78, 53, 77, 0)
  | 2 => (3, 276, 53, 274, 275)
  | 3 => (3, 257, 53, 255, 256)
  | 4 => (3, 498, 53, 496, 497)
  | 5 => (3, 280, 53, 278, 279)
  | 6 => (3, 299, 53, 297, 298)
  | 7 => (3, 327, 53, 325, 326)
  | 8 => (3, 307, 53, 305, 306)
  | 9 => (3, 292, 53, 290, 291)
  | 10 => (3, 288, 53, 286, 287)
  | 11 => (3, 303, 53, 301, 302)
  | 12 => (3, 392, 53, 390, 391)
  | 13 => (3, 540, 53, 538, 539)
  | 14 => (3, 552, 53, 550, 551)
  | 15 => (3, 544, 53, 543, 22)
  | 16 => (2, 103, 54, 102, 0)
  | 17 => (3, 265, 54, 263, 264)
  | 18 => (3, 523, 54, 521, 522)
  | 19 => (3, 378, 54, 376, 377)
  | 20 => (3, 519, 54, 517, 518)
  | 21 => (3, 480, 54, 478, 479)
  | 22 => (3, 396, 54, 394, 395)
  | 23 => (3, 332, 54, 330, 331)
  | 24 => (3, 343, 54, 342, 3)
  | 25 => (3, 350, 54, 349, 4)
  | 26 => (3, 382, 54, 380, 381)
  | 27 => (3, 311, 54, 309, 310)
  | 28 => (2, 131, 55, 130, 0)
  | 29 => (3, 374, 55, 372, 373)
  | 30 => (3, 427, 55, 425, 426)
  | 31 => (2, 177, 57, 176, 0)
  | 32 => (3, 450, 57, 448, 449)
  | 33 => (3, 456, 57, 455, 14)
  | 34 => (3, 461, 57, 460, 15)
  | 35 => (3, 465, 57, 464, 16)
  | 36 => (3, 471, 57, 470, 17)
  | 37 => (2, 161, 56, 160, 0)
  | 38 => (3, 414, 56, 412, 413)
  | 39 => (3, 418, 56, 417, 10)
  | 40 => (3, 422, 56, 421, 11)
  | 41 => (3, 431, 56, 429, 430)
  | 42 => (3, 446, 56, 444, 445)
  | 43 => (2, 70, 52, 69, 0)
  | 44 => (3, 253, 52, 251, 252)
  | 45 => (3, 272, 52, 270, 271)
  | 46 => (3, 315, 52, 313, 314)
  | 47 => (3, 319, 52, 317, 318)
  | 48 => (3, 354, 52, 352, 353)
  | 49 => (3, 358, 52, 356, 357)
  | 50 => (3, 485, 52, 483, 484)
  | 51 => (3, 490, 52, 488, 489)
  | 52 => (3, 503, 52, 501, 502)
  | 53 => (3, 511, 52, 509, 510)
  | 54 => (3, 527, 52, 525, 526)
  | 55 => (3, 532, 52, 530, 531)
  | 56 => (3, 536, 52, 534, 535)
  | 57 => (3, 548, 52, 546, 547)
  | 58 => (3, 561, 52, 559, 560)
  | 59 => (3, 323, 52, 322, 2)
  | 60 => (3, 494, 52, 493, 19)
  | 61 => (3, 507, 52, 506, 20)
  | 62 => (3, 515, 52, 514, 21)
  | 63 => (3, 261, 52, 260, 0)
  | 64 => (3, 284, 52, 283, 1)
  | 65 => (3, 366, 52, 365, 6)
  | 66 => (3, 362, 52, 361, 5)
  | 67 => (3, 370, 52, 369, 7)
  | 68 => (3, 405, 52, 404, 8)
  | 69 => (3, 410, 52, 409, 9)
  | 70 => (3, 435, 52, 434, 12)
  | 71 => (3, 476, 52, 475, 18)
  | 72 => (3, 442, 52, 441, 13)
  | 73 => (1, 295, 52, 294, 0)
  | 74 => (1, 337, 52, 336, 0)
  | 75 => (1, 388, 52, 387, 0)
  | 76 => (2, 632, 58, 631, 0)
  | 77 => (0, 0, 0, 0, 0)
  | 78 => (1, 796, 58, 795, 0)
  | 79 => (3, 860, 58, 859, 42)
  | 80 => (3, 856, 58, 855, 41)
  | 81 => (3, 778, 58, 777, 25)
  | 82 => (1, 785, 58, 784, 0)
  | 83 => (3, 782, 58, 781, 26)
  | 84 => (3, 868, 58, 867, 44)
  | 85 => (3, 793, 58, 792, 28)
  | 86 => (3, 789, 58, 788, 27)
  | 87 => (3, 832, 58, 831, 37)
  | 88 => (3, 842, 58, 841, 39)
  | 89 => (1, 852, 58, 851, 0)
  | 90 => (3, 847, 58, 846, 40)
  | 91 => (3, 838, 58, 837, 38)
  | 92 => (3, 828, 58, 827, 36)
  | 93 => (3, 824, 58, 823, 35)
  | 94 => (3, 816, 58, 815, 33)
  | 95 => (3, 812, 58, 811, 32)
  | 96 => (3, 808, 58, 807, 31)
  | 97 => (3, 820, 58, 819, 34)
  | 98 => (3, 864, 58, 863, 43)
  | 99 => (3, 800, 58, 799, 29)
  | 100 => (3, 804, 58, 803, 30)
  | 101 => (3, 774, 58, 773, 24)
  | 102 => (3, 770, 58, 768, 769)
  | 103 => (3, 876, 58, 875, 45)
  | 104 => (3, 872, 58, 870, 871)
  | 105 => (3, 880, 58, 878, 879)
  | 106 => (3, 884, 58, 882, 883)
  | 107 => (3, 888, 58, 886, 887)
  | 108 => (3, 892, 58, 890, 891)
  | 109 => (3, 898, 58, 896, 897)
  | 110 => (3, 906, 58, 905, 46)
  | 111 => (3, 910, 58, 909, 47)
  | 112 => (3, 902, 58, 900, 901)
  | 113 => (3, 914, 58, 912, 913)
  | 114 => (3, 922, 58, 921, 48)
  | 115 => (3, 918, 58, 916, 917)
  | 116 => (3, 926, 58, 924, 925)
  | 117 => (3, 930, 58, 928, 929)
  | 118 => (3, 942, 58, 941, 50)
  | 119 => (3, 938, 58, 937, 49)
  | 120 => (3, 934, 58, 932, 933)
  | 121 => (3, 946, 58, 944, 945)
  | 122 => (3, 950, 58, 948, 949)
  | 123 => (1, 268, 59, 267, 0)
  | 124 => (0, 0, 0, 0, 0)
  | _ => (0, 0, 0, 0, 0)
/-- TriangleSetsLaw.law.([I)Z -/
def vm_t0 : List (Nat × (Jvm.ClassFile.Instr × Nat × Nat × Nat)) := [(0, (.new 8, 5, 0, 66)), (3, (.dup, 0, 0, 0)), (4, (.invokespecial 15, 43, 6, 68)), (7, (.astore_n 1, 0, 0, 0)), (8, (.new 16, 6, 0, 628)), (11, (.dup, 0, 0, 0)), (12, (.invokespecial 18, 76, 6, 630)), (15, (.astore_n 2, 0, 0, 0)), (16, (.iconst 1, 0, 0, 0)), (17, (.newarray .long, 0, 0, 0)), (19, (.astore_n 3, 0, 0, 0)), (20, (.iconst 0, 0, 0, 0)), (21, (.istore 4, 0, 0, 0)), (23, (.iload 4, 0, 0, 0)), (25, (.aload_n 0, 0, 0, 0)), (26, (.arraylength, 0, 0, 0)), (27, (.iconst 5, 0, 0, 0)), (28, (.isub, 0, 0, 0)), (29, (.if_icmp .gt 748, 777, 0, 0)), (32, (.aload_n 0, 0, 0, 0)), (33, (.iload 4, 0, 0, 0)), (35, (.iaload, 0, 0, 0)), (36, (.bipush 15, 0, 0, 0)), (38, (.iand, 0, 0, 0)), (39, (.tableswitch 732 0 14 #[73, 114, 151, 164, 245, 298, 311, 336, 373, 398, 447, 496, 565, 603, 628], 73, 0, 0)), (112, (.aload_n 1, 0, 0, 0)), (113, (.aload_n 0, 0, 0, 0)), (114, (.iload 4, 0, 0, 0)), (116, (.iconst 1, 0, 0, 0)), (117, (.iadd, 0, 0, 0)), (118, (.iaload, 0, 0, 0)), (119, (.ifCond .eq 7, 126, 0, 0)), (122, (.iconst 1, 0, 0, 0)), (123, (.goto 4, 127, 0, 0)), (126, (.iconst 0, 0, 0, 0)), (127, (.invokevirtual 19, 44, 4, 250)), (130, (.pop, 0, 0, 0)), (131, (.aload_n 2, 0, 0, 0)), (132, (.aload_n 0, 0, 0, 0)), (133, (.iload 4, 0, 0, 0)), (135, (.iconst 1, 0, 0, 0)), (136, (.iadd, 0, 0, 0)), (137, (.iaload, 0, 0, 0)), (138, (.ifCond .eq 7, 145, 0, 0)), (141, (.iconst 1, 0, 0, 0)), (142, (.goto 4, 146, 0, 0)), (145, (.iconst 0, 0, 0, 0)), (146, (.invokevirtual 23, 105, 4, 877)), (149, (.pop, 0, 0, 0)), (150, (.goto 621, 771, 0, 0)), (153, (.aload_n 1, 0, 0, 0)), (154, (.aload_n 0, 0, 0, 0)), (155, (.iload 4, 0, 0, 0)), (157, (.iconst 1, 0, 0, 0)), (158, (.iadd, 0, 0, 0)), (159, (.iaload, 0, 0, 0)), (160, (.aload_n 0, 0, 0, 0)), (161, (.iload 4, 0, 0, 0)), (163, (.iconst 2, 0, 0, 0)), (164, (.iadd, 0, 0, 0)), (165, (.iaload, 0, 0, 0)), (166, (.invokevirtual 24, 45, 4, 269)), (169, (.pop, 0, 0, 0)), (170, (.aload_n 2, 0, 0, 0)), (171, (.aload_n 0, 0, 0, 0)), (172, (.iload 4, 0, 0, 0)), (174, (.iconst 1, 0, 0, 0)), (175, (.iadd, 0, 0, 0)), (176, (.iaload, 0, 0, 0)), (177, (.aload_n 0, 0, 0, 0)), (178, (.iload 4, 0, 0, 0)), (180, (.iconst 2, 0, 0, 0)), (181, (.iadd, 0, 0, 0)), (182, (.iaload, 0, 0, 0)), (183, (.invokevirtual 28, 106, 4, 881)), (186, (.pop, 0, 0, 0)), (187, (.goto 584, 771, 0, 0)), (190, (.aload_n 1, 0, 0, 0)), (191, (.invokevirtual 29, 46, 4, 312)), (194, (.pop, 0, 0, 0)), (195, (.aload_n 2, 0, 0, 0)), (196, (.invokevirtual 33, 107, 4, 885)), (199, (.pop, 0, 0, 0)), (200, (.goto 571, 771, 0, 0)), (203, (.aload_n 1, 0, 0, 0)), (204, (.aload_n 0, 0, 0, 0)), (205, (.iload 4, 0, 0, 0)), (207, (.iconst 1, 0, 0, 0)), (208, (.iadd, 0, 0, 0)), (209, (.iaload, 0, 0, 0)), (210, (.aload_n 0, 0, 0, 0)), (211, (.iload 4, 0, 0, 0)), (213, (.iconst 2, 0, 0, 0)), (214, (.iadd, 0, 0, 0)), (215, (.iaload, 0, 0, 0)), (216, (.i2l, 0, 0, 0)), (217, (.bipush 32, 0, 0, 0)), (219, (.lshl, 0, 0, 0)), (220, (.aload_n 0, 0, 0, 0)), (221, (.iload 4, 0, 0, 0)), (223, (.iconst 3, 0, 0, 0)), (224, (.iadd, 0, 0, 0)), (225, (.iaload, 0, 0, 0)), (226, (.i2l, 0, 0, 0)), (227, (.ldc2_w 34, 4294967295, 0, 951)), (230, (.land, 0, 0, 0)), (231, (.lor, 0, 0, 0)), (232, (.aload_n 0, 0, 0, 0)), (233, (.iload 4, 0, 0, 0)), (235, (.iconst 4, 0, 0, 0)), (236, (.iadd, 0, 0, 0)), (237, (.iaload, 0, 0, 0)), (238, (.invokevirtual 36, 47, 4, 316)), (241, (.pop, 0, 0, 0)), (242, (.aload_n 2, 0, 0, 0)), (243, (.aload_n 0, 0, 0, 0)), (244, (.iload 4, 0, 0, 0)), (246, (.iconst 1, 0, 0, 0)), (247, (.iadd, 0, 0, 0)), (248, (.iaload, 0, 0, 0)), (249, (.aload_n 0, 0, 0, 0)), (250, (.iload 4, 0, 0, 0)), (252, (.iconst 2, 0, 0, 0)), (253, (.iadd, 0, 0, 0)), (254, (.iaload, 0, 0, 0)), (255, (.i2l, 0, 0, 0)), (256, (.bipush 32, 0, 0, 0)), (258, (.lshl, 0, 0, 0)), (259, (.aload_n 0, 0, 0, 0)), (260, (.iload 4, 0, 0, 0)), (262, (.iconst 3, 0, 0, 0)), (263, (.iadd, 0, 0, 0)), (264, (.iaload, 0, 0, 0)), (265, (.i2l, 0, 0, 0)), (266, (.ldc2_w 34, 4294967295, 0, 951)), (269, (.land, 0, 0, 0)), (270, (.lor, 0, 0, 0)), (271, (.aload_n 0, 0, 0, 0)), (272, (.iload 4, 0, 0, 0)), (274, (.iconst 4, 0, 0, 0)), (275, (.iadd, 0, 0, 0)), (276, (.iaload, 0, 0, 0)), (277, (.invokevirtual 40, 108, 4, 889)), (280, (.pop, 0, 0, 0)), (281, (.goto 490, 771, 0, 0)), (284, (.aload_n 1, 0, 0, 0)), (285, (.aload_n 0, 0, 0, 0)), (286, (.iload 4, 0, 0, 0)), (288, (.iconst 1, 0, 0, 0)), (289, (.iadd, 0, 0, 0)), (290, (.iaload, 0, 0, 0)), (291, (.aload_n 0, 0, 0, 0)), (292, (.iload 4, 0, 0, 0)), (294, (.iconst 2, 0, 0, 0)), (295, (.iadd, 0, 0, 0)), (296, (.iaload, 0, 0, 0)), (297, (.ifCond .eq 7, 304, 0, 0)), (300, (.iconst 1, 0, 0, 0)), (301, (.goto 4, 305, 0, 0)), (304, (.iconst 0, 0, 0, 0)), (305, (.invokevirtual 41, 48, 4, 351)), (308, (.pop, 0, 0, 0)), (309, (.aload_n 2, 0, 0, 0)), (310, (.aload_n 0, 0, 0, 0)), (311, (.iload 4, 0, 0, 0)), (313, (.iconst 1, 0, 0, 0)), (314, (.iadd, 0, 0, 0)), (315, (.iaload, 0, 0, 0)), (316, (.aload_n 0, 0, 0, 0)), (317, (.iload 4, 0, 0, 0)), (319, (.iconst 2, 0, 0, 0)), (320, (.iadd, 0, 0, 0)), (321, (.iaload, 0, 0, 0)), (322, (.ifCond .eq 7, 329, 0, 0)), (325, (.iconst 1, 0, 0, 0)), (326, (.goto 4, 330, 0, 0)), (329, (.iconst 0, 0, 0, 0)), (330, (.invokevirtual 45, 109, 4, 895)), (333, (.pop, 0, 0, 0)), (334, (.goto 437, 771, 0, 0)), (337, (.aload_n 1, 0, 0, 0)), (338, (.invokevirtual 46, 49, 4, 355)), (341, (.pop, 0, 0, 0)), (342, (.aload_n 2, 0, 0, 0)), (343, (.invokevirtual 49, 102, 4, 767)), (346, (.pop, 0, 0, 0)), (347, (.goto 424, 771, 0, 0)), (350, (.aload_n 1, 0, 0, 0)), (351, (.aload_n 0, 0, 0, 0)), (352, (.iload 4, 0, 0, 0)), (354, (.iconst 1, 0, 0, 0)), (355, (.iadd, 0, 0, 0)), (356, (.iaload, 0, 0, 0)), (357, (.invokevirtual 50, 50, 4, 482)), (360, (.pop, 0, 0, 0)), (361, (.aload_n 2, 0, 0, 0)), (362, (.aload_n 0, 0, 0, 0)), (363, (.iload 4, 0, 0, 0)), (365, (.iconst 1, 0, 0, 0)), (366, (.iadd, 0, 0, 0)), (367, (.iaload, 0, 0, 0)), (368, (.invokevirtual 54, 104, 4, 869)), (371, (.pop, 0, 0, 0)), (372, (.goto 399, 771, 0, 0)), (375, (.aload_n 1, 0, 0, 0)), (376, (.aload_n 0, 0, 0, 0)), (377, (.iload 4, 0, 0, 0)), (379, (.iconst 1, 0, 0, 0)), (380, (.iadd, 0, 0, 0)), (381, (.iaload, 0, 0, 0)), (382, (.aload_n 0, 0, 0, 0)), (383, (.iload 4, 0, 0, 0)), (385, (.iconst 2, 0, 0, 0)), (386, (.iadd, 0, 0, 0)), (387, (.iaload, 0, 0, 0)), (388, (.invokevirtual 55, 51, 4, 487)), (391, (.pop, 0, 0, 0)), (392, (.aload_n 2, 0, 0, 0)), (393, (.aload_n 0, 0, 0, 0)), (394, (.iload 4, 0, 0, 0)), (396, (.iconst 1, 0, 0, 0)), (397, (.iadd, 0, 0, 0)), (398, (.iaload, 0, 0, 0)), (399, (.aload_n 0, 0, 0, 0)), (400, (.iload 4, 0, 0, 0)), (402, (.iconst 2, 0, 0, 0)), (403, (.iadd, 0, 0, 0)), (404, (.iaload, 0, 0, 0)), (405, (.invokevirtual 59, 112, 4, 899)), (408, (.pop, 0, 0, 0)), (409, (.goto 362, 771, 0, 0)), (412, (.aload_n 1, 0, 0, 0)), (413, (.aload_n 0, 0, 0, 0)), (414, (.iload 4, 0, 0, 0)), (416, (.iconst 1, 0, 0, 0)), (417, (.iadd, 0, 0, 0)), (418, (.iaload, 0, 0, 0)), (419, (.invokevirtual 60, 52, 4, 500)), (422, (.pop, 0, 0, 0)), (423, (.aload_n 2, 0, 0, 0)), (424, (.aload_n 0, 0, 0, 0)), (425, (.iload 4, 0, 0, 0)), (427, (.iconst 1, 0, 0, 0)), (428, (.iadd, 0, 0, 0)), (429, (.iaload, 0, 0, 0)), (430, (.invokevirtual 63, 113, 4, 911)), (433, (.pop, 0, 0, 0)), (434, (.goto 337, 771, 0, 0)), (437, (.aload_n 1, 0, 0, 0)), (438, (.aload_n 0, 0, 0, 0)), (439, (.iload 4, 0, 0, 0)), (441, (.iconst 1, 0, 0, 0)), (442, (.iadd, 0, 0, 0)), (443, (.iaload, 0, 0, 0)), (444, (.aload_n 0, 0, 0, 0)), (445, (.iload 4, 0, 0, 0)), (447, (.iconst 2, 0, 0, 0)), (448, (.iadd, 0, 0, 0)), (449, (.iaload, 0, 0, 0)), (450, (.aload_n 0, 0, 0, 0)), (451, (.iload 4, 0, 0, 0)), (453, (.iconst 3, 0, 0, 0)), (454, (.iadd, 0, 0, 0)), (455, (.iaload, 0, 0, 0)), (456, (.invokevirtual 64, 53, 4, 508)), (459, (.pop2, 0, 0, 0)), (460, (.aload_n 2, 0, 0, 0)), (461, (.aload_n 0, 0, 0, 0)), (462, (.iload 4, 0, 0, 0)), (464, (.iconst 1, 0, 0, 0)), (465, (.iadd, 0, 0, 0)), (466, (.iaload, 0, 0, 0)), (467, (.aload_n 0, 0, 0, 0)), (468, (.iload 4, 0, 0, 0)), (470, (.iconst 2, 0, 0, 0)), (471, (.iadd, 0, 0, 0)), (472, (.iaload, 0, 0, 0)), (473, (.aload_n 0, 0, 0, 0)), (474, (.iload 4, 0, 0, 0)), (476, (.iconst 3, 0, 0, 0)), (477, (.iadd, 0, 0, 0)), (478, (.iaload, 0, 0, 0)), (479, (.invokevirtual 68, 115, 4, 915)), (482, (.pop2, 0, 0, 0)), (483, (.goto 288, 771, 0, 0)), (486, (.aload_n 1, 0, 0, 0)), (487, (.aload_n 0, 0, 0, 0)), (488, (.iload 4, 0, 0, 0)), (490, (.iconst 1, 0, 0, 0)), (491, (.iadd, 0, 0, 0)), (492, (.iaload, 0, 0, 0)), (493, (.aload_n 0, 0, 0, 0)), (494, (.iload 4, 0, 0, 0)), (496, (.iconst 2, 0, 0, 0)), (497, (.iadd, 0, 0, 0)), (498, (.iaload, 0, 0, 0)), (499, (.aload_n 0, 0, 0, 0)), (500, (.iload 4, 0, 0, 0)), (502, (.iconst 3, 0, 0, 0)), (503, (.iadd, 0, 0, 0)), (504, (.iaload, 0, 0, 0)), (505, (.invokevirtual 69, 54, 4, 524)), (508, (.pop, 0, 0, 0)), (509, (.aload_n 2, 0, 0, 0)), (510, (.aload_n 0, 0, 0, 0)), (511, (.iload 4, 0, 0, 0)), (513, (.iconst 1, 0, 0, 0)), (514, (.iadd, 0, 0, 0)), (515, (.iaload, 0, 0, 0)), (516, (.aload_n 0, 0, 0, 0)), (517, (.iload 4, 0, 0, 0)), (519, (.iconst 2, 0, 0, 0)), (520, (.iadd, 0, 0, 0)), (521, (.iaload, 0, 0, 0)), (522, (.aload_n 0, 0, 0, 0)), (523, (.iload 4, 0, 0, 0)), (525, (.iconst 3, 0, 0, 0)), (526, (.iadd, 0, 0, 0)), (527, (.iaload, 0, 0, 0)), (528, (.invokevirtual 73, 116, 4, 923)), (531, (.pop, 0, 0, 0)), (532, (.goto 239, 771, 0, 0)), (535, (.aload_n 1, 0, 0, 0)), (536, (.aload_n 0, 0, 0, 0)), (537, (.iload 4, 0, 0, 0)), (539, (.iconst 1, 0, 0, 0)), (540, (.iadd, 0, 0, 0)), (541, (.iaload, 0, 0, 0)), (542, (.aload_n 0, 0, 0, 0)), (543, (.iload 4, 0, 0, 0)), (545, (.iconst 2, 0, 0, 0)), (546, (.iadd, 0, 0, 0)), (547, (.iaload, 0, 0, 0)), (548, (.i2l, 0, 0, 0)), (549, (.bipush 32, 0, 0, 0)), (551, (.lshl, 0, 0, 0)), (552, (.aload_n 0, 0, 0, 0)), (553, (.iload 4, 0, 0, 0)), (555, (.iconst 3, 0, 0, 0)), (556, (.iadd, 0, 0, 0)), (557, (.iaload, 0, 0, 0)), (558, (.i2l, 0, 0, 0)), (559, (.ldc2_w 34, 4294967295, 0, 951)), (562, (.land, 0, 0, 0)), (563, (.lor, 0, 0, 0)), (564, (.invokevirtual 74, 55, 4, 529)), (567, (.pop, 0, 0, 0)), (568, (.aload_n 2, 0, 0, 0)), (569, (.aload_n 0, 0, 0, 0)), (570, (.iload 4, 0, 0, 0)), (572, (.iconst 1, 0, 0, 0)), (573, (.iadd, 0, 0, 0)), (574, (.iaload, 0, 0, 0)), (575, (.aload_n 0, 0, 0, 0)), (576, (.iload 4, 0, 0, 0)), (578, (.iconst 2, 0, 0, 0)), (579, (.iadd, 0, 0, 0)), (580, (.iaload, 0, 0, 0)), (581, (.i2l, 0, 0, 0)), (582, (.bipush 32, 0, 0, 0)), (584, (.lshl, 0, 0, 0)), (585, (.aload_n 0, 0, 0, 0)), (586, (.iload 4, 0, 0, 0)), (588, (.iconst 3, 0, 0, 0)), (589, (.iadd, 0, 0, 0)), (590, (.iaload, 0, 0, 0)), (591, (.i2l, 0, 0, 0)), (592, (.ldc2_w 34, 4294967295, 0, 951)), (595, (.land, 0, 0, 0)), (596, (.lor, 0, 0, 0)), (597, (.invokevirtual 78, 117, 4, 927)), (600, (.pop, 0, 0, 0)), (601, (.goto 170, 771, 0, 0)), (604, (.aload_n 1, 0, 0, 0)), (605, (.aload_n 0, 0, 0, 0)), (606, (.iload 4, 0, 0, 0)), (608, (.iconst 1, 0, 0, 0)), (609, (.iadd, 0, 0, 0)), (610, (.iaload, 0, 0, 0)), (611, (.aload_n 0, 0, 0, 0)), (612, (.iload 4, 0, 0, 0)), (614, (.iconst 2, 0, 0, 0)), (615, (.iadd, 0, 0, 0)), (616, (.iaload, 0, 0, 0)), (617, (.invokevirtual 79, 56, 4, 533)), (620, (.aload_n 2, 0, 0, 0)), (621, (.aload_n 0, 0, 0, 0)), (622, (.iload 4, 0, 0, 0)), (624, (.iconst 1, 0, 0, 0)), (625, (.iadd, 0, 0, 0)), (626, (.iaload, 0, 0, 0)), (627, (.aload_n 0, 0, 0, 0)), (628, (.iload 4, 0, 0, 0)), (630, (.iconst 2, 0, 0, 0)), (631, (.iadd, 0, 0, 0)), (632, (.iaload, 0, 0, 0)), (633, (.invokevirtual 83, 120, 4, 931)), (636, (.lcmp, 0, 0, 0)), (637, (.ifCond .eq 134, 771, 0, 0)), (640, (.iconst 0, 0, 0, 0)), (641, (.ireturn, 0, 0, 0)), (642, (.aload_n 1, 0, 0, 0)), (643, (.aload_n 0, 0, 0, 0)), (644, (.iload 4, 0, 0, 0)), (646, (.iconst 1, 0, 0, 0)), (647, (.iadd, 0, 0, 0)), (648, (.iaload, 0, 0, 0)), (649, (.invokevirtual 84, 57, 4, 545)), (652, (.pop2, 0, 0, 0)), (653, (.aload_n 2, 0, 0, 0)), (654, (.aload_n 0, 0, 0, 0)), (655, (.iload 4, 0, 0, 0)), (657, (.iconst 1, 0, 0, 0)), (658, (.iadd, 0, 0, 0)), (659, (.iaload, 0, 0, 0)), (660, (.invokevirtual 88, 121, 4, 943)), (663, (.pop2, 0, 0, 0)), (664, (.goto 107, 771, 0, 0)), (667, (.aload_n 1, 0, 0, 0)), (668, (.aload_n 0, 0, 0, 0)), (669, (.iload 4, 0, 0, 0)), (671, (.iconst 1, 0, 0, 0)), (672, (.iadd, 0, 0, 0)), (673, (.iaload, 0, 0, 0)), (674, (.i2l, 0, 0, 0)), (675, (.bipush 32, 0, 0, 0)), (677, (.lshl, 0, 0, 0)), (678, (.aload_n 0, 0, 0, 0)), (679, (.iload 4, 0, 0, 0)), (681, (.iconst 2, 0, 0, 0)), (682, (.iadd, 0, 0, 0)), (683, (.iaload, 0, 0, 0)), (684, (.i2l, 0, 0, 0)), (685, (.ldc2_w 34, 4294967295, 0, 951)), (688, (.land, 0, 0, 0)), (689, (.lor, 0, 0, 0)), (690, (.aload_n 0, 0, 0, 0)), (691, (.iload 4, 0, 0, 0)), (693, (.iconst 3, 0, 0, 0)), (694, (.iadd, 0, 0, 0)), (695, (.iaload, 0, 0, 0)), (696, (.i2l, 0, 0, 0)), (697, (.bipush 32, 0, 0, 0)), (699, (.lshl, 0, 0, 0)), (700, (.aload_n 0, 0, 0, 0)), (701, (.iload 4, 0, 0, 0)), (703, (.iconst 4, 0, 0, 0)), (704, (.iadd, 0, 0, 0)), (705, (.iaload, 0, 0, 0)), (706, (.i2l, 0, 0, 0)), (707, (.ldc2_w 34, 4294967295, 0, 951)), (710, (.land, 0, 0, 0)), (711, (.lor, 0, 0, 0)), (712, (.aload_n 3, 0, 0, 0)), (713, (.invokestatic 89, 124, 2, 554)), (716, (.istore 5, 0, 0, 0)), (718, (.aload_n 2, 0, 0, 0)), (719, (.aload_n 0, 0, 0, 0)), (720, (.iload 4, 0, 0, 0)), (722, (.iconst 1, 0, 0, 0)), (723, (.iadd, 0, 0, 0)), (724, (.iaload, 0, 0, 0)), (725, (.i2l, 0, 0, 0)), (726, (.bipush 32, 0, 0, 0)), (728, (.lshl, 0, 0, 0)), (729, (.aload_n 0, 0, 0, 0)), (730, (.iload 4, 0, 0, 0)), (732, (.iconst 2, 0, 0, 0)), (733, (.iadd, 0, 0, 0)), (734, (.iaload, 0, 0, 0)), (735, (.i2l, 0, 0, 0)), (736, (.ldc2_w 34, 4294967295, 0, 951)), (739, (.land, 0, 0, 0)), (740, (.lor, 0, 0, 0)), (741, (.aload_n 0, 0, 0, 0)), (742, (.iload 4, 0, 0, 0)), (744, (.iconst 3, 0, 0, 0)), (745, (.iadd, 0, 0, 0)), (746, (.iaload, 0, 0, 0)), (747, (.i2l, 0, 0, 0)), (748, (.bipush 32, 0, 0, 0)), (750, (.lshl, 0, 0, 0)), (751, (.aload_n 0, 0, 0, 0)), (752, (.iload 4, 0, 0, 0)), (754, (.iconst 4, 0, 0, 0)), (755, (.iadd, 0, 0, 0)), (756, (.iaload, 0, 0, 0)), (757, (.i2l, 0, 0, 0)), (758, (.ldc2_w 34, 4294967295, 0, 951)), (761, (.land, 0, 0, 0)), (762, (.lor, 0, 0, 0)), (763, (.invokevirtual 94, 122, 4, 947)), (766, (.lstore 6, 0, 0, 0)), (768, (.goto 3, 771, 0, 0)), (771, (.iinc 4 5, 0, 0, 0)), (774, (.goto (-751), 23, 0, 0)), (777, (.iconst 1, 0, 0, 0)), (778, (.ireturn, 0, 0, 0))]
/-- TriangleSets$Places.<init>.()V -/
def vm_t1 : List (Nat × (Jvm.ClassFile.Instr × Nat × Nat × Nat)) := [(0, (.aload_n 0, 0, 0, 0)), (1, (.invokespecial 3, 0, 8, 79)), (4, (.aload_n 0, 0, 0, 0)), (5, (.bipush 8, 0, 0, 0)), (7, (.newarray .boolean, 0, 0, 0)), (9, (.putfield 9, 0, 1, 82)), (12, (.aload_n 0, 0, 0, 0)), (13, (.bipush 8, 0, 0, 0)), (15, (.newarray .long, 0, 0, 0)), (17, (.putfield 15, 0, 2, 83)), (20, (.aload_n 0, 0, 0, 0)), (21, (.bipush 8, 0, 0, 0)), (23, (.newarray .int, 0, 0, 0)), (25, (.putfield 19, 0, 3, 85)), (28, (.return_, 0, 0, 0))]
/-- TriangleSets$Places.has.(I)Z -/
def vm_t2 : List (Nat × (Jvm.ClassFile.Instr × Nat × Nat × Nat)) := [(0, (.iload_n 1, 0, 0, 0)), (1, (.ifCond .lt 15, 16, 0, 0)), (4, (.iload_n 1, 0, 0, 0)), (5, (.aload_n 0, 0, 0, 0)), (6, (.getfield 23, 0, 0, 80)), (9, (.if_icmp .ge 7, 16, 0, 0)), (12, (.iconst 1, 0, 0, 0)), (13, (.goto 4, 17, 0, 0)), (16, (.iconst 0, 0, 0, 0)), (17, (.ireturn, 0, 0, 0))]
/-- TriangleSets$Places.append.(Z)I -/
def vm_t3 : List (Nat × (Jvm.ClassFile.Instr × Nat × Nat × Nat)) := [(0, (.aload_n 0, 0, 0, 0)), (1, (.getfield 23, 0, 0, 80)), (4, (.bipush 8, 0, 0, 0)), (6, (.if_icmp .lt 5, 11, 0, 0)), (9, (.iconst (-1), 0, 0, 0)), (10, (.ireturn, 0, 0, 0)), (11, (.aload_n 0, 0, 0, 0)), (12, (.getfield 9, 0, 1, 82)), (15, (.aload_n 0, 0, 0, 0)), (16, (.getfield 23, 0, 0, 80)), (19, (.iload_n 1, 0, 0, 0)), (20, (.bastore, 0, 0, 0)), (21, (.aload_n 0, 0, 0, 0)), (22, (.getfield 19, 0, 3, 85)), (25, (.aload_n 0, 0, 0, 0)), (26, (.getfield 23, 0, 0, 80)), (29, (.aload_n 0, 0, 0, 0)), (30, (.getfield 23, 0, 0, 80)), (33, (.iastore, 0, 0, 0)), (34, (.aload_n 0, 0, 0, 0)), (35, (.dup, 0, 0, 0)), (36, (.getfield 23, 0, 0, 80)), (39, (.iconst 1, 0, 0, 0)), (40, (.iadd, 0, 0, 0)), (41, (.putfield 23, 0, 0, 80)), (44, (.aload_n 0, 0, 0, 0)), (45, (.getfield 23, 0, 0, 80)), (48, (.iconst 1, 0, 0, 0)), (49, (.isub, 0, 0, 0)), (50, (.ireturn, 0, 0, 0))]
/-- TriangleSets$Places.variableAt.(I)I -/
def vm_t4 : List (Nat × (Jvm.ClassFile.Instr × Nat × Nat × Nat)) := [(0, (.aload_n 0, 0, 0, 0)), (1, (.iload_n 1, 0, 0, 0)), (2, (.invokevirtual 27, 2, 4, 499)), (5, (.ifCond .eq 12, 17, 0, 0)), (8, (.aload_n 0, 0, 0, 0)), (9, (.getfield 19, 0, 3, 85)), (12, (.iload_n 1, 0, 0, 0)), (13, (.iaload, 0, 0, 0)), (14, (.goto 4, 18, 0, 0)), (17, (.iconst (-1), 0, 0, 0)), (18, (.ireturn, 0, 0, 0))]
/-- TriangleSets$Places.placeOf.(I)I -/
def vm_t5 : List (Nat × (Jvm.ClassFile.Instr × Nat × Nat × Nat)) := [(0, (.iconst 0, 0, 0, 0)), (1, (.istore_n 2, 0, 0, 0)), (2, (.iload_n 2, 0, 0, 0)), (3, (.aload_n 0, 0, 0, 0)), (4, (.getfield 23, 0, 0, 80)), (7, (.if_icmp .ge 21, 28, 0, 0)), (10, (.aload_n 0, 0, 0, 0)), (11, (.getfield 19, 0, 3, 85)), (14, (.iload_n 2, 0, 0, 0)), (15, (.iaload, 0, 0, 0)), (16, (.iload_n 1, 0, 0, 0)), (17, (.if_icmp .ne 5, 22, 0, 0)), (20, (.iload_n 2, 0, 0, 0)), (21, (.ireturn, 0, 0, 0)), (22, (.iinc 2 1, 0, 0, 0)), (25, (.goto (-23), 2, 0, 0)), (28, (.iconst (-1), 0, 0, 0)), (29, (.ireturn, 0, 0, 0))]
/-- TriangleSets$Places.move.(II)V -/
def vm_t6 : List (Nat × (Jvm.ClassFile.Instr × Nat × Nat × Nat)) := [(0, (.aload_n 0, 0, 0, 0)), (1, (.getfield 19, 0, 3, 85)), (4, (.iload_n 1, 0, 0, 0)), (5, (.iaload, 0, 0, 0)), (6, (.istore_n 3, 0, 0, 0)), (7, (.iload_n 1, 0, 0, 0)), (8, (.istore 4, 0, 0, 0)), (10, (.iload 4, 0, 0, 0)), (12, (.iload_n 2, 0, 0, 0)), (13, (.if_icmp .ge 25, 38, 0, 0)), (16, (.aload_n 0, 0, 0, 0)), (17, (.getfield 19, 0, 3, 85)), (20, (.iload 4, 0, 0, 0)), (22, (.aload_n 0, 0, 0, 0)), (23, (.getfield 19, 0, 3, 85)), (26, (.iload 4, 0, 0, 0)), (28, (.iconst 1, 0, 0, 0)), (29, (.iadd, 0, 0, 0)), (30, (.iaload, 0, 0, 0)), (31, (.iastore, 0, 0, 0)), (32, (.iinc 4 1, 0, 0, 0)), (35, (.goto (-25), 10, 0, 0)), (38, (.iload_n 1, 0, 0, 0)), (39, (.istore 4, 0, 0, 0)), (41, (.iload 4, 0, 0, 0)), (43, (.iload_n 2, 0, 0, 0)), (44, (.if_icmp .le 25, 69, 0, 0)), (47, (.aload_n 0, 0, 0, 0)), (48, (.getfield 19, 0, 3, 85)), (51, (.iload 4, 0, 0, 0)), (53, (.aload_n 0, 0, 0, 0)), (54, (.getfield 19, 0, 3, 85)), (57, (.iload 4, 0, 0, 0)), (59, (.iconst 1, 0, 0, 0)), (60, (.isub, 0, 0, 0)), (61, (.iaload, 0, 0, 0)), (62, (.iastore, 0, 0, 0)), (63, (.iinc 4 (-1), 0, 0, 0)), (66, (.goto (-25), 41, 0, 0)), (69, (.aload_n 0, 0, 0, 0)), (70, (.getfield 19, 0, 3, 85)), (73, (.iload_n 2, 0, 0, 0)), (74, (.iload_n 3, 0, 0, 0)), (75, (.iastore, 0, 0, 0)), (76, (.return_, 0, 0, 0))]
/-- TriangleSets$Places.haveAllOf.(I)Z -/
def vm_t7 : List (Nat × (Jvm.ClassFile.Instr × Nat × Nat × Nat)) := [(0, (.aload_n 0, 0, 0, 0)), (1, (.getfield 23, 0, 0, 80)), (4, (.bipush 8, 0, 0, 0)), (6, (.if_icmp .ge 14, 20, 0, 0)), (9, (.iload_n 1, 0, 0, 0)), (10, (.iconst 4, 0, 0, 0)), (11, (.aload_n 0, 0, 0, 0)), (12, (.getfield 23, 0, 0, 80)), (15, (.imul, 0, 0, 0)), (16, (.iushr, 0, 0, 0)), (17, (.ifCond .ne 7, 24, 0, 0)), (20, (.iconst 1, 0, 0, 0)), (21, (.goto 4, 25, 0, 0)), (24, (.iconst 0, 0, 0, 0)), (25, (.ireturn, 0, 0, 0))]
/-- TriangleSets$Places.keyOf.(I)J -/
def vm_t8 : List (Nat × (Jvm.ClassFile.Instr × Nat × Nat × Nat)) := [(0, (.lconst 0, 0, 0, 0)), (1, (.lstore_n 2, 0, 0, 0)), (2, (.iconst 0, 0, 0, 0)), (3, (.istore 4, 0, 0, 0)), (5, (.iload 4, 0, 0, 0)), (7, (.aload_n 0, 0, 0, 0)), (8, (.getfield 23, 0, 0, 80)), (11, (.if_icmp .ge 37, 48, 0, 0)), (14, (.iload_n 1, 0, 0, 0)), (15, (.iconst 4, 0, 0, 0)), (16, (.aload_n 0, 0, 0, 0)), (17, (.getfield 19, 0, 3, 85)), (20, (.iload 4, 0, 0, 0)), (22, (.iaload, 0, 0, 0)), (23, (.imul, 0, 0, 0)), (24, (.iushr, 0, 0, 0)), (25, (.bipush 15, 0, 0, 0)), (27, (.iand, 0, 0, 0)), (28, (.i2l, 0, 0, 0)), (29, (.lstore 5, 0, 0, 0)), (31, (.lload_n 2, 0, 0, 0)), (32, (.lload 5, 0, 0, 0)), (34, (.bipush 8, 0, 0, 0)), (36, (.iload 4, 0, 0, 0)), (38, (.imul, 0, 0, 0)), (39, (.lshl, 0, 0, 0)), (40, (.lor, 0, 0, 0)), (41, (.lstore_n 2, 0, 0, 0)), (42, (.iinc 4 1, 0, 0, 0)), (45, (.goto (-40), 5, 0, 0)), (48, (.lload_n 2, 0, 0, 0)), (49, (.lreturn, 0, 0, 0))]
/-- TriangleSets$Places.powersOf.(J)I -/
def vm_t9 : List (Nat × (Jvm.ClassFile.Instr × Nat × Nat × Nat)) := [(0, (.iconst 0, 0, 0, 0)), (1, (.istore_n 3, 0, 0, 0)), (2, (.iconst 0, 0, 0, 0)), (3, (.istore 4, 0, 0, 0)), (5, (.iload 4, 0, 0, 0)), (7, (.aload_n 0, 0, 0, 0)), (8, (.getfield 23, 0, 0, 80)), (11, (.if_icmp .ge 28, 39, 0, 0)), (14, (.iload_n 3, 0, 0, 0)), (15, (.lload_n 1, 0, 0, 0)), (16, (.iload 4, 0, 0, 0)), (18, (.invokestatic 31, 73, 3, 293)), (21, (.iconst 4, 0, 0, 0)), (22, (.aload_n 0, 0, 0, 0)), (23, (.getfield 19, 0, 3, 85)), (26, (.iload 4, 0, 0, 0)), (28, (.iaload, 0, 0, 0)), (29, (.imul, 0, 0, 0)), (30, (.ishl, 0, 0, 0)), (31, (.ior, 0, 0, 0)), (32, (.istore_n 3, 0, 0, 0)), (33, (.iinc 4 1, 0, 0, 0)), (36, (.goto (-31), 5, 0, 0)), (39, (.iload_n 3, 0, 0, 0)), (40, (.ireturn, 0, 0, 0))]
/-- TriangleSets$Places.keysToPowers.(LTriangleSets$Polynomial;)V -/
def vm_t10 : List (Nat × (Jvm.ClassFile.Instr × Nat × Nat × Nat)) := [(0, (.iconst 0, 0, 0, 0)), (1, (.istore_n 2, 0, 0, 0)), (2, (.iload_n 2, 0, 0, 0)), (3, (.aload_n 1, 0, 0, 0)), (4, (.getfield 35, 1, 2, 118)), (7, (.if_icmp .ge 26, 33, 0, 0)), (10, (.aload_n 1, 0, 0, 0)), (11, (.getfield 38, 1, 0, 107)), (14, (.iload_n 2, 0, 0, 0)), (15, (.aload_n 0, 0, 0, 0)), (16, (.aload_n 1, 0, 0, 0)), (17, (.getfield 38, 1, 0, 107)), (20, (.iload_n 2, 0, 0, 0)), (21, (.laload, 0, 0, 0)), (22, (.invokevirtual 41, 9, 4, 289)), (25, (.i2l, 0, 0, 0)), (26, (.lastore, 0, 0, 0)), (27, (.iinc 2 1, 0, 0, 0)), (30, (.goto (-28), 2, 0, 0)), (33, (.return_, 0, 0, 0))]
/-- TriangleSets$Places.powersToKeys.(LTriangleSets$Polynomial;)V -/
def vm_t11 : List (Nat × (Jvm.ClassFile.Instr × Nat × Nat × Nat)) := [(0, (.iconst 0, 0, 0, 0)), (1, (.istore_n 2, 0, 0, 0)), (2, (.iload_n 2, 0, 0, 0)), (3, (.aload_n 1, 0, 0, 0)), (4, (.getfield 35, 1, 2, 118)), (7, (.if_icmp .ge 26, 33, 0, 0)), (10, (.aload_n 1, 0, 0, 0)), (11, (.getfield 38, 1, 0, 107)), (14, (.iload_n 2, 0, 0, 0)), (15, (.aload_n 0, 0, 0, 0)), (16, (.aload_n 1, 0, 0, 0)), (17, (.getfield 38, 1, 0, 107)), (20, (.iload_n 2, 0, 0, 0)), (21, (.laload, 0, 0, 0)), (22, (.l2i, 0, 0, 0)), (23, (.invokevirtual 45, 8, 4, 304)), (26, (.lastore, 0, 0, 0)), (27, (.iinc 2 1, 0, 0, 0)), (30, (.goto (-28), 2, 0, 0)), (33, (.aload_n 1, 0, 0, 0)), (34, (.invokevirtual 49, 27, 4, 308)), (37, (.return_, 0, 0, 0))]
/-- TriangleSets$Places.mainPlace.(LTriangleSets$Polynomial;)I -/
def vm_t12 : List (Nat × (Jvm.ClassFile.Instr × Nat × Nat × Nat)) := [(0, (.aload_n 0, 0, 0, 0)), (1, (.getfield 23, 0, 0, 80)), (4, (.iconst 1, 0, 0, 0)), (5, (.isub, 0, 0, 0)), (6, (.istore_n 2, 0, 0, 0)), (7, (.iload_n 2, 0, 0, 0)), (8, (.ifCond .lt 33, 41, 0, 0)), (11, (.aload_n 0, 0, 0, 0)), (12, (.getfield 9, 0, 1, 82)), (15, (.aload_n 0, 0, 0, 0)), (16, (.getfield 19, 0, 3, 85)), (19, (.iload_n 2, 0, 0, 0)), (20, (.iaload, 0, 0, 0)), (21, (.baload, 0, 0, 0)), (22, (.ifCond .ne 13, 35, 0, 0)), (25, (.aload_n 1, 0, 0, 0)), (26, (.iload_n 2, 0, 0, 0)), (27, (.invokevirtual 52, 22, 4, 393)), (30, (.ifCond .le 5, 35, 0, 0)), (33, (.iload_n 2, 0, 0, 0)), (34, (.ireturn, 0, 0, 0)), (35, (.iinc 2 (-1), 0, 0, 0)), (38, (.goto (-31), 7, 0, 0)), (41, (.iconst (-1), 0, 0, 0)), (42, (.ireturn, 0, 0, 0))]
/-- TriangleSets$Places.valueOf.(LTriangleSets$Polynomial;)J -/
def vm_t13 : List (Nat × (Jvm.ClassFile.Instr × Nat × Nat × Nat)) := [(0, (.lconst 0, 0, 0, 0)), (1, (.lstore_n 2, 0, 0, 0)), (2, (.iconst 0, 0, 0, 0)), (3, (.istore 4, 0, 0, 0)), (5, (.iload 4, 0, 0, 0)), (7, (.aload_n 1, 0, 0, 0)), (8, (.getfield 35, 1, 2, 118)), (11, (.if_icmp .ge 31, 42, 0, 0)), (14, (.lload_n 2, 0, 0, 0)), (15, (.aload_n 1, 0, 0, 0)), (16, (.getfield 56, 1, 1, 112)), (19, (.iload 4, 0, 0, 0)), (21, (.laload, 0, 0, 0)), (22, (.aload_n 0, 0, 0, 0)), (23, (.aload_n 1, 0, 0, 0)), (24, (.getfield 38, 1, 0, 107)), (27, (.iload 4, 0, 0, 0)), (29, (.laload, 0, 0, 0)), (30, (.invokevirtual 59, 15, 4, 541)), (33, (.lmul, 0, 0, 0)), (34, (.ladd, 0, 0, 0)), (35, (.lstore_n 2, 0, 0, 0)), (36, (.iinc 4 1, 0, 0, 0)), (39, (.goto (-34), 5, 0, 0)), (42, (.lload_n 2, 0, 0, 0)), (43, (.lreturn, 0, 0, 0))]
/-- TriangleSets$Places.valueOfLead.(LTriangleSets$Polynomial;III)J -/
def vm_t14 : List (Nat × (Jvm.ClassFile.Instr × Nat × Nat × Nat)) := [(0, (.iload 4, 0, 0, 0)), (2, (.i2l, 0, 0, 0)), (3, (.bipush 8, 0, 0, 0)), (5, (.iload_n 2, 0, 0, 0)), (6, (.imul, 0, 0, 0)), (7, (.lshl, 0, 0, 0)), (8, (.lstore 5, 0, 0, 0)), (10, (.lconst 0, 0, 0, 0)), (11, (.lstore 7, 0, 0, 0)), (13, (.iconst 0, 0, 0, 0)), (14, (.istore 9, 0, 0, 0)), (16, (.iload 9, 0, 0, 0)), (18, (.aload_n 1, 0, 0, 0)), (19, (.getfield 35, 1, 2, 118)), (22, (.if_icmp .ge 51, 73, 0, 0)), (25, (.aload_n 1, 0, 0, 0)), (26, (.getfield 38, 1, 0, 107)), (29, (.iload 9, 0, 0, 0)), (31, (.laload, 0, 0, 0)), (32, (.iload_n 2, 0, 0, 0)), (33, (.invokestatic 31, 73, 3, 293)), (36, (.iload_n 3, 0, 0, 0)), (37, (.if_icmp .ne 30, 67, 0, 0)), (40, (.lload 7, 0, 0, 0)), (42, (.aload_n 1, 0, 0, 0)), (43, (.getfield 56, 1, 1, 112)), (46, (.iload 9, 0, 0, 0)), (48, (.laload, 0, 0, 0)), (49, (.aload_n 0, 0, 0, 0)), (50, (.aload_n 1, 0, 0, 0)), (51, (.getfield 38, 1, 0, 107)), (54, (.iload 9, 0, 0, 0)), (56, (.laload, 0, 0, 0)), (57, (.lload 5, 0, 0, 0)), (59, (.lsub, 0, 0, 0)), (60, (.invokevirtual 59, 15, 4, 541)), (63, (.lmul, 0, 0, 0)), (64, (.ladd, 0, 0, 0)), (65, (.lstore 7, 0, 0, 0)), (67, (.iinc 9 1, 0, 0, 0)), (70, (.goto (-54), 16, 0, 0)), (73, (.lload 7, 0, 0, 0)), (75, (.lreturn, 0, 0, 0))]
/-- TriangleSets$Places.valueOfKey.(J)J -/
def vm_t15 : List (Nat × (Jvm.ClassFile.Instr × Nat × Nat × Nat)) := [(0, (.lconst 1, 0, 0, 0)), (1, (.lstore_n 3, 0, 0, 0)), (2, (.iconst 0, 0, 0, 0)), (3, (.istore 5, 0, 0, 0)), (5, (.iload 5, 0, 0, 0)), (7, (.aload_n 0, 0, 0, 0)), (8, (.getfield 23, 0, 0, 80)), (11, (.if_icmp .ge 48, 59, 0, 0)), (14, (.lload_n 1, 0, 0, 0)), (15, (.iload 5, 0, 0, 0)), (17, (.invokestatic 31, 73, 3, 293)), (20, (.istore 6, 0, 0, 0)), (22, (.iconst 0, 0, 0, 0)), (23, (.istore 7, 0, 0, 0)), (25, (.iload 7, 0, 0, 0)), (27, (.iload 6, 0, 0, 0)), (29, (.if_icmp .ge 24, 53, 0, 0)), (32, (.lload_n 3, 0, 0, 0)), (33, (.aload_n 0, 0, 0, 0)), (34, (.getfield 15, 0, 2, 83)), (37, (.aload_n 0, 0, 0, 0)), (38, (.getfield 19, 0, 3, 85)), (41, (.iload 5, 0, 0, 0)), (43, (.iaload, 0, 0, 0)), (44, (.laload, 0, 0, 0)), (45, (.lmul, 0, 0, 0)), (46, (.lstore_n 3, 0, 0, 0)), (47, (.iinc 7 1, 0, 0, 0)), (50, (.goto (-25), 25, 0, 0)), (53, (.iinc 5 1, 0, 0, 0)), (56, (.goto (-51), 5, 0, 0)), (59, (.lload_n 3, 0, 0, 0)), (60, (.lreturn, 0, 0, 0))]
/-- TriangleSets$Polynomial.<init>.()V -/
def vm_t16 : List (Nat × (Jvm.ClassFile.Instr × Nat × Nat × Nat)) := [(0, (.aload_n 0, 0, 0, 0)), (1, (.invokespecial 3, 0, 8, 104)), (4, (.aload_n 0, 0, 0, 0)), (5, (.bipush 60, 0, 0, 0)), (7, (.newarray .long, 0, 0, 0)), (9, (.putfield 9, 1, 0, 105)), (12, (.aload_n 0, 0, 0, 0)), (13, (.bipush 60, 0, 0, 0)), (15, (.newarray .long, 0, 0, 0)), (17, (.putfield 15, 1, 1, 109)), (20, (.return_, 0, 0, 0))]
/-- TriangleSets$Polynomial.clear.()V -/
def vm_t17 : List (Nat × (Jvm.ClassFile.Instr × Nat × Nat × Nat)) := [(0, (.aload_n 0, 0, 0, 0)), (1, (.iconst 0, 0, 0, 0)), (2, (.putfield 18, 1, 2, 113)), (5, (.return_, 0, 0, 0))]
/-- TriangleSets$Polynomial.hasTerm.(I)Z -/
def vm_t18 : List (Nat × (Jvm.ClassFile.Instr × Nat × Nat × Nat)) := [(0, (.iload_n 1, 0, 0, 0)), (1, (.ifCond .lt 15, 16, 0, 0)), (4, (.iload_n 1, 0, 0, 0)), (5, (.aload_n 0, 0, 0, 0)), (6, (.getfield 18, 1, 2, 113)), (9, (.if_icmp .ge 7, 16, 0, 0)), (12, (.iconst 1, 0, 0, 0)), (13, (.goto 4, 17, 0, 0)), (16, (.iconst 0, 0, 0, 0)), (17, (.ireturn, 0, 0, 0))]
/-- TriangleSets$Polynomial.copy.(LTriangleSets$Polynomial;)V -/
def vm_t19 : List (Nat × (Jvm.ClassFile.Instr × Nat × Nat × Nat)) := [(0, (.aload_n 1, 0, 0, 0)), (1, (.getfield 9, 1, 0, 105)), (4, (.iconst 0, 0, 0, 0)), (5, (.aload_n 0, 0, 0, 0)), (6, (.getfield 9, 1, 0, 105)), (9, (.iconst 0, 0, 0, 0)), (10, (.aload_n 1, 0, 0, 0)), (11, (.getfield 18, 1, 2, 113)), (14, (.invokestatic 22, 9999, 9, 344)), (17, (.aload_n 1, 0, 0, 0)), (18, (.getfield 15, 1, 1, 109)), (21, (.iconst 0, 0, 0, 0)), (22, (.aload_n 0, 0, 0, 0)), (23, (.getfield 15, 1, 1, 109)), (26, (.iconst 0, 0, 0, 0)), (27, (.aload_n 1, 0, 0, 0)), (28, (.getfield 18, 1, 2, 113)), (31, (.invokestatic 22, 9999, 9, 344)), (34, (.aload_n 0, 0, 0, 0)), (35, (.aload_n 1, 0, 0, 0)), (36, (.getfield 18, 1, 2, 113)), (39, (.putfield 18, 1, 2, 113)), (42, (.return_, 0, 0, 0))]
/-- TriangleSets$Polynomial.copyInitial.(LTriangleSets$Row;)V -/
def vm_t20 : List (Nat × (Jvm.ClassFile.Instr × Nat × Nat × Nat)) := [(0, (.aload_n 1, 0, 0, 0)), (1, (.getfield 28, 2, 0, 138)), (4, (.astore_n 2, 0, 0, 0)), (5, (.aload_n 1, 0, 0, 0)), (6, (.getfield 34, 2, 2, 148)), (9, (.i2l, 0, 0, 0)), (10, (.bipush 8, 0, 0, 0)), (12, (.aload_n 1, 0, 0, 0)), (13, (.getfield 37, 2, 1, 143)), (16, (.imul, 0, 0, 0)), (17, (.lshl, 0, 0, 0)), (18, (.lstore_n 3, 0, 0, 0)), (19, (.aload_n 0, 0, 0, 0)), (20, (.iconst 0, 0, 0, 0)), (21, (.putfield 18, 1, 2, 113)), (24, (.iconst 0, 0, 0, 0)), (25, (.istore 5, 0, 0, 0)), (27, (.iload 5, 0, 0, 0)), (29, (.aload_n 2, 0, 0, 0)), (30, (.getfield 18, 1, 2, 113)), (33, (.if_icmp .ge 74, 107, 0, 0)), (36, (.aload_n 2, 0, 0, 0)), (37, (.getfield 9, 1, 0, 105)), (40, (.iload 5, 0, 0, 0)), (42, (.laload, 0, 0, 0)), (43, (.aload_n 1, 0, 0, 0)), (44, (.getfield 37, 2, 1, 143)), (47, (.invokestatic 40, 73, 3, 397)), (50, (.aload_n 1, 0, 0, 0)), (51, (.getfield 34, 2, 2, 148)), (54, (.if_icmp .ne 47, 101, 0, 0)), (57, (.aload_n 0, 0, 0, 0)), (58, (.getfield 9, 1, 0, 105)), (61, (.aload_n 0, 0, 0, 0)), (62, (.getfield 18, 1, 2, 113)), (65, (.aload_n 2, 0, 0, 0)), (66, (.getfield 9, 1, 0, 105)), (69, (.iload 5, 0, 0, 0)), (71, (.laload, 0, 0, 0)), (72, (.lload_n 3, 0, 0, 0)), (73, (.lsub, 0, 0, 0)), (74, (.lastore, 0, 0, 0)), (75, (.aload_n 0, 0, 0, 0)), (76, (.getfield 15, 1, 1, 109)), (79, (.aload_n 0, 0, 0, 0)), (80, (.getfield 18, 1, 2, 113)), (83, (.aload_n 2, 0, 0, 0)), (84, (.getfield 15, 1, 1, 109)), (87, (.iload 5, 0, 0, 0)), (89, (.laload, 0, 0, 0)), (90, (.lastore, 0, 0, 0)), (91, (.aload_n 0, 0, 0, 0)), (92, (.dup, 0, 0, 0)), (93, (.getfield 18, 1, 2, 113)), (96, (.iconst 1, 0, 0, 0)), (97, (.iadd, 0, 0, 0)), (98, (.putfield 18, 1, 2, 113)), (101, (.iinc 5 1, 0, 0, 0)), (104, (.goto (-77), 27, 0, 0)), (107, (.return_, 0, 0, 0))]
/-- TriangleSets$Polynomial.isSameAs.(LTriangleSets$Polynomial;)Z -/
def vm_t21 : List (Nat × (Jvm.ClassFile.Instr × Nat × Nat × Nat)) := [(0, (.aload_n 0, 0, 0, 0)), (1, (.getfield 18, 1, 2, 113)), (4, (.aload_n 1, 0, 0, 0)), (5, (.getfield 18, 1, 2, 113)), (8, (.if_icmp .eq 5, 13, 0, 0)), (11, (.iconst 0, 0, 0, 0)), (12, (.ireturn, 0, 0, 0)), (13, (.iconst 0, 0, 0, 0)), (14, (.istore_n 2, 0, 0, 0)), (15, (.iload_n 2, 0, 0, 0)), (16, (.aload_n 0, 0, 0, 0)), (17, (.getfield 18, 1, 2, 113)), (20, (.if_icmp .ge 43, 63, 0, 0)), (23, (.aload_n 0, 0, 0, 0)), (24, (.getfield 9, 1, 0, 105)), (27, (.iload_n 2, 0, 0, 0)), (28, (.laload, 0, 0, 0)), (29, (.aload_n 1, 0, 0, 0)), (30, (.getfield 9, 1, 0, 105)), (33, (.iload_n 2, 0, 0, 0)), (34, (.laload, 0, 0, 0)), (35, (.lcmp, 0, 0, 0)), (36, (.ifCond .ne 19, 55, 0, 0)), (39, (.aload_n 0, 0, 0, 0)), (40, (.getfield 15, 1, 1, 109)), (43, (.iload_n 2, 0, 0, 0)), (44, (.laload, 0, 0, 0)), (45, (.aload_n 1, 0, 0, 0)), (46, (.getfield 15, 1, 1, 109)), (49, (.iload_n 2, 0, 0, 0)), (50, (.laload, 0, 0, 0)), (51, (.lcmp, 0, 0, 0)), (52, (.ifCond .eq 5, 57, 0, 0)), (55, (.iconst 0, 0, 0, 0)), (56, (.ireturn, 0, 0, 0)), (57, (.iinc 2 1, 0, 0, 0)), (60, (.goto (-45), 15, 0, 0)), (63, (.iconst 1, 0, 0, 0)), (64, (.ireturn, 0, 0, 0))]
/-- TriangleSets$Polynomial.degree.(I)I -/
def vm_t22 : List (Nat × (Jvm.ClassFile.Instr × Nat × Nat × Nat)) := [(0, (.iconst 0, 0, 0, 0)), (1, (.istore_n 2, 0, 0, 0)), (2, (.iconst 0, 0, 0, 0)), (3, (.istore_n 3, 0, 0, 0)), (4, (.iload_n 3, 0, 0, 0)), (5, (.aload_n 0, 0, 0, 0)), (6, (.getfield 18, 1, 2, 113)), (9, (.if_icmp .ge 24, 33, 0, 0)), (12, (.iload_n 2, 0, 0, 0)), (13, (.aload_n 0, 0, 0, 0)), (14, (.getfield 9, 1, 0, 105)), (17, (.iload_n 3, 0, 0, 0)), (18, (.laload, 0, 0, 0)), (19, (.iload_n 1, 0, 0, 0)), (20, (.invokestatic 40, 73, 3, 397)), (23, (.invokestatic 44, 9999, 10, 398)), (26, (.istore_n 2, 0, 0, 0)), (27, (.iinc 3 1, 0, 0, 0)), (30, (.goto (-26), 4, 0, 0)), (33, (.iload_n 2, 0, 0, 0)), (34, (.ireturn, 0, 0, 0))]
/-- TriangleSets$Polynomial.add.(JJ)Z -/
def vm_t23 : List (Nat × (Jvm.ClassFile.Instr × Nat × Nat × Nat)) := [(0, (.lload_n 3, 0, 0, 0)), (1, (.ldc2_w 50, 18446744073575333888, 0, 333)), (4, (.lcmp, 0, 0, 0)), (5, (.ifCond .lt 11, 16, 0, 0)), (8, (.lload_n 3, 0, 0, 0)), (9, (.ldc2_w 52, 134217728, 0, 334)), (12, (.lcmp, 0, 0, 0)), (13, (.ifCond .le 5, 18, 0, 0)), (16, (.iconst 0, 0, 0, 0)), (17, (.ireturn, 0, 0, 0)), (18, (.iconst 0, 0, 0, 0)), (19, (.istore 5, 0, 0, 0)), (21, (.iload 5, 0, 0, 0)), (23, (.aload_n 0, 0, 0, 0)), (24, (.getfield 18, 1, 2, 113)), (27, (.if_icmp .ge 21, 48, 0, 0)), (30, (.aload_n 0, 0, 0, 0)), (31, (.getfield 9, 1, 0, 105)), (34, (.iload 5, 0, 0, 0)), (36, (.laload, 0, 0, 0)), (37, (.lload_n 1, 0, 0, 0)), (38, (.lcmp, 0, 0, 0)), (39, (.ifCond .le 9, 48, 0, 0)), (42, (.iinc 5 1, 0, 0, 0)), (45, (.goto (-24), 21, 0, 0)), (48, (.iload 5, 0, 0, 0)), (50, (.aload_n 0, 0, 0, 0)), (51, (.getfield 18, 1, 2, 113)), (54, (.if_icmp .ge 19, 73, 0, 0)), (57, (.aload_n 0, 0, 0, 0)), (58, (.getfield 9, 1, 0, 105)), (61, (.iload 5, 0, 0, 0)), (63, (.laload, 0, 0, 0)), (64, (.lload_n 1, 0, 0, 0)), (65, (.lcmp, 0, 0, 0)), (66, (.ifCond .ne 7, 73, 0, 0)), (69, (.iconst 1, 0, 0, 0)), (70, (.goto 4, 74, 0, 0)), (73, (.iconst 0, 0, 0, 0)), (74, (.istore 6, 0, 0, 0)), (76, (.iload 6, 0, 0, 0)), (78, (.ifCond .eq 15, 93, 0, 0)), (81, (.aload_n 0, 0, 0, 0)), (82, (.getfield 15, 1, 1, 109)), (85, (.iload 5, 0, 0, 0)), (87, (.laload, 0, 0, 0)), (88, (.lload_n 3, 0, 0, 0)), (89, (.ladd, 0, 0, 0)), (90, (.goto 4, 94, 0, 0)), (93, (.lload_n 3, 0, 0, 0)), (94, (.lstore 7, 0, 0, 0)), (96, (.lload 7, 0, 0, 0)), (98, (.invokestatic 54, 74, 3, 335)), (101, (.ifCond .eq 17, 118, 0, 0)), (104, (.iload 6, 0, 0, 0)), (106, (.ifCond .ne 14, 120, 0, 0)), (109, (.aload_n 0, 0, 0, 0)), (110, (.getfield 18, 1, 2, 113)), (113, (.bipush 60, 0, 0, 0)), (115, (.if_icmp .lt 5, 120, 0, 0)), (118, (.iconst 0, 0, 0, 0)), (119, (.ireturn, 0, 0, 0)), (120, (.iload 6, 0, 0, 0)), (122, (.ifCond .ne 17, 139, 0, 0)), (125, (.aload_n 0, 0, 0, 0)), (126, (.iload 5, 0, 0, 0)), (128, (.invokevirtual 58, 24, 4, 340)), (131, (.aload_n 0, 0, 0, 0)), (132, (.getfield 9, 1, 0, 105)), (135, (.iload 5, 0, 0, 0)), (137, (.lload_n 1, 0, 0, 0)), (138, (.lastore, 0, 0, 0)), (139, (.aload_n 0, 0, 0, 0)), (140, (.getfield 15, 1, 1, 109)), (143, (.iload 5, 0, 0, 0)), (145, (.lload 7, 0, 0, 0)), (147, (.lastore, 0, 0, 0)), (148, (.lload 7, 0, 0, 0)), (150, (.lconst 0, 0, 0, 0)), (151, (.lcmp, 0, 0, 0)), (152, (.ifCond .ne 9, 161, 0, 0)), (155, (.aload_n 0, 0, 0, 0)), (156, (.iload 5, 0, 0, 0)), (158, (.invokevirtual 62, 25, 4, 347)), (161, (.iconst 1, 0, 0, 0)), (162, (.ireturn, 0, 0, 0))]
/-- TriangleSets$Polynomial.openGap.(I)V -/
def vm_t24 : List (Nat × (Jvm.ClassFile.Instr × Nat × Nat × Nat)) := [(0, (.aload_n 0, 0, 0, 0)), (1, (.getfield 9, 1, 0, 105)), (4, (.iload_n 1, 0, 0, 0)), (5, (.aload_n 0, 0, 0, 0)), (6, (.getfield 9, 1, 0, 105)), (9, (.iload_n 1, 0, 0, 0)), (10, (.iconst 1, 0, 0, 0)), (11, (.iadd, 0, 0, 0)), (12, (.aload_n 0, 0, 0, 0)), (13, (.getfield 18, 1, 2, 113)), (16, (.iload_n 1, 0, 0, 0)), (17, (.isub, 0, 0, 0)), (18, (.invokestatic 22, 9999, 9, 344)), (21, (.aload_n 0, 0, 0, 0)), (22, (.getfield 15, 1, 1, 109)), (25, (.iload_n 1, 0, 0, 0)), (26, (.aload_n 0, 0, 0, 0)), (27, (.getfield 15, 1, 1, 109)), (30, (.iload_n 1, 0, 0, 0)), (31, (.iconst 1, 0, 0, 0)), (32, (.iadd, 0, 0, 0)), (33, (.aload_n 0, 0, 0, 0)), (34, (.getfield 18, 1, 2, 113)), (37, (.iload_n 1, 0, 0, 0)), (38, (.isub, 0, 0, 0)), (39, (.invokestatic 22, 9999, 9, 344)), (42, (.aload_n 0, 0, 0, 0)), (43, (.dup, 0, 0, 0)), (44, (.getfield 18, 1, 2, 113)), (47, (.iconst 1, 0, 0, 0)), (48, (.iadd, 0, 0, 0)), (49, (.putfield 18, 1, 2, 113)), (52, (.return_, 0, 0, 0))]
/-- TriangleSets$Polynomial.closeGap.(I)V -/
def vm_t25 : List (Nat × (Jvm.ClassFile.Instr × Nat × Nat × Nat)) := [(0, (.aload_n 0, 0, 0, 0)), (1, (.getfield 9, 1, 0, 105)), (4, (.iload_n 1, 0, 0, 0)), (5, (.iconst 1, 0, 0, 0)), (6, (.iadd, 0, 0, 0)), (7, (.aload_n 0, 0, 0, 0)), (8, (.getfield 9, 1, 0, 105)), (11, (.iload_n 1, 0, 0, 0)), (12, (.aload_n 0, 0, 0, 0)), (13, (.getfield 18, 1, 2, 113)), (16, (.iload_n 1, 0, 0, 0)), (17, (.isub, 0, 0, 0)), (18, (.iconst 1, 0, 0, 0)), (19, (.isub, 0, 0, 0)), (20, (.invokestatic 22, 9999, 9, 344)), (23, (.aload_n 0, 0, 0, 0)), (24, (.getfield 15, 1, 1, 109)), (27, (.iload_n 1, 0, 0, 0)), (28, (.iconst 1, 0, 0, 0)), (29, (.iadd, 0, 0, 0)), (30, (.aload_n 0, 0, 0, 0)), (31, (.getfield 15, 1, 1, 109)), (34, (.iload_n 1, 0, 0, 0)), (35, (.aload_n 0, 0, 0, 0)), (36, (.getfield 18, 1, 2, 113)), (39, (.iload_n 1, 0, 0, 0)), (40, (.isub, 0, 0, 0)), (41, (.iconst 1, 0, 0, 0)), (42, (.isub, 0, 0, 0)), (43, (.invokestatic 22, 9999, 9, 344)), (46, (.aload_n 0, 0, 0, 0)), (47, (.dup, 0, 0, 0)), (48, (.getfield 18, 1, 2, 113)), (51, (.iconst 1, 0, 0, 0)), (52, (.isub, 0, 0, 0)), (53, (.putfield 18, 1, 2, 113)), (56, (.return_, 0, 0, 0))]
/-- TriangleSets$Polynomial.makePrimitive.()V -/
def vm_t26 : List (Nat × (Jvm.ClassFile.Instr × Nat × Nat × Nat)) := [(0, (.aload_n 0, 0, 0, 0)), (1, (.getfield 18, 1, 2, 113)), (4, (.ifCond .ne 4, 8, 0, 0)), (7, (.return_, 0, 0, 0)), (8, (.lconst 0, 0, 0, 0)), (9, (.lstore_n 1, 0, 0, 0)), (10, (.iconst 0, 0, 0, 0)), (11, (.istore_n 3, 0, 0, 0)), (12, (.iload_n 3, 0, 0, 0)), (13, (.aload_n 0, 0, 0, 0)), (14, (.getfield 18, 1, 2, 113)), (17, (.if_icmp .ge 23, 40, 0, 0)), (20, (.aload_n 0, 0, 0, 0)), (21, (.getfield 15, 1, 1, 109)), (24, (.iload_n 3, 0, 0, 0)), (25, (.laload, 0, 0, 0)), (26, (.invokestatic 65, 9999, 12, 383)), (29, (.lload_n 1, 0, 0, 0)), (30, (.invokestatic 69, 75, 3, 386)), (33, (.lstore_n 1, 0, 0, 0)), (34, (.iinc 3 1, 0, 0, 0)), (37, (.goto (-25), 12, 0, 0)), (40, (.aload_n 0, 0, 0, 0)), (41, (.getfield 15, 1, 1, 109)), (44, (.iconst 0, 0, 0, 0)), (45, (.laload, 0, 0, 0)), (46, (.lconst 0, 0, 0, 0)), (47, (.lcmp, 0, 0, 0)), (48, (.ifCond .ge 6, 54, 0, 0)), (51, (.lload_n 1, 0, 0, 0)), (52, (.lneg, 0, 0, 0)), (53, (.lstore_n 1, 0, 0, 0)), (54, (.lload_n 1, 0, 0, 0)), (55, (.lconst 0, 0, 0, 0)), (56, (.lcmp, 0, 0, 0)), (57, (.ifCond .eq 9, 66, 0, 0)), (60, (.lload_n 1, 0, 0, 0)), (61, (.lconst 1, 0, 0, 0)), (62, (.lcmp, 0, 0, 0)), (63, (.ifCond .ne 4, 67, 0, 0)), (66, (.return_, 0, 0, 0)), (67, (.iconst 0, 0, 0, 0)), (68, (.istore_n 3, 0, 0, 0)), (69, (.iload_n 3, 0, 0, 0)), (70, (.aload_n 0, 0, 0, 0)), (71, (.getfield 18, 1, 2, 113)), (74, (.if_icmp .ge 19, 93, 0, 0)), (77, (.aload_n 0, 0, 0, 0)), (78, (.getfield 15, 1, 1, 109)), (81, (.iload_n 3, 0, 0, 0)), (82, (.dup2, 0, 0, 0)), (83, (.laload, 0, 0, 0)), (84, (.lload_n 1, 0, 0, 0)), (85, (.ldiv, 0, 0, 0)), (86, (.lastore, 0, 0, 0)), (87, (.iinc 3 1, 0, 0, 0)), (90, (.goto (-21), 69, 0, 0)), (93, (.return_, 0, 0, 0))]
/-- TriangleSets$Polynomial.sort.()V -/
def vm_t27 : List (Nat × (Jvm.ClassFile.Instr × Nat × Nat × Nat)) := [(0, (.iconst 1, 0, 0, 0)), (1, (.istore_n 1, 0, 0, 0)), (2, (.iload_n 1, 0, 0, 0)), (3, (.aload_n 0, 0, 0, 0)), (4, (.getfield 18, 1, 2, 113)), (7, (.if_icmp .ge 101, 108, 0, 0)), (10, (.aload_n 0, 0, 0, 0)), (11, (.getfield 9, 1, 0, 105)), (14, (.iload_n 1, 0, 0, 0)), (15, (.laload, 0, 0, 0)), (16, (.lstore_n 2, 0, 0, 0)), (17, (.aload_n 0, 0, 0, 0)), (18, (.getfield 15, 1, 1, 109)), (21, (.iload_n 1, 0, 0, 0)), (22, (.laload, 0, 0, 0)), (23, (.lstore 4, 0, 0, 0)), (25, (.iload_n 1, 0, 0, 0)), (26, (.istore 6, 0, 0, 0)), (28, (.iload 6, 0, 0, 0)), (30, (.ifCond .le 55, 85, 0, 0)), (33, (.aload_n 0, 0, 0, 0)), (34, (.getfield 9, 1, 0, 105)), (37, (.iload 6, 0, 0, 0)), (39, (.iconst 1, 0, 0, 0)), (40, (.isub, 0, 0, 0)), (41, (.laload, 0, 0, 0)), (42, (.lload_n 2, 0, 0, 0)), (43, (.lcmp, 0, 0, 0)), (44, (.ifCond .ge 41, 85, 0, 0)), (47, (.aload_n 0, 0, 0, 0)), (48, (.getfield 9, 1, 0, 105)), (51, (.iload 6, 0, 0, 0)), (53, (.aload_n 0, 0, 0, 0)), (54, (.getfield 9, 1, 0, 105)), (57, (.iload 6, 0, 0, 0)), (59, (.iconst 1, 0, 0, 0)), (60, (.isub, 0, 0, 0)), (61, (.laload, 0, 0, 0)), (62, (.lastore, 0, 0, 0)), (63, (.aload_n 0, 0, 0, 0)), (64, (.getfield 15, 1, 1, 109)), (67, (.iload 6, 0, 0, 0)), (69, (.aload_n 0, 0, 0, 0)), (70, (.getfield 15, 1, 1, 109)), (73, (.iload 6, 0, 0, 0)), (75, (.iconst 1, 0, 0, 0)), (76, (.isub, 0, 0, 0)), (77, (.laload, 0, 0, 0)), (78, (.lastore, 0, 0, 0)), (79, (.iinc 6 (-1), 0, 0, 0)), (82, (.goto (-54), 28, 0, 0)), (85, (.aload_n 0, 0, 0, 0)), (86, (.getfield 9, 1, 0, 105)), (89, (.iload 6, 0, 0, 0)), (91, (.lload_n 2, 0, 0, 0)), (92, (.lastore, 0, 0, 0)), (93, (.aload_n 0, 0, 0, 0)), (94, (.getfield 15, 1, 1, 109)), (97, (.iload 6, 0, 0, 0)), (99, (.lload 4, 0, 0, 0)), (101, (.lastore, 0, 0, 0)), (102, (.iinc 1 1, 0, 0, 0)), (105, (.goto (-103), 2, 0, 0)), (108, (.return_, 0, 0, 0))]
/-- TriangleSets$Row.<init>.()V -/
def vm_t28 : List (Nat × (Jvm.ClassFile.Instr × Nat × Nat × Nat)) := [(0, (.aload_n 0, 0, 0, 0)), (1, (.invokespecial 3, 0, 8, 132)), (4, (.aload_n 0, 0, 0, 0)), (5, (.new 9, 1, 0, 133)), (8, (.dup, 0, 0, 0)), (9, (.invokespecial 11, 16, 7, 134)), (12, (.putfield 12, 2, 0, 135)), (15, (.aload_n 0, 0, 0, 0)), (16, (.iconst (-1), 0, 0, 0)), (17, (.putfield 18, 2, 1, 140)), (20, (.return_, 0, 0, 0))]
/-- TriangleSets$Row.take.(LTriangleSets$Polynomial;LTriangleSets$Places;)V -/
def vm_t29 : List (Nat × (Jvm.ClassFile.Instr × Nat × Nat × Nat)) := [(0, (.aload_n 0, 0, 0, 0)), (1, (.getfield 12, 2, 0, 135)), (4, (.aload_n 1, 0, 0, 0)), (5, (.invokevirtual 22, 19, 4, 375)), (8, (.aload_n 0, 0, 0, 0)), (9, (.getfield 12, 2, 0, 135)), (12, (.invokevirtual 26, 26, 4, 379)), (15, (.aload_n 0, 0, 0, 0)), (16, (.aload_n 2, 0, 0, 0)), (17, (.aload_n 0, 0, 0, 0)), (18, (.getfield 12, 2, 0, 135)), (21, (.invokevirtual 29, 12, 4, 389)), (24, (.putfield 18, 2, 1, 140)), (27, (.aload_n 0, 0, 0, 0)), (28, (.aload_n 0, 0, 0, 0)), (29, (.getfield 18, 2, 1, 140)), (32, (.iconst (-1), 0, 0, 0)), (33, (.if_icmp .ne 7, 40, 0, 0)), (36, (.iconst 0, 0, 0, 0)), (37, (.goto 14, 51, 0, 0)), (40, (.aload_n 0, 0, 0, 0)), (41, (.getfield 12, 2, 0, 135)), (44, (.aload_n 0, 0, 0, 0)), (45, (.getfield 18, 2, 1, 140)), (48, (.invokevirtual 35, 22, 4, 401)), (51, (.putfield 39, 2, 2, 146)), (54, (.return_, 0, 0, 0))]
/-- TriangleSets$Row.isLessThan.(LTriangleSets$Row;)Z -/
def vm_t30 : List (Nat × (Jvm.ClassFile.Instr × Nat × Nat × Nat)) := [(0, (.aload_n 0, 0, 0, 0)), (1, (.getfield 18, 2, 1, 140)), (4, (.aload_n 1, 0, 0, 0)), (5, (.getfield 18, 2, 1, 140)), (8, (.if_icmp .eq 20, 28, 0, 0)), (11, (.aload_n 0, 0, 0, 0)), (12, (.getfield 18, 2, 1, 140)), (15, (.aload_n 1, 0, 0, 0)), (16, (.getfield 18, 2, 1, 140)), (19, (.if_icmp .ge 7, 26, 0, 0)), (22, (.iconst 1, 0, 0, 0)), (23, (.goto 4, 27, 0, 0)), (26, (.iconst 0, 0, 0, 0)), (27, (.ireturn, 0, 0, 0)), (28, (.aload_n 0, 0, 0, 0)), (29, (.getfield 39, 2, 2, 146)), (32, (.aload_n 1, 0, 0, 0)), (33, (.getfield 39, 2, 2, 146)), (36, (.if_icmp .eq 20, 56, 0, 0)), (39, (.aload_n 0, 0, 0, 0)), (40, (.getfield 39, 2, 2, 146)), (43, (.aload_n 1, 0, 0, 0)), (44, (.getfield 39, 2, 2, 146)), (47, (.if_icmp .ge 7, 54, 0, 0)), (50, (.iconst 1, 0, 0, 0)), (51, (.goto 4, 55, 0, 0)), (54, (.iconst 0, 0, 0, 0)), (55, (.ireturn, 0, 0, 0)), (56, (.aload_n 0, 0, 0, 0)), (57, (.getfield 12, 2, 0, 135)), (60, (.getfield 41, 1, 2, 115)), (63, (.aload_n 1, 0, 0, 0)), (64, (.getfield 12, 2, 0, 135)), (67, (.getfield 41, 1, 2, 115)), (70, (.if_icmp .ge 7, 77, 0, 0)), (73, (.iconst 1, 0, 0, 0)), (74, (.goto 4, 78, 0, 0)), (77, (.iconst 0, 0, 0, 0)), (78, (.ireturn, 0, 0, 0))]
/-- TriangleSets$Stepper.<init>.()V -/
def vm_t31 : List (Nat × (Jvm.ClassFile.Instr × Nat × Nat × Nat)) := [(0, (.aload_n 0, 0, 0, 0)), (1, (.invokespecial 3, 0, 8, 178)), (4, (.aload_n 0, 0, 0, 0)), (5, (.sipush 3660, 0, 0, 0)), (8, (.newarray .long, 0, 0, 0)), (10, (.putfield 9, 3, 0, 179)), (13, (.aload_n 0, 0, 0, 0)), (14, (.sipush 3660, 0, 0, 0)), (17, (.newarray .long, 0, 0, 0)), (19, (.putfield 15, 3, 1, 180)), (22, (.aload_n 0, 0, 0, 0)), (23, (.sipush 3660, 0, 0, 0)), (26, (.newarray .long, 0, 0, 0)), (28, (.putfield 18, 3, 2, 181)), (31, (.aload_n 0, 0, 0, 0)), (32, (.sipush 3660, 0, 0, 0)), (35, (.newarray .long, 0, 0, 0)), (37, (.putfield 21, 3, 3, 182)), (40, (.return_, 0, 0, 0))]
/-- TriangleSets$Stepper.step.(LTriangleSets$Polynomial;LTriangleSets$Row;)Z -/
def vm_t32 : List (Nat × (Jvm.ClassFile.Instr × Nat × Nat × Nat)) := [(0, (.aload_n 2, 0, 0, 0)), (1, (.getfield 24, 2, 0, 136)), (4, (.astore_n 3, 0, 0, 0)), (5, (.aload_n 1, 0, 0, 0)), (6, (.aload_n 2, 0, 0, 0)), (7, (.getfield 30, 2, 1, 141)), (10, (.invokevirtual 34, 22, 4, 451)), (13, (.istore 4, 0, 0, 0)), (15, (.aload_n 2, 0, 0, 0)), (16, (.getfield 40, 2, 2, 145)), (19, (.i2l, 0, 0, 0)), (20, (.bipush 8, 0, 0, 0)), (22, (.aload_n 2, 0, 0, 0)), (23, (.getfield 30, 2, 1, 141)), (26, (.imul, 0, 0, 0)), (27, (.lshl, 0, 0, 0)), (28, (.lstore 5, 0, 0, 0)), (30, (.iconst 1, 0, 0, 0)), (31, (.istore 7, 0, 0, 0)), (33, (.aload_n 0, 0, 0, 0)), (34, (.iconst 0, 0, 0, 0)), (35, (.putfield 42, 3, 4, 183)), (38, (.iconst 0, 0, 0, 0)), (39, (.istore 8, 0, 0, 0)), (41, (.iload 8, 0, 0, 0)), (43, (.aload_n 3, 0, 0, 0)), (44, (.getfield 45, 1, 2, 114)), (47, (.if_icmp .ge 63, 110, 0, 0)), (50, (.aload_n 3, 0, 0, 0)), (51, (.getfield 46, 1, 0, 106)), (54, (.iload 8, 0, 0, 0)), (56, (.laload, 0, 0, 0)), (57, (.aload_n 2, 0, 0, 0)), (58, (.getfield 30, 2, 1, 141)), (61, (.invokestatic 47, 73, 3, 452)), (64, (.aload_n 2, 0, 0, 0)), (65, (.getfield 40, 2, 2, 145)), (68, (.if_icmp .ne 36, 104, 0, 0)), (71, (.iload 7, 0, 0, 0)), (73, (.aload_n 0, 0, 0, 0)), (74, (.aload_n 3, 0, 0, 0)), (75, (.getfield 46, 1, 0, 106)), (78, (.iload 8, 0, 0, 0)), (80, (.laload, 0, 0, 0)), (81, (.lload 5, 0, 0, 0)), (83, (.lsub, 0, 0, 0)), (84, (.aload_n 3, 0, 0, 0)), (85, (.getfield 51, 1, 1, 110)), (88, (.iload 8, 0, 0, 0)), (90, (.laload, 0, 0, 0)), (91, (.aload_n 1, 0, 0, 0)), (92, (.aload_n 2, 0, 0, 0)), (93, (.getfield 30, 2, 1, 141)), (96, (.iload 4, 0, 0, 0)), (98, (.invokevirtual 52, 33, 4, 453)), (101, (.iand, 0, 0, 0)), (102, (.istore 7, 0, 0, 0)), (104, (.iinc 8 1, 0, 0, 0)), (107, (.goto (-66), 41, 0, 0)), (110, (.iconst 0, 0, 0, 0)), (111, (.istore 8, 0, 0, 0)), (113, (.iload 8, 0, 0, 0)), (115, (.aload_n 1, 0, 0, 0)), (116, (.getfield 45, 1, 2, 114)), (119, (.if_icmp .ge 64, 183, 0, 0)), (122, (.aload_n 1, 0, 0, 0)), (123, (.getfield 46, 1, 0, 106)), (126, (.iload 8, 0, 0, 0)), (128, (.laload, 0, 0, 0)), (129, (.aload_n 2, 0, 0, 0)), (130, (.getfield 30, 2, 1, 141)), (133, (.invokestatic 47, 73, 3, 452)), (136, (.iload 4, 0, 0, 0)), (138, (.if_icmp .ne 39, 177, 0, 0)), (141, (.iload 7, 0, 0, 0)), (143, (.aload_n 0, 0, 0, 0)), (144, (.aload_n 1, 0, 0, 0)), (145, (.getfield 46, 1, 0, 106)), (148, (.iload 8, 0, 0, 0)), (150, (.laload, 0, 0, 0)), (151, (.lload 5, 0, 0, 0)), (153, (.lsub, 0, 0, 0)), (154, (.aload_n 1, 0, 0, 0)), (155, (.getfield 51, 1, 1, 110)), (158, (.iload 8, 0, 0, 0)), (160, (.laload, 0, 0, 0)), (161, (.lneg, 0, 0, 0)), (162, (.aload_n 3, 0, 0, 0)), (163, (.aload_n 2, 0, 0, 0)), (164, (.getfield 30, 2, 1, 141)), (167, (.aload_n 2, 0, 0, 0)), (168, (.getfield 40, 2, 2, 145)), (171, (.invokevirtual 52, 33, 4, 453)), (174, (.iand, 0, 0, 0)), (175, (.istore 7, 0, 0, 0)), (177, (.iinc 8 1, 0, 0, 0)), (180, (.goto (-67), 113, 0, 0)), (183, (.iload 7, 0, 0, 0)), (185, (.ifCond .eq 10, 195, 0, 0)), (188, (.aload_n 0, 0, 0, 0)), (189, (.invokevirtual 56, 35, 4, 462)), (192, (.ifCond .ne 5, 197, 0, 0)), (195, (.iconst 0, 0, 0, 0)), (196, (.ireturn, 0, 0, 0)), (197, (.aload_n 0, 0, 0, 0)), (198, (.aload_n 1, 0, 0, 0)), (199, (.invokevirtual 60, 36, 4, 468)), (202, (.iconst 1, 0, 0, 0)), (203, (.ireturn, 0, 0, 0))]
/-- TriangleSets$Stepper.addMultiple.(JJLTriangleSets$Polynomial;II)Z -/
def vm_t33 : List (Nat × (Jvm.ClassFile.Instr × Nat × Nat × Nat)) := [(0, (.aload_n 0, 0, 0, 0)), (1, (.getfield 42, 3, 4, 183)), (4, (.aload 5, 0, 0, 0)), (6, (.getfield 45, 1, 2, 114)), (9, (.iadd, 0, 0, 0)), (10, (.sipush 3660, 0, 0, 0)), (13, (.if_icmp .le 5, 18, 0, 0)), (16, (.iconst 0, 0, 0, 0)), (17, (.ireturn, 0, 0, 0)), (18, (.iconst 0, 0, 0, 0)), (19, (.istore 8, 0, 0, 0)), (21, (.iconst 0, 0, 0, 0)), (22, (.istore 9, 0, 0, 0)), (24, (.iconst 0, 0, 0, 0)), (25, (.istore 10, 0, 0, 0)), (27, (.iload 10, 0, 0, 0)), (29, (.aload 5, 0, 0, 0)), (31, (.getfield 45, 1, 2, 114)), (34, (.if_icmp .ge 178, 212, 0, 0)), (37, (.aload 5, 0, 0, 0)), (39, (.getfield 46, 1, 0, 106)), (42, (.iload 10, 0, 0, 0)), (44, (.laload, 0, 0, 0)), (45, (.iload 6, 0, 0, 0)), (47, (.invokestatic 47, 73, 3, 452)), (50, (.iload 7, 0, 0, 0)), (52, (.if_icmp .ne 6, 58, 0, 0)), (55, (.goto 151, 206, 0, 0)), (58, (.aload 5, 0, 0, 0)), (60, (.getfield 46, 1, 0, 106)), (63, (.iload 10, 0, 0, 0)), (65, (.laload, 0, 0, 0)), (66, (.lload_n 1, 0, 0, 0)), (67, (.ladd, 0, 0, 0)), (68, (.lstore 11, 0, 0, 0)), (70, (.aload 5, 0, 0, 0)), (72, (.getfield 51, 1, 1, 110)), (75, (.iload 10, 0, 0, 0)), (77, (.laload, 0, 0, 0)), (78, (.lload_n 3, 0, 0, 0)), (79, (.lmul, 0, 0, 0)), (80, (.lstore 13, 0, 0, 0)), (82, (.iload 8, 0, 0, 0)), (84, (.aload_n 0, 0, 0, 0)), (85, (.getfield 42, 3, 4, 183)), (88, (.if_icmp .ge 53, 141, 0, 0)), (91, (.aload_n 0, 0, 0, 0)), (92, (.getfield 9, 3, 0, 179)), (95, (.iload 8, 0, 0, 0)), (97, (.laload, 0, 0, 0)), (98, (.lload 11, 0, 0, 0)), (100, (.lcmp, 0, 0, 0)), (101, (.ifCond .le 40, 141, 0, 0)), (104, (.aload_n 0, 0, 0, 0)), (105, (.getfield 18, 3, 2, 181)), (108, (.iload 9, 0, 0, 0)), (110, (.aload_n 0, 0, 0, 0)), (111, (.getfield 9, 3, 0, 179)), (114, (.iload 8, 0, 0, 0)), (116, (.laload, 0, 0, 0)), (117, (.lastore, 0, 0, 0)), (118, (.aload_n 0, 0, 0, 0)), (119, (.getfield 21, 3, 3, 182)), (122, (.iload 9, 0, 0, 0)), (124, (.aload_n 0, 0, 0, 0)), (125, (.getfield 15, 3, 1, 180)), (128, (.iload 8, 0, 0, 0)), (130, (.laload, 0, 0, 0)), (131, (.lastore, 0, 0, 0)), (132, (.iinc 8 1, 0, 0, 0)), (135, (.iinc 9 1, 0, 0, 0)), (138, (.goto (-56), 82, 0, 0)), (141, (.iload 8, 0, 0, 0)), (143, (.aload_n 0, 0, 0, 0)), (144, (.getfield 42, 3, 4, 183)), (147, (.if_icmp .ge 31, 178, 0, 0)), (150, (.aload_n 0, 0, 0, 0)), (151, (.getfield 9, 3, 0, 179)), (154, (.iload 8, 0, 0, 0)), (156, (.laload, 0, 0, 0)), (157, (.lload 11, 0, 0, 0)), (159, (.lcmp, 0, 0, 0)), (160, (.ifCond .ne 18, 178, 0, 0)), (163, (.lload 13, 0, 0, 0)), (165, (.aload_n 0, 0, 0, 0)), (166, (.getfield 15, 3, 1, 180)), (169, (.iload 8, 0, 0, 0)), (171, (.laload, 0, 0, 0)), (172, (.ladd, 0, 0, 0)), (173, (.lstore 13, 0, 0, 0)), (175, (.iinc 8 1, 0, 0, 0)), (178, (.lload 13, 0, 0, 0)), (180, (.lconst 0, 0, 0, 0)), (181, (.lcmp, 0, 0, 0)), (182, (.ifCond .eq 24, 206, 0, 0)), (185, (.aload_n 0, 0, 0, 0)), (186, (.getfield 18, 3, 2, 181)), (189, (.iload 9, 0, 0, 0)), (191, (.lload 11, 0, 0, 0)), (193, (.lastore, 0, 0, 0)), (194, (.aload_n 0, 0, 0, 0)), (195, (.getfield 21, 3, 3, 182)), (198, (.iload 9, 0, 0, 0)), (200, (.lload 13, 0, 0, 0)), (202, (.lastore, 0, 0, 0)), (203, (.iinc 9 1, 0, 0, 0)), (206, (.iinc 10 1, 0, 0, 0)), (209, (.goto (-182), 27, 0, 0)), (212, (.aload_n 0, 0, 0, 0)), (213, (.getfield 9, 3, 0, 179)), (216, (.iload 8, 0, 0, 0)), (218, (.aload_n 0, 0, 0, 0)), (219, (.getfield 18, 3, 2, 181)), (222, (.iload 9, 0, 0, 0)), (224, (.aload_n 0, 0, 0, 0)), (225, (.getfield 42, 3, 4, 183)), (228, (.iload 8, 0, 0, 0)), (230, (.isub, 0, 0, 0)), (231, (.invokestatic 64, 9999, 9, 457)), (234, (.aload_n 0, 0, 0, 0)), (235, (.getfield 15, 3, 1, 180)), (238, (.iload 8, 0, 0, 0)), (240, (.aload_n 0, 0, 0, 0)), (241, (.getfield 21, 3, 3, 182)), (244, (.iload 9, 0, 0, 0)), (246, (.aload_n 0, 0, 0, 0)), (247, (.getfield 42, 3, 4, 183)), (250, (.iload 8, 0, 0, 0)), (252, (.isub, 0, 0, 0)), (253, (.invokestatic 64, 9999, 9, 457)), (256, (.aload_n 0, 0, 0, 0)), (257, (.iload 9, 0, 0, 0)), (259, (.aload_n 0, 0, 0, 0)), (260, (.getfield 42, 3, 4, 183)), (263, (.iadd, 0, 0, 0)), (264, (.iload 8, 0, 0, 0)), (266, (.isub, 0, 0, 0)), (267, (.putfield 42, 3, 4, 183)), (270, (.aload_n 0, 0, 0, 0)), (271, (.invokevirtual 70, 34, 4, 458)), (274, (.iconst 1, 0, 0, 0)), (275, (.ireturn, 0, 0, 0))]
/-- TriangleSets$Stepper.swap.()V -/
def vm_t34 : List (Nat × (Jvm.ClassFile.Instr × Nat × Nat × Nat)) := [(0, (.aload_n 0, 0, 0, 0)), (1, (.getfield 9, 3, 0, 179)), (4, (.astore_n 1, 0, 0, 0)), (5, (.aload_n 0, 0, 0, 0)), (6, (.getfield 15, 3, 1, 180)), (9, (.astore_n 2, 0, 0, 0)), (10, (.aload_n 0, 0, 0, 0)), (11, (.aload_n 0, 0, 0, 0)), (12, (.getfield 18, 3, 2, 181)), (15, (.putfield 9, 3, 0, 179)), (18, (.aload_n 0, 0, 0, 0)), (19, (.aload_n 0, 0, 0, 0)), (20, (.getfield 21, 3, 3, 182)), (23, (.putfield 15, 3, 1, 180)), (26, (.aload_n 0, 0, 0, 0)), (27, (.aload_n 1, 0, 0, 0)), (28, (.putfield 18, 3, 2, 181)), (31, (.aload_n 0, 0, 0, 0)), (32, (.aload_n 2, 0, 0, 0)), (33, (.putfield 21, 3, 3, 182)), (36, (.return_, 0, 0, 0))]
/-- TriangleSets$Stepper.isSound.()Z -/
def vm_t35 : List (Nat × (Jvm.ClassFile.Instr × Nat × Nat × Nat)) := [(0, (.aload_n 0, 0, 0, 0)), (1, (.getfield 42, 3, 4, 183)), (4, (.bipush 60, 0, 0, 0)), (6, (.if_icmp .le 5, 11, 0, 0)), (9, (.iconst 0, 0, 0, 0)), (10, (.ireturn, 0, 0, 0)), (11, (.iconst 0, 0, 0, 0)), (12, (.istore_n 1, 0, 0, 0)), (13, (.iload_n 1, 0, 0, 0)), (14, (.aload_n 0, 0, 0, 0)), (15, (.getfield 42, 3, 4, 183)), (18, (.if_icmp .ge 38, 56, 0, 0)), (21, (.aload_n 0, 0, 0, 0)), (22, (.getfield 15, 3, 1, 180)), (25, (.iload_n 1, 0, 0, 0)), (26, (.laload, 0, 0, 0)), (27, (.invokestatic 73, 74, 3, 466)), (30, (.ifCond .eq 18, 48, 0, 0)), (33, (.aload_n 0, 0, 0, 0)), (34, (.getfield 9, 3, 0, 179)), (37, (.iload_n 1, 0, 0, 0)), (38, (.laload, 0, 0, 0)), (39, (.ldc2_w 77, 17361641481138401520, 0, 467)), (42, (.land, 0, 0, 0)), (43, (.lconst 0, 0, 0, 0)), (44, (.lcmp, 0, 0, 0)), (45, (.ifCond .eq 5, 50, 0, 0)), (48, (.iconst 0, 0, 0, 0)), (49, (.ireturn, 0, 0, 0)), (50, (.iinc 1 1, 0, 0, 0)), (53, (.goto (-40), 13, 0, 0)), (56, (.iconst 1, 0, 0, 0)), (57, (.ireturn, 0, 0, 0))]
/-- TriangleSets$Stepper.store.(LTriangleSets$Polynomial;)V -/
def vm_t36 : List (Nat × (Jvm.ClassFile.Instr × Nat × Nat × Nat)) := [(0, (.aload_n 0, 0, 0, 0)), (1, (.getfield 9, 3, 0, 179)), (4, (.iconst 0, 0, 0, 0)), (5, (.aload_n 1, 0, 0, 0)), (6, (.getfield 46, 1, 0, 106)), (9, (.iconst 0, 0, 0, 0)), (10, (.aload_n 0, 0, 0, 0)), (11, (.getfield 42, 3, 4, 183)), (14, (.invokestatic 64, 9999, 9, 457)), (17, (.aload_n 0, 0, 0, 0)), (18, (.getfield 15, 3, 1, 180)), (21, (.iconst 0, 0, 0, 0)), (22, (.aload_n 1, 0, 0, 0)), (23, (.getfield 51, 1, 1, 110)), (26, (.iconst 0, 0, 0, 0)), (27, (.aload_n 0, 0, 0, 0)), (28, (.getfield 42, 3, 4, 183)), (31, (.invokestatic 64, 9999, 9, 457)), (34, (.aload_n 1, 0, 0, 0)), (35, (.aload_n 0, 0, 0, 0)), (36, (.getfield 42, 3, 4, 183)), (39, (.putfield 45, 1, 2, 114)), (42, (.return_, 0, 0, 0))]
/-- TriangleSets$Triangle.<init>.()V -/
def vm_t37 : List (Nat × (Jvm.ClassFile.Instr × Nat × Nat × Nat)) := [(0, (.aload_n 0, 0, 0, 0)), (1, (.invokespecial 3, 0, 8, 162)), (4, (.aload_n 0, 0, 0, 0)), (5, (.bipush 8, 0, 0, 0)), (7, (.anewarray 9, 4, 0, 163)), (10, (.putfield 11, 4, 0, 164)), (13, (.return_, 0, 0, 0))]
/-- TriangleSets$Triangle.takeBase.([LTriangleSets$Row;I)V -/
def vm_t38 : List (Nat × (Jvm.ClassFile.Instr × Nat × Nat × Nat)) := [(0, (.aload_n 0, 0, 0, 0)), (1, (.iconst 0, 0, 0, 0)), (2, (.putfield 17, 4, 1, 166)), (5, (.aload_n 0, 0, 0, 0)), (6, (.getfield 17, 4, 1, 166)), (9, (.bipush 8, 0, 0, 0)), (11, (.if_icmp .ge 38, 49, 0, 0)), (14, (.aload_n 0, 0, 0, 0)), (15, (.aload_n 1, 0, 0, 0)), (16, (.iload_n 2, 0, 0, 0)), (17, (.invokevirtual 21, 39, 4, 415)), (20, (.astore_n 3, 0, 0, 0)), (21, (.aload_n 3, 0, 0, 0)), (22, (.ifnonnull 4, 26, 0, 0)), (25, (.return_, 0, 0, 0)), (26, (.aload_n 0, 0, 0, 0)), (27, (.getfield 11, 4, 0, 164)), (30, (.aload_n 0, 0, 0, 0)), (31, (.getfield 17, 4, 1, 166)), (34, (.aload_n 3, 0, 0, 0)), (35, (.aastore, 0, 0, 0)), (36, (.aload_n 0, 0, 0, 0)), (37, (.dup, 0, 0, 0)), (38, (.getfield 17, 4, 1, 166)), (41, (.iconst 1, 0, 0, 0)), (42, (.iadd, 0, 0, 0)), (43, (.putfield 17, 4, 1, 166)), (46, (.goto (-41), 5, 0, 0)), (49, (.return_, 0, 0, 0))]
/-- TriangleSets$Triangle.leastThatFits.([LTriangleSets$Row;I)LTriangleSets$Row; -/
def vm_t39 : List (Nat × (Jvm.ClassFile.Instr × Nat × Nat × Nat)) := [(0, (.aconst_null, 0, 0, 0)), (1, (.astore_n 3, 0, 0, 0)), (2, (.iconst 0, 0, 0, 0)), (3, (.istore 4, 0, 0, 0)), (5, (.iload 4, 0, 0, 0)), (7, (.iload_n 2, 0, 0, 0)), (8, (.if_icmp .ge 40, 48, 0, 0)), (11, (.aload_n 0, 0, 0, 0)), (12, (.aload_n 1, 0, 0, 0)), (13, (.iload 4, 0, 0, 0)), (15, (.aaload, 0, 0, 0)), (16, (.invokevirtual 25, 40, 4, 419)), (19, (.ifCond .eq 23, 42, 0, 0)), (22, (.aload_n 3, 0, 0, 0)), (23, (.ifnull 14, 37, 0, 0)), (26, (.aload_n 1, 0, 0, 0)), (27, (.iload 4, 0, 0, 0)), (29, (.aaload, 0, 0, 0)), (30, (.aload_n 3, 0, 0, 0)), (31, (.invokevirtual 29, 30, 4, 424)), (34, (.ifCond .eq 8, 42, 0, 0)), (37, (.aload_n 1, 0, 0, 0)), (38, (.iload 4, 0, 0, 0)), (40, (.aaload, 0, 0, 0)), (41, (.astore_n 3, 0, 0, 0)), (42, (.iinc 4 1, 0, 0, 0)), (45, (.goto (-40), 5, 0, 0)), (48, (.aload_n 3, 0, 0, 0)), (49, (.areturn, 0, 0, 0))]
/-- TriangleSets$Triangle.fits.(LTriangleSets$Row;)Z -/
def vm_t40 : List (Nat × (Jvm.ClassFile.Instr × Nat × Nat × Nat)) := [(0, (.aload_n 0, 0, 0, 0)), (1, (.getfield 17, 4, 1, 166)), (4, (.ifCond .le 26, 30, 0, 0)), (7, (.aload_n 1, 0, 0, 0)), (8, (.getfield 32, 2, 1, 142)), (11, (.aload_n 0, 0, 0, 0)), (12, (.getfield 11, 4, 0, 164)), (15, (.aload_n 0, 0, 0, 0)), (16, (.getfield 17, 4, 1, 166)), (19, (.iconst 1, 0, 0, 0)), (20, (.isub, 0, 0, 0)), (21, (.aaload, 0, 0, 0)), (22, (.getfield 32, 2, 1, 142)), (25, (.if_icmp .gt 5, 30, 0, 0)), (28, (.iconst 0, 0, 0, 0)), (29, (.ireturn, 0, 0, 0)), (30, (.iconst 0, 0, 0, 0)), (31, (.istore_n 2, 0, 0, 0)), (32, (.iload_n 2, 0, 0, 0)), (33, (.aload_n 0, 0, 0, 0)), (34, (.getfield 17, 4, 1, 166)), (37, (.if_icmp .ge 39, 76, 0, 0)), (40, (.aload_n 1, 0, 0, 0)), (41, (.getfield 35, 2, 0, 137)), (44, (.aload_n 0, 0, 0, 0)), (45, (.getfield 11, 4, 0, 164)), (48, (.iload_n 2, 0, 0, 0)), (49, (.aaload, 0, 0, 0)), (50, (.getfield 32, 2, 1, 142)), (53, (.invokevirtual 39, 22, 4, 423)), (56, (.aload_n 0, 0, 0, 0)), (57, (.getfield 11, 4, 0, 164)), (60, (.iload_n 2, 0, 0, 0)), (61, (.aaload, 0, 0, 0)), (62, (.getfield 45, 2, 2, 147)), (65, (.if_icmp .lt 5, 70, 0, 0)), (68, (.iconst 0, 0, 0, 0)), (69, (.ireturn, 0, 0, 0)), (70, (.iinc 2 1, 0, 0, 0)), (73, (.goto (-41), 32, 0, 0)), (76, (.iconst 1, 0, 0, 0)), (77, (.ireturn, 0, 0, 0))]
/-- TriangleSets$Triangle.holds.(LTriangleSets$Row;)Z -/
def vm_t41 : List (Nat × (Jvm.ClassFile.Instr × Nat × Nat × Nat)) := [(0, (.iconst 0, 0, 0, 0)), (1, (.istore_n 2, 0, 0, 0)), (2, (.iload_n 2, 0, 0, 0)), (3, (.aload_n 0, 0, 0, 0)), (4, (.getfield 17, 4, 1, 166)), (7, (.if_icmp .ge 21, 28, 0, 0)), (10, (.aload_n 0, 0, 0, 0)), (11, (.getfield 11, 4, 0, 164)), (14, (.iload_n 2, 0, 0, 0)), (15, (.aaload, 0, 0, 0)), (16, (.aload_n 1, 0, 0, 0)), (17, (.if_acmp .ne 5, 22, 0, 0)), (20, (.iconst 1, 0, 0, 0)), (21, (.ireturn, 0, 0, 0)), (22, (.iinc 2 1, 0, 0, 0)), (25, (.goto (-23), 2, 0, 0)), (28, (.iconst 0, 0, 0, 0)), (29, (.ireturn, 0, 0, 0))]
/-- TriangleSets$Triangle.dueAtOrBelow.(ILTriangleSets$Polynomial;)I -/
def vm_t42 : List (Nat × (Jvm.ClassFile.Instr × Nat × Nat × Nat)) := [(0, (.aload_n 2, 0, 0, 0)), (1, (.getfield 47, 1, 2, 116)), (4, (.ifCond .eq 11, 15, 0, 0)), (7, (.iload_n 1, 0, 0, 0)), (8, (.aload_n 0, 0, 0, 0)), (9, (.getfield 17, 4, 1, 166)), (12, (.if_icmp .lt 5, 17, 0, 0)), (15, (.iconst (-1), 0, 0, 0)), (16, (.ireturn, 0, 0, 0)), (17, (.iload_n 1, 0, 0, 0)), (18, (.istore_n 3, 0, 0, 0)), (19, (.iload_n 3, 0, 0, 0)), (20, (.ifCond .lt 36, 56, 0, 0)), (23, (.aload_n 2, 0, 0, 0)), (24, (.aload_n 0, 0, 0, 0)), (25, (.getfield 11, 4, 0, 164)), (28, (.iload_n 3, 0, 0, 0)), (29, (.aaload, 0, 0, 0)), (30, (.getfield 32, 2, 1, 142)), (33, (.invokevirtual 39, 22, 4, 423)), (36, (.aload_n 0, 0, 0, 0)), (37, (.getfield 11, 4, 0, 164)), (40, (.iload_n 3, 0, 0, 0)), (41, (.aaload, 0, 0, 0)), (42, (.getfield 45, 2, 2, 147)), (45, (.if_icmp .lt 5, 50, 0, 0)), (48, (.iload_n 3, 0, 0, 0)), (49, (.ireturn, 0, 0, 0)), (50, (.iinc 3 (-1), 0, 0, 0)), (53, (.goto (-34), 19, 0, 0)), (56, (.iconst (-1), 0, 0, 0)), (57, (.ireturn, 0, 0, 0))]
/-- TriangleSets.<init>.()V -/
def vm_t43 : List (Nat × (Jvm.ClassFile.Instr × Nat × Nat × Nat)) := [(0, (.aload_n 0, 0, 0, 0)), (1, (.invokespecial 3, 0, 8, 71)), (4, (.aload_n 0, 0, 0, 0)), (5, (.new 9, 0, 0, 74)), (8, (.dup, 0, 0, 0)), (9, (.invokespecial 11, 1, 7, 76)), (12, (.putfield 12, 5, 0, 195)), (15, (.aload_n 0, 0, 0, 0)), (16, (.bipush 16, 0, 0, 0)), (18, (.anewarray 16, 3, 0, 98)), (21, (.putfield 18, 5, 1, 196)), (24, (.iconst 0, 0, 0, 0)), (25, (.istore_n 1, 0, 0, 0)), (26, (.iload_n 1, 0, 0, 0)), (27, (.bipush 16, 0, 0, 0)), (29, (.if_icmp .ge 22, 51, 0, 0)), (32, (.aload_n 0, 0, 0, 0)), (33, (.getfield 18, 5, 1, 196)), (36, (.iload_n 1, 0, 0, 0)), (37, (.new 16, 1, 0, 98)), (40, (.dup, 0, 0, 0)), (41, (.invokespecial 22, 16, 7, 101)), (44, (.aastore, 0, 0, 0)), (45, (.iinc 1 1, 0, 0, 0)), (48, (.goto (-22), 26, 0, 0)), (51, (.aload_n 0, 0, 0, 0)), (52, (.bipush 16, 0, 0, 0)), (54, (.newarray .boolean, 0, 0, 0)), (56, (.putfield 23, 5, 2, 197)), (59, (.aload_n 0, 0, 0, 0)), (60, (.bipush 40, 0, 0, 0)), (62, (.anewarray 27, 4, 0, 126)), (65, (.putfield 29, 5, 4, 199)), (68, (.iconst 0, 0, 0, 0)), (69, (.istore_n 1, 0, 0, 0)), (70, (.iload_n 1, 0, 0, 0)), (71, (.bipush 40, 0, 0, 0)), (73, (.if_icmp .ge 22, 95, 0, 0)), (76, (.aload_n 0, 0, 0, 0)), (77, (.getfield 29, 5, 4, 199)), (80, (.iload_n 1, 0, 0, 0)), (81, (.new 27, 2, 0, 126)), (84, (.dup, 0, 0, 0)), (85, (.invokespecial 33, 28, 7, 129)), (88, (.aastore, 0, 0, 0)), (89, (.iinc 1 1, 0, 0, 0)), (92, (.goto (-22), 70, 0, 0)), (95, (.aload_n 0, 0, 0, 0)), (96, (.new 34, 4, 0, 157)), (99, (.dup, 0, 0, 0)), (100, (.invokespecial 36, 37, 7, 159)), (103, (.putfield 37, 5, 6, 201)), (106, (.aload_n 0, 0, 0, 0)), (107, (.new 41, 3, 0, 173)), (110, (.dup, 0, 0, 0)), (111, (.invokespecial 43, 31, 7, 175)), (114, (.putfield 44, 5, 7, 202)), (117, (.aload_n 0, 0, 0, 0)), (118, (.new 16, 1, 0, 98)), (121, (.dup, 0, 0, 0)), (122, (.invokespecial 22, 16, 7, 101)), (125, (.putfield 48, 5, 8, 203)), (128, (.aload_n 0, 0, 0, 0)), (129, (.new 16, 1, 0, 98)), (132, (.dup, 0, 0, 0)), (133, (.invokespecial 22, 16, 7, 101)), (136, (.putfield 52, 5, 9, 204)), (139, (.aload_n 0, 0, 0, 0)), (140, (.new 16, 1, 0, 98)), (143, (.dup, 0, 0, 0)), (144, (.invokespecial 22, 16, 7, 101)), (147, (.putfield 55, 5, 10, 205)), (150, (.aload_n 0, 0, 0, 0)), (151, (.bipush 8, 0, 0, 0)), (153, (.newarray .int, 0, 0, 0)), (155, (.putfield 58, 5, 11, 206)), (158, (.aload_n 0, 0, 0, 0)), (159, (.new 16, 1, 0, 98)), (162, (.dup, 0, 0, 0)), (163, (.invokespecial 22, 16, 7, 101)), (166, (.putfield 62, 5, 12, 207)), (169, (.aload_n 0, 0, 0, 0)), (170, (.bipush 8, 0, 0, 0)), (172, (.newarray .int, 0, 0, 0)), (174, (.putfield 65, 5, 13, 208)), (177, (.return_, 0, 0, 0))]
/-- TriangleSets.variable.(Z)I -/
def vm_t44 : List (Nat × (Jvm.ClassFile.Instr × Nat × Nat × Nat)) := [(0, (.aload_n 0, 0, 0, 0)), (1, (.getfield 12, 5, 0, 195)), (4, (.iload_n 1, 0, 0, 0)), (5, (.invokevirtual 68, 3, 4, 254)), (8, (.istore_n 2, 0, 0, 0)), (9, (.iload_n 2, 0, 0, 0)), (10, (.iconst (-1), 0, 0, 0)), (11, (.if_icmp .eq 7, 18, 0, 0)), (14, (.aload_n 0, 0, 0, 0)), (15, (.invokevirtual 72, 63, 4, 258)), (18, (.iload_n 2, 0, 0, 0)), (19, (.ireturn, 0, 0, 0))]
/-- TriangleSets.order.(II)Z -/
def vm_t45 : List (Nat × (Jvm.ClassFile.Instr × Nat × Nat × Nat)) := [(0, (.aload_n 0, 0, 0, 0)), (1, (.getfield 12, 5, 0, 195)), (4, (.iload_n 1, 0, 0, 0)), (5, (.invokevirtual 75, 2, 4, 273)), (8, (.ifCond .eq 14, 22, 0, 0)), (11, (.aload_n 0, 0, 0, 0)), (12, (.getfield 12, 5, 0, 195)), (15, (.iload_n 2, 0, 0, 0)), (16, (.invokevirtual 75, 2, 4, 273)), (19, (.ifCond .ne 5, 24, 0, 0)), (22, (.iconst 0, 0, 0, 0)), (23, (.ireturn, 0, 0, 0)), (24, (.aload_n 0, 0, 0, 0)), (25, (.getfield 12, 5, 0, 195)), (28, (.iload_n 2, 0, 0, 0)), (29, (.invokevirtual 79, 5, 4, 277)), (32, (.istore_n 3, 0, 0, 0)), (33, (.iload_n 3, 0, 0, 0)), (34, (.iconst (-1), 0, 0, 0)), (35, (.if_icmp .eq 18, 53, 0, 0)), (38, (.iload_n 3, 0, 0, 0)), (39, (.iload_n 1, 0, 0, 0)), (40, (.if_icmp .eq 13, 53, 0, 0)), (43, (.aload_n 0, 0, 0, 0)), (44, (.iload_n 3, 0, 0, 0)), (45, (.iload_n 1, 0, 0, 0)), (46, (.invokevirtual 83, 64, 4, 281)), (49, (.aload_n 0, 0, 0, 0)), (50, (.invokevirtual 72, 63, 4, 258)), (53, (.iconst 1, 0, 0, 0)), (54, (.ireturn, 0, 0, 0))]
/-- TriangleSets.polynomial.()I -/
def vm_t46 : List (Nat × (Jvm.ClassFile.Instr × Nat × Nat × Nat)) := [(0, (.aload_n 0, 0, 0, 0)), (1, (.getfield 87, 5, 3, 198)), (4, (.bipush 16, 0, 0, 0)), (6, (.if_icmp .lt 5, 11, 0, 0)), (9, (.iconst (-1), 0, 0, 0)), (10, (.ireturn, 0, 0, 0)), (11, (.aload_n 0, 0, 0, 0)), (12, (.dup, 0, 0, 0)), (13, (.getfield 87, 5, 3, 198)), (16, (.iconst 1, 0, 0, 0)), (17, (.iadd, 0, 0, 0)), (18, (.putfield 87, 5, 3, 198)), (21, (.aload_n 0, 0, 0, 0)), (22, (.getfield 87, 5, 3, 198)), (25, (.iconst 1, 0, 0, 0)), (26, (.isub, 0, 0, 0)), (27, (.ireturn, 0, 0, 0))]
/-- TriangleSets.term.(IJI)Z -/
def vm_t47 : List (Nat × (Jvm.ClassFile.Instr × Nat × Nat × Nat)) := [(0, (.aload_n 0, 0, 0, 0)), (1, (.iload_n 1, 0, 0, 0)), (2, (.invokevirtual 91, 59, 4, 320)), (5, (.ifCond .eq 15, 20, 0, 0)), (8, (.aload_n 0, 0, 0, 0)), (9, (.getfield 12, 5, 0, 195)), (12, (.iload 4, 0, 0, 0)), (14, (.invokevirtual 94, 7, 4, 324)), (17, (.ifCond .ne 5, 22, 0, 0)), (20, (.iconst 0, 0, 0, 0)), (21, (.ireturn, 0, 0, 0)), (22, (.lload_n 2, 0, 0, 0)), (23, (.lconst 0, 0, 0, 0)), (24, (.lcmp, 0, 0, 0)), (25, (.ifCond .ne 5, 30, 0, 0)), (28, (.iconst 1, 0, 0, 0)), (29, (.ireturn, 0, 0, 0)), (30, (.aload_n 0, 0, 0, 0)), (31, (.getfield 18, 5, 1, 196)), (34, (.iload_n 1, 0, 0, 0)), (35, (.aaload, 0, 0, 0)), (36, (.aload_n 0, 0, 0, 0)), (37, (.getfield 12, 5, 0, 195)), (40, (.iload 4, 0, 0, 0)), (42, (.invokevirtual 97, 8, 4, 328)), (45, (.lload_n 2, 0, 0, 0)), (46, (.invokevirtual 101, 23, 4, 329)), (49, (.ifCond .ne 5, 54, 0, 0)), (52, (.iconst 0, 0, 0, 0)), (53, (.ireturn, 0, 0, 0)), (54, (.aload_n 0, 0, 0, 0)), (55, (.getfield 23, 5, 2, 197)), (58, (.iload_n 1, 0, 0, 0)), (59, (.baload, 0, 0, 0)), (60, (.ifCond .eq 7, 67, 0, 0)), (63, (.aload_n 0, 0, 0, 0)), (64, (.invokevirtual 72, 63, 4, 258)), (67, (.iconst 1, 0, 0, 0)), (68, (.ireturn, 0, 0, 0))]
/-- TriangleSets.use.(IZ)Z -/
def vm_t48 : List (Nat × (Jvm.ClassFile.Instr × Nat × Nat × Nat)) := [(0, (.aload_n 0, 0, 0, 0)), (1, (.iload_n 1, 0, 0, 0)), (2, (.invokevirtual 91, 59, 4, 320)), (5, (.ifCond .eq 13, 18, 0, 0)), (8, (.aload_n 0, 0, 0, 0)), (9, (.getfield 23, 5, 2, 197)), (12, (.iload_n 1, 0, 0, 0)), (13, (.baload, 0, 0, 0)), (14, (.iload_n 2, 0, 0, 0)), (15, (.if_icmp .ne 5, 20, 0, 0)), (18, (.iconst 0, 0, 0, 0)), (19, (.ireturn, 0, 0, 0)), (20, (.aload_n 0, 0, 0, 0)), (21, (.getfield 23, 5, 2, 197)), (24, (.iload_n 1, 0, 0, 0)), (25, (.iload_n 2, 0, 0, 0)), (26, (.bastore, 0, 0, 0)), (27, (.aload_n 0, 0, 0, 0)), (28, (.invokevirtual 72, 63, 4, 258)), (31, (.iconst 1, 0, 0, 0)), (32, (.ireturn, 0, 0, 0))]
/-- TriangleSets.decompose.()I -/
def vm_t49 : List (Nat × (Jvm.ClassFile.Instr × Nat × Nat × Nat)) := [(0, (.aload_n 0, 0, 0, 0)), (1, (.invokevirtual 105, 66, 4, 359)), (4, (.ifCond .ne 5, 9, 0, 0)), (7, (.iconst (-1), 0, 0, 0)), (8, (.ireturn, 0, 0, 0)), (9, (.aload_n 0, 0, 0, 0)), (10, (.getfield 52, 5, 9, 204)), (13, (.invokevirtual 109, 17, 4, 262)), (16, (.aload_n 0, 0, 0, 0)), (17, (.getfield 37, 5, 6, 201)), (20, (.getfield 112, 4, 1, 167)), (23, (.ifCond .le 5, 28, 0, 0)), (26, (.iconst 1, 0, 0, 0)), (27, (.ireturn, 0, 0, 0)), (28, (.aload_n 0, 0, 0, 0)), (29, (.getfield 48, 5, 8, 203)), (32, (.invokevirtual 109, 17, 4, 262)), (35, (.aload_n 0, 0, 0, 0)), (36, (.iconst 0, 0, 0, 0)), (37, (.putfield 115, 5, 15, 210)), (40, (.aload_n 0, 0, 0, 0)), (41, (.iconst 0, 0, 0, 0)), (42, (.putfield 118, 5, 16, 211)), (45, (.aload_n 0, 0, 0, 0)), (46, (.invokevirtual 121, 67, 4, 367)), (49, (.aload_n 0, 0, 0, 0)), (50, (.invokevirtual 124, 68, 4, 402)), (53, (.ifCond .eq 7, 60, 0, 0)), (56, (.iconst 0, 0, 0, 0)), (57, (.goto 4, 61, 0, 0)), (60, (.iconst 3, 0, 0, 0)), (61, (.istore_n 1, 0, 0, 0)), (62, (.iload_n 1, 0, 0, 0)), (63, (.iconst 3, 0, 0, 0)), (64, (.if_icmp .ne 30, 94, 0, 0)), (67, (.aload_n 0, 0, 0, 0)), (68, (.getfield 115, 5, 15, 210)), (71, (.bipush 12, 0, 0, 0)), (73, (.if_icmp .ge 21, 94, 0, 0)), (76, (.aload_n 0, 0, 0, 0)), (77, (.dup, 0, 0, 0)), (78, (.getfield 115, 5, 15, 210)), (81, (.iconst 1, 0, 0, 0)), (82, (.iadd, 0, 0, 0)), (83, (.putfield 115, 5, 15, 210)), (86, (.aload_n 0, 0, 0, 0)), (87, (.invokevirtual 127, 69, 4, 407)), (90, (.istore_n 1, 0, 0, 0)), (91, (.goto (-29), 62, 0, 0)), (94, (.iload_n 1, 0, 0, 0)), (95, (.iconst 1, 0, 0, 0)), (96, (.if_icmp .eq 11, 107, 0, 0)), (99, (.aload_n 0, 0, 0, 0)), (100, (.getfield 37, 5, 6, 201)), (103, (.iconst 0, 0, 0, 0)), (104, (.putfield 112, 4, 1, 167)), (107, (.iload_n 1, 0, 0, 0)), (108, (.iconst 3, 0, 0, 0)), (109, (.if_icmp .ne 7, 116, 0, 0)), (112, (.iconst 2, 0, 0, 0)), (113, (.goto 4, 117, 0, 0)), (116, (.iload_n 1, 0, 0, 0)), (117, (.ireturn, 0, 0, 0))]
/-- TriangleSets.prove.(I)I -/
def vm_t50 : List (Nat × (Jvm.ClassFile.Instr × Nat × Nat × Nat)) := [(0, (.aload_n 0, 0, 0, 0)), (1, (.iload_n 1, 0, 0, 0)), (2, (.invokevirtual 91, 59, 4, 320)), (5, (.ifCond .eq 13, 18, 0, 0)), (8, (.aload_n 0, 0, 0, 0)), (9, (.getfield 37, 5, 6, 201)), (12, (.getfield 112, 4, 1, 167)), (15, (.ifCond .ne 5, 20, 0, 0)), (18, (.iconst (-1), 0, 0, 0)), (19, (.ireturn, 0, 0, 0)), (20, (.aload_n 0, 0, 0, 0)), (21, (.getfield 52, 5, 9, 204)), (24, (.invokevirtual 109, 17, 4, 262)), (27, (.aload_n 0, 0, 0, 0)), (28, (.getfield 62, 5, 12, 207)), (31, (.aload_n 0, 0, 0, 0)), (32, (.getfield 18, 5, 1, 196)), (35, (.iload_n 1, 0, 0, 0)), (36, (.aaload, 0, 0, 0)), (37, (.invokevirtual 131, 19, 4, 406)), (40, (.aload_n 0, 0, 0, 0)), (41, (.sipush 200, 0, 0, 0)), (44, (.invokevirtual 135, 72, 4, 439)), (47, (.istore_n 2, 0, 0, 0)), (48, (.aload_n 0, 0, 0, 0)), (49, (.aload_n 0, 0, 0, 0)), (50, (.getfield 138, 5, 14, 209)), (53, (.putfield 141, 5, 17, 212)), (56, (.iload_n 2, 0, 0, 0)), (57, (.ifCond .ne 5, 62, 0, 0)), (60, (.iconst 2, 0, 0, 0)), (61, (.ireturn, 0, 0, 0)), (62, (.aload_n 0, 0, 0, 0)), (63, (.getfield 55, 5, 10, 205)), (66, (.aload_n 0, 0, 0, 0)), (67, (.getfield 18, 5, 1, 196)), (70, (.iload_n 1, 0, 0, 0)), (71, (.aaload, 0, 0, 0)), (72, (.invokevirtual 131, 19, 4, 406)), (75, (.aload_n 0, 0, 0, 0)), (76, (.getfield 65, 5, 13, 208)), (79, (.iconst 0, 0, 0, 0)), (80, (.aload_n 0, 0, 0, 0)), (81, (.getfield 58, 5, 11, 206)), (84, (.iconst 0, 0, 0, 0)), (85, (.bipush 8, 0, 0, 0)), (87, (.invokestatic 144, 9999, 9, 486)), (90, (.aload_n 0, 0, 0, 0)), (91, (.getfield 52, 5, 9, 204)), (94, (.aload_n 0, 0, 0, 0)), (95, (.getfield 62, 5, 12, 207)), (98, (.invokevirtual 131, 19, 4, 406)), (101, (.aload_n 0, 0, 0, 0)), (102, (.getfield 52, 5, 9, 204)), (105, (.getfield 150, 1, 2, 117)), (108, (.ifCond .ne 7, 115, 0, 0)), (111, (.iconst 1, 0, 0, 0)), (112, (.goto 4, 116, 0, 0)), (115, (.iconst 0, 0, 0, 0)), (116, (.ireturn, 0, 0, 0))]
/-- TriangleSets.member.(II)I -/
def vm_t51 : List (Nat × (Jvm.ClassFile.Instr × Nat × Nat × Nat)) := [(0, (.aload_n 0, 0, 0, 0)), (1, (.iload_n 1, 0, 0, 0)), (2, (.invokevirtual 153, 60, 4, 491)), (5, (.ifCond .ne 5, 10, 0, 0)), (8, (.iconst (-1), 0, 0, 0)), (9, (.ireturn, 0, 0, 0)), (10, (.aload_n 0, 0, 0, 0)), (11, (.getfield 37, 5, 6, 201)), (14, (.getfield 156, 4, 0, 165)), (17, (.iload_n 1, 0, 0, 0)), (18, (.aaload, 0, 0, 0)), (19, (.astore_n 3, 0, 0, 0)), (20, (.iload_n 2, 0, 0, 0)), (21, (.tableswitch 63 0 3 #[31, 43, 48, 56], 31, 0, 0)), (52, (.aload_n 0, 0, 0, 0)), (53, (.getfield 12, 5, 0, 195)), (56, (.aload_n 3, 0, 0, 0)), (57, (.getfield 159, 2, 1, 144)), (60, (.invokevirtual 162, 4, 4, 495)), (63, (.ireturn, 0, 0, 0)), (64, (.aload_n 3, 0, 0, 0)), (65, (.getfield 165, 2, 2, 149)), (68, (.ireturn, 0, 0, 0)), (69, (.aload_n 3, 0, 0, 0)), (70, (.getfield 168, 2, 0, 139)), (73, (.getfield 150, 1, 2, 117)), (76, (.ireturn, 0, 0, 0)), (77, (.aload_n 0, 0, 0, 0)), (78, (.getfield 58, 5, 11, 206)), (81, (.iload_n 1, 0, 0, 0)), (82, (.iaload, 0, 0, 0)), (83, (.ireturn, 0, 0, 0)), (84, (.iconst (-1), 0, 0, 0)), (85, (.ireturn, 0, 0, 0))]
/-- TriangleSets.told.(I)I -/
def vm_t52 : List (Nat × (Jvm.ClassFile.Instr × Nat × Nat × Nat)) := [(0, (.iload_n 1, 0, 0, 0)), (1, (.tableswitch 117 0 9 #[55, 63, 68, 73, 81, 86, 91, 96, 101, 109], 55, 0, 0)), (56, (.aload_n 0, 0, 0, 0)), (57, (.getfield 12, 5, 0, 195)), (60, (.getfield 171, 0, 0, 81)), (63, (.ireturn, 0, 0, 0)), (64, (.aload_n 0, 0, 0, 0)), (65, (.getfield 87, 5, 3, 198)), (68, (.ireturn, 0, 0, 0)), (69, (.aload_n 0, 0, 0, 0)), (70, (.invokevirtual 172, 61, 4, 504)), (73, (.ireturn, 0, 0, 0)), (74, (.aload_n 0, 0, 0, 0)), (75, (.getfield 37, 5, 6, 201)), (78, (.getfield 112, 4, 1, 167)), (81, (.ireturn, 0, 0, 0)), (82, (.aload_n 0, 0, 0, 0)), (83, (.getfield 115, 5, 15, 210)), (86, (.ireturn, 0, 0, 0)), (87, (.aload_n 0, 0, 0, 0)), (88, (.getfield 175, 5, 5, 200)), (91, (.ireturn, 0, 0, 0)), (92, (.aload_n 0, 0, 0, 0)), (93, (.getfield 118, 5, 16, 211)), (96, (.ireturn, 0, 0, 0)), (97, (.aload_n 0, 0, 0, 0)), (98, (.getfield 141, 5, 17, 212)), (101, (.ireturn, 0, 0, 0)), (102, (.aload_n 0, 0, 0, 0)), (103, (.getfield 48, 5, 8, 203)), (106, (.getfield 150, 1, 2, 117)), (109, (.ireturn, 0, 0, 0)), (110, (.aload_n 0, 0, 0, 0)), (111, (.getfield 52, 5, 9, 204)), (114, (.getfield 150, 1, 2, 117)), (117, (.ireturn, 0, 0, 0)), (118, (.iconst (-1), 0, 0, 0)), (119, (.ireturn, 0, 0, 0))]
/-- TriangleSets.coefficient.(III)J -/
def vm_t53 : List (Nat × (Jvm.ClassFile.Instr × Nat × Nat × Nat)) := [(0, (.aload_n 0, 0, 0, 0)), (1, (.iload_n 1, 0, 0, 0)), (2, (.iload_n 2, 0, 0, 0)), (3, (.invokevirtual 178, 62, 4, 512)), (6, (.astore 4, 0, 0, 0)), (8, (.aload 4, 0, 0, 0)), (10, (.ifnull 12, 22, 0, 0)), (13, (.aload 4, 0, 0, 0)), (15, (.iload_n 3, 0, 0, 0)), (16, (.invokevirtual 182, 18, 4, 520)), (19, (.ifCond .ne 5, 24, 0, 0)), (22, (.lconst 0, 0, 0, 0)), (23, (.lreturn, 0, 0, 0)), (24, (.aload 4, 0, 0, 0)), (26, (.getfield 185, 1, 1, 111)), (29, (.iload_n 3, 0, 0, 0)), (30, (.laload, 0, 0, 0)), (31, (.lreturn, 0, 0, 0))]
/-- TriangleSets.powers.(III)I -/
def vm_t54 : List (Nat × (Jvm.ClassFile.Instr × Nat × Nat × Nat)) := [(0, (.aload_n 0, 0, 0, 0)), (1, (.iload_n 1, 0, 0, 0)), (2, (.iload_n 2, 0, 0, 0)), (3, (.invokevirtual 178, 62, 4, 512)), (6, (.astore 4, 0, 0, 0)), (8, (.aload 4, 0, 0, 0)), (10, (.ifnull 12, 22, 0, 0)), (13, (.aload 4, 0, 0, 0)), (15, (.iload_n 3, 0, 0, 0)), (16, (.invokevirtual 182, 18, 4, 520)), (19, (.ifCond .ne 5, 24, 0, 0)), (22, (.iconst (-1), 0, 0, 0)), (23, (.ireturn, 0, 0, 0)), (24, (.aload_n 0, 0, 0, 0)), (25, (.getfield 12, 5, 0, 195)), (28, (.aload 4, 0, 0, 0)), (30, (.getfield 189, 1, 0, 108)), (33, (.iload_n 3, 0, 0, 0)), (34, (.laload, 0, 0, 0)), (35, (.invokevirtual 192, 9, 4, 528)), (38, (.ireturn, 0, 0, 0))]
/-- TriangleSets.point.(IJ)Z -/
def vm_t55 : List (Nat × (Jvm.ClassFile.Instr × Nat × Nat × Nat)) := [(0, (.aload_n 0, 0, 0, 0)), (1, (.getfield 12, 5, 0, 195)), (4, (.iload_n 1, 0, 0, 0)), (5, (.invokevirtual 75, 2, 4, 273)), (8, (.ifCond .ne 5, 13, 0, 0)), (11, (.iconst 0, 0, 0, 0)), (12, (.ireturn, 0, 0, 0)), (13, (.aload_n 0, 0, 0, 0)), (14, (.getfield 12, 5, 0, 195)), (17, (.getfield 196, 0, 2, 84)), (20, (.iload_n 1, 0, 0, 0)), (21, (.lload_n 2, 0, 0, 0)), (22, (.lastore, 0, 0, 0)), (23, (.iconst 1, 0, 0, 0)), (24, (.ireturn, 0, 0, 0))]
/-- TriangleSets.value.(II)J -/
def vm_t56 : List (Nat × (Jvm.ClassFile.Instr × Nat × Nat × Nat)) := [(0, (.aload_n 0, 0, 0, 0)), (1, (.iload_n 1, 0, 0, 0)), (2, (.iload_n 2, 0, 0, 0)), (3, (.invokevirtual 178, 62, 4, 512)), (6, (.astore_n 3, 0, 0, 0)), (7, (.aload_n 3, 0, 0, 0)), (8, (.ifnonnull 7, 15, 0, 0)), (11, (.lconst 0, 0, 0, 0)), (12, (.goto 11, 23, 0, 0)), (15, (.aload_n 0, 0, 0, 0)), (16, (.getfield 12, 5, 0, 195)), (19, (.aload_n 3, 0, 0, 0)), (20, (.invokevirtual 199, 13, 4, 537)), (23, (.lreturn, 0, 0, 0))]
/-- TriangleSets.quotient.(I)J -/
def vm_t57 : List (Nat × (Jvm.ClassFile.Instr × Nat × Nat × Nat)) := [(0, (.aload_n 0, 0, 0, 0)), (1, (.iload_n 1, 0, 0, 0)), (2, (.invokevirtual 153, 60, 4, 491)), (5, (.ifCond .ne 5, 10, 0, 0)), (8, (.lconst 0, 0, 0, 0)), (9, (.lreturn, 0, 0, 0)), (10, (.aload_n 0, 0, 0, 0)), (11, (.getfield 62, 5, 12, 207)), (14, (.aload_n 0, 0, 0, 0)), (15, (.getfield 55, 5, 10, 205)), (18, (.invokevirtual 131, 19, 4, 406)), (21, (.lconst 0, 0, 0, 0)), (22, (.lstore_n 2, 0, 0, 0)), (23, (.aload_n 0, 0, 0, 0)), (24, (.getfield 37, 5, 6, 201)), (27, (.getfield 112, 4, 1, 167)), (30, (.iconst 1, 0, 0, 0)), (31, (.isub, 0, 0, 0)), (32, (.istore 4, 0, 0, 0)), (34, (.iconst 0, 0, 0, 0)), (35, (.istore 5, 0, 0, 0)), (37, (.iload 5, 0, 0, 0)), (39, (.sipush 200, 0, 0, 0)), (42, (.if_icmp .ge 136, 178, 0, 0)), (45, (.aload_n 0, 0, 0, 0)), (46, (.getfield 37, 5, 6, 201)), (49, (.iload 4, 0, 0, 0)), (51, (.aload_n 0, 0, 0, 0)), (52, (.getfield 62, 5, 12, 207)), (55, (.invokevirtual 203, 42, 4, 443)), (58, (.istore 4, 0, 0, 0)), (60, (.iload 4, 0, 0, 0)), (62, (.iconst (-1), 0, 0, 0)), (63, (.if_icmp .ne 6, 69, 0, 0)), (66, (.goto 112, 178, 0, 0)), (69, (.aload_n 0, 0, 0, 0)), (70, (.getfield 37, 5, 6, 201)), (73, (.getfield 156, 4, 0, 165)), (76, (.iload 4, 0, 0, 0)), (78, (.aaload, 0, 0, 0)), (79, (.astore 6, 0, 0, 0)), (81, (.lload_n 2, 0, 0, 0)), (82, (.aload_n 0, 0, 0, 0)), (83, (.getfield 12, 5, 0, 195)), (86, (.aload 6, 0, 0, 0)), (88, (.getfield 168, 2, 0, 139)), (91, (.aload 6, 0, 0, 0)), (93, (.getfield 159, 2, 1, 144)), (96, (.aload 6, 0, 0, 0)), (98, (.getfield 165, 2, 2, 149)), (101, (.aload 6, 0, 0, 0)), (103, (.getfield 165, 2, 2, 149)), (106, (.invokevirtual 207, 14, 4, 549)), (109, (.lmul, 0, 0, 0)), (110, (.lstore_n 2, 0, 0, 0)), (111, (.iload 4, 0, 0, 0)), (113, (.iload_n 1, 0, 0, 0)), (114, (.if_icmp .ne 39, 153, 0, 0)), (117, (.lload_n 2, 0, 0, 0)), (118, (.aload_n 0, 0, 0, 0)), (119, (.getfield 12, 5, 0, 195)), (122, (.aload_n 0, 0, 0, 0)), (123, (.getfield 62, 5, 12, 207)), (126, (.aload 6, 0, 0, 0)), (128, (.getfield 159, 2, 1, 144)), (131, (.aload_n 0, 0, 0, 0)), (132, (.getfield 62, 5, 12, 207)), (135, (.aload 6, 0, 0, 0)), (137, (.getfield 159, 2, 1, 144)), (140, (.invokevirtual 211, 22, 4, 553)), (143, (.aload 6, 0, 0, 0)), (145, (.getfield 165, 2, 2, 149)), (148, (.invokevirtual 207, 14, 4, 549)), (151, (.ladd, 0, 0, 0)), (152, (.lstore_n 2, 0, 0, 0)), (153, (.aload_n 0, 0, 0, 0)), (154, (.getfield 44, 5, 7, 202)), (157, (.aload_n 0, 0, 0, 0)), (158, (.getfield 62, 5, 12, 207)), (161, (.aload 6, 0, 0, 0)), (163, (.invokevirtual 213, 32, 4, 447)), (166, (.ifCond .ne 6, 172, 0, 0)), (169, (.goto 9, 178, 0, 0)), (172, (.iinc 5 1, 0, 0, 0)), (175, (.goto (-138), 37, 0, 0)), (178, (.lload_n 2, 0, 0, 0)), (179, (.lreturn, 0, 0, 0))]
/-- TriangleSets.pseudo.(JJ)J -/
def vm_t58 : List (Nat × (Jvm.ClassFile.Instr × Nat × Nat × Nat)) := [(0, (.lload_n 3, 0, 0, 0)), (1, (.lconst 0, 0, 0, 0)), (2, (.lcmp, 0, 0, 0)), (3, (.ifCond .ne 13, 16, 0, 0)), (6, (.new 217, 99, 0, 0)), (9, (.dup, 0, 0, 0)), (10, (.ldc 219, 0, 0, 0)), (12, (.invokespecial 221, 9999, 99, 602)), (15, (.athrow, 0, 0, 0)), (16, (.lload_n 1, 0, 0, 0)), (17, (.bipush 32, 0, 0, 0)), (19, (.lshl, 0, 0, 0)), (20, (.lload_n 3, 0, 0, 0)), (21, (.ldiv, 0, 0, 0)), (22, (.lreturn, 0, 0, 0))]
/-- TriangleSets.hasPolynomial.(I)Z -/
def vm_t59 : List (Nat × (Jvm.ClassFile.Instr × Nat × Nat × Nat)) := [(0, (.iload_n 1, 0, 0, 0)), (1, (.ifCond .lt 15, 16, 0, 0)), (4, (.iload_n 1, 0, 0, 0)), (5, (.aload_n 0, 0, 0, 0)), (6, (.getfield 87, 5, 3, 198)), (9, (.if_icmp .ge 7, 16, 0, 0)), (12, (.iconst 1, 0, 0, 0)), (13, (.goto 4, 17, 0, 0)), (16, (.iconst 0, 0, 0, 0)), (17, (.ireturn, 0, 0, 0))]
/-- TriangleSets.hasMember.(I)Z -/
def vm_t60 : List (Nat × (Jvm.ClassFile.Instr × Nat × Nat × Nat)) := [(0, (.iload_n 1, 0, 0, 0)), (1, (.ifCond .lt 18, 19, 0, 0)), (4, (.iload_n 1, 0, 0, 0)), (5, (.aload_n 0, 0, 0, 0)), (6, (.getfield 37, 5, 6, 201)), (9, (.getfield 112, 4, 1, 167)), (12, (.if_icmp .ge 7, 19, 0, 0)), (15, (.iconst 1, 0, 0, 0)), (16, (.goto 4, 20, 0, 0)), (19, (.iconst 0, 0, 0, 0)), (20, (.ireturn, 0, 0, 0))]
/-- TriangleSets.hypothesisCount.()I -/
def vm_t61 : List (Nat × (Jvm.ClassFile.Instr × Nat × Nat × Nat)) := [(0, (.iconst 0, 0, 0, 0)), (1, (.istore_n 1, 0, 0, 0)), (2, (.iconst 0, 0, 0, 0)), (3, (.istore_n 2, 0, 0, 0)), (4, (.iload_n 2, 0, 0, 0)), (5, (.aload_n 0, 0, 0, 0)), (6, (.getfield 87, 5, 3, 198)), (9, (.if_icmp .ge 21, 30, 0, 0)), (12, (.aload_n 0, 0, 0, 0)), (13, (.getfield 23, 5, 2, 197)), (16, (.iload_n 2, 0, 0, 0)), (17, (.baload, 0, 0, 0)), (18, (.ifCond .eq 6, 24, 0, 0)), (21, (.iinc 1 1, 0, 0, 0)), (24, (.iinc 2 1, 0, 0, 0)), (27, (.goto (-23), 4, 0, 0)), (30, (.iload_n 1, 0, 0, 0)), (31, (.ireturn, 0, 0, 0))]
/-- TriangleSets.find.(II)LTriangleSets$Polynomial; -/
def vm_t62 : List (Nat × (Jvm.ClassFile.Instr × Nat × Nat × Nat)) := [(0, (.iload_n 1, 0, 0, 0)), (1, (.ifCond .ne 18, 19, 0, 0)), (4, (.aload_n 0, 0, 0, 0)), (5, (.iload_n 2, 0, 0, 0)), (6, (.invokevirtual 91, 59, 4, 320)), (9, (.ifCond .eq 10, 19, 0, 0)), (12, (.aload_n 0, 0, 0, 0)), (13, (.getfield 18, 5, 1, 196)), (16, (.iload_n 2, 0, 0, 0)), (17, (.aaload, 0, 0, 0)), (18, (.areturn, 0, 0, 0)), (19, (.iload_n 1, 0, 0, 0)), (20, (.iconst 1, 0, 0, 0)), (21, (.if_icmp .ne 24, 45, 0, 0)), (24, (.aload_n 0, 0, 0, 0)), (25, (.iload_n 2, 0, 0, 0)), (26, (.invokevirtual 153, 60, 4, 491)), (29, (.ifCond .eq 16, 45, 0, 0)), (32, (.aload_n 0, 0, 0, 0)), (33, (.getfield 37, 5, 6, 201)), (36, (.getfield 156, 4, 0, 165)), (39, (.iload_n 2, 0, 0, 0)), (40, (.aaload, 0, 0, 0)), (41, (.getfield 168, 2, 0, 139)), (44, (.areturn, 0, 0, 0)), (45, (.iload_n 1, 0, 0, 0)), (46, (.iconst 2, 0, 0, 0)), (47, (.if_icmp .ne 32, 79, 0, 0)), (50, (.aload_n 0, 0, 0, 0)), (51, (.iload_n 2, 0, 0, 0)), (52, (.invokevirtual 153, 60, 4, 491)), (55, (.ifCond .eq 24, 79, 0, 0)), (58, (.aload_n 0, 0, 0, 0)), (59, (.getfield 62, 5, 12, 207)), (62, (.aload_n 0, 0, 0, 0)), (63, (.getfield 37, 5, 6, 201)), (66, (.getfield 156, 4, 0, 165)), (69, (.iload_n 2, 0, 0, 0)), (70, (.aaload, 0, 0, 0)), (71, (.invokevirtual 224, 20, 4, 516)), (74, (.aload_n 0, 0, 0, 0)), (75, (.getfield 62, 5, 12, 207)), (78, (.areturn, 0, 0, 0)), (79, (.iload_n 1, 0, 0, 0)), (80, (.iconst 3, 0, 0, 0)), (81, (.if_icmp .ne 12, 93, 0, 0)), (84, (.iload_n 2, 0, 0, 0)), (85, (.ifCond .ne 8, 93, 0, 0)), (88, (.aload_n 0, 0, 0, 0)), (89, (.getfield 52, 5, 9, 204)), (92, (.areturn, 0, 0, 0)), (93, (.iload_n 1, 0, 0, 0)), (94, (.iconst 4, 0, 0, 0)), (95, (.if_icmp .ne 12, 107, 0, 0)), (98, (.iload_n 2, 0, 0, 0)), (99, (.ifCond .ne 8, 107, 0, 0)), (102, (.aload_n 0, 0, 0, 0)), (103, (.getfield 48, 5, 8, 203)), (106, (.areturn, 0, 0, 0)), (107, (.aconst_null, 0, 0, 0)), (108, (.areturn, 0, 0, 0))]
/-- TriangleSets.forgetSet.()V -/
def vm_t63 : List (Nat × (Jvm.ClassFile.Instr × Nat × Nat × Nat)) := [(0, (.aload_n 0, 0, 0, 0)), (1, (.getfield 37, 5, 6, 201)), (4, (.iconst 0, 0, 0, 0)), (5, (.putfield 112, 4, 1, 167)), (8, (.aload_n 0, 0, 0, 0)), (9, (.getfield 52, 5, 9, 204)), (12, (.invokevirtual 109, 17, 4, 262)), (15, (.aload_n 0, 0, 0, 0)), (16, (.getfield 55, 5, 10, 205)), (19, (.invokevirtual 109, 17, 4, 262)), (22, (.aload_n 0, 0, 0, 0)), (23, (.getfield 58, 5, 11, 206)), (26, (.iconst 0, 0, 0, 0)), (27, (.invokestatic 228, 123, 1, 266)), (30, (.return_, 0, 0, 0))]
/-- TriangleSets.moveVariable.(II)V -/
def vm_t64 : List (Nat × (Jvm.ClassFile.Instr × Nat × Nat × Nat)) := [(0, (.iconst 0, 0, 0, 0)), (1, (.istore_n 3, 0, 0, 0)), (2, (.iload_n 3, 0, 0, 0)), (3, (.aload_n 0, 0, 0, 0)), (4, (.getfield 87, 5, 3, 198)), (7, (.if_icmp .ge 22, 29, 0, 0)), (10, (.aload_n 0, 0, 0, 0)), (11, (.getfield 12, 5, 0, 195)), (14, (.aload_n 0, 0, 0, 0)), (15, (.getfield 18, 5, 1, 196)), (18, (.iload_n 3, 0, 0, 0)), (19, (.aaload, 0, 0, 0)), (20, (.invokevirtual 234, 10, 4, 285)), (23, (.iinc 3 1, 0, 0, 0)), (26, (.goto (-24), 2, 0, 0)), (29, (.aload_n 0, 0, 0, 0)), (30, (.getfield 12, 5, 0, 195)), (33, (.aload_n 0, 0, 0, 0)), (34, (.getfield 48, 5, 8, 203)), (37, (.invokevirtual 234, 10, 4, 285)), (40, (.aload_n 0, 0, 0, 0)), (41, (.getfield 12, 5, 0, 195)), (44, (.iload_n 1, 0, 0, 0)), (45, (.iload_n 2, 0, 0, 0)), (46, (.invokevirtual 237, 6, 4, 296)), (49, (.iconst 0, 0, 0, 0)), (50, (.istore_n 3, 0, 0, 0)), (51, (.iload_n 3, 0, 0, 0)), (52, (.aload_n 0, 0, 0, 0)), (53, (.getfield 87, 5, 3, 198)), (56, (.if_icmp .ge 22, 78, 0, 0)), (59, (.aload_n 0, 0, 0, 0)), (60, (.getfield 12, 5, 0, 195)), (63, (.aload_n 0, 0, 0, 0)), (64, (.getfield 18, 5, 1, 196)), (67, (.iload_n 3, 0, 0, 0)), (68, (.aaload, 0, 0, 0)), (69, (.invokevirtual 240, 11, 4, 300)), (72, (.iinc 3 1, 0, 0, 0)), (75, (.goto (-24), 51, 0, 0)), (78, (.aload_n 0, 0, 0, 0)), (79, (.getfield 12, 5, 0, 195)), (82, (.aload_n 0, 0, 0, 0)), (83, (.getfield 48, 5, 8, 203)), (86, (.invokevirtual 240, 11, 4, 300)), (89, (.return_, 0, 0, 0))]
/-- TriangleSets.comesToRows.(I)Z -/
def vm_t65 : List (Nat × (Jvm.ClassFile.Instr × Nat × Nat × Nat)) := [(0, (.aload_n 0, 0, 0, 0)), (1, (.getfield 23, 5, 2, 197)), (4, (.iload_n 1, 0, 0, 0)), (5, (.baload, 0, 0, 0)), (6, (.ifCond .eq 19, 25, 0, 0)), (9, (.aload_n 0, 0, 0, 0)), (10, (.getfield 18, 5, 1, 196)), (13, (.iload_n 1, 0, 0, 0)), (14, (.aaload, 0, 0, 0)), (15, (.getfield 150, 1, 2, 117)), (18, (.ifCond .le 7, 25, 0, 0)), (21, (.iconst 1, 0, 0, 0)), (22, (.goto 4, 26, 0, 0)), (25, (.iconst 0, 0, 0, 0)), (26, (.ireturn, 0, 0, 0))]
/-- TriangleSets.hasSomethingToDecompose.()Z -/
def vm_t66 : List (Nat × (Jvm.ClassFile.Instr × Nat × Nat × Nat)) := [(0, (.iconst 0, 0, 0, 0)), (1, (.istore_n 1, 0, 0, 0)), (2, (.iload_n 1, 0, 0, 0)), (3, (.aload_n 0, 0, 0, 0)), (4, (.getfield 87, 5, 3, 198)), (7, (.if_icmp .ge 19, 26, 0, 0)), (10, (.aload_n 0, 0, 0, 0)), (11, (.iload_n 1, 0, 0, 0)), (12, (.invokevirtual 243, 65, 4, 363)), (15, (.ifCond .eq 5, 20, 0, 0)), (18, (.iconst 1, 0, 0, 0)), (19, (.ireturn, 0, 0, 0)), (20, (.iinc 1 1, 0, 0, 0)), (23, (.goto (-21), 2, 0, 0)), (26, (.iconst 0, 0, 0, 0)), (27, (.ireturn, 0, 0, 0))]
/-- TriangleSets.takeHypotheses.()V -/
def vm_t67 : List (Nat × (Jvm.ClassFile.Instr × Nat × Nat × Nat)) := [(0, (.aload_n 0, 0, 0, 0)), (1, (.iconst 0, 0, 0, 0)), (2, (.putfield 175, 5, 5, 200)), (5, (.iconst 0, 0, 0, 0)), (6, (.istore_n 1, 0, 0, 0)), (7, (.iload_n 1, 0, 0, 0)), (8, (.aload_n 0, 0, 0, 0)), (9, (.getfield 87, 5, 3, 198)), (12, (.if_icmp .ge 58, 70, 0, 0)), (15, (.aload_n 0, 0, 0, 0)), (16, (.iload_n 1, 0, 0, 0)), (17, (.invokevirtual 243, 65, 4, 363)), (20, (.ifCond .eq 44, 64, 0, 0)), (23, (.aload_n 0, 0, 0, 0)), (24, (.getfield 175, 5, 5, 200)), (27, (.bipush 40, 0, 0, 0)), (29, (.if_icmp .ge 35, 64, 0, 0)), (32, (.aload_n 0, 0, 0, 0)), (33, (.getfield 29, 5, 4, 199)), (36, (.aload_n 0, 0, 0, 0)), (37, (.getfield 175, 5, 5, 200)), (40, (.aaload, 0, 0, 0)), (41, (.aload_n 0, 0, 0, 0)), (42, (.getfield 18, 5, 1, 196)), (45, (.iload_n 1, 0, 0, 0)), (46, (.aaload, 0, 0, 0)), (47, (.aload_n 0, 0, 0, 0)), (48, (.getfield 12, 5, 0, 195)), (51, (.invokevirtual 246, 29, 4, 371)), (54, (.aload_n 0, 0, 0, 0)), (55, (.dup, 0, 0, 0)), (56, (.getfield 175, 5, 5, 200)), (59, (.iconst 1, 0, 0, 0)), (60, (.iadd, 0, 0, 0)), (61, (.putfield 175, 5, 5, 200)), (64, (.iinc 1 1, 0, 0, 0)), (67, (.goto (-60), 7, 0, 0)), (70, (.return_, 0, 0, 0))]
/-- TriangleSets.tellConditionOfRows.()Z -/
def vm_t68 : List (Nat × (Jvm.ClassFile.Instr × Nat × Nat × Nat)) := [(0, (.iconst 0, 0, 0, 0)), (1, (.istore_n 1, 0, 0, 0)), (2, (.iload_n 1, 0, 0, 0)), (3, (.aload_n 0, 0, 0, 0)), (4, (.getfield 175, 5, 5, 200)), (7, (.if_icmp .ge 40, 47, 0, 0)), (10, (.aload_n 0, 0, 0, 0)), (11, (.getfield 29, 5, 4, 199)), (14, (.iload_n 1, 0, 0, 0)), (15, (.aaload, 0, 0, 0)), (16, (.getfield 159, 2, 1, 144)), (19, (.iconst (-1), 0, 0, 0)), (20, (.if_icmp .ne 21, 41, 0, 0)), (23, (.aload_n 0, 0, 0, 0)), (24, (.getfield 48, 5, 8, 203)), (27, (.aload_n 0, 0, 0, 0)), (28, (.getfield 29, 5, 4, 199)), (31, (.iload_n 1, 0, 0, 0)), (32, (.aaload, 0, 0, 0)), (33, (.getfield 168, 2, 0, 139)), (36, (.invokevirtual 131, 19, 4, 406)), (39, (.iconst 1, 0, 0, 0)), (40, (.ireturn, 0, 0, 0)), (41, (.iinc 1 1, 0, 0, 0)), (44, (.goto (-42), 2, 0, 0)), (47, (.iconst 0, 0, 0, 0)), (48, (.ireturn, 0, 0, 0))]
/-- TriangleSets.makeRound.()I -/
def vm_t69 : List (Nat × (Jvm.ClassFile.Instr × Nat × Nat × Nat)) := [(0, (.aload_n 0, 0, 0, 0)), (1, (.getfield 175, 5, 5, 200)), (4, (.istore_n 1, 0, 0, 0)), (5, (.aload_n 0, 0, 0, 0)), (6, (.getfield 37, 5, 6, 201)), (9, (.aload_n 0, 0, 0, 0)), (10, (.getfield 29, 5, 4, 199)), (13, (.iload_n 1, 0, 0, 0)), (14, (.invokevirtual 250, 38, 4, 411)), (17, (.iconst 0, 0, 0, 0)), (18, (.istore_n 2, 0, 0, 0)), (19, (.iload_n 2, 0, 0, 0)), (20, (.iload_n 1, 0, 0, 0)), (21, (.if_icmp .ge 46, 67, 0, 0)), (24, (.aload_n 0, 0, 0, 0)), (25, (.getfield 37, 5, 6, 201)), (28, (.aload_n 0, 0, 0, 0)), (29, (.getfield 29, 5, 4, 199)), (32, (.iload_n 2, 0, 0, 0)), (33, (.aaload, 0, 0, 0)), (34, (.invokevirtual 254, 41, 4, 428)), (37, (.ifCond .eq 6, 43, 0, 0)), (40, (.goto 21, 61, 0, 0)), (43, (.aload_n 0, 0, 0, 0)), (44, (.aload_n 0, 0, 0, 0)), (45, (.getfield 29, 5, 4, 199)), (48, (.iload_n 2, 0, 0, 0)), (49, (.aaload, 0, 0, 0)), (50, (.invokevirtual 258, 70, 4, 432)), (53, (.istore_n 3, 0, 0, 0)), (54, (.iload_n 3, 0, 0, 0)), (55, (.iconst 3, 0, 0, 0)), (56, (.if_icmp .eq 5, 61, 0, 0)), (59, (.iload_n 3, 0, 0, 0)), (60, (.ireturn, 0, 0, 0)), (61, (.iinc 2 1, 0, 0, 0)), (64, (.goto (-45), 19, 0, 0)), (67, (.aload_n 0, 0, 0, 0)), (68, (.getfield 175, 5, 5, 200)), (71, (.iload_n 1, 0, 0, 0)), (72, (.if_icmp .ne 7, 79, 0, 0)), (75, (.iconst 1, 0, 0, 0)), (76, (.goto 4, 80, 0, 0)), (79, (.iconst 3, 0, 0, 0)), (80, (.ireturn, 0, 0, 0))]
/-- TriangleSets.reduceRow.(LTriangleSets$Row;)I -/
def vm_t70 : List (Nat × (Jvm.ClassFile.Instr × Nat × Nat × Nat)) := [(0, (.aload_n 0, 0, 0, 0)), (1, (.getfield 62, 5, 12, 207)), (4, (.aload_n 1, 0, 0, 0)), (5, (.getfield 168, 2, 0, 139)), (8, (.invokevirtual 131, 19, 4, 406)), (11, (.aload_n 0, 0, 0, 0)), (12, (.sipush 200, 0, 0, 0)), (15, (.sipush 1000, 0, 0, 0)), (18, (.aload_n 0, 0, 0, 0)), (19, (.getfield 118, 5, 16, 211)), (22, (.isub, 0, 0, 0)), (23, (.invokestatic 262, 9999, 11, 436)), (26, (.invokevirtual 135, 72, 4, 439)), (29, (.istore_n 2, 0, 0, 0)), (30, (.aload_n 0, 0, 0, 0)), (31, (.dup, 0, 0, 0)), (32, (.getfield 118, 5, 16, 211)), (35, (.aload_n 0, 0, 0, 0)), (36, (.getfield 138, 5, 14, 209)), (39, (.iadd, 0, 0, 0)), (40, (.putfield 118, 5, 16, 211)), (43, (.iload_n 2, 0, 0, 0)), (44, (.ifCond .ne 5, 49, 0, 0)), (47, (.iconst 2, 0, 0, 0)), (48, (.ireturn, 0, 0, 0)), (49, (.aload_n 0, 0, 0, 0)), (50, (.getfield 62, 5, 12, 207)), (53, (.invokevirtual 268, 26, 4, 472)), (56, (.aload_n 0, 0, 0, 0)), (57, (.getfield 62, 5, 12, 207)), (60, (.getfield 150, 1, 2, 117)), (63, (.ifCond .eq 14, 77, 0, 0)), (66, (.aload_n 0, 0, 0, 0)), (67, (.aload_n 0, 0, 0, 0)), (68, (.getfield 62, 5, 12, 207)), (71, (.invokevirtual 271, 71, 4, 473)), (74, (.ifCond .eq 5, 79, 0, 0)), (77, (.iconst 3, 0, 0, 0)), (78, (.ireturn, 0, 0, 0)), (79, (.aload_n 0, 0, 0, 0)), (80, (.getfield 12, 5, 0, 195)), (83, (.aload_n 0, 0, 0, 0)), (84, (.getfield 62, 5, 12, 207)), (87, (.invokevirtual 275, 12, 4, 481)), (90, (.iconst (-1), 0, 0, 0)), (91, (.if_icmp .ne 16, 107, 0, 0)), (94, (.aload_n 0, 0, 0, 0)), (95, (.getfield 48, 5, 8, 203)), (98, (.aload_n 0, 0, 0, 0)), (99, (.getfield 62, 5, 12, 207)), (102, (.invokevirtual 131, 19, 4, 406)), (105, (.iconst 0, 0, 0, 0)), (106, (.ireturn, 0, 0, 0)), (107, (.aload_n 0, 0, 0, 0)), (108, (.getfield 175, 5, 5, 200)), (111, (.bipush 40, 0, 0, 0)), (113, (.if_icmp .lt 5, 118, 0, 0)), (116, (.iconst 2, 0, 0, 0)), (117, (.ireturn, 0, 0, 0)), (118, (.aload_n 0, 0, 0, 0)), (119, (.getfield 29, 5, 4, 199)), (122, (.aload_n 0, 0, 0, 0)), (123, (.getfield 175, 5, 5, 200)), (126, (.aaload, 0, 0, 0)), (127, (.aload_n 0, 0, 0, 0)), (128, (.getfield 62, 5, 12, 207)), (131, (.aload_n 0, 0, 0, 0)), (132, (.getfield 12, 5, 0, 195)), (135, (.invokevirtual 246, 29, 4, 371)), (138, (.aload_n 0, 0, 0, 0)), (139, (.dup, 0, 0, 0)), (140, (.getfield 175, 5, 5, 200)), (143, (.iconst 1, 0, 0, 0)), (144, (.iadd, 0, 0, 0)), (145, (.putfield 175, 5, 5, 200)), (148, (.iconst 3, 0, 0, 0)), (149, (.ireturn, 0, 0, 0))]
/-- TriangleSets.rowsHold.(LTriangleSets$Polynomial;)Z -/
def vm_t71 : List (Nat × (Jvm.ClassFile.Instr × Nat × Nat × Nat)) := [(0, (.iconst 0, 0, 0, 0)), (1, (.istore_n 2, 0, 0, 0)), (2, (.iload_n 2, 0, 0, 0)), (3, (.aload_n 0, 0, 0, 0)), (4, (.getfield 175, 5, 5, 200)), (7, (.if_icmp .ge 27, 34, 0, 0)), (10, (.aload_n 0, 0, 0, 0)), (11, (.getfield 29, 5, 4, 199)), (14, (.iload_n 2, 0, 0, 0)), (15, (.aaload, 0, 0, 0)), (16, (.getfield 168, 2, 0, 139)), (19, (.aload_n 1, 0, 0, 0)), (20, (.invokevirtual 279, 21, 4, 477)), (23, (.ifCond .eq 5, 28, 0, 0)), (26, (.iconst 1, 0, 0, 0)), (27, (.ireturn, 0, 0, 0)), (28, (.iinc 2 1, 0, 0, 0)), (31, (.goto (-29), 2, 0, 0)), (34, (.iconst 0, 0, 0, 0)), (35, (.ireturn, 0, 0, 0))]
/-- TriangleSets.reduceWork.(I)Z -/
def vm_t72 : List (Nat × (Jvm.ClassFile.Instr × Nat × Nat × Nat)) := [(0, (.aload_n 0, 0, 0, 0)), (1, (.iconst 0, 0, 0, 0)), (2, (.putfield 138, 5, 14, 209)), (5, (.aload_n 0, 0, 0, 0)), (6, (.getfield 65, 5, 13, 208)), (9, (.iconst 0, 0, 0, 0)), (10, (.invokestatic 228, 123, 1, 266)), (13, (.aload_n 0, 0, 0, 0)), (14, (.getfield 37, 5, 6, 201)), (17, (.getfield 112, 4, 1, 167)), (20, (.iconst 1, 0, 0, 0)), (21, (.isub, 0, 0, 0)), (22, (.istore_n 2, 0, 0, 0)), (23, (.iconst 0, 0, 0, 0)), (24, (.istore_n 3, 0, 0, 0)), (25, (.iload_n 3, 0, 0, 0)), (26, (.iload_n 1, 0, 0, 0)), (27, (.if_icmp .gt 79, 106, 0, 0)), (30, (.aload_n 0, 0, 0, 0)), (31, (.getfield 37, 5, 6, 201)), (34, (.iload_n 2, 0, 0, 0)), (35, (.aload_n 0, 0, 0, 0)), (36, (.getfield 62, 5, 12, 207)), (39, (.invokevirtual 203, 42, 4, 443)), (42, (.istore_n 2, 0, 0, 0)), (43, (.iload_n 2, 0, 0, 0)), (44, (.iconst (-1), 0, 0, 0)), (45, (.if_icmp .ne 5, 50, 0, 0)), (48, (.iconst 1, 0, 0, 0)), (49, (.ireturn, 0, 0, 0)), (50, (.iload_n 3, 0, 0, 0)), (51, (.iload_n 1, 0, 0, 0)), (52, (.if_icmp .eq 26, 78, 0, 0)), (55, (.aload_n 0, 0, 0, 0)), (56, (.getfield 44, 5, 7, 202)), (59, (.aload_n 0, 0, 0, 0)), (60, (.getfield 62, 5, 12, 207)), (63, (.aload_n 0, 0, 0, 0)), (64, (.getfield 37, 5, 6, 201)), (67, (.getfield 156, 4, 0, 165)), (70, (.iload_n 2, 0, 0, 0)), (71, (.aaload, 0, 0, 0)), (72, (.invokevirtual 213, 32, 4, 447)), (75, (.ifCond .ne 5, 80, 0, 0)), (78, (.iconst 0, 0, 0, 0)), (79, (.ireturn, 0, 0, 0)), (80, (.aload_n 0, 0, 0, 0)), (81, (.dup, 0, 0, 0)), (82, (.getfield 138, 5, 14, 209)), (85, (.iconst 1, 0, 0, 0)), (86, (.iadd, 0, 0, 0)), (87, (.putfield 138, 5, 14, 209)), (90, (.aload_n 0, 0, 0, 0)), (91, (.getfield 65, 5, 13, 208)), (94, (.iload_n 2, 0, 0, 0)), (95, (.dup2, 0, 0, 0)), (96, (.iaload, 0, 0, 0)), (97, (.iconst 1, 0, 0, 0)), (98, (.iadd, 0, 0, 0)), (99, (.iastore, 0, 0, 0)), (100, (.iinc 3 1, 0, 0, 0)), (103, (.goto (-78), 25, 0, 0)), (106, (.iconst 0, 0, 0, 0)), (107, (.ireturn, 0, 0, 0))]
/-- TriangleSets.powerAt.(JI)I -/
def vm_t73 : List (Nat × (Jvm.ClassFile.Instr × Nat × Nat × Nat)) := [(0, (.lload_n 0, 0, 0, 0)), (1, (.bipush 8, 0, 0, 0)), (3, (.iload_n 2, 0, 0, 0)), (4, (.imul, 0, 0, 0)), (5, (.lushr, 0, 0, 0)), (6, (.l2i, 0, 0, 0)), (7, (.sipush 255, 0, 0, 0)), (10, (.iand, 0, 0, 0)), (11, (.ireturn, 0, 0, 0))]
/-- TriangleSets.isSoundCoefficient.(J)Z -/
def vm_t74 : List (Nat × (Jvm.ClassFile.Instr × Nat × Nat × Nat)) := [(0, (.lload_n 0, 0, 0, 0)), (1, (.ldc2_w 282, 18446744073642442752, 0, 338)), (4, (.lcmp, 0, 0, 0)), (5, (.ifCond .lt 15, 20, 0, 0)), (8, (.lload_n 0, 0, 0, 0)), (9, (.ldc2_w 284, 67108864, 0, 339)), (12, (.lcmp, 0, 0, 0)), (13, (.ifCond .gt 7, 20, 0, 0)), (16, (.iconst 1, 0, 0, 0)), (17, (.goto 4, 21, 0, 0)), (20, (.iconst 0, 0, 0, 0)), (21, (.ireturn, 0, 0, 0))]
/-- TriangleSets.greatestCommonDivisor.(JJ)J -/
def vm_t75 : List (Nat × (Jvm.ClassFile.Instr × Nat × Nat × Nat)) := [(0, (.lload_n 0, 0, 0, 0)), (1, (.lstore 4, 0, 0, 0)), (3, (.lload_n 2, 0, 0, 0)), (4, (.lstore 6, 0, 0, 0)), (6, (.iconst 0, 0, 0, 0)), (7, (.istore 8, 0, 0, 0)), (9, (.iload 8, 0, 0, 0)), (11, (.sipush 128, 0, 0, 0)), (14, (.if_icmp .ge 31, 45, 0, 0)), (17, (.lload 6, 0, 0, 0)), (19, (.lconst 0, 0, 0, 0)), (20, (.lcmp, 0, 0, 0)), (21, (.ifCond .eq 24, 45, 0, 0)), (24, (.lload 4, 0, 0, 0)), (26, (.lload 6, 0, 0, 0)), (28, (.lrem, 0, 0, 0)), (29, (.lstore 9, 0, 0, 0)), (31, (.lload 6, 0, 0, 0)), (33, (.lstore 4, 0, 0, 0)), (35, (.lload 9, 0, 0, 0)), (37, (.lstore 6, 0, 0, 0)), (39, (.iinc 8 1, 0, 0, 0)), (42, (.goto (-33), 9, 0, 0)), (45, (.lload 4, 0, 0, 0)), (47, (.lreturn, 0, 0, 0))]
/-- TriangleSetsModel.<init>.()V -/
def vm_t76 : List (Nat × (Jvm.ClassFile.Instr × Nat × Nat × Nat)) := [(0, (.aload_n 0, 0, 0, 0)), (1, (.invokespecial 1, 0, 8, 633)), (4, (.aload_n 0, 0, 0, 0)), (5, (.bipush 8, 0, 0, 0)), (7, (.newarray .boolean, 0, 0, 0)), (9, (.putfield 7, 6, 2, 636)), (12, (.aload_n 0, 0, 0, 0)), (13, (.bipush 8, 0, 0, 0)), (15, (.newarray .int, 0, 0, 0)), (17, (.putfield 13, 6, 3, 637)), (20, (.aload_n 0, 0, 0, 0)), (21, (.bipush 16, 0, 0, 0)), (23, (.newarray .boolean, 0, 0, 0)), (25, (.putfield 17, 6, 5, 639)), (28, (.aload_n 0, 0, 0, 0)), (29, (.bipush 72, 0, 0, 0)), (31, (.newarray .int, 0, 0, 0)), (33, (.putfield 20, 6, 6, 640)), (36, (.aload_n 0, 0, 0, 0)), (37, (.sipush 4320, 0, 0, 0)), (40, (.newarray .long, 0, 0, 0)), (42, (.putfield 23, 6, 7, 641)), (45, (.aload_n 0, 0, 0, 0)), (46, (.sipush 4320, 0, 0, 0)), (49, (.newarray .long, 0, 0, 0)), (51, (.putfield 27, 6, 8, 642)), (54, (.aload_n 0, 0, 0, 0)), (55, (.bipush 8, 0, 0, 0)), (57, (.newarray .long, 0, 0, 0)), (59, (.putfield 30, 6, 9, 643)), (62, (.aload_n 0, 0, 0, 0)), (63, (.sipush 256, 0, 0, 0)), (66, (.newarray .int, 0, 0, 0)), (68, (.putfield 33, 6, 20, 654)), (71, (.aload_n 0, 0, 0, 0)), (72, (.sipush 256, 0, 0, 0)), (75, (.newarray .int, 0, 0, 0)), (77, (.putfield 36, 6, 21, 655)), (80, (.aload_n 0, 0, 0, 0)), (81, (.sipush 256, 0, 0, 0)), (84, (.newarray .int, 0, 0, 0)), (86, (.putfield 39, 6, 22, 656)), (89, (.aload_n 0, 0, 0, 0)), (90, (.sipush 12300, 0, 0, 0)), (93, (.newarray .long, 0, 0, 0)), (95, (.putfield 42, 6, 23, 657)), (98, (.aload_n 0, 0, 0, 0)), (99, (.sipush 12300, 0, 0, 0)), (102, (.newarray .long, 0, 0, 0)), (104, (.putfield 45, 6, 24, 658)), (107, (.aload_n 0, 0, 0, 0)), (108, (.bipush 8, 0, 0, 0)), (110, (.newarray .int, 0, 0, 0)), (112, (.putfield 48, 6, 26, 660)), (115, (.aload_n 0, 0, 0, 0)), (116, (.sipush 256, 0, 0, 0)), (119, (.newarray .int, 0, 0, 0)), (121, (.putfield 51, 6, 29, 663)), (124, (.aload_n 0, 0, 0, 0)), (125, (.sipush 256, 0, 0, 0)), (128, (.newarray .int, 0, 0, 0)), (130, (.putfield 54, 6, 30, 664)), (133, (.aload_n 0, 0, 0, 0)), (134, (.sipush 256, 0, 0, 0)), (137, (.newarray .int, 0, 0, 0)), (139, (.putfield 57, 6, 31, 665)), (142, (.aload_n 0, 0, 0, 0)), (143, (.sipush 12300, 0, 0, 0)), (146, (.newarray .long, 0, 0, 0)), (148, (.putfield 60, 6, 32, 666)), (151, (.aload_n 0, 0, 0, 0)), (152, (.sipush 12300, 0, 0, 0)), (155, (.newarray .long, 0, 0, 0)), (157, (.putfield 63, 6, 33, 667)), (160, (.aload_n 0, 0, 0, 0)), (161, (.sipush 16384, 0, 0, 0)), (164, (.newarray .long, 0, 0, 0)), (166, (.putfield 66, 6, 34, 668)), (169, (.aload_n 0, 0, 0, 0)), (170, (.sipush 16384, 0, 0, 0)), (173, (.newarray .long, 0, 0, 0)), (175, (.putfield 69, 6, 35, 669)), (178, (.aload_n 0, 0, 0, 0)), (179, (.sipush 16384, 0, 0, 0)), (182, (.newarray .boolean, 0, 0, 0)), (184, (.putfield 72, 6, 36, 670)), (187, (.aload_n 0, 0, 0, 0)), (188, (.sipush 8000, 0, 0, 0)), (191, (.newarray .int, 0, 0, 0)), (193, (.putfield 75, 6, 37, 671)), (196, (.aload_n 0, 0, 0, 0)), (197, (.bipush 8, 0, 0, 0)), (199, (.newarray .int, 0, 0, 0)), (201, (.putfield 78, 6, 39, 673)), (204, (.aload_n 0, 0, 0, 0)), (205, (.bipush 8, 0, 0, 0)), (207, (.newarray .long, 0, 0, 0)), (209, (.putfield 81, 6, 43, 677)), (212, (.return_, 0, 0, 0))]
/-- TriangleSetsModel.thrown.()I -/
def vm_t77 : List (Nat × (Jvm.ClassFile.Instr × Nat × Nat × Nat)) := []
/-- TriangleSetsModel.powerOf.(JI)I -/
def vm_t78 : List (Nat × (Jvm.ClassFile.Instr × Nat × Nat × Nat)) := [(0, (.lload_n 0, 0, 0, 0)), (1, (.bipush 8, 0, 0, 0)), (3, (.iload_n 2, 0, 0, 0)), (4, (.imul, 0, 0, 0)), (5, (.lushr, 0, 0, 0)), (6, (.l2i, 0, 0, 0)), (7, (.sipush 255, 0, 0, 0)), (10, (.iand, 0, 0, 0)), (11, (.ireturn, 0, 0, 0))]
/-- TriangleSetsModel.rank.(J)J -/
def vm_t79 : List (Nat × (Jvm.ClassFile.Instr × Nat × Nat × Nat)) := [(0, (.lconst 0, 0, 0, 0)), (1, (.lstore_n 3, 0, 0, 0)), (2, (.aload_n 0, 0, 0, 0)), (3, (.getfield 88, 6, 1, 635)), (6, (.iconst 1, 0, 0, 0)), (7, (.isub, 0, 0, 0)), (8, (.istore 5, 0, 0, 0)), (10, (.iload 5, 0, 0, 0)), (12, (.ifCond .lt 27, 39, 0, 0)), (15, (.lload_n 3, 0, 0, 0)), (16, (.bipush 8, 0, 0, 0)), (18, (.lshl, 0, 0, 0)), (19, (.lload_n 1, 0, 0, 0)), (20, (.aload_n 0, 0, 0, 0)), (21, (.getfield 13, 6, 3, 637)), (24, (.iload 5, 0, 0, 0)), (26, (.iaload, 0, 0, 0)), (27, (.invokestatic 91, 78, 1, 794)), (30, (.i2l, 0, 0, 0)), (31, (.lor, 0, 0, 0)), (32, (.lstore_n 3, 0, 0, 0)), (33, (.iinc 5 (-1), 0, 0, 0)), (36, (.goto (-26), 10, 0, 0)), (39, (.lload_n 3, 0, 0, 0)), (40, (.lreturn, 0, 0, 0))]
/-- TriangleSetsModel.sort.(I)V -/
def vm_t80 : List (Nat × (Jvm.ClassFile.Instr × Nat × Nat × Nat)) := [(0, (.bipush 60, 0, 0, 0)), (2, (.iload_n 1, 0, 0, 0)), (3, (.imul, 0, 0, 0)), (4, (.istore_n 2, 0, 0, 0)), (5, (.iconst 1, 0, 0, 0)), (6, (.istore_n 3, 0, 0, 0)), (7, (.iload_n 3, 0, 0, 0)), (8, (.aload_n 0, 0, 0, 0)), (9, (.getfield 20, 6, 6, 640)), (12, (.iload_n 1, 0, 0, 0)), (13, (.iaload, 0, 0, 0)), (14, (.if_icmp .ge 134, 148, 0, 0)), (17, (.aload_n 0, 0, 0, 0)), (18, (.getfield 23, 6, 7, 641)), (21, (.iload_n 2, 0, 0, 0)), (22, (.iload_n 3, 0, 0, 0)), (23, (.iadd, 0, 0, 0)), (24, (.laload, 0, 0, 0)), (25, (.lstore 4, 0, 0, 0)), (27, (.aload_n 0, 0, 0, 0)), (28, (.getfield 27, 6, 8, 642)), (31, (.iload_n 2, 0, 0, 0)), (32, (.iload_n 3, 0, 0, 0)), (33, (.iadd, 0, 0, 0)), (34, (.laload, 0, 0, 0)), (35, (.lstore 6, 0, 0, 0)), (37, (.aload_n 0, 0, 0, 0)), (38, (.lload 6, 0, 0, 0)), (40, (.invokevirtual 95, 79, 4, 857)), (43, (.lstore 8, 0, 0, 0)), (45, (.iload_n 3, 0, 0, 0)), (46, (.istore 10, 0, 0, 0)), (48, (.iload 10, 0, 0, 0)), (50, (.ifCond .le 70, 120, 0, 0)), (53, (.aload_n 0, 0, 0, 0)), (54, (.aload_n 0, 0, 0, 0)), (55, (.getfield 27, 6, 8, 642)), (58, (.iload_n 2, 0, 0, 0)), (59, (.iload 10, 0, 0, 0)), (61, (.iadd, 0, 0, 0)), (62, (.iconst 1, 0, 0, 0)), (63, (.isub, 0, 0, 0)), (64, (.laload, 0, 0, 0)), (65, (.invokevirtual 95, 79, 4, 857)), (68, (.lload 8, 0, 0, 0)), (70, (.lcmp, 0, 0, 0)), (71, (.ifCond .ge 49, 120, 0, 0)), (74, (.aload_n 0, 0, 0, 0)), (75, (.getfield 23, 6, 7, 641)), (78, (.iload_n 2, 0, 0, 0)), (79, (.iload 10, 0, 0, 0)), (81, (.iadd, 0, 0, 0)), (82, (.aload_n 0, 0, 0, 0)), (83, (.getfield 23, 6, 7, 641)), (86, (.iload_n 2, 0, 0, 0)), (87, (.iload 10, 0, 0, 0)), (89, (.iadd, 0, 0, 0)), (90, (.iconst 1, 0, 0, 0)), (91, (.isub, 0, 0, 0)), (92, (.laload, 0, 0, 0)), (93, (.lastore, 0, 0, 0)), (94, (.aload_n 0, 0, 0, 0)), (95, (.getfield 27, 6, 8, 642)), (98, (.iload_n 2, 0, 0, 0)), (99, (.iload 10, 0, 0, 0)), (101, (.iadd, 0, 0, 0)), (102, (.aload_n 0, 0, 0, 0)), (103, (.getfield 27, 6, 8, 642)), (106, (.iload_n 2, 0, 0, 0)), (107, (.iload 10, 0, 0, 0)), (109, (.iadd, 0, 0, 0)), (110, (.iconst 1, 0, 0, 0)), (111, (.isub, 0, 0, 0)), (112, (.laload, 0, 0, 0)), (113, (.lastore, 0, 0, 0)), (114, (.iinc 10 (-1), 0, 0, 0)), (117, (.goto (-69), 48, 0, 0)), (120, (.aload_n 0, 0, 0, 0)), (121, (.getfield 23, 6, 7, 641)), (124, (.iload_n 2, 0, 0, 0)), (125, (.iload 10, 0, 0, 0)), (127, (.iadd, 0, 0, 0)), (128, (.lload 4, 0, 0, 0)), (130, (.lastore, 0, 0, 0)), (131, (.aload_n 0, 0, 0, 0)), (132, (.getfield 27, 6, 8, 642)), (135, (.iload_n 2, 0, 0, 0)), (136, (.iload 10, 0, 0, 0)), (138, (.iadd, 0, 0, 0)), (139, (.lload 6, 0, 0, 0)), (141, (.lastore, 0, 0, 0)), (142, (.iinc 3 1, 0, 0, 0)), (145, (.goto (-138), 7, 0, 0)), (148, (.return_, 0, 0, 0))]
/-- TriangleSetsModel.copy.(II)V -/
def vm_t81 : List (Nat × (Jvm.ClassFile.Instr × Nat × Nat × Nat)) := [(0, (.aload_n 0, 0, 0, 0)), (1, (.getfield 20, 6, 6, 640)), (4, (.iload_n 2, 0, 0, 0)), (5, (.aload_n 0, 0, 0, 0)), (6, (.getfield 20, 6, 6, 640)), (9, (.iload_n 1, 0, 0, 0)), (10, (.iaload, 0, 0, 0)), (11, (.iastore, 0, 0, 0)), (12, (.iconst 0, 0, 0, 0)), (13, (.istore_n 3, 0, 0, 0)), (14, (.iload_n 3, 0, 0, 0)), (15, (.aload_n 0, 0, 0, 0)), (16, (.getfield 20, 6, 6, 640)), (19, (.iload_n 1, 0, 0, 0)), (20, (.iaload, 0, 0, 0)), (21, (.if_icmp .ge 53, 74, 0, 0)), (24, (.aload_n 0, 0, 0, 0)), (25, (.getfield 23, 6, 7, 641)), (28, (.bipush 60, 0, 0, 0)), (30, (.iload_n 2, 0, 0, 0)), (31, (.imul, 0, 0, 0)), (32, (.iload_n 3, 0, 0, 0)), (33, (.iadd, 0, 0, 0)), (34, (.aload_n 0, 0, 0, 0)), (35, (.getfield 23, 6, 7, 641)), (38, (.bipush 60, 0, 0, 0)), (40, (.iload_n 1, 0, 0, 0)), (41, (.imul, 0, 0, 0)), (42, (.iload_n 3, 0, 0, 0)), (43, (.iadd, 0, 0, 0)), (44, (.laload, 0, 0, 0)), (45, (.lastore, 0, 0, 0)), (46, (.aload_n 0, 0, 0, 0)), (47, (.getfield 27, 6, 8, 642)), (50, (.bipush 60, 0, 0, 0)), (52, (.iload_n 2, 0, 0, 0)), (53, (.imul, 0, 0, 0)), (54, (.iload_n 3, 0, 0, 0)), (55, (.iadd, 0, 0, 0)), (56, (.aload_n 0, 0, 0, 0)), (57, (.getfield 27, 6, 8, 642)), (60, (.bipush 60, 0, 0, 0)), (62, (.iload_n 1, 0, 0, 0)), (63, (.imul, 0, 0, 0)), (64, (.iload_n 3, 0, 0, 0)), (65, (.iadd, 0, 0, 0)), (66, (.laload, 0, 0, 0)), (67, (.lastore, 0, 0, 0)), (68, (.iinc 3 1, 0, 0, 0)), (71, (.goto (-57), 14, 0, 0)), (74, (.return_, 0, 0, 0))]
/-- TriangleSetsModel.common.(JJ)J -/
def vm_t82 : List (Nat × (Jvm.ClassFile.Instr × Nat × Nat × Nat)) := [(0, (.lload_n 0, 0, 0, 0)), (1, (.lconst 0, 0, 0, 0)), (2, (.lcmp, 0, 0, 0)), (3, (.ifCond .ge 8, 11, 0, 0)), (6, (.lload_n 0, 0, 0, 0)), (7, (.lneg, 0, 0, 0)), (8, (.goto 4, 12, 0, 0)), (11, (.lload_n 0, 0, 0, 0)), (12, (.lstore 4, 0, 0, 0)), (14, (.lload_n 2, 0, 0, 0)), (15, (.lconst 0, 0, 0, 0)), (16, (.lcmp, 0, 0, 0)), (17, (.ifCond .ge 8, 25, 0, 0)), (20, (.lload_n 2, 0, 0, 0)), (21, (.lneg, 0, 0, 0)), (22, (.goto 4, 26, 0, 0)), (25, (.lload_n 2, 0, 0, 0)), (26, (.lstore 6, 0, 0, 0)), (28, (.lload 6, 0, 0, 0)), (30, (.lconst 0, 0, 0, 0)), (31, (.lcmp, 0, 0, 0)), (32, (.ifCond .eq 21, 53, 0, 0)), (35, (.lload 4, 0, 0, 0)), (37, (.lload 6, 0, 0, 0)), (39, (.lrem, 0, 0, 0)), (40, (.lstore 8, 0, 0, 0)), (42, (.lload 6, 0, 0, 0)), (44, (.lstore 4, 0, 0, 0)), (46, (.lload 8, 0, 0, 0)), (48, (.lstore 6, 0, 0, 0)), (50, (.goto (-22), 28, 0, 0)), (53, (.lload 4, 0, 0, 0)), (55, (.lreturn, 0, 0, 0))]
/-- TriangleSetsModel.primitive.(I)V -/
def vm_t83 : List (Nat × (Jvm.ClassFile.Instr × Nat × Nat × Nat)) := [(0, (.lconst 0, 0, 0, 0)), (1, (.lstore_n 2, 0, 0, 0)), (2, (.iconst 0, 0, 0, 0)), (3, (.istore 4, 0, 0, 0)), (5, (.iload 4, 0, 0, 0)), (7, (.aload_n 0, 0, 0, 0)), (8, (.getfield 20, 6, 6, 640)), (11, (.iload_n 1, 0, 0, 0)), (12, (.iaload, 0, 0, 0)), (13, (.if_icmp .ge 26, 39, 0, 0)), (16, (.lload_n 2, 0, 0, 0)), (17, (.aload_n 0, 0, 0, 0)), (18, (.getfield 23, 6, 7, 641)), (21, (.bipush 60, 0, 0, 0)), (23, (.iload_n 1, 0, 0, 0)), (24, (.imul, 0, 0, 0)), (25, (.iload 4, 0, 0, 0)), (27, (.iadd, 0, 0, 0)), (28, (.laload, 0, 0, 0)), (29, (.invokestatic 99, 82, 1, 783)), (32, (.lstore_n 2, 0, 0, 0)), (33, (.iinc 4 1, 0, 0, 0)), (36, (.goto (-31), 5, 0, 0)), (39, (.aload_n 0, 0, 0, 0)), (40, (.getfield 20, 6, 6, 640)), (43, (.iload_n 1, 0, 0, 0)), (44, (.iaload, 0, 0, 0)), (45, (.ifCond .le 20, 65, 0, 0)), (48, (.aload_n 0, 0, 0, 0)), (49, (.getfield 23, 6, 7, 641)), (52, (.bipush 60, 0, 0, 0)), (54, (.iload_n 1, 0, 0, 0)), (55, (.imul, 0, 0, 0)), (56, (.laload, 0, 0, 0)), (57, (.lconst 0, 0, 0, 0)), (58, (.lcmp, 0, 0, 0)), (59, (.ifCond .ge 6, 65, 0, 0)), (62, (.lload_n 2, 0, 0, 0)), (63, (.lneg, 0, 0, 0)), (64, (.lstore_n 2, 0, 0, 0)), (65, (.iconst 0, 0, 0, 0)), (66, (.istore 4, 0, 0, 0)), (68, (.iload 4, 0, 0, 0)), (70, (.aload_n 0, 0, 0, 0)), (71, (.getfield 20, 6, 6, 640)), (74, (.iload_n 1, 0, 0, 0)), (75, (.iaload, 0, 0, 0)), (76, (.if_icmp .ge 35, 111, 0, 0)), (79, (.aload_n 0, 0, 0, 0)), (80, (.getfield 23, 6, 7, 641)), (83, (.bipush 60, 0, 0, 0)), (85, (.iload_n 1, 0, 0, 0)), (86, (.imul, 0, 0, 0)), (87, (.iload 4, 0, 0, 0)), (89, (.iadd, 0, 0, 0)), (90, (.aload_n 0, 0, 0, 0)), (91, (.getfield 23, 6, 7, 641)), (94, (.bipush 60, 0, 0, 0)), (96, (.iload_n 1, 0, 0, 0)), (97, (.imul, 0, 0, 0)), (98, (.iload 4, 0, 0, 0)), (100, (.iadd, 0, 0, 0)), (101, (.laload, 0, 0, 0)), (102, (.lload_n 2, 0, 0, 0)), (103, (.ldiv, 0, 0, 0)), (104, (.lastore, 0, 0, 0)), (105, (.iinc 4 1, 0, 0, 0)), (108, (.goto (-40), 68, 0, 0)), (111, (.return_, 0, 0, 0))]
/-- TriangleSetsModel.isSame.(II)Z -/
def vm_t84 : List (Nat × (Jvm.ClassFile.Instr × Nat × Nat × Nat)) := [(0, (.aload_n 0, 0, 0, 0)), (1, (.getfield 20, 6, 6, 640)), (4, (.iload_n 1, 0, 0, 0)), (5, (.iaload, 0, 0, 0)), (6, (.aload_n 0, 0, 0, 0)), (7, (.getfield 20, 6, 6, 640)), (10, (.iload_n 2, 0, 0, 0)), (11, (.iaload, 0, 0, 0)), (12, (.if_icmp .ne 7, 19, 0, 0)), (15, (.iconst 1, 0, 0, 0)), (16, (.goto 4, 20, 0, 0)), (19, (.iconst 0, 0, 0, 0)), (20, (.istore_n 3, 0, 0, 0)), (21, (.iconst 0, 0, 0, 0)), (22, (.istore 4, 0, 0, 0)), (24, (.iload 4, 0, 0, 0)), (26, (.aload_n 0, 0, 0, 0)), (27, (.getfield 20, 6, 6, 640)), (30, (.iload_n 1, 0, 0, 0)), (31, (.iaload, 0, 0, 0)), (32, (.if_icmp .ge 75, 107, 0, 0)), (35, (.iload_n 3, 0, 0, 0)), (36, (.ifCond .eq 71, 107, 0, 0)), (39, (.aload_n 0, 0, 0, 0)), (40, (.getfield 23, 6, 7, 641)), (43, (.bipush 60, 0, 0, 0)), (45, (.iload_n 1, 0, 0, 0)), (46, (.imul, 0, 0, 0)), (47, (.iload 4, 0, 0, 0)), (49, (.iadd, 0, 0, 0)), (50, (.laload, 0, 0, 0)), (51, (.aload_n 0, 0, 0, 0)), (52, (.getfield 23, 6, 7, 641)), (55, (.bipush 60, 0, 0, 0)), (57, (.iload_n 2, 0, 0, 0)), (58, (.imul, 0, 0, 0)), (59, (.iload 4, 0, 0, 0)), (61, (.iadd, 0, 0, 0)), (62, (.laload, 0, 0, 0)), (63, (.lcmp, 0, 0, 0)), (64, (.ifCond .ne 35, 99, 0, 0)), (67, (.aload_n 0, 0, 0, 0)), (68, (.getfield 27, 6, 8, 642)), (71, (.bipush 60, 0, 0, 0)), (73, (.iload_n 1, 0, 0, 0)), (74, (.imul, 0, 0, 0)), (75, (.iload 4, 0, 0, 0)), (77, (.iadd, 0, 0, 0)), (78, (.laload, 0, 0, 0)), (79, (.aload_n 0, 0, 0, 0)), (80, (.getfield 27, 6, 8, 642)), (83, (.bipush 60, 0, 0, 0)), (85, (.iload_n 2, 0, 0, 0)), (86, (.imul, 0, 0, 0)), (87, (.iload 4, 0, 0, 0)), (89, (.iadd, 0, 0, 0)), (90, (.laload, 0, 0, 0)), (91, (.lcmp, 0, 0, 0)), (92, (.ifCond .ne 7, 99, 0, 0)), (95, (.iconst 1, 0, 0, 0)), (96, (.goto 4, 100, 0, 0)), (99, (.iconst 0, 0, 0, 0)), (100, (.istore_n 3, 0, 0, 0)), (101, (.iinc 4 1, 0, 0, 0)), (104, (.goto (-80), 24, 0, 0)), (107, (.iload_n 3, 0, 0, 0)), (108, (.ireturn, 0, 0, 0))]
/-- TriangleSetsModel.degree.(II)I -/
def vm_t85 : List (Nat × (Jvm.ClassFile.Instr × Nat × Nat × Nat)) := [(0, (.iconst 0, 0, 0, 0)), (1, (.istore_n 3, 0, 0, 0)), (2, (.iconst 0, 0, 0, 0)), (3, (.istore 4, 0, 0, 0)), (5, (.iload 4, 0, 0, 0)), (7, (.aload_n 0, 0, 0, 0)), (8, (.getfield 20, 6, 6, 640)), (11, (.iload_n 1, 0, 0, 0)), (12, (.iaload, 0, 0, 0)), (13, (.if_icmp .ge 40, 53, 0, 0)), (16, (.aload_n 0, 0, 0, 0)), (17, (.getfield 27, 6, 8, 642)), (20, (.bipush 60, 0, 0, 0)), (22, (.iload_n 1, 0, 0, 0)), (23, (.imul, 0, 0, 0)), (24, (.iload 4, 0, 0, 0)), (26, (.iadd, 0, 0, 0)), (27, (.laload, 0, 0, 0)), (28, (.iload_n 2, 0, 0, 0)), (29, (.invokestatic 91, 78, 1, 794)), (32, (.istore 5, 0, 0, 0)), (34, (.iload 5, 0, 0, 0)), (36, (.iload_n 3, 0, 0, 0)), (37, (.if_icmp .le 8, 45, 0, 0)), (40, (.iload 5, 0, 0, 0)), (42, (.goto 4, 46, 0, 0)), (45, (.iload_n 3, 0, 0, 0)), (46, (.istore_n 3, 0, 0, 0)), (47, (.iinc 4 1, 0, 0, 0)), (50, (.goto (-45), 5, 0, 0)), (53, (.iload_n 3, 0, 0, 0)), (54, (.ireturn, 0, 0, 0))]
/-- TriangleSetsModel.mainPlace.(I)I -/
def vm_t86 : List (Nat × (Jvm.ClassFile.Instr × Nat × Nat × Nat)) := [(0, (.aload_n 0, 0, 0, 0)), (1, (.getfield 88, 6, 1, 635)), (4, (.iconst 1, 0, 0, 0)), (5, (.isub, 0, 0, 0)), (6, (.istore_n 2, 0, 0, 0)), (7, (.iload_n 2, 0, 0, 0)), (8, (.ifCond .lt 39, 47, 0, 0)), (11, (.aload_n 0, 0, 0, 0)), (12, (.getfield 7, 6, 2, 636)), (15, (.aload_n 0, 0, 0, 0)), (16, (.getfield 13, 6, 3, 637)), (19, (.iload_n 2, 0, 0, 0)), (20, (.iaload, 0, 0, 0)), (21, (.baload, 0, 0, 0)), (22, (.ifCond .ne 19, 41, 0, 0)), (25, (.aload_n 0, 0, 0, 0)), (26, (.iload_n 1, 0, 0, 0)), (27, (.aload_n 0, 0, 0, 0)), (28, (.getfield 13, 6, 3, 637)), (31, (.iload_n 2, 0, 0, 0)), (32, (.iaload, 0, 0, 0)), (33, (.invokevirtual 103, 85, 4, 790)), (36, (.ifCond .le 5, 41, 0, 0)), (39, (.iload_n 2, 0, 0, 0)), (40, (.ireturn, 0, 0, 0)), (41, (.iinc 2 (-1), 0, 0, 0)), (44, (.goto (-37), 7, 0, 0)), (47, (.iconst (-1), 0, 0, 0)), (48, (.ireturn, 0, 0, 0))]
/-- TriangleSetsModel.lead.(III)V -/
def vm_t87 : List (Nat × (Jvm.ClassFile.Instr × Nat × Nat × Nat)) := [(0, (.iconst 0, 0, 0, 0)), (1, (.istore 4, 0, 0, 0)), (3, (.iconst 0, 0, 0, 0)), (4, (.istore 5, 0, 0, 0)), (6, (.iload 5, 0, 0, 0)), (8, (.aload_n 0, 0, 0, 0)), (9, (.getfield 20, 6, 6, 640)), (12, (.iload_n 1, 0, 0, 0)), (13, (.iaload, 0, 0, 0)), (14, (.if_icmp .ge 85, 99, 0, 0)), (17, (.aload_n 0, 0, 0, 0)), (18, (.getfield 27, 6, 8, 642)), (21, (.bipush 60, 0, 0, 0)), (23, (.iload_n 1, 0, 0, 0)), (24, (.imul, 0, 0, 0)), (25, (.iload 5, 0, 0, 0)), (27, (.iadd, 0, 0, 0)), (28, (.laload, 0, 0, 0)), (29, (.lstore 6, 0, 0, 0)), (31, (.lload 6, 0, 0, 0)), (33, (.iload_n 2, 0, 0, 0)), (34, (.invokestatic 91, 78, 1, 794)), (37, (.iload_n 3, 0, 0, 0)), (38, (.if_icmp .ne 55, 93, 0, 0)), (41, (.aload_n 0, 0, 0, 0)), (42, (.getfield 23, 6, 7, 641)), (45, (.sipush 4200, 0, 0, 0)), (48, (.iload 4, 0, 0, 0)), (50, (.iadd, 0, 0, 0)), (51, (.aload_n 0, 0, 0, 0)), (52, (.getfield 23, 6, 7, 641)), (55, (.bipush 60, 0, 0, 0)), (57, (.iload_n 1, 0, 0, 0)), (58, (.imul, 0, 0, 0)), (59, (.iload 5, 0, 0, 0)), (61, (.iadd, 0, 0, 0)), (62, (.laload, 0, 0, 0)), (63, (.lastore, 0, 0, 0)), (64, (.aload_n 0, 0, 0, 0)), (65, (.getfield 27, 6, 8, 642)), (68, (.sipush 4200, 0, 0, 0)), (71, (.iload 4, 0, 0, 0)), (73, (.iadd, 0, 0, 0)), (74, (.lload 6, 0, 0, 0)), (76, (.ldc2_w 107, 255, 0, 833)), (79, (.bipush 8, 0, 0, 0)), (81, (.iload_n 2, 0, 0, 0)), (82, (.imul, 0, 0, 0)), (83, (.lshl, 0, 0, 0)), (84, (.ldc2_w 109, 18446744073709551615, 0, 834)), (87, (.lxor, 0, 0, 0)), (88, (.land, 0, 0, 0)), (89, (.lastore, 0, 0, 0)), (90, (.iinc 4 1, 0, 0, 0)), (93, (.iinc 5 1, 0, 0, 0)), (96, (.goto (-90), 6, 0, 0)), (99, (.aload_n 0, 0, 0, 0)), (100, (.getfield 20, 6, 6, 640)), (103, (.bipush 70, 0, 0, 0)), (105, (.iload 4, 0, 0, 0)), (107, (.iastore, 0, 0, 0)), (108, (.return_, 0, 0, 0))]
/-- TriangleSetsModel.gather.(JJ)V -/
def vm_t88 : List (Nat × (Jvm.ClassFile.Instr × Nat × Nat × Nat)) := [(0, (.lload_n 3, 0, 0, 0)), (1, (.ldc2_w 111, 11400714819323198485, 0, 843)), (4, (.lmul, 0, 0, 0)), (5, (.lstore 5, 0, 0, 0)), (7, (.lload 5, 0, 0, 0)), (9, (.bipush 50, 0, 0, 0)), (11, (.lushr, 0, 0, 0)), (12, (.l2i, 0, 0, 0)), (13, (.istore 7, 0, 0, 0)), (15, (.aload_n 0, 0, 0, 0)), (16, (.getfield 72, 6, 36, 670)), (19, (.iload 7, 0, 0, 0)), (21, (.baload, 0, 0, 0)), (22, (.ifCond .eq 28, 50, 0, 0)), (25, (.aload_n 0, 0, 0, 0)), (26, (.getfield 66, 6, 34, 668)), (29, (.iload 7, 0, 0, 0)), (31, (.laload, 0, 0, 0)), (32, (.lload_n 3, 0, 0, 0)), (33, (.lcmp, 0, 0, 0)), (34, (.ifCond .eq 16, 50, 0, 0)), (37, (.iload 7, 0, 0, 0)), (39, (.iconst 1, 0, 0, 0)), (40, (.iadd, 0, 0, 0)), (41, (.sipush 16384, 0, 0, 0)), (44, (.irem, 0, 0, 0)), (45, (.istore 7, 0, 0, 0)), (47, (.goto (-32), 15, 0, 0)), (50, (.aload_n 0, 0, 0, 0)), (51, (.getfield 72, 6, 36, 670)), (54, (.iload 7, 0, 0, 0)), (56, (.baload, 0, 0, 0)), (57, (.ifCond .ne 48, 105, 0, 0)), (60, (.aload_n 0, 0, 0, 0)), (61, (.getfield 72, 6, 36, 670)), (64, (.iload 7, 0, 0, 0)), (66, (.iconst 1, 0, 0, 0)), (67, (.bastore, 0, 0, 0)), (68, (.aload_n 0, 0, 0, 0)), (69, (.getfield 66, 6, 34, 668)), (72, (.iload 7, 0, 0, 0)), (74, (.lload_n 3, 0, 0, 0)), (75, (.lastore, 0, 0, 0)), (76, (.aload_n 0, 0, 0, 0)), (77, (.getfield 69, 6, 35, 669)), (80, (.iload 7, 0, 0, 0)), (82, (.lconst 0, 0, 0, 0)), (83, (.lastore, 0, 0, 0)), (84, (.aload_n 0, 0, 0, 0)), (85, (.getfield 75, 6, 37, 671)), (88, (.aload_n 0, 0, 0, 0)), (89, (.getfield 113, 6, 38, 672)), (92, (.iload 7, 0, 0, 0)), (94, (.iastore, 0, 0, 0)), (95, (.aload_n 0, 0, 0, 0)), (96, (.dup, 0, 0, 0)), (97, (.getfield 113, 6, 38, 672)), (100, (.iconst 1, 0, 0, 0)), (101, (.iadd, 0, 0, 0)), (102, (.putfield 113, 6, 38, 672)), (105, (.aload_n 0, 0, 0, 0)), (106, (.getfield 69, 6, 35, 669)), (109, (.iload 7, 0, 0, 0)), (111, (.dup2, 0, 0, 0)), (112, (.laload, 0, 0, 0)), (113, (.lload_n 1, 0, 0, 0)), (114, (.ladd, 0, 0, 0)), (115, (.lastore, 0, 0, 0)), (116, (.return_, 0, 0, 0))]
/-- TriangleSetsModel.isSmall.(J)Z -/
def vm_t89 : List (Nat × (Jvm.ClassFile.Instr × Nat × Nat × Nat)) := [(0, (.iconst 1, 0, 0, 0)), (1, (.istore_n 2, 0, 0, 0)), (2, (.iconst 0, 0, 0, 0)), (3, (.istore_n 3, 0, 0, 0)), (4, (.iload_n 3, 0, 0, 0)), (5, (.bipush 8, 0, 0, 0)), (7, (.if_icmp .ge 27, 34, 0, 0)), (10, (.iload_n 2, 0, 0, 0)), (11, (.lload_n 0, 0, 0, 0)), (12, (.iload_n 3, 0, 0, 0)), (13, (.invokestatic 91, 78, 1, 794)), (16, (.bipush 15, 0, 0, 0)), (18, (.if_icmp .gt 7, 25, 0, 0)), (21, (.iconst 1, 0, 0, 0)), (22, (.goto 4, 26, 0, 0)), (25, (.iconst 0, 0, 0, 0)), (26, (.iand, 0, 0, 0)), (27, (.istore_n 2, 0, 0, 0)), (28, (.iinc 3 1, 0, 0, 0)), (31, (.goto (-27), 4, 0, 0)), (34, (.iload_n 2, 0, 0, 0)), (35, (.ireturn, 0, 0, 0))]
/-- TriangleSetsModel.settle.(I)Z -/
def vm_t90 : List (Nat × (Jvm.ClassFile.Instr × Nat × Nat × Nat)) := [(0, (.iconst 0, 0, 0, 0)), (1, (.istore_n 2, 0, 0, 0)), (2, (.iconst 1, 0, 0, 0)), (3, (.istore_n 3, 0, 0, 0)), (4, (.iconst 0, 0, 0, 0)), (5, (.istore 4, 0, 0, 0)), (7, (.iload 4, 0, 0, 0)), (9, (.aload_n 0, 0, 0, 0)), (10, (.getfield 113, 6, 38, 672)), (13, (.if_icmp .ge 127, 140, 0, 0)), (16, (.aload_n 0, 0, 0, 0)), (17, (.getfield 75, 6, 37, 671)), (20, (.iload 4, 0, 0, 0)), (22, (.iaload, 0, 0, 0)), (23, (.istore 5, 0, 0, 0)), (25, (.aload_n 0, 0, 0, 0)), (26, (.getfield 69, 6, 35, 669)), (29, (.iload 5, 0, 0, 0)), (31, (.laload, 0, 0, 0)), (32, (.lstore 6, 0, 0, 0)), (34, (.aload_n 0, 0, 0, 0)), (35, (.getfield 72, 6, 36, 670)), (38, (.iload 5, 0, 0, 0)), (40, (.iconst 0, 0, 0, 0)), (41, (.bastore, 0, 0, 0)), (42, (.lload 6, 0, 0, 0)), (44, (.lconst 0, 0, 0, 0)), (45, (.lcmp, 0, 0, 0)), (46, (.ifCond .eq 88, 134, 0, 0)), (49, (.iload_n 3, 0, 0, 0)), (50, (.ifCond .eq 84, 134, 0, 0)), (53, (.iload_n 2, 0, 0, 0)), (54, (.bipush 60, 0, 0, 0)), (56, (.if_icmp .ge 38, 94, 0, 0)), (59, (.lload 6, 0, 0, 0)), (61, (.ldc2_w 116, 18446744073642442752, 0, 848)), (64, (.lcmp, 0, 0, 0)), (65, (.ifCond .lt 29, 94, 0, 0)), (68, (.lload 6, 0, 0, 0)), (70, (.ldc2_w 118, 67108864, 0, 849)), (73, (.lcmp, 0, 0, 0)), (74, (.ifCond .gt 20, 94, 0, 0)), (77, (.aload_n 0, 0, 0, 0)), (78, (.getfield 66, 6, 34, 668)), (81, (.iload 5, 0, 0, 0)), (83, (.laload, 0, 0, 0)), (84, (.invokestatic 120, 89, 1, 850)), (87, (.ifCond .eq 7, 94, 0, 0)), (90, (.iconst 1, 0, 0, 0)), (91, (.goto 4, 95, 0, 0)), (94, (.iconst 0, 0, 0, 0)), (95, (.istore_n 3, 0, 0, 0)), (96, (.iload_n 3, 0, 0, 0)), (97, (.ifCond .eq 37, 134, 0, 0)), (100, (.aload_n 0, 0, 0, 0)), (101, (.getfield 23, 6, 7, 641)), (104, (.bipush 60, 0, 0, 0)), (106, (.iload_n 1, 0, 0, 0)), (107, (.imul, 0, 0, 0)), (108, (.iload_n 2, 0, 0, 0)), (109, (.iadd, 0, 0, 0)), (110, (.lload 6, 0, 0, 0)), (112, (.lastore, 0, 0, 0)), (113, (.aload_n 0, 0, 0, 0)), (114, (.getfield 27, 6, 8, 642)), (117, (.bipush 60, 0, 0, 0)), (119, (.iload_n 1, 0, 0, 0)), (120, (.imul, 0, 0, 0)), (121, (.iload_n 2, 0, 0, 0)), (122, (.iadd, 0, 0, 0)), (123, (.aload_n 0, 0, 0, 0)), (124, (.getfield 66, 6, 34, 668)), (127, (.iload 5, 0, 0, 0)), (129, (.laload, 0, 0, 0)), (130, (.lastore, 0, 0, 0)), (131, (.iinc 2 1, 0, 0, 0)), (134, (.iinc 4 1, 0, 0, 0)), (137, (.goto (-130), 7, 0, 0)), (140, (.aload_n 0, 0, 0, 0)), (141, (.iconst 0, 0, 0, 0)), (142, (.putfield 113, 6, 38, 672)), (145, (.aload_n 0, 0, 0, 0)), (146, (.getfield 20, 6, 6, 640)), (149, (.iload_n 1, 0, 0, 0)), (150, (.iload_n 2, 0, 0, 0)), (151, (.iastore, 0, 0, 0)), (152, (.iload_n 3, 0, 0, 0)), (153, (.ifCond .eq 8, 161, 0, 0)), (156, (.aload_n 0, 0, 0, 0)), (157, (.iload_n 1, 0, 0, 0)), (158, (.invokevirtual 124, 80, 4, 853)), (161, (.iload_n 3, 0, 0, 0)), (162, (.ireturn, 0, 0, 0))]
/-- TriangleSetsModel.step.(III)Z -/
def vm_t91 : List (Nat × (Jvm.ClassFile.Instr × Nat × Nat × Nat)) := [(0, (.aload_n 0, 0, 0, 0)), (1, (.bipush 69, 0, 0, 0)), (3, (.iload_n 2, 0, 0, 0)), (4, (.invokevirtual 103, 85, 4, 790)), (7, (.istore 4, 0, 0, 0)), (9, (.aload_n 0, 0, 0, 0)), (10, (.iload_n 1, 0, 0, 0)), (11, (.iload_n 2, 0, 0, 0)), (12, (.iload_n 3, 0, 0, 0)), (13, (.invokevirtual 128, 87, 4, 829)), (16, (.iconst 0, 0, 0, 0)), (17, (.istore 5, 0, 0, 0)), (19, (.iload 5, 0, 0, 0)), (21, (.aload_n 0, 0, 0, 0)), (22, (.getfield 20, 6, 6, 640)), (25, (.bipush 69, 0, 0, 0)), (27, (.iaload, 0, 0, 0)), (28, (.if_icmp .ge 80, 108, 0, 0)), (31, (.iconst 0, 0, 0, 0)), (32, (.istore 6, 0, 0, 0)), (34, (.iload 6, 0, 0, 0)), (36, (.aload_n 0, 0, 0, 0)), (37, (.getfield 20, 6, 6, 640)), (40, (.bipush 70, 0, 0, 0)), (42, (.iaload, 0, 0, 0)), (43, (.if_icmp .ge 59, 102, 0, 0)), (46, (.aload_n 0, 0, 0, 0)), (47, (.aload_n 0, 0, 0, 0)), (48, (.getfield 23, 6, 7, 641)), (51, (.sipush 4140, 0, 0, 0)), (54, (.iload 5, 0, 0, 0)), (56, (.iadd, 0, 0, 0)), (57, (.laload, 0, 0, 0)), (58, (.aload_n 0, 0, 0, 0)), (59, (.getfield 23, 6, 7, 641)), (62, (.sipush 4200, 0, 0, 0)), (65, (.iload 6, 0, 0, 0)), (67, (.iadd, 0, 0, 0)), (68, (.laload, 0, 0, 0)), (69, (.lmul, 0, 0, 0)), (70, (.aload_n 0, 0, 0, 0)), (71, (.getfield 27, 6, 8, 642)), (74, (.sipush 4140, 0, 0, 0)), (77, (.iload 5, 0, 0, 0)), (79, (.iadd, 0, 0, 0)), (80, (.laload, 0, 0, 0)), (81, (.aload_n 0, 0, 0, 0)), (82, (.getfield 27, 6, 8, 642)), (85, (.sipush 4200, 0, 0, 0)), (88, (.iload 6, 0, 0, 0)), (90, (.iadd, 0, 0, 0)), (91, (.laload, 0, 0, 0)), (92, (.ladd, 0, 0, 0)), (93, (.invokevirtual 132, 88, 4, 839)), (96, (.iinc 6 1, 0, 0, 0)), (99, (.goto (-65), 34, 0, 0)), (102, (.iinc 5 1, 0, 0, 0)), (105, (.goto (-86), 19, 0, 0)), (108, (.aload_n 0, 0, 0, 0)), (109, (.bipush 69, 0, 0, 0)), (111, (.iload_n 2, 0, 0, 0)), (112, (.iload 4, 0, 0, 0)), (114, (.invokevirtual 128, 87, 4, 829)), (117, (.iload 4, 0, 0, 0)), (119, (.iload_n 3, 0, 0, 0)), (120, (.isub, 0, 0, 0)), (121, (.i2l, 0, 0, 0)), (122, (.bipush 8, 0, 0, 0)), (124, (.iload_n 2, 0, 0, 0)), (125, (.imul, 0, 0, 0)), (126, (.lshl, 0, 0, 0)), (127, (.lstore 5, 0, 0, 0)), (129, (.iconst 0, 0, 0, 0)), (130, (.istore 7, 0, 0, 0)), (132, (.iload 7, 0, 0, 0)), (134, (.aload_n 0, 0, 0, 0)), (135, (.getfield 20, 6, 6, 640)), (138, (.bipush 70, 0, 0, 0)), (140, (.iaload, 0, 0, 0)), (141, (.if_icmp .ge 85, 226, 0, 0)), (144, (.iconst 0, 0, 0, 0)), (145, (.istore 8, 0, 0, 0)), (147, (.iload 8, 0, 0, 0)), (149, (.aload_n 0, 0, 0, 0)), (150, (.getfield 20, 6, 6, 640)), (153, (.iload_n 1, 0, 0, 0)), (154, (.iaload, 0, 0, 0)), (155, (.if_icmp .ge 65, 220, 0, 0)), (158, (.aload_n 0, 0, 0, 0)), (159, (.aload_n 0, 0, 0, 0)), (160, (.getfield 23, 6, 7, 641)), (163, (.sipush 4200, 0, 0, 0)), (166, (.iload 7, 0, 0, 0)), (168, (.iadd, 0, 0, 0)), (169, (.laload, 0, 0, 0)), (170, (.lneg, 0, 0, 0)), (171, (.aload_n 0, 0, 0, 0)), (172, (.getfield 23, 6, 7, 641)), (175, (.bipush 60, 0, 0, 0)), (177, (.iload_n 1, 0, 0, 0)), (178, (.imul, 0, 0, 0)), (179, (.iload 8, 0, 0, 0)), (181, (.iadd, 0, 0, 0)), (182, (.laload, 0, 0, 0)), (183, (.lmul, 0, 0, 0)), (184, (.aload_n 0, 0, 0, 0)), (185, (.getfield 27, 6, 8, 642)), (188, (.sipush 4200, 0, 0, 0)), (191, (.iload 7, 0, 0, 0)), (193, (.iadd, 0, 0, 0)), (194, (.laload, 0, 0, 0)), (195, (.lload 5, 0, 0, 0)), (197, (.ladd, 0, 0, 0)), (198, (.aload_n 0, 0, 0, 0)), (199, (.getfield 27, 6, 8, 642)), (202, (.bipush 60, 0, 0, 0)), (204, (.iload_n 1, 0, 0, 0)), (205, (.imul, 0, 0, 0)), (206, (.iload 8, 0, 0, 0)), (208, (.iadd, 0, 0, 0)), (209, (.laload, 0, 0, 0)), (210, (.ladd, 0, 0, 0)), (211, (.invokevirtual 132, 88, 4, 839)), (214, (.iinc 8 1, 0, 0, 0)), (217, (.goto (-70), 147, 0, 0)), (220, (.iinc 7 1, 0, 0, 0)), (223, (.goto (-91), 132, 0, 0)), (226, (.aload_n 0, 0, 0, 0)), (227, (.bipush 69, 0, 0, 0)), (229, (.invokevirtual 136, 90, 4, 844)), (232, (.ireturn, 0, 0, 0))]
/-- TriangleSetsModel.keepStep.(IIII)V -/
def vm_t92 : List (Nat × (Jvm.ClassFile.Instr × Nat × Nat × Nat)) := [(0, (.aload_n 0, 0, 0, 0)), (1, (.bipush 69, 0, 0, 0)), (3, (.iload_n 3, 0, 0, 0)), (4, (.iload_n 2, 0, 0, 0)), (5, (.invokevirtual 128, 87, 4, 829)), (8, (.aload_n 0, 0, 0, 0)), (9, (.getfield 51, 6, 29, 663)), (12, (.aload_n 0, 0, 0, 0)), (13, (.getfield 140, 6, 27, 661)), (16, (.iload_n 1, 0, 0, 0)), (17, (.iastore, 0, 0, 0)), (18, (.aload_n 0, 0, 0, 0)), (19, (.getfield 54, 6, 30, 664)), (22, (.aload_n 0, 0, 0, 0)), (23, (.getfield 140, 6, 27, 661)), (26, (.aload_n 0, 0, 0, 0)), (27, (.getfield 143, 6, 28, 662)), (30, (.iastore, 0, 0, 0)), (31, (.aload_n 0, 0, 0, 0)), (32, (.getfield 57, 6, 31, 665)), (35, (.aload_n 0, 0, 0, 0)), (36, (.getfield 140, 6, 27, 661)), (39, (.aload_n 0, 0, 0, 0)), (40, (.getfield 20, 6, 6, 640)), (43, (.bipush 70, 0, 0, 0)), (45, (.iaload, 0, 0, 0)), (46, (.iastore, 0, 0, 0)), (47, (.iconst 0, 0, 0, 0)), (48, (.istore 5, 0, 0, 0)), (50, (.iload 5, 0, 0, 0)), (52, (.aload_n 0, 0, 0, 0)), (53, (.getfield 20, 6, 6, 640)), (56, (.bipush 70, 0, 0, 0)), (58, (.iaload, 0, 0, 0)), (59, (.if_icmp .ge 70, 129, 0, 0)), (62, (.aload_n 0, 0, 0, 0)), (63, (.getfield 60, 6, 32, 666)), (66, (.aload_n 0, 0, 0, 0)), (67, (.getfield 143, 6, 28, 662)), (70, (.aload_n 0, 0, 0, 0)), (71, (.getfield 23, 6, 7, 641)), (74, (.sipush 4200, 0, 0, 0)), (77, (.iload 5, 0, 0, 0)), (79, (.iadd, 0, 0, 0)), (80, (.laload, 0, 0, 0)), (81, (.lastore, 0, 0, 0)), (82, (.aload_n 0, 0, 0, 0)), (83, (.getfield 63, 6, 33, 667)), (86, (.aload_n 0, 0, 0, 0)), (87, (.getfield 143, 6, 28, 662)), (90, (.aload_n 0, 0, 0, 0)), (91, (.getfield 27, 6, 8, 642)), (94, (.sipush 4200, 0, 0, 0)), (97, (.iload 5, 0, 0, 0)), (99, (.iadd, 0, 0, 0)), (100, (.laload, 0, 0, 0)), (101, (.iload_n 2, 0, 0, 0)), (102, (.iload 4, 0, 0, 0)), (104, (.isub, 0, 0, 0)), (105, (.i2l, 0, 0, 0)), (106, (.bipush 8, 0, 0, 0)), (108, (.iload_n 3, 0, 0, 0)), (109, (.imul, 0, 0, 0)), (110, (.lshl, 0, 0, 0)), (111, (.ladd, 0, 0, 0)), (112, (.lastore, 0, 0, 0)), (113, (.aload_n 0, 0, 0, 0)), (114, (.dup, 0, 0, 0)), (115, (.getfield 143, 6, 28, 662)), (118, (.iconst 1, 0, 0, 0)), (119, (.iadd, 0, 0, 0)), (120, (.putfield 143, 6, 28, 662)), (123, (.iinc 5 1, 0, 0, 0)), (126, (.goto (-76), 50, 0, 0)), (129, (.aload_n 0, 0, 0, 0)), (130, (.dup, 0, 0, 0)), (131, (.getfield 140, 6, 27, 661)), (134, (.iconst 1, 0, 0, 0)), (135, (.iadd, 0, 0, 0)), (136, (.putfield 140, 6, 27, 661)), (139, (.return_, 0, 0, 0))]
/-- TriangleSetsModel.reduce.(ZI)Z -/
def vm_t93 : List (Nat × (Jvm.ClassFile.Instr × Nat × Nat × Nat)) := [(0, (.aload_n 0, 0, 0, 0)), (1, (.iconst 0, 0, 0, 0)), (2, (.putfield 146, 6, 41, 675)), (5, (.aload_n 0, 0, 0, 0)), (6, (.getfield 149, 6, 40, 674)), (9, (.iconst 1, 0, 0, 0)), (10, (.isub, 0, 0, 0)), (11, (.istore_n 3, 0, 0, 0)), (12, (.iload_n 3, 0, 0, 0)), (13, (.ifCond .lt 126, 139, 0, 0)), (16, (.aload_n 0, 0, 0, 0)), (17, (.getfield 13, 6, 3, 637)), (20, (.aload_n 0, 0, 0, 0)), (21, (.aload_n 0, 0, 0, 0)), (22, (.getfield 78, 6, 39, 673)), (25, (.iload_n 3, 0, 0, 0)), (26, (.iaload, 0, 0, 0)), (27, (.invokevirtual 152, 86, 4, 786)), (30, (.iaload, 0, 0, 0)), (31, (.istore 4, 0, 0, 0)), (33, (.aload_n 0, 0, 0, 0)), (34, (.aload_n 0, 0, 0, 0)), (35, (.getfield 78, 6, 39, 673)), (38, (.iload_n 3, 0, 0, 0)), (39, (.iaload, 0, 0, 0)), (40, (.iload 4, 0, 0, 0)), (42, (.invokevirtual 103, 85, 4, 790)), (45, (.istore 5, 0, 0, 0)), (47, (.aload_n 0, 0, 0, 0)), (48, (.getfield 20, 6, 6, 640)), (51, (.bipush 69, 0, 0, 0)), (53, (.iaload, 0, 0, 0)), (54, (.ifCond .le 79, 133, 0, 0)), (57, (.aload_n 0, 0, 0, 0)), (58, (.bipush 69, 0, 0, 0)), (60, (.iload 4, 0, 0, 0)), (62, (.invokevirtual 103, 85, 4, 790)), (65, (.iload 5, 0, 0, 0)), (67, (.if_icmp .lt 66, 133, 0, 0)), (70, (.aload_n 0, 0, 0, 0)), (71, (.getfield 146, 6, 41, 675)), (74, (.iload_n 2, 0, 0, 0)), (75, (.if_icmp .ne 5, 80, 0, 0)), (78, (.iconst 0, 0, 0, 0)), (79, (.ireturn, 0, 0, 0)), (80, (.iload_n 1, 0, 0, 0)), (81, (.ifCond .eq 20, 101, 0, 0)), (84, (.aload_n 0, 0, 0, 0)), (85, (.iload_n 3, 0, 0, 0)), (86, (.aload_n 0, 0, 0, 0)), (87, (.bipush 69, 0, 0, 0)), (89, (.iload 4, 0, 0, 0)), (91, (.invokevirtual 103, 85, 4, 790)), (94, (.iload 4, 0, 0, 0)), (96, (.iload 5, 0, 0, 0)), (98, (.invokevirtual 156, 92, 4, 825)), (101, (.aload_n 0, 0, 0, 0)), (102, (.aload_n 0, 0, 0, 0)), (103, (.getfield 78, 6, 39, 673)), (106, (.iload_n 3, 0, 0, 0)), (107, (.iaload, 0, 0, 0)), (108, (.iload 4, 0, 0, 0)), (110, (.iload 5, 0, 0, 0)), (112, (.invokevirtual 160, 91, 4, 835)), (115, (.ifCond .ne 5, 120, 0, 0)), (118, (.iconst 0, 0, 0, 0)), (119, (.ireturn, 0, 0, 0)), (120, (.aload_n 0, 0, 0, 0)), (121, (.dup, 0, 0, 0)), (122, (.getfield 146, 6, 41, 675)), (125, (.iconst 1, 0, 0, 0)), (126, (.iadd, 0, 0, 0)), (127, (.putfield 146, 6, 41, 675)), (130, (.goto (-83), 47, 0, 0)), (133, (.iinc 3 (-1), 0, 0, 0)), (136, (.goto (-124), 12, 0, 0)), (139, (.iconst 1, 0, 0, 0)), (140, (.ireturn, 0, 0, 0))]
/-- TriangleSetsModel.isLess.(II)Z -/
def vm_t94 : List (Nat × (Jvm.ClassFile.Instr × Nat × Nat × Nat)) := [(0, (.aload_n 0, 0, 0, 0)), (1, (.iload_n 1, 0, 0, 0)), (2, (.invokevirtual 152, 86, 4, 786)), (5, (.istore_n 3, 0, 0, 0)), (6, (.aload_n 0, 0, 0, 0)), (7, (.iload_n 2, 0, 0, 0)), (8, (.invokevirtual 152, 86, 4, 786)), (11, (.istore 4, 0, 0, 0)), (13, (.iload_n 3, 0, 0, 0)), (14, (.iload 4, 0, 0, 0)), (16, (.if_icmp .eq 15, 31, 0, 0)), (19, (.iload_n 3, 0, 0, 0)), (20, (.iload 4, 0, 0, 0)), (22, (.if_icmp .ge 7, 29, 0, 0)), (25, (.iconst 1, 0, 0, 0)), (26, (.goto 4, 30, 0, 0)), (29, (.iconst 0, 0, 0, 0)), (30, (.ireturn, 0, 0, 0)), (31, (.aload_n 0, 0, 0, 0)), (32, (.iload_n 1, 0, 0, 0)), (33, (.aload_n 0, 0, 0, 0)), (34, (.getfield 13, 6, 3, 637)), (37, (.iload_n 3, 0, 0, 0)), (38, (.iaload, 0, 0, 0)), (39, (.invokevirtual 103, 85, 4, 790)), (42, (.istore 5, 0, 0, 0)), (44, (.aload_n 0, 0, 0, 0)), (45, (.iload_n 2, 0, 0, 0)), (46, (.aload_n 0, 0, 0, 0)), (47, (.getfield 13, 6, 3, 637)), (50, (.iload 4, 0, 0, 0)), (52, (.iaload, 0, 0, 0)), (53, (.invokevirtual 103, 85, 4, 790)), (56, (.istore 6, 0, 0, 0)), (58, (.iload 5, 0, 0, 0)), (60, (.iload 6, 0, 0, 0)), (62, (.if_icmp .eq 18, 80, 0, 0)), (65, (.iload 5, 0, 0, 0)), (67, (.iload 6, 0, 0, 0)), (69, (.if_icmp .ge 7, 76, 0, 0)), (72, (.iconst 1, 0, 0, 0)), (73, (.goto 27, 100, 0, 0)), (76, (.iconst 0, 0, 0, 0)), (77, (.goto 23, 100, 0, 0)), (80, (.aload_n 0, 0, 0, 0)), (81, (.getfield 20, 6, 6, 640)), (84, (.iload_n 1, 0, 0, 0)), (85, (.iaload, 0, 0, 0)), (86, (.aload_n 0, 0, 0, 0)), (87, (.getfield 20, 6, 6, 640)), (90, (.iload_n 2, 0, 0, 0)), (91, (.iaload, 0, 0, 0)), (92, (.if_icmp .ge 7, 99, 0, 0)), (95, (.iconst 1, 0, 0, 0)), (96, (.goto 4, 100, 0, 0)), (99, (.iconst 0, 0, 0, 0)), (100, (.ireturn, 0, 0, 0))]
/-- TriangleSetsModel.mayCome.(I)Z -/
def vm_t95 : List (Nat × (Jvm.ClassFile.Instr × Nat × Nat × Nat)) := [(0, (.aload_n 0, 0, 0, 0)), (1, (.getfield 149, 6, 40, 674)), (4, (.ifCond .eq 26, 30, 0, 0)), (7, (.aload_n 0, 0, 0, 0)), (8, (.iload_n 1, 0, 0, 0)), (9, (.invokevirtual 152, 86, 4, 786)), (12, (.aload_n 0, 0, 0, 0)), (13, (.aload_n 0, 0, 0, 0)), (14, (.getfield 78, 6, 39, 673)), (17, (.aload_n 0, 0, 0, 0)), (18, (.getfield 149, 6, 40, 674)), (21, (.iconst 1, 0, 0, 0)), (22, (.isub, 0, 0, 0)), (23, (.iaload, 0, 0, 0)), (24, (.invokevirtual 152, 86, 4, 786)), (27, (.if_icmp .le 7, 34, 0, 0)), (30, (.iconst 1, 0, 0, 0)), (31, (.goto 4, 35, 0, 0)), (34, (.iconst 0, 0, 0, 0)), (35, (.istore_n 2, 0, 0, 0)), (36, (.iconst 0, 0, 0, 0)), (37, (.istore_n 3, 0, 0, 0)), (38, (.iload_n 3, 0, 0, 0)), (39, (.aload_n 0, 0, 0, 0)), (40, (.getfield 149, 6, 40, 674)), (43, (.if_icmp .ge 58, 101, 0, 0)), (46, (.iload_n 2, 0, 0, 0)), (47, (.ifCond .eq 54, 101, 0, 0)), (50, (.aload_n 0, 0, 0, 0)), (51, (.getfield 13, 6, 3, 637)), (54, (.aload_n 0, 0, 0, 0)), (55, (.aload_n 0, 0, 0, 0)), (56, (.getfield 78, 6, 39, 673)), (59, (.iload_n 3, 0, 0, 0)), (60, (.iaload, 0, 0, 0)), (61, (.invokevirtual 152, 86, 4, 786)), (64, (.iaload, 0, 0, 0)), (65, (.istore 4, 0, 0, 0)), (67, (.aload_n 0, 0, 0, 0)), (68, (.iload_n 1, 0, 0, 0)), (69, (.iload 4, 0, 0, 0)), (71, (.invokevirtual 103, 85, 4, 790)), (74, (.aload_n 0, 0, 0, 0)), (75, (.aload_n 0, 0, 0, 0)), (76, (.getfield 78, 6, 39, 673)), (79, (.iload_n 3, 0, 0, 0)), (80, (.iaload, 0, 0, 0)), (81, (.iload 4, 0, 0, 0)), (83, (.invokevirtual 103, 85, 4, 790)), (86, (.if_icmp .ge 7, 93, 0, 0)), (89, (.iconst 1, 0, 0, 0)), (90, (.goto 4, 94, 0, 0)), (93, (.iconst 0, 0, 0, 0)), (94, (.istore_n 2, 0, 0, 0)), (95, (.iinc 3 1, 0, 0, 0)), (98, (.goto (-60), 38, 0, 0)), (101, (.iload_n 2, 0, 0, 0)), (102, (.ireturn, 0, 0, 0))]
/-- TriangleSetsModel.findBase.()V -/
def vm_t96 : List (Nat × (Jvm.ClassFile.Instr × Nat × Nat × Nat)) := [(0, (.aload_n 0, 0, 0, 0)), (1, (.iconst 0, 0, 0, 0)), (2, (.putfield 149, 6, 40, 674)), (5, (.iconst 1, 0, 0, 0)), (6, (.istore_n 1, 0, 0, 0)), (7, (.iload_n 1, 0, 0, 0)), (8, (.ifCond .eq 90, 98, 0, 0)), (11, (.iconst (-1), 0, 0, 0)), (12, (.istore_n 2, 0, 0, 0)), (13, (.iconst 0, 0, 0, 0)), (14, (.istore_n 3, 0, 0, 0)), (15, (.iload_n 3, 0, 0, 0)), (16, (.aload_n 0, 0, 0, 0)), (17, (.getfield 164, 6, 42, 676)), (20, (.if_icmp .ge 41, 61, 0, 0)), (23, (.aload_n 0, 0, 0, 0)), (24, (.bipush 16, 0, 0, 0)), (26, (.iload_n 3, 0, 0, 0)), (27, (.iadd, 0, 0, 0)), (28, (.invokevirtual 167, 95, 4, 809)), (31, (.ifCond .eq 24, 55, 0, 0)), (34, (.iload_n 2, 0, 0, 0)), (35, (.ifCond .lt 15, 50, 0, 0)), (38, (.aload_n 0, 0, 0, 0)), (39, (.bipush 16, 0, 0, 0)), (41, (.iload_n 3, 0, 0, 0)), (42, (.iadd, 0, 0, 0)), (43, (.iload_n 2, 0, 0, 0)), (44, (.invokevirtual 170, 94, 4, 813)), (47, (.ifCond .eq 8, 55, 0, 0)), (50, (.bipush 16, 0, 0, 0)), (52, (.iload_n 3, 0, 0, 0)), (53, (.iadd, 0, 0, 0)), (54, (.istore_n 2, 0, 0, 0)), (55, (.iinc 3 1, 0, 0, 0)), (58, (.goto (-43), 15, 0, 0)), (61, (.iload_n 2, 0, 0, 0)), (62, (.ifCond .lt 7, 69, 0, 0)), (65, (.iconst 1, 0, 0, 0)), (66, (.goto 4, 70, 0, 0)), (69, (.iconst 0, 0, 0, 0)), (70, (.istore_n 1, 0, 0, 0)), (71, (.iload_n 1, 0, 0, 0)), (72, (.ifCond .eq 23, 95, 0, 0)), (75, (.aload_n 0, 0, 0, 0)), (76, (.getfield 78, 6, 39, 673)), (79, (.aload_n 0, 0, 0, 0)), (80, (.getfield 149, 6, 40, 674)), (83, (.iload_n 2, 0, 0, 0)), (84, (.iastore, 0, 0, 0)), (85, (.aload_n 0, 0, 0, 0)), (86, (.dup, 0, 0, 0)), (87, (.getfield 149, 6, 40, 674)), (90, (.iconst 1, 0, 0, 0)), (91, (.iadd, 0, 0, 0)), (92, (.putfield 149, 6, 40, 674)), (95, (.goto (-88), 7, 0, 0)), (98, (.return_, 0, 0, 0))]
/-- TriangleSetsModel.isBase.(I)Z -/
def vm_t97 : List (Nat × (Jvm.ClassFile.Instr × Nat × Nat × Nat)) := [(0, (.iconst 0, 0, 0, 0)), (1, (.istore_n 2, 0, 0, 0)), (2, (.iconst 0, 0, 0, 0)), (3, (.istore_n 3, 0, 0, 0)), (4, (.iload_n 3, 0, 0, 0)), (5, (.aload_n 0, 0, 0, 0)), (6, (.getfield 149, 6, 40, 674)), (9, (.if_icmp .ge 27, 36, 0, 0)), (12, (.iload_n 2, 0, 0, 0)), (13, (.aload_n 0, 0, 0, 0)), (14, (.getfield 78, 6, 39, 673)), (17, (.iload_n 3, 0, 0, 0)), (18, (.iaload, 0, 0, 0)), (19, (.iload_n 1, 0, 0, 0)), (20, (.if_icmp .ne 7, 27, 0, 0)), (23, (.iconst 1, 0, 0, 0)), (24, (.goto 4, 28, 0, 0)), (27, (.iconst 0, 0, 0, 0)), (28, (.ior, 0, 0, 0)), (29, (.istore_n 2, 0, 0, 0)), (30, (.iinc 3 1, 0, 0, 0)), (33, (.goto (-29), 4, 0, 0)), (36, (.iload_n 2, 0, 0, 0)), (37, (.ireturn, 0, 0, 0))]
/-- TriangleSetsModel.isRow.(I)Z -/
def vm_t98 : List (Nat × (Jvm.ClassFile.Instr × Nat × Nat × Nat)) := [(0, (.iconst 0, 0, 0, 0)), (1, (.istore_n 2, 0, 0, 0)), (2, (.iconst 0, 0, 0, 0)), (3, (.istore_n 3, 0, 0, 0)), (4, (.iload_n 3, 0, 0, 0)), (5, (.aload_n 0, 0, 0, 0)), (6, (.getfield 164, 6, 42, 676)), (9, (.if_icmp .ge 23, 32, 0, 0)), (12, (.iload_n 2, 0, 0, 0)), (13, (.ifCond .ne 19, 32, 0, 0)), (16, (.aload_n 0, 0, 0, 0)), (17, (.bipush 16, 0, 0, 0)), (19, (.iload_n 3, 0, 0, 0)), (20, (.iadd, 0, 0, 0)), (21, (.iload_n 1, 0, 0, 0)), (22, (.invokevirtual 174, 84, 4, 865)), (25, (.istore_n 2, 0, 0, 0)), (26, (.iinc 3 1, 0, 0, 0)), (29, (.goto (-25), 4, 0, 0)), (32, (.iload_n 2, 0, 0, 0)), (33, (.ireturn, 0, 0, 0))]
/-- TriangleSetsModel.tellCondition.(I)V -/
def vm_t99 : List (Nat × (Jvm.ClassFile.Instr × Nat × Nat × Nat)) := [(0, (.aload_n 0, 0, 0, 0)), (1, (.iload_n 1, 0, 0, 0)), (2, (.bipush 68, 0, 0, 0)), (4, (.invokevirtual 177, 81, 4, 775)), (7, (.aload_n 0, 0, 0, 0)), (8, (.iconst 1, 0, 0, 0)), (9, (.putfield 181, 6, 13, 647)), (12, (.return_, 0, 0, 0))]
/-- TriangleSetsModel.round.()I -/
def vm_t100 : List (Nat × (Jvm.ClassFile.Instr × Nat × Nat × Nat)) := [(0, (.aload_n 0, 0, 0, 0)), (1, (.dup, 0, 0, 0)), (2, (.getfield 185, 6, 14, 648)), (5, (.iconst 1, 0, 0, 0)), (6, (.iadd, 0, 0, 0)), (7, (.putfield 185, 6, 14, 648)), (10, (.aload_n 0, 0, 0, 0)), (11, (.invokevirtual 188, 96, 4, 805)), (14, (.aload_n 0, 0, 0, 0)), (15, (.getfield 164, 6, 42, 676)), (18, (.istore_n 1, 0, 0, 0)), (19, (.iconst 0, 0, 0, 0)), (20, (.istore_n 2, 0, 0, 0)), (21, (.iload_n 2, 0, 0, 0)), (22, (.iload_n 1, 0, 0, 0)), (23, (.if_icmp .ge 157, 180, 0, 0)), (26, (.aload_n 0, 0, 0, 0)), (27, (.bipush 16, 0, 0, 0)), (29, (.iload_n 2, 0, 0, 0)), (30, (.iadd, 0, 0, 0)), (31, (.invokevirtual 191, 97, 4, 817)), (34, (.ifCond .ne 140, 174, 0, 0)), (37, (.aload_n 0, 0, 0, 0)), (38, (.bipush 16, 0, 0, 0)), (40, (.iload_n 2, 0, 0, 0)), (41, (.iadd, 0, 0, 0)), (42, (.bipush 69, 0, 0, 0)), (44, (.invokevirtual 177, 81, 4, 775)), (47, (.sipush 1000, 0, 0, 0)), (50, (.aload_n 0, 0, 0, 0)), (51, (.getfield 194, 6, 16, 650)), (54, (.isub, 0, 0, 0)), (55, (.istore_n 3, 0, 0, 0)), (56, (.aload_n 0, 0, 0, 0)), (57, (.iconst 0, 0, 0, 0)), (58, (.iload_n 3, 0, 0, 0)), (59, (.sipush 200, 0, 0, 0)), (62, (.if_icmp .ge 7, 69, 0, 0)), (65, (.iload_n 3, 0, 0, 0)), (66, (.goto 6, 72, 0, 0)), (69, (.sipush 200, 0, 0, 0)), (72, (.invokevirtual 197, 93, 4, 821)), (75, (.istore 4, 0, 0, 0)), (77, (.aload_n 0, 0, 0, 0)), (78, (.dup, 0, 0, 0)), (79, (.getfield 194, 6, 16, 650)), (82, (.aload_n 0, 0, 0, 0)), (83, (.getfield 146, 6, 41, 675)), (86, (.iadd, 0, 0, 0)), (87, (.putfield 194, 6, 16, 650)), (90, (.iload 4, 0, 0, 0)), (92, (.ifCond .ne 5, 97, 0, 0)), (95, (.iconst 2, 0, 0, 0)), (96, (.ireturn, 0, 0, 0)), (97, (.aload_n 0, 0, 0, 0)), (98, (.bipush 69, 0, 0, 0)), (100, (.invokevirtual 201, 83, 4, 779)), (103, (.aload_n 0, 0, 0, 0)), (104, (.getfield 20, 6, 6, 640)), (107, (.bipush 69, 0, 0, 0)), (109, (.iaload, 0, 0, 0)), (110, (.ifCond .le 64, 174, 0, 0)), (113, (.aload_n 0, 0, 0, 0)), (114, (.bipush 69, 0, 0, 0)), (116, (.invokevirtual 204, 98, 4, 861)), (119, (.ifCond .ne 55, 174, 0, 0)), (122, (.aload_n 0, 0, 0, 0)), (123, (.bipush 69, 0, 0, 0)), (125, (.invokevirtual 152, 86, 4, 786)), (128, (.iconst (-1), 0, 0, 0)), (129, (.if_icmp .ne 11, 140, 0, 0)), (132, (.aload_n 0, 0, 0, 0)), (133, (.bipush 69, 0, 0, 0)), (135, (.invokevirtual 207, 99, 4, 797)), (138, (.iconst 0, 0, 0, 0)), (139, (.ireturn, 0, 0, 0)), (140, (.aload_n 0, 0, 0, 0)), (141, (.getfield 164, 6, 42, 676)), (144, (.bipush 40, 0, 0, 0)), (146, (.if_icmp .ne 5, 151, 0, 0)), (149, (.iconst 2, 0, 0, 0)), (150, (.ireturn, 0, 0, 0)), (151, (.aload_n 0, 0, 0, 0)), (152, (.bipush 69, 0, 0, 0)), (154, (.bipush 16, 0, 0, 0)), (156, (.aload_n 0, 0, 0, 0)), (157, (.getfield 164, 6, 42, 676)), (160, (.iadd, 0, 0, 0)), (161, (.invokevirtual 177, 81, 4, 775)), (164, (.aload_n 0, 0, 0, 0)), (165, (.dup, 0, 0, 0)), (166, (.getfield 164, 6, 42, 676)), (169, (.iconst 1, 0, 0, 0)), (170, (.iadd, 0, 0, 0)), (171, (.putfield 164, 6, 42, 676)), (174, (.iinc 2 1, 0, 0, 0)), (177, (.goto (-156), 21, 0, 0)), (180, (.aload_n 0, 0, 0, 0)), (181, (.getfield 164, 6, 42, 676)), (184, (.iload_n 1, 0, 0, 0)), (185, (.if_icmp .ne 7, 192, 0, 0)), (188, (.iconst 1, 0, 0, 0)), (189, (.goto 4, 193, 0, 0)), (192, (.iconst 3, 0, 0, 0)), (193, (.ireturn, 0, 0, 0))]
/-- TriangleSetsModel.forget.()V -/
def vm_t101 : List (Nat × (Jvm.ClassFile.Instr × Nat × Nat × Nat)) := [(0, (.aload_n 0, 0, 0, 0)), (1, (.iconst 0, 0, 0, 0)), (2, (.putfield 210, 6, 10, 644)), (5, (.aload_n 0, 0, 0, 0)), (6, (.iconst 0, 0, 0, 0)), (7, (.putfield 213, 6, 11, 645)), (10, (.aload_n 0, 0, 0, 0)), (11, (.iconst 0, 0, 0, 0)), (12, (.putfield 216, 6, 12, 646)), (15, (.aload_n 0, 0, 0, 0)), (16, (.iconst 0, 0, 0, 0)), (17, (.putfield 219, 6, 18, 652)), (20, (.return_, 0, 0, 0))]
/-- TriangleSetsModel.decompose.()I -/
def vm_t102 : List (Nat × (Jvm.ClassFile.Instr × Nat × Nat × Nat)) := [(0, (.aload_n 0, 0, 0, 0)), (1, (.iconst 0, 0, 0, 0)), (2, (.putfield 84, 6, 0, 634)), (5, (.iconst 0, 0, 0, 0)), (6, (.istore_n 1, 0, 0, 0)), (7, (.iconst 0, 0, 0, 0)), (8, (.istore_n 2, 0, 0, 0)), (9, (.iload_n 2, 0, 0, 0)), (10, (.aload_n 0, 0, 0, 0)), (11, (.getfield 222, 6, 4, 638)), (14, (.if_icmp .ge 35, 49, 0, 0)), (17, (.iload_n 1, 0, 0, 0)), (18, (.aload_n 0, 0, 0, 0)), (19, (.getfield 17, 6, 5, 639)), (22, (.iload_n 2, 0, 0, 0)), (23, (.baload, 0, 0, 0)), (24, (.ifCond .eq 16, 40, 0, 0)), (27, (.aload_n 0, 0, 0, 0)), (28, (.getfield 20, 6, 6, 640)), (31, (.iload_n 2, 0, 0, 0)), (32, (.iaload, 0, 0, 0)), (33, (.ifCond .le 7, 40, 0, 0)), (36, (.iconst 1, 0, 0, 0)), (37, (.goto 4, 41, 0, 0)), (40, (.iconst 0, 0, 0, 0)), (41, (.iadd, 0, 0, 0)), (42, (.istore_n 1, 0, 0, 0)), (43, (.iinc 2 1, 0, 0, 0)), (46, (.goto (-37), 9, 0, 0)), (49, (.iload_n 1, 0, 0, 0)), (50, (.ifCond .ne 5, 55, 0, 0)), (53, (.iconst (-1), 0, 0, 0)), (54, (.ireturn, 0, 0, 0)), (55, (.aload_n 0, 0, 0, 0)), (56, (.invokevirtual 225, 101, 4, 771)), (59, (.aload_n 0, 0, 0, 0)), (60, (.iconst 0, 0, 0, 0)), (61, (.putfield 181, 6, 13, 647)), (64, (.aload_n 0, 0, 0, 0)), (65, (.iconst 0, 0, 0, 0)), (66, (.putfield 185, 6, 14, 648)), (69, (.aload_n 0, 0, 0, 0)), (70, (.iconst 0, 0, 0, 0)), (71, (.putfield 194, 6, 16, 650)), (74, (.aload_n 0, 0, 0, 0)), (75, (.iconst 0, 0, 0, 0)), (76, (.putfield 164, 6, 42, 676)), (79, (.iconst (-1), 0, 0, 0)), (80, (.istore_n 2, 0, 0, 0)), (81, (.iconst 0, 0, 0, 0)), (82, (.istore_n 3, 0, 0, 0)), (83, (.iload_n 3, 0, 0, 0)), (84, (.aload_n 0, 0, 0, 0)), (85, (.getfield 222, 6, 4, 638)), (88, (.if_icmp .ge 87, 175, 0, 0)), (91, (.aload_n 0, 0, 0, 0)), (92, (.getfield 17, 6, 5, 639)), (95, (.iload_n 3, 0, 0, 0)), (96, (.baload, 0, 0, 0)), (97, (.ifCond .eq 72, 169, 0, 0)), (100, (.aload_n 0, 0, 0, 0)), (101, (.getfield 20, 6, 6, 640)), (104, (.iload_n 3, 0, 0, 0)), (105, (.iaload, 0, 0, 0)), (106, (.ifCond .le 63, 169, 0, 0)), (109, (.aload_n 0, 0, 0, 0)), (110, (.iload_n 3, 0, 0, 0)), (111, (.bipush 16, 0, 0, 0)), (113, (.aload_n 0, 0, 0, 0)), (114, (.getfield 164, 6, 42, 676)), (117, (.iadd, 0, 0, 0)), (118, (.invokevirtual 177, 81, 4, 775)), (121, (.aload_n 0, 0, 0, 0)), (122, (.bipush 16, 0, 0, 0)), (124, (.aload_n 0, 0, 0, 0)), (125, (.getfield 164, 6, 42, 676)), (128, (.iadd, 0, 0, 0)), (129, (.invokevirtual 201, 83, 4, 779)), (132, (.iload_n 2, 0, 0, 0)), (133, (.ifCond .ge 26, 159, 0, 0)), (136, (.aload_n 0, 0, 0, 0)), (137, (.bipush 16, 0, 0, 0)), (139, (.aload_n 0, 0, 0, 0)), (140, (.getfield 164, 6, 42, 676)), (143, (.iadd, 0, 0, 0)), (144, (.invokevirtual 152, 86, 4, 786)), (147, (.iconst (-1), 0, 0, 0)), (148, (.if_icmp .ne 11, 159, 0, 0)), (151, (.bipush 16, 0, 0, 0)), (153, (.aload_n 0, 0, 0, 0)), (154, (.getfield 164, 6, 42, 676)), (157, (.iadd, 0, 0, 0)), (158, (.istore_n 2, 0, 0, 0)), (159, (.aload_n 0, 0, 0, 0)), (160, (.dup, 0, 0, 0)), (161, (.getfield 164, 6, 42, 676)), (164, (.iconst 1, 0, 0, 0)), (165, (.iadd, 0, 0, 0)), (166, (.putfield 164, 6, 42, 676)), (169, (.iinc 3 1, 0, 0, 0)), (172, (.goto (-89), 83, 0, 0)), (175, (.aload_n 0, 0, 0, 0)), (176, (.aload_n 0, 0, 0, 0)), (177, (.getfield 164, 6, 42, 676)), (180, (.putfield 228, 6, 15, 649)), (183, (.iload_n 2, 0, 0, 0)), (184, (.ifCond .lt 10, 194, 0, 0)), (187, (.aload_n 0, 0, 0, 0)), (188, (.iload_n 2, 0, 0, 0)), (189, (.invokevirtual 207, 99, 4, 797)), (192, (.iconst 0, 0, 0, 0)), (193, (.ireturn, 0, 0, 0)), (194, (.iconst 3, 0, 0, 0)), (195, (.istore_n 3, 0, 0, 0)), (196, (.iload_n 3, 0, 0, 0)), (197, (.iconst 3, 0, 0, 0)), (198, (.if_icmp .ne 20, 218, 0, 0)), (201, (.aload_n 0, 0, 0, 0)), (202, (.getfield 185, 6, 14, 648)), (205, (.bipush 12, 0, 0, 0)), (207, (.if_icmp .ge 11, 218, 0, 0)), (210, (.aload_n 0, 0, 0, 0)), (211, (.invokevirtual 231, 100, 4, 801)), (214, (.istore_n 3, 0, 0, 0)), (215, (.goto (-19), 196, 0, 0)), (218, (.aload_n 0, 0, 0, 0)), (219, (.aload_n 0, 0, 0, 0)), (220, (.getfield 164, 6, 42, 676)), (223, (.putfield 228, 6, 15, 649)), (226, (.iload_n 3, 0, 0, 0)), (227, (.iconst 1, 0, 0, 0)), (228, (.if_icmp .ne 50, 278, 0, 0)), (231, (.aload_n 0, 0, 0, 0)), (232, (.iconst 1, 0, 0, 0)), (233, (.putfield 210, 6, 10, 644)), (236, (.aload_n 0, 0, 0, 0)), (237, (.aload_n 0, 0, 0, 0)), (238, (.getfield 149, 6, 40, 674)), (241, (.putfield 213, 6, 11, 645)), (244, (.iconst 0, 0, 0, 0)), (245, (.istore 4, 0, 0, 0)), (247, (.iload 4, 0, 0, 0)), (249, (.aload_n 0, 0, 0, 0)), (250, (.getfield 149, 6, 40, 674)), (253, (.if_icmp .ge 25, 278, 0, 0)), (256, (.aload_n 0, 0, 0, 0)), (257, (.aload_n 0, 0, 0, 0)), (258, (.getfield 78, 6, 39, 673)), (261, (.iload 4, 0, 0, 0)), (263, (.iaload, 0, 0, 0)), (264, (.bipush 58, 0, 0, 0)), (266, (.iload 4, 0, 0, 0)), (268, (.iadd, 0, 0, 0)), (269, (.invokevirtual 177, 81, 4, 775)), (272, (.iinc 4 1, 0, 0, 0)), (275, (.goto (-28), 247, 0, 0)), (278, (.iload_n 3, 0, 0, 0)), (279, (.iconst 3, 0, 0, 0)), (280, (.if_icmp .ne 7, 287, 0, 0)), (283, (.iconst 2, 0, 0, 0)), (284, (.goto 4, 288, 0, 0)), (287, (.iload_n 3, 0, 0, 0)), (288, (.ireturn, 0, 0, 0))]
/-- TriangleSetsModel.noPoly.(I)Z -/
def vm_t103 : List (Nat × (Jvm.ClassFile.Instr × Nat × Nat × Nat)) := [(0, (.iload_n 1, 0, 0, 0)), (1, (.ifCond .lt 11, 12, 0, 0)), (4, (.iload_n 1, 0, 0, 0)), (5, (.aload_n 0, 0, 0, 0)), (6, (.getfield 222, 6, 4, 638)), (9, (.if_icmp .lt 7, 16, 0, 0)), (12, (.iconst 1, 0, 0, 0)), (13, (.goto 4, 17, 0, 0)), (16, (.iconst 0, 0, 0, 0)), (17, (.ireturn, 0, 0, 0))]
/-- TriangleSetsModel.prove.(I)I -/
def vm_t104 : List (Nat × (Jvm.ClassFile.Instr × Nat × Nat × Nat)) := [(0, (.aload_n 0, 0, 0, 0)), (1, (.iconst 0, 0, 0, 0)), (2, (.putfield 84, 6, 0, 634)), (5, (.aload_n 0, 0, 0, 0)), (6, (.iload_n 1, 0, 0, 0)), (7, (.invokevirtual 235, 103, 4, 873)), (10, (.ifCond .ne 10, 20, 0, 0)), (13, (.aload_n 0, 0, 0, 0)), (14, (.getfield 210, 6, 10, 644)), (17, (.ifCond .ne 5, 22, 0, 0)), (20, (.iconst (-1), 0, 0, 0)), (21, (.ireturn, 0, 0, 0)), (22, (.aload_n 0, 0, 0, 0)), (23, (.iload_n 1, 0, 0, 0)), (24, (.bipush 69, 0, 0, 0)), (26, (.invokevirtual 177, 81, 4, 775)), (29, (.aload_n 0, 0, 0, 0)), (30, (.aload_n 0, 0, 0, 0)), (31, (.getfield 213, 6, 11, 645)), (34, (.putfield 149, 6, 40, 674)), (37, (.iconst 0, 0, 0, 0)), (38, (.istore_n 2, 0, 0, 0)), (39, (.iload_n 2, 0, 0, 0)), (40, (.aload_n 0, 0, 0, 0)), (41, (.getfield 213, 6, 11, 645)), (44, (.if_icmp .ge 19, 63, 0, 0)), (47, (.aload_n 0, 0, 0, 0)), (48, (.getfield 78, 6, 39, 673)), (51, (.iload_n 2, 0, 0, 0)), (52, (.bipush 58, 0, 0, 0)), (54, (.iload_n 2, 0, 0, 0)), (55, (.iadd, 0, 0, 0)), (56, (.iastore, 0, 0, 0)), (57, (.iinc 2 1, 0, 0, 0)), (60, (.goto (-21), 39, 0, 0)), (63, (.aload_n 0, 0, 0, 0)), (64, (.iconst 0, 0, 0, 0)), (65, (.putfield 140, 6, 27, 661)), (68, (.aload_n 0, 0, 0, 0)), (69, (.iconst 0, 0, 0, 0)), (70, (.putfield 143, 6, 28, 662)), (73, (.aload_n 0, 0, 0, 0)), (74, (.iconst 1, 0, 0, 0)), (75, (.sipush 200, 0, 0, 0)), (78, (.invokevirtual 197, 93, 4, 821)), (81, (.istore_n 2, 0, 0, 0)), (82, (.aload_n 0, 0, 0, 0)), (83, (.aload_n 0, 0, 0, 0)), (84, (.getfield 146, 6, 41, 675)), (87, (.putfield 238, 6, 17, 651)), (90, (.aload_n 0, 0, 0, 0)), (91, (.iload_n 2, 0, 0, 0)), (92, (.putfield 216, 6, 12, 646)), (95, (.iload_n 2, 0, 0, 0)), (96, (.ifCond .ne 5, 101, 0, 0)), (99, (.iconst 2, 0, 0, 0)), (100, (.ireturn, 0, 0, 0)), (101, (.aload_n 0, 0, 0, 0)), (102, (.bipush 69, 0, 0, 0)), (104, (.bipush 67, 0, 0, 0)), (106, (.invokevirtual 177, 81, 4, 775)), (109, (.aload_n 0, 0, 0, 0)), (110, (.iconst 1, 0, 0, 0)), (111, (.putfield 219, 6, 18, 652)), (114, (.aload_n 0, 0, 0, 0)), (115, (.aload_n 0, 0, 0, 0)), (116, (.getfield 140, 6, 27, 661)), (119, (.putfield 241, 6, 19, 653)), (122, (.aload_n 0, 0, 0, 0)), (123, (.aload_n 0, 0, 0, 0)), (124, (.getfield 143, 6, 28, 662)), (127, (.putfield 244, 6, 25, 659)), (130, (.iconst 0, 0, 0, 0)), (131, (.istore_n 3, 0, 0, 0)), (132, (.iload_n 3, 0, 0, 0)), (133, (.bipush 8, 0, 0, 0)), (135, (.if_icmp .ge 16, 151, 0, 0)), (138, (.aload_n 0, 0, 0, 0)), (139, (.getfield 48, 6, 26, 660)), (142, (.iload_n 3, 0, 0, 0)), (143, (.iconst 0, 0, 0, 0)), (144, (.iastore, 0, 0, 0)), (145, (.iinc 3 1, 0, 0, 0)), (148, (.goto (-16), 132, 0, 0)), (151, (.iconst 0, 0, 0, 0)), (152, (.istore_n 3, 0, 0, 0)), (153, (.iload_n 3, 0, 0, 0)), (154, (.aload_n 0, 0, 0, 0)), (155, (.getfield 241, 6, 19, 653)), (158, (.if_icmp .ge 60, 218, 0, 0)), (161, (.aload_n 0, 0, 0, 0)), (162, (.getfield 33, 6, 20, 654)), (165, (.iload_n 3, 0, 0, 0)), (166, (.aload_n 0, 0, 0, 0)), (167, (.getfield 51, 6, 29, 663)), (170, (.iload_n 3, 0, 0, 0)), (171, (.iaload, 0, 0, 0)), (172, (.iastore, 0, 0, 0)), (173, (.aload_n 0, 0, 0, 0)), (174, (.getfield 36, 6, 21, 655)), (177, (.iload_n 3, 0, 0, 0)), (178, (.aload_n 0, 0, 0, 0)), (179, (.getfield 54, 6, 30, 664)), (182, (.iload_n 3, 0, 0, 0)), (183, (.iaload, 0, 0, 0)), (184, (.iastore, 0, 0, 0)), (185, (.aload_n 0, 0, 0, 0)), (186, (.getfield 39, 6, 22, 656)), (189, (.iload_n 3, 0, 0, 0)), (190, (.aload_n 0, 0, 0, 0)), (191, (.getfield 57, 6, 31, 665)), (194, (.iload_n 3, 0, 0, 0)), (195, (.iaload, 0, 0, 0)), (196, (.iastore, 0, 0, 0)), (197, (.aload_n 0, 0, 0, 0)), (198, (.getfield 48, 6, 26, 660)), (201, (.aload_n 0, 0, 0, 0)), (202, (.getfield 51, 6, 29, 663)), (205, (.iload_n 3, 0, 0, 0)), (206, (.iaload, 0, 0, 0)), (207, (.dup2, 0, 0, 0)), (208, (.iaload, 0, 0, 0)), (209, (.iconst 1, 0, 0, 0)), (210, (.iadd, 0, 0, 0)), (211, (.iastore, 0, 0, 0)), (212, (.iinc 3 1, 0, 0, 0)), (215, (.goto (-62), 153, 0, 0)), (218, (.iconst 0, 0, 0, 0)), (219, (.istore_n 3, 0, 0, 0)), (220, (.iload_n 3, 0, 0, 0)), (221, (.aload_n 0, 0, 0, 0)), (222, (.getfield 244, 6, 25, 659)), (225, (.if_icmp .ge 33, 258, 0, 0)), (228, (.aload_n 0, 0, 0, 0)), (229, (.getfield 42, 6, 23, 657)), (232, (.iload_n 3, 0, 0, 0)), (233, (.aload_n 0, 0, 0, 0)), (234, (.getfield 60, 6, 32, 666)), (237, (.iload_n 3, 0, 0, 0)), (238, (.laload, 0, 0, 0)), (239, (.lastore, 0, 0, 0)), (240, (.aload_n 0, 0, 0, 0)), (241, (.getfield 45, 6, 24, 658)), (244, (.iload_n 3, 0, 0, 0)), (245, (.aload_n 0, 0, 0, 0)), (246, (.getfield 63, 6, 33, 667)), (249, (.iload_n 3, 0, 0, 0)), (250, (.laload, 0, 0, 0)), (251, (.lastore, 0, 0, 0)), (252, (.iinc 3 1, 0, 0, 0)), (255, (.goto (-35), 220, 0, 0)), (258, (.aload_n 0, 0, 0, 0)), (259, (.getfield 20, 6, 6, 640)), (262, (.bipush 67, 0, 0, 0)), (264, (.iaload, 0, 0, 0)), (265, (.ifCond .ne 7, 272, 0, 0)), (268, (.iconst 1, 0, 0, 0)), (269, (.goto 4, 273, 0, 0)), (272, (.iconst 0, 0, 0, 0)), (273, (.ireturn, 0, 0, 0))]
/-- TriangleSetsModel.variable.(Z)I -/
def vm_t105 : List (Nat × (Jvm.ClassFile.Instr × Nat × Nat × Nat)) := [(0, (.aload_n 0, 0, 0, 0)), (1, (.iconst 0, 0, 0, 0)), (2, (.putfield 84, 6, 0, 634)), (5, (.aload_n 0, 0, 0, 0)), (6, (.getfield 88, 6, 1, 635)), (9, (.bipush 8, 0, 0, 0)), (11, (.if_icmp .ne 5, 16, 0, 0)), (14, (.iconst (-1), 0, 0, 0)), (15, (.ireturn, 0, 0, 0)), (16, (.aload_n 0, 0, 0, 0)), (17, (.getfield 7, 6, 2, 636)), (20, (.aload_n 0, 0, 0, 0)), (21, (.getfield 88, 6, 1, 635)), (24, (.iload_n 1, 0, 0, 0)), (25, (.bastore, 0, 0, 0)), (26, (.aload_n 0, 0, 0, 0)), (27, (.getfield 13, 6, 3, 637)), (30, (.aload_n 0, 0, 0, 0)), (31, (.getfield 88, 6, 1, 635)), (34, (.aload_n 0, 0, 0, 0)), (35, (.getfield 88, 6, 1, 635)), (38, (.iastore, 0, 0, 0)), (39, (.aload_n 0, 0, 0, 0)), (40, (.dup, 0, 0, 0)), (41, (.getfield 88, 6, 1, 635)), (44, (.iconst 1, 0, 0, 0)), (45, (.iadd, 0, 0, 0)), (46, (.putfield 88, 6, 1, 635)), (49, (.aload_n 0, 0, 0, 0)), (50, (.invokevirtual 225, 101, 4, 771)), (53, (.aload_n 0, 0, 0, 0)), (54, (.getfield 88, 6, 1, 635)), (57, (.iconst 1, 0, 0, 0)), (58, (.isub, 0, 0, 0)), (59, (.ireturn, 0, 0, 0))]
/-- TriangleSetsModel.order.(II)Z -/
def vm_t106 : List (Nat × (Jvm.ClassFile.Instr × Nat × Nat × Nat)) := [(0, (.aload_n 0, 0, 0, 0)), (1, (.iconst 0, 0, 0, 0)), (2, (.putfield 84, 6, 0, 634)), (5, (.iload_n 2, 0, 0, 0)), (6, (.ifCond .lt 23, 29, 0, 0)), (9, (.iload_n 2, 0, 0, 0)), (10, (.aload_n 0, 0, 0, 0)), (11, (.getfield 88, 6, 1, 635)), (14, (.if_icmp .ge 15, 29, 0, 0)), (17, (.iload_n 1, 0, 0, 0)), (18, (.ifCond .lt 11, 29, 0, 0)), (21, (.iload_n 1, 0, 0, 0)), (22, (.aload_n 0, 0, 0, 0)), (23, (.getfield 88, 6, 1, 635)), (26, (.if_icmp .lt 5, 31, 0, 0)), (29, (.iconst 0, 0, 0, 0)), (30, (.ireturn, 0, 0, 0)), (31, (.iconst 0, 0, 0, 0)), (32, (.istore_n 3, 0, 0, 0)), (33, (.aload_n 0, 0, 0, 0)), (34, (.getfield 13, 6, 3, 637)), (37, (.iload_n 3, 0, 0, 0)), (38, (.iaload, 0, 0, 0)), (39, (.iload_n 2, 0, 0, 0)), (40, (.if_icmp .eq 9, 49, 0, 0)), (43, (.iinc 3 1, 0, 0, 0)), (46, (.goto (-13), 33, 0, 0)), (49, (.iload_n 3, 0, 0, 0)), (50, (.iload_n 1, 0, 0, 0)), (51, (.if_icmp .ne 5, 56, 0, 0)), (54, (.iconst 1, 0, 0, 0)), (55, (.ireturn, 0, 0, 0)), (56, (.iload_n 3, 0, 0, 0)), (57, (.iload_n 1, 0, 0, 0)), (58, (.if_icmp .ge 23, 81, 0, 0)), (61, (.aload_n 0, 0, 0, 0)), (62, (.getfield 13, 6, 3, 637)), (65, (.iload_n 3, 0, 0, 0)), (66, (.aload_n 0, 0, 0, 0)), (67, (.getfield 13, 6, 3, 637)), (70, (.iload_n 3, 0, 0, 0)), (71, (.iconst 1, 0, 0, 0)), (72, (.iadd, 0, 0, 0)), (73, (.iaload, 0, 0, 0)), (74, (.iastore, 0, 0, 0)), (75, (.iinc 3 1, 0, 0, 0)), (78, (.goto (-22), 56, 0, 0)), (81, (.iload_n 3, 0, 0, 0)), (82, (.iload_n 1, 0, 0, 0)), (83, (.if_icmp .le 23, 106, 0, 0)), (86, (.aload_n 0, 0, 0, 0)), (87, (.getfield 13, 6, 3, 637)), (90, (.iload_n 3, 0, 0, 0)), (91, (.aload_n 0, 0, 0, 0)), (92, (.getfield 13, 6, 3, 637)), (95, (.iload_n 3, 0, 0, 0)), (96, (.iconst 1, 0, 0, 0)), (97, (.isub, 0, 0, 0)), (98, (.iaload, 0, 0, 0)), (99, (.iastore, 0, 0, 0)), (100, (.iinc 3 (-1), 0, 0, 0)), (103, (.goto (-22), 81, 0, 0)), (106, (.aload_n 0, 0, 0, 0)), (107, (.getfield 13, 6, 3, 637)), (110, (.iload_n 1, 0, 0, 0)), (111, (.iload_n 2, 0, 0, 0)), (112, (.iastore, 0, 0, 0)), (113, (.aload_n 0, 0, 0, 0)), (114, (.invokevirtual 225, 101, 4, 771)), (117, (.iconst 0, 0, 0, 0)), (118, (.istore 4, 0, 0, 0)), (120, (.iload 4, 0, 0, 0)), (122, (.aload_n 0, 0, 0, 0)), (123, (.getfield 222, 6, 4, 638)), (126, (.if_icmp .ge 15, 141, 0, 0)), (129, (.aload_n 0, 0, 0, 0)), (130, (.iload 4, 0, 0, 0)), (132, (.invokevirtual 124, 80, 4, 853)), (135, (.iinc 4 1, 0, 0, 0)), (138, (.goto (-18), 120, 0, 0)), (141, (.aload_n 0, 0, 0, 0)), (142, (.bipush 68, 0, 0, 0)), (144, (.invokevirtual 124, 80, 4, 853)), (147, (.iconst 1, 0, 0, 0)), (148, (.ireturn, 0, 0, 0))]
/-- TriangleSetsModel.polynomial.()I -/
def vm_t107 : List (Nat × (Jvm.ClassFile.Instr × Nat × Nat × Nat)) := [(0, (.aload_n 0, 0, 0, 0)), (1, (.iconst 0, 0, 0, 0)), (2, (.putfield 84, 6, 0, 634)), (5, (.aload_n 0, 0, 0, 0)), (6, (.getfield 222, 6, 4, 638)), (9, (.bipush 16, 0, 0, 0)), (11, (.if_icmp .ne 5, 16, 0, 0)), (14, (.iconst (-1), 0, 0, 0)), (15, (.ireturn, 0, 0, 0)), (16, (.aload_n 0, 0, 0, 0)), (17, (.getfield 20, 6, 6, 640)), (20, (.aload_n 0, 0, 0, 0)), (21, (.getfield 222, 6, 4, 638)), (24, (.iconst 0, 0, 0, 0)), (25, (.iastore, 0, 0, 0)), (26, (.aload_n 0, 0, 0, 0)), (27, (.getfield 17, 6, 5, 639)), (30, (.aload_n 0, 0, 0, 0)), (31, (.getfield 222, 6, 4, 638)), (34, (.iconst 0, 0, 0, 0)), (35, (.bastore, 0, 0, 0)), (36, (.aload_n 0, 0, 0, 0)), (37, (.dup, 0, 0, 0)), (38, (.getfield 222, 6, 4, 638)), (41, (.iconst 1, 0, 0, 0)), (42, (.iadd, 0, 0, 0)), (43, (.putfield 222, 6, 4, 638)), (46, (.aload_n 0, 0, 0, 0)), (47, (.getfield 222, 6, 4, 638)), (50, (.iconst 1, 0, 0, 0)), (51, (.isub, 0, 0, 0)), (52, (.ireturn, 0, 0, 0))]
/-- TriangleSetsModel.term.(IJI)Z -/
def vm_t108 : List (Nat × (Jvm.ClassFile.Instr × Nat × Nat × Nat)) := [(0, (.aload_n 0, 0, 0, 0)), (1, (.iconst 0, 0, 0, 0)), (2, (.putfield 84, 6, 0, 634)), (5, (.aload_n 0, 0, 0, 0)), (6, (.iload_n 1, 0, 0, 0)), (7, (.invokevirtual 235, 103, 4, 873)), (10, (.ifCond .eq 5, 15, 0, 0)), (13, (.iconst 0, 0, 0, 0)), (14, (.ireturn, 0, 0, 0)), (15, (.lconst 0, 0, 0, 0)), (16, (.lstore 5, 0, 0, 0)), (18, (.iconst 0, 0, 0, 0)), (19, (.istore 7, 0, 0, 0)), (21, (.iload 7, 0, 0, 0)), (23, (.bipush 8, 0, 0, 0)), (25, (.if_icmp .ge 51, 76, 0, 0)), (28, (.iload 4, 0, 0, 0)), (30, (.iconst 4, 0, 0, 0)), (31, (.iload 7, 0, 0, 0)), (33, (.imul, 0, 0, 0)), (34, (.iushr, 0, 0, 0)), (35, (.bipush 15, 0, 0, 0)), (37, (.iand, 0, 0, 0)), (38, (.istore 8, 0, 0, 0)), (40, (.iload 8, 0, 0, 0)), (42, (.ifCond .le 14, 56, 0, 0)), (45, (.iload 7, 0, 0, 0)), (47, (.aload_n 0, 0, 0, 0)), (48, (.getfield 88, 6, 1, 635)), (51, (.if_icmp .lt 5, 56, 0, 0)), (54, (.iconst 0, 0, 0, 0)), (55, (.ireturn, 0, 0, 0)), (56, (.lload 5, 0, 0, 0)), (58, (.iload 8, 0, 0, 0)), (60, (.i2l, 0, 0, 0)), (61, (.bipush 8, 0, 0, 0)), (63, (.iload 7, 0, 0, 0)), (65, (.imul, 0, 0, 0)), (66, (.lshl, 0, 0, 0)), (67, (.lor, 0, 0, 0)), (68, (.lstore 5, 0, 0, 0)), (70, (.iinc 7 1, 0, 0, 0)), (73, (.goto (-52), 21, 0, 0)), (76, (.bipush 60, 0, 0, 0)), (78, (.iload_n 1, 0, 0, 0)), (79, (.imul, 0, 0, 0)), (80, (.istore 7, 0, 0, 0)), (82, (.iconst 0, 0, 0, 0)), (83, (.istore 8, 0, 0, 0)), (85, (.iload 8, 0, 0, 0)), (87, (.aload_n 0, 0, 0, 0)), (88, (.getfield 20, 6, 6, 640)), (91, (.iload_n 1, 0, 0, 0)), (92, (.iaload, 0, 0, 0)), (93, (.if_icmp .ge 25, 118, 0, 0)), (96, (.aload_n 0, 0, 0, 0)), (97, (.getfield 27, 6, 8, 642)), (100, (.iload 7, 0, 0, 0)), (102, (.iload 8, 0, 0, 0)), (104, (.iadd, 0, 0, 0)), (105, (.laload, 0, 0, 0)), (106, (.lload 5, 0, 0, 0)), (108, (.lcmp, 0, 0, 0)), (109, (.ifCond .eq 9, 118, 0, 0)), (112, (.iinc 8 1, 0, 0, 0)), (115, (.goto (-30), 85, 0, 0)), (118, (.iload 8, 0, 0, 0)), (120, (.aload_n 0, 0, 0, 0)), (121, (.getfield 20, 6, 6, 640)), (124, (.iload_n 1, 0, 0, 0)), (125, (.iaload, 0, 0, 0)), (126, (.if_icmp .ge 7, 133, 0, 0)), (129, (.iconst 1, 0, 0, 0)), (130, (.goto 4, 134, 0, 0)), (133, (.iconst 0, 0, 0, 0)), (134, (.istore 9, 0, 0, 0)), (136, (.iload 9, 0, 0, 0)), (138, (.ifCond .eq 16, 154, 0, 0)), (141, (.aload_n 0, 0, 0, 0)), (142, (.getfield 23, 6, 7, 641)), (145, (.iload 7, 0, 0, 0)), (147, (.iload 8, 0, 0, 0)), (149, (.iadd, 0, 0, 0)), (150, (.laload, 0, 0, 0)), (151, (.goto 4, 155, 0, 0)), (154, (.lconst 0, 0, 0, 0)), (155, (.lstore 10, 0, 0, 0)), (157, (.lload_n 2, 0, 0, 0)), (158, (.ldc2_w 247, 18446744073575333888, 0, 893)), (161, (.lcmp, 0, 0, 0)), (162, (.ifCond .lt 51, 213, 0, 0)), (165, (.lload_n 2, 0, 0, 0)), (166, (.ldc2_w 249, 134217728, 0, 894)), (169, (.lcmp, 0, 0, 0)), (170, (.ifCond .gt 43, 213, 0, 0)), (173, (.lload 10, 0, 0, 0)), (175, (.lload_n 2, 0, 0, 0)), (176, (.ladd, 0, 0, 0)), (177, (.ldc2_w 116, 18446744073642442752, 0, 848)), (180, (.lcmp, 0, 0, 0)), (181, (.ifCond .lt 32, 213, 0, 0)), (184, (.lload 10, 0, 0, 0)), (186, (.lload_n 2, 0, 0, 0)), (187, (.ladd, 0, 0, 0)), (188, (.ldc2_w 118, 67108864, 0, 849)), (191, (.lcmp, 0, 0, 0)), (192, (.ifCond .gt 21, 213, 0, 0)), (195, (.iload 9, 0, 0, 0)), (197, (.ifCond .ne 18, 215, 0, 0)), (200, (.lload_n 2, 0, 0, 0)), (201, (.lconst 0, 0, 0, 0)), (202, (.lcmp, 0, 0, 0)), (203, (.ifCond .eq 12, 215, 0, 0)), (206, (.iload 8, 0, 0, 0)), (208, (.bipush 60, 0, 0, 0)), (210, (.if_icmp .ne 5, 215, 0, 0)), (213, (.iconst 0, 0, 0, 0)), (214, (.ireturn, 0, 0, 0)), (215, (.lload_n 2, 0, 0, 0)), (216, (.lconst 0, 0, 0, 0)), (217, (.lcmp, 0, 0, 0)), (218, (.ifCond .ne 5, 223, 0, 0)), (221, (.iconst 1, 0, 0, 0)), (222, (.ireturn, 0, 0, 0)), (223, (.aload_n 0, 0, 0, 0)), (224, (.getfield 17, 6, 5, 639)), (227, (.iload_n 1, 0, 0, 0)), (228, (.baload, 0, 0, 0)), (229, (.ifCond .eq 7, 236, 0, 0)), (232, (.aload_n 0, 0, 0, 0)), (233, (.invokevirtual 225, 101, 4, 771)), (236, (.iload 9, 0, 0, 0)), (238, (.ifCond .ne 39, 277, 0, 0)), (241, (.aload_n 0, 0, 0, 0)), (242, (.getfield 23, 6, 7, 641)), (245, (.iload 7, 0, 0, 0)), (247, (.iload 8, 0, 0, 0)), (249, (.iadd, 0, 0, 0)), (250, (.lload_n 2, 0, 0, 0)), (251, (.lastore, 0, 0, 0)), (252, (.aload_n 0, 0, 0, 0)), (253, (.getfield 27, 6, 8, 642)), (256, (.iload 7, 0, 0, 0)), (258, (.iload 8, 0, 0, 0)), (260, (.iadd, 0, 0, 0)), (261, (.lload 5, 0, 0, 0)), (263, (.lastore, 0, 0, 0)), (264, (.aload_n 0, 0, 0, 0)), (265, (.getfield 20, 6, 6, 640)), (268, (.iload_n 1, 0, 0, 0)), (269, (.dup2, 0, 0, 0)), (270, (.iaload, 0, 0, 0)), (271, (.iconst 1, 0, 0, 0)), (272, (.iadd, 0, 0, 0)), (273, (.iastore, 0, 0, 0)), (274, (.goto 106, 380, 0, 0)), (277, (.lload 10, 0, 0, 0)), (279, (.lload_n 2, 0, 0, 0)), (280, (.ladd, 0, 0, 0)), (281, (.lconst 0, 0, 0, 0)), (282, (.lcmp, 0, 0, 0)), (283, (.ifCond .ne 83, 366, 0, 0)), (286, (.iload 8, 0, 0, 0)), (288, (.istore 12, 0, 0, 0)), (290, (.iload 12, 0, 0, 0)), (292, (.iconst 1, 0, 0, 0)), (293, (.iadd, 0, 0, 0)), (294, (.aload_n 0, 0, 0, 0)), (295, (.getfield 20, 6, 6, 640)), (298, (.iload_n 1, 0, 0, 0)), (299, (.iaload, 0, 0, 0)), (300, (.if_icmp .ge 53, 353, 0, 0)), (303, (.aload_n 0, 0, 0, 0)), (304, (.getfield 23, 6, 7, 641)), (307, (.iload 7, 0, 0, 0)), (309, (.iload 12, 0, 0, 0)), (311, (.iadd, 0, 0, 0)), (312, (.aload_n 0, 0, 0, 0)), (313, (.getfield 23, 6, 7, 641)), (316, (.iload 7, 0, 0, 0)), (318, (.iload 12, 0, 0, 0)), (320, (.iadd, 0, 0, 0)), (321, (.iconst 1, 0, 0, 0)), (322, (.iadd, 0, 0, 0)), (323, (.laload, 0, 0, 0)), (324, (.lastore, 0, 0, 0)), (325, (.aload_n 0, 0, 0, 0)), (326, (.getfield 27, 6, 8, 642)), (329, (.iload 7, 0, 0, 0)), (331, (.iload 12, 0, 0, 0)), (333, (.iadd, 0, 0, 0)), (334, (.aload_n 0, 0, 0, 0)), (335, (.getfield 27, 6, 8, 642)), (338, (.iload 7, 0, 0, 0)), (340, (.iload 12, 0, 0, 0)), (342, (.iadd, 0, 0, 0)), (343, (.iconst 1, 0, 0, 0)), (344, (.iadd, 0, 0, 0)), (345, (.laload, 0, 0, 0)), (346, (.lastore, 0, 0, 0)), (347, (.iinc 12 1, 0, 0, 0)), (350, (.goto (-60), 290, 0, 0)), (353, (.aload_n 0, 0, 0, 0)), (354, (.getfield 20, 6, 6, 640)), (357, (.iload_n 1, 0, 0, 0)), (358, (.dup2, 0, 0, 0)), (359, (.iaload, 0, 0, 0)), (360, (.iconst 1, 0, 0, 0)), (361, (.isub, 0, 0, 0)), (362, (.iastore, 0, 0, 0)), (363, (.goto 17, 380, 0, 0)), (366, (.aload_n 0, 0, 0, 0)), (367, (.getfield 23, 6, 7, 641)), (370, (.iload 7, 0, 0, 0)), (372, (.iload 8, 0, 0, 0)), (374, (.iadd, 0, 0, 0)), (375, (.lload 10, 0, 0, 0)), (377, (.lload_n 2, 0, 0, 0)), (378, (.ladd, 0, 0, 0)), (379, (.lastore, 0, 0, 0)), (380, (.aload_n 0, 0, 0, 0)), (381, (.iload_n 1, 0, 0, 0)), (382, (.invokevirtual 124, 80, 4, 853)), (385, (.iconst 1, 0, 0, 0)), (386, (.ireturn, 0, 0, 0))]
/-- TriangleSetsModel.use.(IZ)Z -/
def vm_t109 : List (Nat × (Jvm.ClassFile.Instr × Nat × Nat × Nat)) := [(0, (.aload_n 0, 0, 0, 0)), (1, (.iconst 0, 0, 0, 0)), (2, (.putfield 84, 6, 0, 634)), (5, (.aload_n 0, 0, 0, 0)), (6, (.iload_n 1, 0, 0, 0)), (7, (.invokevirtual 235, 103, 4, 873)), (10, (.ifCond .ne 13, 23, 0, 0)), (13, (.aload_n 0, 0, 0, 0)), (14, (.getfield 17, 6, 5, 639)), (17, (.iload_n 1, 0, 0, 0)), (18, (.baload, 0, 0, 0)), (19, (.iload_n 2, 0, 0, 0)), (20, (.if_icmp .ne 5, 25, 0, 0)), (23, (.iconst 0, 0, 0, 0)), (24, (.ireturn, 0, 0, 0)), (25, (.aload_n 0, 0, 0, 0)), (26, (.getfield 17, 6, 5, 639)), (29, (.iload_n 1, 0, 0, 0)), (30, (.iload_n 2, 0, 0, 0)), (31, (.bastore, 0, 0, 0)), (32, (.aload_n 0, 0, 0, 0)), (33, (.invokevirtual 225, 101, 4, 771)), (36, (.iconst 1, 0, 0, 0)), (37, (.ireturn, 0, 0, 0))]
/-- TriangleSetsModel.noMember.(I)Z -/
def vm_t110 : List (Nat × (Jvm.ClassFile.Instr × Nat × Nat × Nat)) := [(0, (.iload_n 1, 0, 0, 0)), (1, (.ifCond .lt 11, 12, 0, 0)), (4, (.iload_n 1, 0, 0, 0)), (5, (.aload_n 0, 0, 0, 0)), (6, (.getfield 213, 6, 11, 645)), (9, (.if_icmp .lt 7, 16, 0, 0)), (12, (.iconst 1, 0, 0, 0)), (13, (.goto 4, 17, 0, 0)), (16, (.iconst 0, 0, 0, 0)), (17, (.ireturn, 0, 0, 0))]
/-- TriangleSetsModel.mainOf.(I)I -/
def vm_t111 : List (Nat × (Jvm.ClassFile.Instr × Nat × Nat × Nat)) := [(0, (.aload_n 0, 0, 0, 0)), (1, (.getfield 13, 6, 3, 637)), (4, (.aload_n 0, 0, 0, 0)), (5, (.bipush 58, 0, 0, 0)), (7, (.iload_n 1, 0, 0, 0)), (8, (.iadd, 0, 0, 0)), (9, (.invokevirtual 152, 86, 4, 786)), (12, (.iaload, 0, 0, 0)), (13, (.ireturn, 0, 0, 0))]
/-- TriangleSetsModel.member.(II)I -/
def vm_t112 : List (Nat × (Jvm.ClassFile.Instr × Nat × Nat × Nat)) := [(0, (.aload_n 0, 0, 0, 0)), (1, (.iconst 0, 0, 0, 0)), (2, (.putfield 84, 6, 0, 634)), (5, (.aload_n 0, 0, 0, 0)), (6, (.iload_n 1, 0, 0, 0)), (7, (.invokevirtual 251, 110, 4, 903)), (10, (.ifCond .ne 12, 22, 0, 0)), (13, (.iload_n 2, 0, 0, 0)), (14, (.ifCond .lt 8, 22, 0, 0)), (17, (.iload_n 2, 0, 0, 0)), (18, (.iconst 3, 0, 0, 0)), (19, (.if_icmp .le 5, 24, 0, 0)), (22, (.iconst (-1), 0, 0, 0)), (23, (.ireturn, 0, 0, 0)), (24, (.iload_n 2, 0, 0, 0)), (25, (.ifCond .ne 11, 36, 0, 0)), (28, (.aload_n 0, 0, 0, 0)), (29, (.iload_n 1, 0, 0, 0)), (30, (.invokevirtual 254, 111, 4, 907)), (33, (.goto 58, 91, 0, 0)), (36, (.iload_n 2, 0, 0, 0)), (37, (.iconst 1, 0, 0, 0)), (38, (.if_icmp .ne 19, 57, 0, 0)), (41, (.aload_n 0, 0, 0, 0)), (42, (.bipush 58, 0, 0, 0)), (44, (.iload_n 1, 0, 0, 0)), (45, (.iadd, 0, 0, 0)), (46, (.aload_n 0, 0, 0, 0)), (47, (.iload_n 1, 0, 0, 0)), (48, (.invokevirtual 254, 111, 4, 907)), (51, (.invokevirtual 103, 85, 4, 790)), (54, (.goto 37, 91, 0, 0)), (57, (.iload_n 2, 0, 0, 0)), (58, (.iconst 2, 0, 0, 0)), (59, (.if_icmp .ne 15, 74, 0, 0)), (62, (.aload_n 0, 0, 0, 0)), (63, (.getfield 20, 6, 6, 640)), (66, (.bipush 58, 0, 0, 0)), (68, (.iload_n 1, 0, 0, 0)), (69, (.iadd, 0, 0, 0)), (70, (.iaload, 0, 0, 0)), (71, (.goto 20, 91, 0, 0)), (74, (.aload_n 0, 0, 0, 0)), (75, (.getfield 219, 6, 18, 652)), (78, (.ifCond .eq 12, 90, 0, 0)), (81, (.aload_n 0, 0, 0, 0)), (82, (.getfield 48, 6, 26, 660)), (85, (.iload_n 1, 0, 0, 0)), (86, (.iaload, 0, 0, 0)), (87, (.goto 4, 91, 0, 0)), (90, (.iconst 0, 0, 0, 0)), (91, (.ireturn, 0, 0, 0))]
/-- TriangleSetsModel.told.(I)I -/
def vm_t113 : List (Nat × (Jvm.ClassFile.Instr × Nat × Nat × Nat)) := [(0, (.aload_n 0, 0, 0, 0)), (1, (.iconst 0, 0, 0, 0)), (2, (.putfield 84, 6, 0, 634)), (5, (.iconst 0, 0, 0, 0)), (6, (.istore_n 2, 0, 0, 0)), (7, (.iconst 0, 0, 0, 0)), (8, (.istore_n 3, 0, 0, 0)), (9, (.iload_n 3, 0, 0, 0)), (10, (.aload_n 0, 0, 0, 0)), (11, (.getfield 222, 6, 4, 638)), (14, (.if_icmp .ge 26, 40, 0, 0)), (17, (.iload_n 2, 0, 0, 0)), (18, (.aload_n 0, 0, 0, 0)), (19, (.getfield 17, 6, 5, 639)), (22, (.iload_n 3, 0, 0, 0)), (23, (.baload, 0, 0, 0)), (24, (.ifCond .eq 7, 31, 0, 0)), (27, (.iconst 1, 0, 0, 0)), (28, (.goto 4, 32, 0, 0)), (31, (.iconst 0, 0, 0, 0)), (32, (.iadd, 0, 0, 0)), (33, (.istore_n 2, 0, 0, 0)), (34, (.iinc 3 1, 0, 0, 0)), (37, (.goto (-28), 9, 0, 0)), (40, (.iload_n 1, 0, 0, 0)), (41, (.tableswitch 130 0 9 #[55, 60, 65, 67, 72, 77, 82, 87, 92, 111], 55, 0, 0)), (96, (.aload_n 0, 0, 0, 0)), (97, (.getfield 88, 6, 1, 635)), (100, (.ireturn, 0, 0, 0)), (101, (.aload_n 0, 0, 0, 0)), (102, (.getfield 222, 6, 4, 638)), (105, (.ireturn, 0, 0, 0)), (106, (.iload_n 2, 0, 0, 0)), (107, (.ireturn, 0, 0, 0)), (108, (.aload_n 0, 0, 0, 0)), (109, (.getfield 213, 6, 11, 645)), (112, (.ireturn, 0, 0, 0)), (113, (.aload_n 0, 0, 0, 0)), (114, (.getfield 185, 6, 14, 648)), (117, (.ireturn, 0, 0, 0)), (118, (.aload_n 0, 0, 0, 0)), (119, (.getfield 228, 6, 15, 649)), (122, (.ireturn, 0, 0, 0)), (123, (.aload_n 0, 0, 0, 0)), (124, (.getfield 194, 6, 16, 650)), (127, (.ireturn, 0, 0, 0)), (128, (.aload_n 0, 0, 0, 0)), (129, (.getfield 238, 6, 17, 651)), (132, (.ireturn, 0, 0, 0)), (133, (.aload_n 0, 0, 0, 0)), (134, (.getfield 181, 6, 13, 647)), (137, (.ifCond .eq 13, 150, 0, 0)), (140, (.aload_n 0, 0, 0, 0)), (141, (.getfield 20, 6, 6, 640)), (144, (.bipush 68, 0, 0, 0)), (146, (.iaload, 0, 0, 0)), (147, (.goto 4, 151, 0, 0)), (150, (.iconst 0, 0, 0, 0)), (151, (.ireturn, 0, 0, 0)), (152, (.aload_n 0, 0, 0, 0)), (153, (.getfield 216, 6, 12, 646)), (156, (.ifCond .eq 13, 169, 0, 0)), (159, (.aload_n 0, 0, 0, 0)), (160, (.getfield 20, 6, 6, 640)), (163, (.bipush 67, 0, 0, 0)), (165, (.iaload, 0, 0, 0)), (166, (.goto 4, 170, 0, 0)), (169, (.iconst 0, 0, 0, 0)), (170, (.ireturn, 0, 0, 0)), (171, (.iconst (-1), 0, 0, 0)), (172, (.ireturn, 0, 0, 0))]
/-- TriangleSetsModel.slotOf.(II)I -/
def vm_t114 : List (Nat × (Jvm.ClassFile.Instr × Nat × Nat × Nat)) := [(0, (.iload_n 1, 0, 0, 0)), (1, (.tableswitch 141 0 4 #[35, 49, 66, 105, 123], 35, 0, 0)), (36, (.aload_n 0, 0, 0, 0)), (37, (.iload_n 2, 0, 0, 0)), (38, (.invokevirtual 235, 103, 4, 873)), (41, (.ifCond .eq 7, 48, 0, 0)), (44, (.iconst (-1), 0, 0, 0)), (45, (.goto 4, 49, 0, 0)), (48, (.iload_n 2, 0, 0, 0)), (49, (.ireturn, 0, 0, 0)), (50, (.aload_n 0, 0, 0, 0)), (51, (.iload_n 2, 0, 0, 0)), (52, (.invokevirtual 251, 110, 4, 903)), (55, (.ifCond .eq 7, 62, 0, 0)), (58, (.iconst (-1), 0, 0, 0)), (59, (.goto 7, 66, 0, 0)), (62, (.bipush 58, 0, 0, 0)), (64, (.iload_n 2, 0, 0, 0)), (65, (.iadd, 0, 0, 0)), (66, (.ireturn, 0, 0, 0)), (67, (.aload_n 0, 0, 0, 0)), (68, (.iload_n 2, 0, 0, 0)), (69, (.invokevirtual 251, 110, 4, 903)), (72, (.ifCond .eq 5, 77, 0, 0)), (75, (.iconst (-1), 0, 0, 0)), (76, (.ireturn, 0, 0, 0)), (77, (.aload_n 0, 0, 0, 0)), (78, (.bipush 58, 0, 0, 0)), (80, (.iload_n 2, 0, 0, 0)), (81, (.iadd, 0, 0, 0)), (82, (.aload_n 0, 0, 0, 0)), (83, (.iload_n 2, 0, 0, 0)), (84, (.invokevirtual 254, 111, 4, 907)), (87, (.aload_n 0, 0, 0, 0)), (88, (.bipush 58, 0, 0, 0)), (90, (.iload_n 2, 0, 0, 0)), (91, (.iadd, 0, 0, 0)), (92, (.aload_n 0, 0, 0, 0)), (93, (.iload_n 2, 0, 0, 0)), (94, (.invokevirtual 254, 111, 4, 907)), (97, (.invokevirtual 103, 85, 4, 790)), (100, (.invokevirtual 128, 87, 4, 829)), (103, (.bipush 70, 0, 0, 0)), (105, (.ireturn, 0, 0, 0)), (106, (.iload_n 2, 0, 0, 0)), (107, (.ifCond .ne 15, 122, 0, 0)), (110, (.aload_n 0, 0, 0, 0)), (111, (.getfield 216, 6, 12, 646)), (114, (.ifCond .eq 8, 122, 0, 0)), (117, (.bipush 67, 0, 0, 0)), (119, (.goto 4, 123, 0, 0)), (122, (.iconst (-1), 0, 0, 0)), (123, (.ireturn, 0, 0, 0)), (124, (.iload_n 2, 0, 0, 0)), (125, (.ifCond .ne 15, 140, 0, 0)), (128, (.aload_n 0, 0, 0, 0)), (129, (.getfield 181, 6, 13, 647)), (132, (.ifCond .eq 8, 140, 0, 0)), (135, (.bipush 68, 0, 0, 0)), (137, (.goto 4, 141, 0, 0)), (140, (.iconst (-1), 0, 0, 0)), (141, (.ireturn, 0, 0, 0)), (142, (.iconst (-1), 0, 0, 0)), (143, (.ireturn, 0, 0, 0))]
/-- TriangleSetsModel.coefficient.(III)J -/
def vm_t115 : List (Nat × (Jvm.ClassFile.Instr × Nat × Nat × Nat)) := [(0, (.aload_n 0, 0, 0, 0)), (1, (.iconst 0, 0, 0, 0)), (2, (.putfield 84, 6, 0, 634)), (5, (.aload_n 0, 0, 0, 0)), (6, (.iload_n 1, 0, 0, 0)), (7, (.iload_n 2, 0, 0, 0)), (8, (.invokevirtual 257, 114, 4, 919)), (11, (.istore 4, 0, 0, 0)), (13, (.iload 4, 0, 0, 0)), (15, (.ifCond .lt 18, 33, 0, 0)), (18, (.iload_n 3, 0, 0, 0)), (19, (.ifCond .lt 14, 33, 0, 0)), (22, (.iload_n 3, 0, 0, 0)), (23, (.aload_n 0, 0, 0, 0)), (24, (.getfield 20, 6, 6, 640)), (27, (.iload 4, 0, 0, 0)), (29, (.iaload, 0, 0, 0)), (30, (.if_icmp .lt 7, 37, 0, 0)), (33, (.lconst 0, 0, 0, 0)), (34, (.goto 15, 49, 0, 0)), (37, (.aload_n 0, 0, 0, 0)), (38, (.getfield 23, 6, 7, 641)), (41, (.bipush 60, 0, 0, 0)), (43, (.iload 4, 0, 0, 0)), (45, (.imul, 0, 0, 0)), (46, (.iload_n 3, 0, 0, 0)), (47, (.iadd, 0, 0, 0)), (48, (.laload, 0, 0, 0)), (49, (.lreturn, 0, 0, 0))]
/-- TriangleSetsModel.powers.(III)I -/
def vm_t116 : List (Nat × (Jvm.ClassFile.Instr × Nat × Nat × Nat)) := [(0, (.aload_n 0, 0, 0, 0)), (1, (.iconst 0, 0, 0, 0)), (2, (.putfield 84, 6, 0, 634)), (5, (.aload_n 0, 0, 0, 0)), (6, (.iload_n 1, 0, 0, 0)), (7, (.iload_n 2, 0, 0, 0)), (8, (.invokevirtual 257, 114, 4, 919)), (11, (.istore 4, 0, 0, 0)), (13, (.iload 4, 0, 0, 0)), (15, (.ifCond .lt 18, 33, 0, 0)), (18, (.iload_n 3, 0, 0, 0)), (19, (.ifCond .lt 14, 33, 0, 0)), (22, (.iload_n 3, 0, 0, 0)), (23, (.aload_n 0, 0, 0, 0)), (24, (.getfield 20, 6, 6, 640)), (27, (.iload 4, 0, 0, 0)), (29, (.iaload, 0, 0, 0)), (30, (.if_icmp .lt 5, 35, 0, 0)), (33, (.iconst (-1), 0, 0, 0)), (34, (.ireturn, 0, 0, 0)), (35, (.iconst 0, 0, 0, 0)), (36, (.istore 5, 0, 0, 0)), (38, (.iconst 0, 0, 0, 0)), (39, (.istore 6, 0, 0, 0)), (41, (.iload 6, 0, 0, 0)), (43, (.bipush 8, 0, 0, 0)), (45, (.if_icmp .ge 36, 81, 0, 0)), (48, (.iload 5, 0, 0, 0)), (50, (.aload_n 0, 0, 0, 0)), (51, (.getfield 27, 6, 8, 642)), (54, (.bipush 60, 0, 0, 0)), (56, (.iload 4, 0, 0, 0)), (58, (.imul, 0, 0, 0)), (59, (.iload_n 3, 0, 0, 0)), (60, (.iadd, 0, 0, 0)), (61, (.laload, 0, 0, 0)), (62, (.iload 6, 0, 0, 0)), (64, (.invokestatic 91, 78, 1, 794)), (67, (.iconst 4, 0, 0, 0)), (68, (.iload 6, 0, 0, 0)), (70, (.imul, 0, 0, 0)), (71, (.ishl, 0, 0, 0)), (72, (.ior, 0, 0, 0)), (73, (.istore 5, 0, 0, 0)), (75, (.iinc 6 1, 0, 0, 0)), (78, (.goto (-37), 41, 0, 0)), (81, (.iload 5, 0, 0, 0)), (83, (.ireturn, 0, 0, 0))]
/-- TriangleSetsModel.point.(IJ)Z -/
def vm_t117 : List (Nat × (Jvm.ClassFile.Instr × Nat × Nat × Nat)) := [(0, (.aload_n 0, 0, 0, 0)), (1, (.iconst 0, 0, 0, 0)), (2, (.putfield 84, 6, 0, 634)), (5, (.iload_n 1, 0, 0, 0)), (6, (.ifCond .lt 11, 17, 0, 0)), (9, (.iload_n 1, 0, 0, 0)), (10, (.aload_n 0, 0, 0, 0)), (11, (.getfield 88, 6, 1, 635)), (14, (.if_icmp .lt 5, 19, 0, 0)), (17, (.iconst 0, 0, 0, 0)), (18, (.ireturn, 0, 0, 0)), (19, (.aload_n 0, 0, 0, 0)), (20, (.getfield 30, 6, 9, 643)), (23, (.iload_n 1, 0, 0, 0)), (24, (.lload_n 2, 0, 0, 0)), (25, (.lastore, 0, 0, 0)), (26, (.iconst 1, 0, 0, 0)), (27, (.ireturn, 0, 0, 0))]
/-- TriangleSetsModel.valueAt.(J)J -/
def vm_t118 : List (Nat × (Jvm.ClassFile.Instr × Nat × Nat × Nat)) := [(0, (.lconst 1, 0, 0, 0)), (1, (.lstore_n 3, 0, 0, 0)), (2, (.iconst 0, 0, 0, 0)), (3, (.istore 5, 0, 0, 0)), (5, (.iload 5, 0, 0, 0)), (7, (.bipush 8, 0, 0, 0)), (9, (.if_icmp .ge 38, 47, 0, 0)), (12, (.lload_n 1, 0, 0, 0)), (13, (.iload 5, 0, 0, 0)), (15, (.invokestatic 91, 78, 1, 794)), (18, (.istore 6, 0, 0, 0)), (20, (.iload 6, 0, 0, 0)), (22, (.ifCond .le 19, 41, 0, 0)), (25, (.lload_n 3, 0, 0, 0)), (26, (.aload_n 0, 0, 0, 0)), (27, (.getfield 30, 6, 9, 643)), (30, (.iload 5, 0, 0, 0)), (32, (.laload, 0, 0, 0)), (33, (.lmul, 0, 0, 0)), (34, (.lstore_n 3, 0, 0, 0)), (35, (.iinc 6 (-1), 0, 0, 0)), (38, (.goto (-18), 20, 0, 0)), (41, (.iinc 5 1, 0, 0, 0)), (44, (.goto (-39), 5, 0, 0)), (47, (.lload_n 3, 0, 0, 0)), (48, (.lreturn, 0, 0, 0))]
/-- TriangleSetsModel.valueOf.(I)J -/
def vm_t119 : List (Nat × (Jvm.ClassFile.Instr × Nat × Nat × Nat)) := [(0, (.lconst 0, 0, 0, 0)), (1, (.lstore_n 2, 0, 0, 0)), (2, (.iconst 0, 0, 0, 0)), (3, (.istore 4, 0, 0, 0)), (5, (.iload 4, 0, 0, 0)), (7, (.aload_n 0, 0, 0, 0)), (8, (.getfield 20, 6, 6, 640)), (11, (.iload_n 1, 0, 0, 0)), (12, (.iaload, 0, 0, 0)), (13, (.if_icmp .ge 41, 54, 0, 0)), (16, (.lload_n 2, 0, 0, 0)), (17, (.aload_n 0, 0, 0, 0)), (18, (.getfield 23, 6, 7, 641)), (21, (.bipush 60, 0, 0, 0)), (23, (.iload_n 1, 0, 0, 0)), (24, (.imul, 0, 0, 0)), (25, (.iload 4, 0, 0, 0)), (27, (.iadd, 0, 0, 0)), (28, (.laload, 0, 0, 0)), (29, (.aload_n 0, 0, 0, 0)), (30, (.aload_n 0, 0, 0, 0)), (31, (.getfield 27, 6, 8, 642)), (34, (.bipush 60, 0, 0, 0)), (36, (.iload_n 1, 0, 0, 0)), (37, (.imul, 0, 0, 0)), (38, (.iload 4, 0, 0, 0)), (40, (.iadd, 0, 0, 0)), (41, (.laload, 0, 0, 0)), (42, (.invokevirtual 260, 118, 4, 939)), (45, (.lmul, 0, 0, 0)), (46, (.ladd, 0, 0, 0)), (47, (.lstore_n 2, 0, 0, 0)), (48, (.iinc 4 1, 0, 0, 0)), (51, (.goto (-46), 5, 0, 0)), (54, (.lload_n 2, 0, 0, 0)), (55, (.lreturn, 0, 0, 0))]
/-- TriangleSetsModel.value.(II)J -/
def vm_t120 : List (Nat × (Jvm.ClassFile.Instr × Nat × Nat × Nat)) := [(0, (.aload_n 0, 0, 0, 0)), (1, (.iconst 0, 0, 0, 0)), (2, (.putfield 84, 6, 0, 634)), (5, (.aload_n 0, 0, 0, 0)), (6, (.iload_n 1, 0, 0, 0)), (7, (.iload_n 2, 0, 0, 0)), (8, (.invokevirtual 257, 114, 4, 919)), (11, (.istore_n 3, 0, 0, 0)), (12, (.iload_n 3, 0, 0, 0)), (13, (.ifCond .ge 7, 20, 0, 0)), (16, (.lconst 0, 0, 0, 0)), (17, (.goto 8, 25, 0, 0)), (20, (.aload_n 0, 0, 0, 0)), (21, (.iload_n 3, 0, 0, 0)), (22, (.invokevirtual 263, 119, 4, 935)), (25, (.lreturn, 0, 0, 0))]
/-- TriangleSetsModel.quotient.(I)J -/
def vm_t121 : List (Nat × (Jvm.ClassFile.Instr × Nat × Nat × Nat)) := [(0, (.aload_n 0, 0, 0, 0)), (1, (.iconst 0, 0, 0, 0)), (2, (.putfield 84, 6, 0, 634)), (5, (.aload_n 0, 0, 0, 0)), (6, (.iload_n 1, 0, 0, 0)), (7, (.invokevirtual 251, 110, 4, 903)), (10, (.ifCond .ne 10, 20, 0, 0)), (13, (.aload_n 0, 0, 0, 0)), (14, (.getfield 219, 6, 18, 652)), (17, (.ifCond .ne 5, 22, 0, 0)), (20, (.lconst 0, 0, 0, 0)), (21, (.lreturn, 0, 0, 0)), (22, (.iconst 0, 0, 0, 0)), (23, (.istore_n 2, 0, 0, 0)), (24, (.iload_n 2, 0, 0, 0)), (25, (.bipush 8, 0, 0, 0)), (27, (.if_icmp .ge 16, 43, 0, 0)), (30, (.aload_n 0, 0, 0, 0)), (31, (.getfield 81, 6, 43, 677)), (34, (.iload_n 2, 0, 0, 0)), (35, (.lconst 0, 0, 0, 0)), (36, (.lastore, 0, 0, 0)), (37, (.iinc 2 1, 0, 0, 0)), (40, (.goto (-16), 24, 0, 0)), (43, (.iconst 0, 0, 0, 0)), (44, (.istore_n 2, 0, 0, 0)), (45, (.iload_n 2, 0, 0, 0)), (46, (.aload_n 0, 0, 0, 0)), (47, (.getfield 241, 6, 19, 653)), (50, (.if_icmp .ge 122, 172, 0, 0)), (53, (.aload_n 0, 0, 0, 0)), (54, (.getfield 33, 6, 20, 654)), (57, (.iload_n 2, 0, 0, 0)), (58, (.iaload, 0, 0, 0)), (59, (.istore_n 3, 0, 0, 0)), (60, (.aload_n 0, 0, 0, 0)), (61, (.iconst 2, 0, 0, 0)), (62, (.iload_n 3, 0, 0, 0)), (63, (.invokevirtual 257, 114, 4, 919)), (66, (.istore 4, 0, 0, 0)), (68, (.aload_n 0, 0, 0, 0)), (69, (.iload 4, 0, 0, 0)), (71, (.invokevirtual 263, 119, 4, 935)), (74, (.lstore 5, 0, 0, 0)), (76, (.iconst 0, 0, 0, 0)), (77, (.istore 7, 0, 0, 0)), (79, (.iload 7, 0, 0, 0)), (81, (.aload_n 0, 0, 0, 0)), (82, (.getfield 213, 6, 11, 645)), (85, (.if_icmp .ge 21, 106, 0, 0)), (88, (.aload_n 0, 0, 0, 0)), (89, (.getfield 81, 6, 43, 677)), (92, (.iload 7, 0, 0, 0)), (94, (.dup2, 0, 0, 0)), (95, (.laload, 0, 0, 0)), (96, (.lload 5, 0, 0, 0)), (98, (.lmul, 0, 0, 0)), (99, (.lastore, 0, 0, 0)), (100, (.iinc 7 1, 0, 0, 0)), (103, (.goto (-24), 79, 0, 0)), (106, (.aload_n 0, 0, 0, 0)), (107, (.getfield 36, 6, 21, 655)), (110, (.iload_n 2, 0, 0, 0)), (111, (.iaload, 0, 0, 0)), (112, (.istore 7, 0, 0, 0)), (114, (.iload 7, 0, 0, 0)), (116, (.aload_n 0, 0, 0, 0)), (117, (.getfield 36, 6, 21, 655)), (120, (.iload_n 2, 0, 0, 0)), (121, (.iaload, 0, 0, 0)), (122, (.aload_n 0, 0, 0, 0)), (123, (.getfield 39, 6, 22, 656)), (126, (.iload_n 2, 0, 0, 0)), (127, (.iaload, 0, 0, 0)), (128, (.iadd, 0, 0, 0)), (129, (.if_icmp .ge 37, 166, 0, 0)), (132, (.aload_n 0, 0, 0, 0)), (133, (.getfield 81, 6, 43, 677)), (136, (.iload_n 3, 0, 0, 0)), (137, (.dup2, 0, 0, 0)), (138, (.laload, 0, 0, 0)), (139, (.aload_n 0, 0, 0, 0)), (140, (.getfield 42, 6, 23, 657)), (143, (.iload 7, 0, 0, 0)), (145, (.laload, 0, 0, 0)), (146, (.aload_n 0, 0, 0, 0)), (147, (.aload_n 0, 0, 0, 0)), (148, (.getfield 45, 6, 24, 658)), (151, (.iload 7, 0, 0, 0)), (153, (.laload, 0, 0, 0)), (154, (.invokevirtual 260, 118, 4, 939)), (157, (.lmul, 0, 0, 0)), (158, (.ladd, 0, 0, 0)), (159, (.lastore, 0, 0, 0)), (160, (.iinc 7 1, 0, 0, 0)), (163, (.goto (-49), 114, 0, 0)), (166, (.iinc 2 1, 0, 0, 0)), (169, (.goto (-124), 45, 0, 0)), (172, (.aload_n 0, 0, 0, 0)), (173, (.getfield 81, 6, 43, 677)), (176, (.iload_n 1, 0, 0, 0)), (177, (.laload, 0, 0, 0)), (178, (.lreturn, 0, 0, 0))]
/-- TriangleSetsModel.pseudo.(JJ)J -/
def vm_t122 : List (Nat × (Jvm.ClassFile.Instr × Nat × Nat × Nat)) := [(0, (.aload_n 0, 0, 0, 0)), (1, (.lload_n 3, 0, 0, 0)), (2, (.lconst 0, 0, 0, 0)), (3, (.lcmp, 0, 0, 0)), (4, (.ifCond .ne 7, 11, 0, 0)), (7, (.iconst 1, 0, 0, 0)), (8, (.goto 4, 12, 0, 0)), (11, (.iconst 0, 0, 0, 0)), (12, (.putfield 84, 6, 0, 634)), (15, (.aload_n 0, 0, 0, 0)), (16, (.getfield 84, 6, 0, 634)), (19, (.ifCond .le 7, 26, 0, 0)), (22, (.lconst 0, 0, 0, 0)), (23, (.goto 9, 32, 0, 0)), (26, (.lload_n 1, 0, 0, 0)), (27, (.bipush 32, 0, 0, 0)), (29, (.lshl, 0, 0, 0)), (30, (.lload_n 3, 0, 0, 0)), (31, (.ldiv, 0, 0, 0)), (32, (.lreturn, 0, 0, 0))]
/-- java/util/Arrays.fill.([II)V -/
def vm_t123 : List (Nat × (Jvm.ClassFile.Instr × Nat × Nat × Nat)) := [(0, (.iconst 0, 0, 0, 0)), (1, (.istore_n 2, 0, 0, 0)), (2, (.aload_n 0, 0, 0, 0)), (3, (.arraylength, 0, 0, 0)), (4, (.istore_n 3, 0, 0, 0)), (5, (.iload_n 2, 0, 0, 0)), (6, (.iload_n 3, 0, 0, 0)), (7, (.if_icmp .ge 13, 20, 0, 0)), (10, (.aload_n 0, 0, 0, 0)), (11, (.iload_n 2, 0, 0, 0)), (12, (.iload_n 1, 0, 0, 0)), (13, (.iastore, 0, 0, 0)), (14, (.iinc 2 1, 0, 0, 0)), (17, (.goto (-12), 5, 0, 0)), (20, (.return_, 0, 0, 0))]
/-- TriangleSetsLaw.pseudo.(LTriangleSets;JJ[J)I -/
def vm_t124 : List (Nat × (Jvm.ClassFile.Instr × Nat × Nat × Nat)) := [(0, (.aload 5, 0, 0, 0)), (2, (.iconst 0, 0, 0, 0)), (3, (.aload_n 0, 0, 0, 0)), (4, (.lload_n 1, 0, 0, 0)), (5, (.lload_n 3, 0, 0, 0)), (6, (.invokevirtual 7, 58, 4, 558)), (9, (.lastore, 0, 0, 0)), (10, (.goto 7, 17, 0, 0)), (13, (.astore 6, 0, 0, 0)), (15, (.iconst 1, 0, 0, 0)), (16, (.ireturn, 0, 0, 0)), (17, (.iconst 0, 0, 0, 0)), (18, (.ireturn, 0, 0, 0))]
def vm_tab (k : Nat) : List (Nat × (Jvm.ClassFile.Instr × Nat × Nat × Nat)) := match k with
  | 0 => vm_t0
  | 1 => vm_t1
  | 2 => vm_t2
  | 3 => vm_t3
  | 4 => vm_t4
  | 5 => vm_t5
  | 6 => vm_t6
  | 7 => vm_t7
  | 8 => vm_t8
  | 9 => vm_t9
  | 10 => vm_t10
  | 11 => vm_t11
  | 12 => vm_t12
  | 13 => vm_t13
  | 14 => vm_t14
  | 15 => vm_t15
  | 16 => vm_t16
  | 17 => vm_t17
  | 18 => vm_t18
  | 19 => vm_t19
  | 20 => vm_t20
  | 21 => vm_t21
  | 22 => vm_t22
  | 23 => vm_t23
  | 24 => vm_t24
  | 25 => vm_t25
  | 26 => vm_t26
  | 27 => vm_t27
  | 28 => vm_t28
  | 29 => vm_t29
  | 30 => vm_t30
  | 31 => vm_t31
  | 32 => vm_t32
  | 33 => vm_t33
  | 34 => vm_t34
  | 35 => vm_t35
  | 36 => vm_t36
  | 37 => vm_t37
  | 38 => vm_t38
  | 39 => vm_t39
  | 40 => vm_t40
  | 41 => vm_t41
  | 42 => vm_t42
  | 43 => vm_t43
  | 44 => vm_t44
  | 45 => vm_t45
  | 46 => vm_t46
  | 47 => vm_t47
  | 48 => vm_t48
  | 49 => vm_t49
  | 50 => vm_t50
  | 51 => vm_t51
  | 52 => vm_t52
  | 53 => vm_t53
  | 54 => vm_t54
  | 55 => vm_t55
  | 56 => vm_t56
  | 57 => vm_t57
  | 58 => vm_t58
  | 59 => vm_t59
  | 60 => vm_t60
  | 61 => vm_t61
  | 62 => vm_t62
  | 63 => vm_t63
  | 64 => vm_t64
  | 65 => vm_t65
  | 66 => vm_t66
  | 67 => vm_t67
  | 68 => vm_t68
  | 69 => vm_t69
  | 70 => vm_t70
  | 71 => vm_t71
  | 72 => vm_t72
  | 73 => vm_t73
  | 74 => vm_t74
  | 75 => vm_t75
  | 76 => vm_t76
  | 77 => vm_t77
  | 78 => vm_t78
  | 79 => vm_t79
  | 80 => vm_t80
  | 81 => vm_t81
  | 82 => vm_t82
  | 83 => vm_t83
  | 84 => vm_t84
  | 85 => vm_t85
  | 86 => vm_t86
  | 87 => vm_t87
  | 88 => vm_t88
  | 89 => vm_t89
  | 90 => vm_t90
  | 91 => vm_t91
  | 92 => vm_t92
  | 93 => vm_t93
  | 94 => vm_t94
  | 95 => vm_t95
  | 96 => vm_t96
  | 97 => vm_t97
  | 98 => vm_t98
  | 99 => vm_t99
  | 100 => vm_t100
  | 101 => vm_t101
  | 102 => vm_t102
  | 103 => vm_t103
  | 104 => vm_t104
  | 105 => vm_t105
  | 106 => vm_t106
  | 107 => vm_t107
  | 108 => vm_t108
  | 109 => vm_t109
  | 110 => vm_t110
  | 111 => vm_t111
  | 112 => vm_t112
  | 113 => vm_t113
  | 114 => vm_t114
  | 115 => vm_t115
  | 116 => vm_t116
  | 117 => vm_t117
  | 118 => vm_t118
  | 119 => vm_t119
  | 120 => vm_t120
  | 121 => vm_t121
  | 122 => vm_t122
  | 123 => vm_t123
  | 124 => vm_t124
  | _ => []
def vm_ent (k pc : Nat) : Option (Jvm.ClassFile.Instr × Nat × Nat × Nat) := (vm_tab k).lookup pc
def vm_ilen (i : Jvm.ClassFile.Instr) (x : Nat) : Nat := match i with
  | .tableswitch _ _ _ _ => x
  | .bipush _ => 2
  | .sipush _ => 3
  | .ldc _ => 2
  | .ldc2_w _ => 3
  | .iload _ => 2
  | .lload _ => 2
  | .aload _ => 2
  | .istore _ => 2
  | .lstore _ => 2
  | .astore _ => 2
  | .iinc _ _ => 3
  | .goto _ => 3
  | .ifCond _ _ => 3
  | .if_icmp _ _ => 3
  | .if_acmp _ _ => 3
  | .ifnull _ => 3
  | .ifnonnull _ => 3
  | .getfield _ => 3
  | .putfield _ => 3
  | .new _ => 3
  | .newarray _ => 2
  | .anewarray _ => 3
  | .invokestatic _ => 3
  | .invokevirtual _ => 3
  | .invokespecial _ => 3
  | _ => 1
/-- the word at that place of the tables' -/
def vm_has (z : Nat) (w : Cond) : Bool := match lw_tbl[z]? with
  | some v => decide (v = w) && goodWord w
  | none => false
def vm_hasN (z : Nat) (w : Cond) : Bool := match lw_tbl[z]? with
  | some v => decide (v = w) && vm_isN w
  | none => false
def vm_lnk (k pc : Nat) (i : Jvm.ClassFile.Instr) (x y z : Nat) : Bool := match i with
  | .ldc2_w o => vm_has z (.constantLong (vm_name k).cls o (Int64.ofNat x))
  | .goto o => decide ((pc : Int) + o = (x : Int))
  | .ifCond _ o => decide ((pc : Int) + o = (x : Int))
  | .if_icmp _ o => decide ((pc : Int) + o = (x : Int))
  | .if_acmp _ o => decide ((pc : Int) + o = (x : Int))
  | .ifnull o => decide ((pc : Int) + o = (x : Int))
  | .ifnonnull o => decide ((pc : Int) + o = (x : Int))
  | .getfield o => (match vm_cls[x]? with
    | some q => decide (y < q.2.2) && vm_has z (.fieldLink (vm_name k).cls o (q.2.1 y).1 (q.2.1 y).2.1 (q.2.1 y).2.2.1)
    | none => false)
  | .putfield o => (match vm_cls[x]? with
    | some q => decide (y < q.2.2) && vm_has z (.fieldLink (vm_name k).cls o (q.2.1 y).1 (q.2.1 y).2.1 (q.2.1 y).2.2.1) && (!(q.2.1 y).2.2.2 || (decide ((vm_name k).name = "<init>") && decide ((q.2.1 y).1 = (vm_name k).cls)))
    | none => false)
  | .new o => (match vm_cls[x]? with
    | some q => vm_has z (.classLink (vm_name k).cls o q.1)
    | none => true)
  | .anewarray o => (decide (x = 3) && vm_has z (.classLink (vm_name k).cls o vm_e3)) || (decide (x = 4) && vm_has z (.classLink (vm_name k).cls o vm_e4))
  | .invokestatic o => (match y with
    | 1 => decide (x < vm_n ∧ (vm_mp x).1 = 1) && vm_has z (.methodLink (vm_name k).cls o (vm_name x))
    | 3 => decide (x < vm_n ∧ (vm_mp x).1 = 1) && vm_hasN z (.methodLinkNest (vm_name k).cls o (vm_name x) "TriangleSets")
    | 9 => vm_has z (.methodLink (vm_name k).cls o arraycopyName)
    | 10 => vm_has z (.methodLink (vm_name k).cls o Lib.Math.max.name)
    | 11 => vm_has z (.methodLink (vm_name k).cls o Lib.Math.min.name)
    | 12 => vm_has z (.methodLink (vm_name k).cls o Lib.MathLoose.abs_long.x)
    | _ => true)
  | .invokevirtual o => (match y with
    | 4 => decide (x < vm_n ∧ (vm_mp x).1 = 3) && vm_has z (.methodLink (vm_name k).cls o (vm_name x))
    | 5 => decide (x < vm_n ∧ (vm_mp x).1 = 3) && vm_hasN z (.methodLinkNest (vm_name k).cls o (vm_name x) "TriangleSets")
    | _ => true)
  | .invokespecial o => (match y with
    | 6 => decide (x < vm_n ∧ (vm_mp x).1 = 2) && vm_has z (.methodLink (vm_name k).cls o (vm_name x))
    | 7 => decide (x < vm_n ∧ (vm_mp x).1 = 2) && vm_hasN z (.methodLinkNest (vm_name k).cls o (vm_name x) "TriangleSets")
    | 8 => vm_has z (.methodLink (vm_name k).cls o objectInit)
    | _ => true)
  | _ => true
def vm_okE (k : Nat) (q : Nat × (Jvm.ClassFile.Instr × Nat × Nat × Nat)) : Bool := decide (decode (vm_code k) q.1 = .ok (q.2.1, vm_ilen q.2.1 q.2.2.1)) && vm_lnk k q.1 q.2.1 q.2.2.1 q.2.2.2.1 q.2.2.2.2
