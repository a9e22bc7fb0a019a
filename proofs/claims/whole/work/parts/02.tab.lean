/-! tables of the system, written by gen/mk_tab.py out of claim/Statement.lean -/
def oNL : List String := ["CabinetTable$Copies", "CabinetTable$Docket", "CabinetTable$Holders", "CabinetTable$Paper", "CabinetTable$Register", "CabinetTable$Rule", "CabinetTable$Seat", "CabinetTable$State", "CabinetTable$Tables", "CabinetTable$Tape", "CabinetTable$WayFinder", "CabinetTable", "CabinetTableModel", "CabinetTableLaw", "java/lang/Integer", "java/lang/Math"]
def oN (c : Nat) : String := oNL.getD c ""
def fT0 : u_T := fun k => match k with
  | 0 => ("CabinetTable$Copies", "papers", "[I", true)
  | 1 => ("CabinetTable$Copies", "offices", "[I", true)
  | 2 => ("CabinetTable$Copies", "days", "[I", true)
  | 3 => ("CabinetTable$Copies", "marks", "[I", true)
  | 4 => ("CabinetTable$Copies", "backSet", "I", false)
  | _ => ("CabinetTable$Copies", "count", "I", false)
def fT1 : u_T := fun k => match k with
  | 0 => ("CabinetTable$Docket", "papers", "[I", true)
  | 1 => ("CabinetTable$Docket", "things", "[I", true)
  | 2 => ("CabinetTable$Docket", "values", "[I", true)
  | 3 => ("CabinetTable$Docket", "days", "[I", true)
  | 4 => ("CabinetTable$Docket", "bindings", "[I", true)
  | 5 => ("CabinetTable$Docket", "leanings", "[I", true)
  | 6 => ("CabinetTable$Docket", "undoneDays", "[I", true)
  | 7 => ("CabinetTable$Docket", "governments", "[I", true)
  | _ => ("CabinetTable$Docket", "count", "I", false)
def fT2 : u_T := fun k => match k with
  | 0 => ("CabinetTable$Holders", "changedOffices", "[I", true)
  | 1 => ("CabinetTable$Holders", "persons", "[I", true)
  | 2 => ("CabinetTable$Holders", "days", "[I", true)
  | 3 => ("CabinetTable$Holders", "offices", "I", false)
  | _ => ("CabinetTable$Holders", "changes", "I", false)
def fT3 : u_T := fun k => match k with
  | 0 => ("CabinetTable$Paper", "kind", "I", false)
  | 1 => ("CabinetTable$Paper", "office", "I", false)
  | 2 => ("CabinetTable$Paper", "thing", "I", false)
  | 3 => ("CabinetTable$Paper", "sum", "I", false)
  | 4 => ("CabinetTable$Paper", "a", "I", false)
  | 5 => ("CabinetTable$Paper", "sentDay", "I", false)
  | 6 => ("CabinetTable$Paper", "taken", "Z", false)
  | 7 => ("CabinetTable$Paper", "agreed", "I", false)
  | 8 => ("CabinetTable$Paper", "noes", "I", false)
  | 9 => ("CabinetTable$Paper", "cameTable", "I", false)
  | 10 => ("CabinetTable$Paper", "cameDay", "I", false)
  | 11 => ("CabinetTable$Paper", "letBy", "I", false)
  | 12 => ("CabinetTable$Paper", "bySilence", "Z", false)
  | _ => ("CabinetTable$Paper", "slack", "I", false)
def fT4 : u_T := fun k => match k with
  | 0 => ("CabinetTable$Register", "values", "[I", true)
  | 1 => ("CabinetTable$Register", "sort", "I", false)
  | _ => ("CabinetTable$Register", "places", "I", false)
def fT5 : u_T := fun k => match k with
  | 0 => ("CabinetTable$Rule", "head", "I", false)
  | 1 => ("CabinetTable$Rule", "target", "I", false)
  | 2 => ("CabinetTable$Rule", "number", "I", false)
  | 3 => ("CabinetTable$Rule", "fromDay", "I", false)
  | 4 => ("CabinetTable$Rule", "atoms", "I", false)
  | 5 => ("CabinetTable$Rule", "ifSteps", "I", false)
  | 6 => ("CabinetTable$Rule", "allSteps", "I", false)
  | _ => ("CabinetTable$Rule", "steps", "[I", true)
def fT6 : u_T := fun k => match k with
  | 0 => ("CabinetTable$Seat", "paper", "LCabinetTable$Paper;", true)
  | 1 => ("CabinetTable$Seat", "register", "LCabinetTable$Register;", true)
  | 2 => ("CabinetTable$Seat", "holding", "I", false)
  | _ => ("CabinetTable$Seat", "number", "I", false)
def fT7 : u_T := fun k => match k with
  | 0 => ("CabinetTable$State", "holders", "LCabinetTable$Holders;", true)
  | 1 => ("CabinetTable$State", "tables", "LCabinetTable$Tables;", true)
  | 2 => ("CabinetTable$State", "papers", "[LCabinetTable$Paper;", true)
  | 3 => ("CabinetTable$State", "rules", "[LCabinetTable$Rule;", true)
  | 4 => ("CabinetTable$State", "docket", "LCabinetTable$Docket;", true)
  | 5 => ("CabinetTable$State", "copies", "LCabinetTable$Copies;", true)
  | 6 => ("CabinetTable$State", "groups", "[I", true)
  | 7 => ("CabinetTable$State", "laws", "[I", true)
  | 8 => ("CabinetTable$State", "day", "I", false)
  | 9 => ("CabinetTable$State", "government", "I", false)
  | 10 => ("CabinetTable$State", "paperCount", "I", false)
  | 11 => ("CabinetTable$State", "ruleCount", "I", false)
  | _ => ("CabinetTable$State", "groupCount", "I", false)
def fT8 : u_T := fun k => match k with
  | 0 => ("CabinetTable$Tables", "seats", "[I", true)
  | 1 => ("CabinetTable$Tables", "periods", "[I", true)
  | 2 => ("CabinetTable$Tables", "offsets", "[I", true)
  | 3 => ("CabinetTable$Tables", "passes", "[I", true)
  | _ => ("CabinetTable$Tables", "count", "I", false)
def fT9 : u_T := fun k => match k with
  | 0 => ("CabinetTable$Tape", "bytes", "[B", true)
  | 1 => ("CabinetTable$Tape", "tokens", "[I", true)
  | 2 => ("CabinetTable$Tape", "places", "[I", true)
  | 3 => ("CabinetTable$Tape", "numbers", "[I", true)
  | 4 => ("CabinetTable$Tape", "draft", "LCabinetTable$Rule;", true)
  | 5 => ("CabinetTable$Tape", "length", "I", false)
  | 6 => ("CabinetTable$Tape", "last", "I", false)
  | 7 => ("CabinetTable$Tape", "at", "I", false)
  | _ => ("CabinetTable$Tape", "token", "I", false)
def fT10 : u_T := fun k => match k with
  | 0 => ("CabinetTable$WayFinder", "path", "[I", true)
  | 1 => ("CabinetTable$WayFinder", "best", "[I", true)
  | 2 => ("CabinetTable$WayFinder", "bestLength", "I", false)
  | 3 => ("CabinetTable$WayFinder", "bestDay", "I", false)
  | 4 => ("CabinetTable$WayFinder", "goal", "I", false)
  | _ => ("CabinetTable$WayFinder", "ahead", "I", false)
def fT11 : u_T := fun k => match k with
  | 0 => ("CabinetTable", "now", "LCabinetTable$State;", true)
  | 1 => ("CabinetTable", "image", "LCabinetTable$State;", true)
  | 2 => ("CabinetTable", "trial", "LCabinetTable$State;", true)
  | 3 => ("CabinetTable", "wayFinder", "LCabinetTable$WayFinder;", true)
  | 4 => ("CabinetTable", "tape", "LCabinetTable$Tape;", true)
  | 5 => ("CabinetTable", "waiting", "[I", true)
  | 6 => ("CabinetTable", "registers", "[LCabinetTable$Register;", true)
  | 7 => ("CabinetTable", "room", "[LCabinetTable$Seat;", true)
  | 8 => ("CabinetTable", "imageKept", "Z", false)
  | _ => ("CabinetTable", "waitingCount", "I", false)
def fT12 : u_T := fun k => match k with
  | 0 => ("CabinetTableModel", "now", "[I", true)
  | 1 => ("CabinetTableModel", "image", "[I", true)
  | 2 => ("CabinetTableModel", "aside", "[I", true)
  | 3 => ("CabinetTableModel", "hasImage", "Z", false)
  | 4 => ("CabinetTableModel", "step", "[I", true)
  | 5 => ("CabinetTableModel", "stepDay", "[I", true)
  | 6 => ("CabinetTableModel", "best", "[I", true)
  | 7 => ("CabinetTableModel", "bestMany", "I", false)
  | 8 => ("CabinetTableModel", "bestDay", "I", false)
  | 9 => ("CabinetTableModel", "tape", "[I", true)
  | 10 => ("CabinetTableModel", "taped", "I", false)
  | 11 => ("CabinetTableModel", "letters", "[C", true)
  | 12 => ("CabinetTableModel", "begins", "[I", true)
  | 13 => ("CabinetTableModel", "length", "I", false)
  | 14 => ("CabinetTableModel", "next", "I", false)
  | 15 => ("CabinetTableModel", "from", "I", false)
  | 16 => ("CabinetTableModel", "token", "I", false)
  | 17 => ("CabinetTableModel", "value", "I", false)
  | 18 => ("CabinetTableModel", "ended", "I", false)
  | 19 => ("CabinetTableModel", "readHead", "I", false)
  | 20 => ("CabinetTableModel", "readOne", "I", false)
  | 21 => ("CabinetTableModel", "readOther", "I", false)
  | 22 => ("CabinetTableModel", "codes", "[I", true)
  | 23 => ("CabinetTableModel", "codeAt", "I", false)
  | 24 => ("CabinetTableModel", "codeMany", "I", false)
  | 25 => ("CabinetTableModel", "ifMany", "I", false)
  | 26 => ("CabinetTableModel", "unlessMany", "I", false)
  | 27 => ("CabinetTableModel", "atoms", "I", false)
  | 28 => ("CabinetTableModel", "isBadNumber", "Z", false)
  | 29 => ("CabinetTableModel", "number", "I", false)
  | 30 => ("CabinetTableModel", "waits", "[I", true)
  | 31 => ("CabinetTableModel", "waiting", "I", false)
  | 32 => ("CabinetTableModel", "parens", "I", false)
  | 33 => ("CabinetTableModel", "nots", "I", false)
  | 34 => ("CabinetTableModel", "pile", "[Z", true)
  | 35 => ("CabinetTableModel", "isCounted", "[Z", true)
  | 36 => ("CabinetTableModel", "rowSort", "[I", true)
  | 37 => ("CabinetTableModel", "rowSize", "[I", true)
  | 38 => ("CabinetTableModel", "rowAt", "[I", true)
  | 39 => ("CabinetTableModel", "carried", "[I", true)
  | 40 => ("CabinetTableModel", "seat", "[I", true)
  | 41 => ("CabinetTableModel", "seatKind", "[I", true)
  | 42 => ("CabinetTableModel", "seatSum", "[I", true)
  | 43 => ("CabinetTableModel", "seatA", "[I", true)
  | 44 => ("CabinetTableModel", "tells", "I", false)
  | 45 => ("CabinetTableModel", "waitsFor", "[I", true)
  | _ => ("CabinetTableModel", "rows", "[I", true)
abbrev classes : List vw_C := [("CabinetTable$Copies", fT0, 6), ("CabinetTable$Docket", fT1, 9), ("CabinetTable$Holders", fT2, 5), ("CabinetTable$Paper", fT3, 14), ("CabinetTable$Register", fT4, 3), ("CabinetTable$Rule", fT5, 8), ("CabinetTable$Seat", fT6, 4), ("CabinetTable$State", fT7, 13), ("CabinetTable$Tables", fT8, 5), ("CabinetTable$Tape", fT9, 9), ("CabinetTable$WayFinder", fT10, 6), ("CabinetTable", fT11, 10), ("CabinetTableModel", fT12, 47)]
def fTs (c : Nat) : u_T := ((classes.getD c ("", fT0, 0)).2.1)
def nF (c : Nat) : Nat := ((classes.getD c ("", fT0, 0)).2.2)
def ftyL : List (List FieldType) := [[.array .int, .array .int, .array .int, .array .int, .int, .int],
  [.array .int, .array .int, .array .int, .array .int, .array .int, .array .int, .array .int, .array .int, .int],
  [.array .int, .array .int, .array .int, .int, .int],
  [.int, .int, .int, .int, .int, .int, .boolean, .int, .int, .int, .int, .int, .boolean, .int],
  [.array .int, .int, .int],
  [.int, .int, .int, .int, .int, .int, .int, .array .int],
  [.object "CabinetTable$Paper", .object "CabinetTable$Register", .int, .int],
  [.object "CabinetTable$Holders", .object "CabinetTable$Tables", .array (.object "CabinetTable$Paper"), .array (.object "CabinetTable$Rule"), .object "CabinetTable$Docket", .object "CabinetTable$Copies", .array .int, .array .int, .int, .int, .int, .int, .int],
  [.array .int, .array .int, .array .int, .array .int, .int],
  [.array .byte, .array .int, .array .int, .array .int, .object "CabinetTable$Rule", .int, .int, .int, .int],
  [.array .int, .array .int, .int, .int, .int, .int],
  [.object "CabinetTable$State", .object "CabinetTable$State", .object "CabinetTable$State", .object "CabinetTable$WayFinder", .object "CabinetTable$Tape", .array .int, .array (.object "CabinetTable$Register"), .array (.object "CabinetTable$Seat"), .boolean, .int],
  [.array .int, .array .int, .array .int, .boolean, .array .int, .array .int, .array .int, .int, .int, .array .int, .int, .array .char, .array .int, .int, .int, .int, .int, .int, .int, .int, .int, .int, .array .int, .int, .int, .int, .int, .int, .boolean, .int, .array .int, .int, .int, .int, .array .boolean, .array .boolean, .array .int, .array .int, .array .int, .array .int, .array .int, .array .int, .array .int, .array .int, .int, .array .int, .array .int]]
def fty (c k : Nat) : FieldType := (ftyL.getD c []).getD k .int
/-- a method: its class, name, code, locals, answer, kind (0 static, 1 virtual, 2 constructor), how many values a call takes -/
abbrev MI : Type := Nat × MethodName × ByteArray × Nat × Option FieldType × Nat × Nat
def mL0 : List MI := [(0, ⟨"CabinetTable$Copies", "<init>", "()V"⟩, prog_2_method_1_code, 1, none, 2, 1),
  (0, ⟨"CabinetTable$Copies", "become", "(LCabinetTable$Copies;)V"⟩, prog_2_method_2_code, 2, none, 1, 2),
  (0, ⟨"CabinetTable$Copies", "add", "(IIII)I"⟩, prog_2_method_3_code, 5, some .int, 1, 5),
  (0, ⟨"CabinetTable$Copies", "giveBack", "(I)Z"⟩, prog_2_method_4_code, 3, some .boolean, 1, 2),
  (0, ⟨"CabinetTable$Copies", "howManyOut", "()I"⟩, prog_2_method_5_code, 1, some .int, 1, 1),
  (0, ⟨"CabinetTable$Copies", "outTo", "(I)I"⟩, prog_2_method_6_code, 4, some .int, 1, 2),
  (0, ⟨"CabinetTable$Copies", "papersSentTo", "(II)I"⟩, prog_2_method_7_code, 5, some .int, 1, 3),
  (0, ⟨"CabinetTable$Copies", "alike", "(III)I"⟩, prog_2_method_8_code, 7, some .int, 1, 4),
  (0, ⟨"CabinetTable$Copies", "bestPlace", "(II)I"⟩, prog_2_method_9_code, 7, some .int, 1, 3),
  (0, ⟨"CabinetTable$Copies", "mostAlike", "(II)I"⟩, prog_2_method_10_code, 7, some .int, 1, 3),
  (1, ⟨"CabinetTable$Docket", "<init>", "()V"⟩, prog_3_method_1_code, 1, none, 2, 1),
  (1, ⟨"CabinetTable$Docket", "become", "(LCabinetTable$Docket;)V"⟩, prog_3_method_2_code, 2, none, 1, 2),
  (1, ⟨"CabinetTable$Docket", "isFull", "()Z"⟩, prog_3_method_3_code, 1, some .boolean, 1, 1),
  (1, ⟨"CabinetTable$Docket", "hasAll", "(I)Z"⟩, prog_3_method_4_code, 2, some .boolean, 1, 2),
  (1, ⟨"CabinetTable$Docket", "hasOneBy", "(I)Z"⟩, prog_3_method_5_code, 3, some .boolean, 1, 2),
  (1, ⟨"CabinetTable$Docket", "begin", "(IIII)I"⟩, prog_3_method_6_code, 5, some .int, 1, 5),
  (1, ⟨"CabinetTable$Docket", "tie", "(IIII)V"⟩, prog_3_method_7_code, 5, none, 1, 5),
  (1, ⟨"CabinetTable$Docket", "part", "(II)I"⟩, prog_3_method_8_code, 3, some .int, 1, 3),
  (1, ⟨"CabinetTable$Docket", "undo", "(II)V"⟩, prog_3_method_9_code, 3, none, 1, 3),
  (1, ⟨"CabinetTable$Docket", "standing", "(I)I"⟩, prog_3_method_10_code, 2, some .int, 1, 2),
  (1, ⟨"CabinetTable$Docket", "standingWithout", "(II)I"⟩, prog_3_method_11_code, 6, some .int, 1, 3),
  (1, ⟨"CabinetTable$Docket", "standsOn", "(II)Z"⟩, prog_3_method_12_code, 3, some .boolean, 1, 3),
  (1, ⟨"CabinetTable$Docket", "fallingWith", "(II)I"⟩, prog_3_method_13_code, 3, some .int, 1, 3),
  (1, ⟨"CabinetTable$Docket", "greatestOn", "(II)I"⟩, prog_3_method_14_code, 5, some .int, 1, 3),
  (1, ⟨"CabinetTable$Docket", "greatestBinding", "(III)I"⟩, prog_3_method_15_code, 6, some .int, 1, 4),
  (1, ⟨"CabinetTable$Docket", "opposed", "(II)I"⟩, prog_3_method_16_code, 7, some .int, 1, 3),
  (1, ⟨"CabinetTable$Docket", "isAgainst", "(II)Z"⟩, prog_3_method_17_code, 3, some .boolean, 1, 3),
  (2, ⟨"CabinetTable$Holders", "<init>", "()V"⟩, prog_4_method_1_code, 1, none, 2, 1),
  (2, ⟨"CabinetTable$Holders", "become", "(LCabinetTable$Holders;)V"⟩, prog_4_method_2_code, 2, none, 1, 2),
  (2, ⟨"CabinetTable$Holders", "addOffice", "()I"⟩, prog_4_method_3_code, 1, some .int, 1, 1),
  (2, ⟨"CabinetTable$Holders", "change", "(III)I"⟩, prog_4_method_4_code, 5, some .int, 1, 4),
  (2, ⟨"CabinetTable$Holders", "holderOn", "(II)I"⟩, prog_4_method_5_code, 5, some .int, 1, 3),
  (3, ⟨"CabinetTable$Paper", "<init>", "()V"⟩, prog_5_method_1_code, 1, none, 2, 1),
  (3, ⟨"CabinetTable$Paper", "begin", "(IIIII)V"⟩, prog_5_method_2_code, 6, none, 1, 6),
  (3, ⟨"CabinetTable$Paper", "become", "(LCabinetTable$Paper;)V"⟩, prog_5_method_3_code, 2, none, 1, 2),
  (3, ⟨"CabinetTable$Paper", "isSent", "()Z"⟩, prog_5_method_4_code, 1, some .boolean, 1, 1),
  (3, ⟨"CabinetTable$Paper", "hasCome", "()Z"⟩, prog_5_method_5_code, 1, some .boolean, 1, 1),
  (3, ⟨"CabinetTable$Paper", "isUnderWay", "()Z"⟩, prog_5_method_6_code, 1, some .boolean, 1, 1),
  (3, ⟨"CabinetTable$Paper", "isOfKind", "(I)Z"⟩, prog_5_method_7_code, 4, some .boolean, 1, 2),
  (3, ⟨"CabinetTable$Paper", "arrive", "(II)V"⟩, prog_5_method_8_code, 3, none, 1, 3)]
def mL1 : List MI := [(3, ⟨"CabinetTable$Paper", "hear", "(IZ)I"⟩, prog_5_method_9_code, 5, some .int, 1, 3),
  (3, ⟨"CabinetTable$Paper", "ofItself", "(I)I"⟩, prog_5_method_10_code, 2, some .int, 1, 2),
  (3, ⟨"CabinetTable$Paper", "ofItsCourse", "(I)I"⟩, prog_5_method_11_code, 2, some .int, 1, 2),
  (3, ⟨"CabinetTable$Paper", "reach", "()I"⟩, prog_5_method_12_code, 2, some .int, 1, 1),
  (3, ⟨"CabinetTable$Paper", "shuts", "()I"⟩, prog_5_method_13_code, 3, some .int, 1, 1),
  (3, ⟨"CabinetTable$Paper", "binds", "()I"⟩, prog_5_method_14_code, 1, some .int, 1, 1),
  (3, ⟨"CabinetTable$Paper", "weighs", "()I"⟩, prog_5_method_15_code, 2, some .int, 1, 1),
  (4, ⟨"CabinetTable$Register", "<init>", "()V"⟩, prog_6_method_1_code, 1, none, 2, 1),
  (4, ⟨"CabinetTable$Register", "begin", "(II)V"⟩, prog_6_method_2_code, 4, none, 1, 3),
  (4, ⟨"CabinetTable$Register", "become", "(LCabinetTable$Register;)V"⟩, prog_6_method_3_code, 2, none, 1, 2),
  (4, ⟨"CabinetTable$Register", "isMissing", "()Z"⟩, prog_6_method_4_code, 1, some .boolean, 1, 1),
  (4, ⟨"CabinetTable$Register", "hasPlace", "(I)Z"⟩, prog_6_method_5_code, 2, some .boolean, 1, 2),
  (4, ⟨"CabinetTable$Register", "hasPlaces", "(II)Z"⟩, prog_6_method_6_code, 3, some .boolean, 1, 3),
  (4, ⟨"CabinetTable$Register", "put", "(II)I"⟩, prog_6_method_7_code, 4, some .int, 1, 3),
  (5, ⟨"CabinetTable$Rule", "<init>", "()V"⟩, prog_7_method_1_code, 1, none, 2, 1),
  (5, ⟨"CabinetTable$Rule", "become", "(LCabinetTable$Rule;)V"⟩, prog_7_method_2_code, 2, none, 1, 2),
  (5, ⟨"CabinetTable$Rule", "clear", "()V"⟩, prog_7_method_3_code, 1, none, 1, 1),
  (5, ⟨"CabinetTable$Rule", "addStep", "(II)V"⟩, prog_7_method_4_code, 3, none, 1, 3),
  (5, ⟨"CabinetTable$Rule", "part", "(I)I"⟩, prog_7_method_5_code, 2, some .int, 1, 2),
  (5, ⟨"CabinetTable$Rule", "isWrong", "(III)Z"⟩, prog_7_method_6_code, 6, some .boolean, 1, 4),
  (5, ⟨"CabinetTable$Rule", "fits", "(LCabinetTable$Paper;II)Z"⟩, prog_7_method_7_code, 4, some .boolean, 1, 4),
  (5, ⟨"CabinetTable$Rule", "isSo", "(IILCabinetTable$Paper;II)Z"⟩, prog_7_method_8_code, 11, some .boolean, 1, 6),
  (5, ⟨"CabinetTable$Rule", "isAtomSo", "(ILCabinetTable$Paper;II)Z"⟩, prog_7_method_9_code, 5, some .boolean, 0, 4),
  (6, ⟨"CabinetTable$Seat", "<init>", "()V"⟩, prog_8_method_1_code, 1, none, 2, 1),
  (7, ⟨"CabinetTable$State", "<init>", "()V"⟩, prog_9_method_1_code, 2, none, 2, 1),
  (7, ⟨"CabinetTable$State", "become", "(LCabinetTable$State;)V"⟩, prog_9_method_2_code, 3, none, 1, 2),
  (7, ⟨"CabinetTable$State", "countingRules", "(LCabinetTable$Paper;)I"⟩, prog_9_method_3_code, 6, some .int, 1, 2),
  (7, ⟨"CabinetTable$State", "greatestRule", "(II)I"⟩, prog_9_method_4_code, 4, some .int, 1, 3),
  (7, ⟨"CabinetTable$State", "dueOf", "(LCabinetTable$Paper;I)I"⟩, prog_9_method_5_code, 3, some .int, 1, 3),
  (7, ⟨"CabinetTable$State", "dueBy", "(ILCabinetTable$Paper;I)I"⟩, prog_9_method_6_code, 5, some .int, 1, 4),
  (7, ⟨"CabinetTable$State", "neededOffices", "(I)I"⟩, prog_9_method_7_code, 4, some .int, 1, 2),
  (7, ⟨"CabinetTable$State", "leastPaperOfBoth", "(LCabinetTable$Rule;LCabinetTable$Rule;)I"⟩, prog_9_method_8_code, 4, some .int, 1, 3),
  (7, ⟨"CabinetTable$State", "whatLacks", "(LCabinetTable$Paper;I)I"⟩, prog_9_method_9_code, 5, some .int, 1, 3),
  (7, ⟨"CabinetTable$State", "addDecision", "(III)I"⟩, prog_9_method_10_code, 5, some .int, 1, 4),
  (7, ⟨"CabinetTable$State", "letDayGoBy", "()V"⟩, prog_9_method_11_code, 2, none, 1, 1),
  (7, ⟨"CabinetTable$State", "settleBySilence", "(I)V"⟩, prog_9_method_12_code, 6, none, 1, 2),
  (7, ⟨"CabinetTable$State", "tooLateBy", "(I)I"⟩, prog_9_method_13_code, 5, some .int, 1, 2),
  (7, ⟨"CabinetTable$State", "papersKnownTo", "(II)I"⟩, prog_9_method_14_code, 7, some .int, 1, 3),
  (7, ⟨"CabinetTable$State", "openPapers", "()I"⟩, prog_9_method_15_code, 4, some .int, 1, 1),
  (7, ⟨"CabinetTable$State", "reckonedFrom", "(I)I"⟩, prog_9_method_16_code, 7, some .int, 1, 2)]
def mL2 : List MI := [(7, ⟨"CabinetTable$State", "sentPapers", "()I"⟩, prog_9_method_17_code, 3, some .int, 1, 1),
  (7, ⟨"CabinetTable$State", "papersThatCame", "()I"⟩, prog_9_method_18_code, 3, some .int, 1, 1),
  (8, ⟨"CabinetTable$Tables", "<init>", "()V"⟩, prog_10_method_1_code, 1, none, 2, 1),
  (8, ⟨"CabinetTable$Tables", "become", "(LCabinetTable$Tables;)V"⟩, prog_10_method_2_code, 2, none, 1, 2),
  (8, ⟨"CabinetTable$Tables", "add", "(III)I"⟩, prog_10_method_3_code, 4, some .int, 1, 4),
  (8, ⟨"CabinetTable$Tables", "changeSeats", "(II)I"⟩, prog_10_method_4_code, 4, some .int, 1, 3),
  (8, ⟨"CabinetTable$Tables", "seatsAt", "(I)I"⟩, prog_10_method_5_code, 2, some .int, 1, 2),
  (8, ⟨"CabinetTable$Tables", "hasSeat", "(II)Z"⟩, prog_10_method_6_code, 3, some .boolean, 1, 3),
  (8, ⟨"CabinetTable$Tables", "sitsOn", "(II)Z"⟩, prog_10_method_7_code, 3, some .boolean, 1, 3),
  (8, ⟨"CabinetTable$Tables", "firstSitting", "(II)I"⟩, prog_10_method_8_code, 5, some .int, 1, 3),
  (8, ⟨"CabinetTable$Tables", "mayPass", "(II)Z"⟩, prog_10_method_9_code, 3, some .boolean, 1, 3),
  (8, ⟨"CabinetTable$Tables", "changePass", "(IIZ)Z"⟩, prog_10_method_10_code, 5, some .boolean, 1, 4),
  (9, ⟨"CabinetTable$Tape", "<init>", "()V"⟩, prog_11_method_1_code, 1, none, 2, 1),
  (9, ⟨"CabinetTable$Tape", "append", "(III)I"⟩, prog_11_method_2_code, 4, some .int, 1, 4),
  (9, ⟨"CabinetTable$Tape", "appendFour", "(I)V"⟩, prog_11_method_3_code, 3, none, 1, 2),
  (9, ⟨"CabinetTable$Tape", "shorten", "(I)I"⟩, prog_11_method_4_code, 2, some .int, 1, 2),
  (9, ⟨"CabinetTable$Tape", "readRule", "()Z"⟩, prog_11_method_5_code, 1, some .boolean, 1, 1),
  (9, ⟨"CabinetTable$Tape", "placeOfFault", "()I"⟩, prog_11_method_6_code, 1, some .int, 1, 1),
  (9, ⟨"CabinetTable$Tape", "advance", "()V"⟩, prog_11_method_7_code, 1, none, 1, 1),
  (9, ⟨"CabinetTable$Tape", "readHead", "()Z"⟩, prog_11_method_8_code, 1, some .boolean, 1, 1),
  (9, ⟨"CabinetTable$Tape", "readOr", "(II)Z"⟩, prog_11_method_9_code, 4, some .boolean, 1, 3),
  (9, ⟨"CabinetTable$Tape", "readAnd", "(II)Z"⟩, prog_11_method_10_code, 4, some .boolean, 1, 3),
  (9, ⟨"CabinetTable$Tape", "readNot", "(II)Z"⟩, prog_11_method_11_code, 3, some .boolean, 1, 3),
  (9, ⟨"CabinetTable$Tape", "readAtom", "()Z"⟩, prog_11_method_12_code, 3, some .boolean, 1, 1),
  (9, ⟨"CabinetTable$Tape", "cut", "()V"⟩, prog_11_method_13_code, 7, none, 1, 1),
  (9, ⟨"CabinetTable$Tape", "putToken", "(II)V"⟩, prog_11_method_14_code, 3, none, 1, 3),
  (9, ⟨"CabinetTable$Tape", "sortOf", "(B)I"⟩, prog_11_method_15_code, 1, some .int, 0, 1),
  (9, ⟨"CabinetTable$Tape", "endOf", "(II)I"⟩, prog_11_method_16_code, 4, some .int, 1, 3),
  (9, ⟨"CabinetTable$Tape", "tokenOf", "(III)I"⟩, prog_11_method_17_code, 4, some .int, 1, 4),
  (9, ⟨"CabinetTable$Tape", "tokenOfNumber", "(II)I"⟩, prog_11_method_18_code, 4, some .int, 1, 3),
  (9, ⟨"CabinetTable$Tape", "tokenOfWord", "(II)I"⟩, prog_11_method_19_code, 4, some .int, 1, 3),
  (9, ⟨"CabinetTable$Tape", "placeAmong", "(Ljava/lang/String;II)I"⟩, prog_11_method_20_code, 9, some .int, 1, 4),
  (10, ⟨"CabinetTable$WayFinder", "<init>", "()V"⟩, prog_12_method_1_code, 1, none, 2, 1),
  (10, ⟨"CabinetTable$WayFinder", "seek", "(LCabinetTable$Tables;IIII)V"⟩, prog_12_method_2_code, 6, none, 1, 6),
  (10, ⟨"CabinetTable$WayFinder", "answer", "(I)I"⟩, prog_12_method_3_code, 2, some .int, 1, 2),
  (10, ⟨"CabinetTable$WayFinder", "stepTo", "(LCabinetTable$Tables;IIII)V"⟩, prog_12_method_4_code, 8, none, 1, 6),
  (10, ⟨"CabinetTable$WayFinder", "rememberIfBetter", "(II)V"⟩, prog_12_method_5_code, 4, none, 1, 3),
  (11, ⟨"CabinetTable", "<init>", "()V"⟩, prog_1_method_1_code, 2, none, 2, 1),
  (11, ⟨"CabinetTable", "office", "()I"⟩, prog_1_method_2_code, 1, some .int, 1, 1),
  (11, ⟨"CabinetTable", "hold", "(II)I"⟩, prog_1_method_3_code, 3, some .int, 1, 3)]
def mL3 : List MI := [(11, ⟨"CabinetTable", "held", "(II)I"⟩, prog_1_method_4_code, 3, some .int, 1, 3),
  (11, ⟨"CabinetTable", "govern", "()I"⟩, prog_1_method_5_code, 1, some .int, 1, 1),
  (11, ⟨"CabinetTable", "table", "(III)I"⟩, prog_1_method_6_code, 4, some .int, 1, 4),
  (11, ⟨"CabinetTable", "seats", "(II)I"⟩, prog_1_method_7_code, 3, some .int, 1, 3),
  (11, ⟨"CabinetTable", "sits", "(II)I"⟩, prog_1_method_8_code, 3, some .int, 1, 3),
  (11, ⟨"CabinetTable", "pass", "(III)I"⟩, prog_1_method_9_code, 4, some .int, 1, 4),
  (11, ⟨"CabinetTable", "way", "(IIII)I"⟩, prog_1_method_10_code, 5, some .int, 1, 5),
  (11, ⟨"CabinetTable", "paper", "(IIIII)I"⟩, prog_1_method_11_code, 6, some .int, 1, 6),
  (11, ⟨"CabinetTable", "told", "(II)I"⟩, prog_1_method_12_code, 4, some .int, 1, 3),
  (11, ⟨"CabinetTable", "as", "(II)I"⟩, prog_1_method_13_code, 4, some .int, 1, 3),
  (11, ⟨"CabinetTable", "send", "(I)I"⟩, prog_1_method_14_code, 3, some .int, 1, 2),
  (11, ⟨"CabinetTable", "take", "(I)I"⟩, prog_1_method_15_code, 3, some .int, 1, 2),
  (11, ⟨"CabinetTable", "word", "(III)I"⟩, prog_1_method_16_code, 5, some .int, 1, 4),
  (11, ⟨"CabinetTable", "feed", "(III)I"⟩, prog_1_method_17_code, 4, some .int, 1, 4),
  (11, ⟨"CabinetTable", "trim", "(I)I"⟩, prog_1_method_18_code, 2, some .int, 1, 2),
  (11, ⟨"CabinetTable", "rule", "(I)I"⟩, prog_1_method_19_code, 3, some .int, 1, 2),
  (11, ⟨"CabinetTable", "of", "(II)I"⟩, prog_1_method_20_code, 3, some .int, 1, 3),
  (11, ⟨"CabinetTable", "counts", "(II)I"⟩, prog_1_method_21_code, 3, some .int, 1, 3),
  (11, ⟨"CabinetTable", "due", "(II)I"⟩, prog_1_method_22_code, 3, some .int, 1, 3),
  (11, ⟨"CabinetTable", "why", "(II)I"⟩, prog_1_method_23_code, 3, some .int, 1, 3),
  (11, ⟨"CabinetTable", "quarrel", "(II)I"⟩, prog_1_method_24_code, 5, some .int, 1, 3),
  (11, ⟨"CabinetTable", "lacks", "(II)I"⟩, prog_1_method_25_code, 3, some .int, 1, 3),
  (11, ⟨"CabinetTable", "come", "(III)I"⟩, prog_1_method_26_code, 6, some .int, 1, 4),
  (11, ⟨"CabinetTable", "decide", "(III)I"⟩, prog_1_method_27_code, 5, some .int, 1, 4),
  (11, ⟨"CabinetTable", "is", "(II)I"⟩, prog_1_method_28_code, 3, some .int, 1, 3),
  (11, ⟨"CabinetTable", "reopen", "(I)I"⟩, prog_1_method_29_code, 3, some .int, 1, 2),
  (11, ⟨"CabinetTable", "falls", "(I)I"⟩, prog_1_method_30_code, 2, some .int, 1, 2),
  (11, ⟨"CabinetTable", "current", "(II)I"⟩, prog_1_method_31_code, 3, some .int, 1, 3),
  (11, ⟨"CabinetTable", "bound", "(II)I"⟩, prog_1_method_32_code, 3, some .int, 1, 3),
  (11, ⟨"CabinetTable", "against", "(I)I"⟩, prog_1_method_33_code, 2, some .int, 1, 2),
  (11, ⟨"CabinetTable", "law", "(II)I"⟩, prog_1_method_34_code, 4, some .int, 1, 3),
  (11, ⟨"CabinetTable", "more", "(I)I"⟩, prog_1_method_35_code, 3, some .int, 1, 2),
  (11, ⟨"CabinetTable", "run", "(I)I"⟩, prog_1_method_36_code, 3, some .int, 1, 2),
  (11, ⟨"CabinetTable", "beside", "(I)I"⟩, prog_1_method_37_code, 2, some .int, 1, 2),
  (11, ⟨"CabinetTable", "copy", "(III)I"⟩, prog_1_method_38_code, 4, some .int, 1, 4),
  (11, ⟨"CabinetTable", "comesBack", "(I)I"⟩, prog_1_method_39_code, 2, some .int, 1, 2),
  (11, ⟨"CabinetTable", "out", "(I)I"⟩, prog_1_method_40_code, 2, some .int, 1, 2),
  (11, ⟨"CabinetTable", "suspect", "(III)I"⟩, prog_1_method_41_code, 4, some .int, 1, 4),
  (11, ⟨"CabinetTable", "look", "(III)I"⟩, prog_1_method_42_code, 4, some .int, 1, 4),
  (11, ⟨"CabinetTable", "knows", "(II)I"⟩, prog_1_method_43_code, 3, some .int, 1, 3)]
def mL4 : List MI := [(11, ⟨"CabinetTable", "open", "()I"⟩, prog_1_method_44_code, 1, some .int, 1, 1),
  (11, ⟨"CabinetTable", "group", "(I)I"⟩, prog_1_method_45_code, 2, some .int, 1, 2),
  (11, ⟨"CabinetTable", "reckoned", "()I"⟩, prog_1_method_46_code, 1, some .int, 1, 1),
  (11, ⟨"CabinetTable", "register", "(III)I"⟩, prog_1_method_47_code, 4, some .int, 1, 4),
  (11, ⟨"CabinetTable", "note", "(III)I"⟩, prog_1_method_48_code, 5, some .int, 1, 4),
  (11, ⟨"CabinetTable", "carry", "(IIIII)I"⟩, prog_1_method_49_code, 8, some .int, 1, 6),
  (11, ⟨"CabinetTable", "lay", "(III)I"⟩, prog_1_method_50_code, 5, some .int, 1, 4),
  (11, ⟨"CabinetTable", "ask", "(II)I"⟩, prog_1_method_51_code, 4, some .int, 1, 3),
  (11, ⟨"CabinetTable", "item", "(II)I"⟩, prog_1_method_52_code, 4, some .int, 1, 3),
  (11, ⟨"CabinetTable", "rest", "(II)I"⟩, prog_1_method_53_code, 4, some .int, 1, 3),
  (11, ⟨"CabinetTable", "tell", "(I)I"⟩, prog_1_method_54_code, 2, some .int, 1, 2),
  (11, ⟨"CabinetTable", "check", "(I)I"⟩, prog_1_method_55_code, 5, some .int, 1, 2),
  (11, ⟨"CabinetTable", "keep", "()I"⟩, prog_1_method_56_code, 1, some .int, 1, 1),
  (11, ⟨"CabinetTable", "back", "()I"⟩, prog_1_method_57_code, 1, some .int, 1, 1),
  (11, ⟨"CabinetTable", "count", "(I)I"⟩, prog_1_method_58_code, 2, some .int, 1, 2),
  (11, ⟨"CabinetTable", "isWithin", "(III)Z"⟩, prog_1_method_59_code, 3, some .boolean, 0, 3),
  (11, ⟨"CabinetTable", "isNoneOrWithin", "(II)Z"⟩, prog_1_method_60_code, 2, some .boolean, 0, 2),
  (11, ⟨"CabinetTable", "isDay", "(I)Z"⟩, prog_1_method_61_code, 1, some .boolean, 0, 1),
  (11, ⟨"CabinetTable", "isThing", "(I)Z"⟩, prog_1_method_62_code, 1, some .boolean, 0, 1),
  (11, ⟨"CabinetTable", "isKind", "(I)Z"⟩, prog_1_method_63_code, 1, some .boolean, 0, 1),
  (11, ⟨"CabinetTable", "isRoomSeat", "(I)Z"⟩, prog_1_method_64_code, 1, some .boolean, 0, 1),
  (11, ⟨"CabinetTable", "bit", "(Z)I"⟩, prog_1_method_65_code, 1, some .int, 0, 1),
  (11, ⟨"CabinetTable", "isOffice", "(I)Z"⟩, prog_1_method_66_code, 2, some .boolean, 1, 2),
  (11, ⟨"CabinetTable", "isTable", "(I)Z"⟩, prog_1_method_67_code, 2, some .boolean, 1, 2),
  (11, ⟨"CabinetTable", "isPaper", "(I)Z"⟩, prog_1_method_68_code, 2, some .boolean, 1, 2),
  (11, ⟨"CabinetTable", "isRule", "(I)Z"⟩, prog_1_method_69_code, 2, some .boolean, 1, 2),
  (11, ⟨"CabinetTable", "isDecision", "(I)Z"⟩, prog_1_method_70_code, 2, some .boolean, 1, 2),
  (11, ⟨"CabinetTable", "layDown", "(LCabinetTable$Seat;II)V"⟩, prog_1_method_71_code, 4, none, 1, 4),
  (12, ⟨"CabinetTableModel", "<init>", "()V"⟩, prog_14_method_1_code, 2, none, 2, 1),
  (12, ⟨"CabinetTableModel", "in", "(III)Z"⟩, prog_14_method_2_code, 3, some .boolean, 0, 3),
  (12, ⟨"CabinetTableModel", "orNone", "(I)I"⟩, prog_14_method_3_code, 1, some .int, 0, 1),
  (12, ⟨"CabinetTableModel", "bits", "(I)I"⟩, prog_14_method_4_code, 3, some .int, 0, 1),
  (12, ⟨"CabinetTableModel", "firstBit", "(I)I"⟩, prog_14_method_5_code, 2, some .int, 0, 1),
  (12, ⟨"CabinetTableModel", "copyRow", "([I[I)V"⟩, prog_14_method_6_code, 4, none, 1, 3),
  (12, ⟨"CabinetTableModel", "isOffice", "(I)Z"⟩, prog_14_method_7_code, 2, some .boolean, 1, 2),
  (12, ⟨"CabinetTableModel", "isTable", "(I)Z"⟩, prog_14_method_8_code, 2, some .boolean, 1, 2),
  (12, ⟨"CabinetTableModel", "isPaper", "(I)Z"⟩, prog_14_method_9_code, 2, some .boolean, 1, 2),
  (12, ⟨"CabinetTableModel", "isRule", "(I)Z"⟩, prog_14_method_10_code, 2, some .boolean, 1, 2),
  (12, ⟨"CabinetTableModel", "isDecision", "(I)Z"⟩, prog_14_method_11_code, 2, some .boolean, 1, 2),
  (12, ⟨"CabinetTableModel", "isDay", "(I)Z"⟩, prog_14_method_12_code, 1, some .boolean, 0, 1)]
def mL5 : List MI := [(12, ⟨"CabinetTableModel", "isThing", "(I)Z"⟩, prog_14_method_13_code, 1, some .boolean, 0, 1),
  (12, ⟨"CabinetTableModel", "isSetOf", "(II)Z"⟩, prog_14_method_14_code, 3, some .boolean, 1, 3),
  (12, ⟨"CabinetTableModel", "office", "()I"⟩, prog_14_method_15_code, 1, some .int, 1, 1),
  (12, ⟨"CabinetTableModel", "heldOn", "(II)I"⟩, prog_14_method_16_code, 6, some .int, 1, 3),
  (12, ⟨"CabinetTableModel", "hold", "(II)I"⟩, prog_14_method_17_code, 5, some .int, 1, 3),
  (12, ⟨"CabinetTableModel", "held", "(II)I"⟩, prog_14_method_18_code, 3, some .int, 1, 3),
  (12, ⟨"CabinetTableModel", "govern", "()I"⟩, prog_14_method_19_code, 1, some .int, 1, 1),
  (12, ⟨"CabinetTableModel", "table", "(III)I"⟩, prog_14_method_20_code, 6, some .int, 1, 4),
  (12, ⟨"CabinetTableModel", "seats", "(II)I"⟩, prog_14_method_21_code, 4, some .int, 1, 3),
  (12, ⟨"CabinetTableModel", "sitsOn", "(II)Z"⟩, prog_14_method_22_code, 4, some .boolean, 1, 3),
  (12, ⟨"CabinetTableModel", "sits", "(II)I"⟩, prog_14_method_23_code, 3, some .int, 1, 3),
  (12, ⟨"CabinetTableModel", "pass", "(III)I"⟩, prog_14_method_24_code, 5, some .int, 1, 4),
  (12, ⟨"CabinetTableModel", "judgeWay", "(I)V"⟩, prog_14_method_25_code, 4, none, 1, 2),
  (12, ⟨"CabinetTableModel", "isOnWay", "(II)Z"⟩, prog_14_method_26_code, 5, some .boolean, 1, 3),
  (12, ⟨"CabinetTableModel", "findWay", "(IIII)V"⟩, prog_14_method_27_code, 8, none, 1, 5),
  (12, ⟨"CabinetTableModel", "way", "(IIII)I"⟩, prog_14_method_28_code, 5, some .int, 1, 5),
  (12, ⟨"CabinetTableModel", "isUnder", "(II)Z"⟩, prog_14_method_29_code, 2, some .boolean, 0, 2),
  (12, ⟨"CabinetTableModel", "reach", "(II)I"⟩, prog_14_method_30_code, 3, some .int, 0, 2),
  (12, ⟨"CabinetTableModel", "shuts", "(II)I"⟩, prog_14_method_31_code, 2, some .int, 0, 2),
  (12, ⟨"CabinetTableModel", "weighs", "(III)I"⟩, prog_14_method_32_code, 4, some .int, 0, 3),
  (12, ⟨"CabinetTableModel", "paperOf", "(II)I"⟩, prog_14_method_33_code, 3, some .int, 1, 3),
  (12, ⟨"CabinetTableModel", "set", "(III)V"⟩, prog_14_method_34_code, 4, none, 1, 4),
  (12, ⟨"CabinetTableModel", "paper", "(IIIII)I"⟩, prog_14_method_35_code, 7, some .int, 1, 6),
  (12, ⟨"CabinetTableModel", "told", "(II)I"⟩, prog_14_method_36_code, 5, some .int, 1, 3),
  (12, ⟨"CabinetTableModel", "as", "(II)I"⟩, prog_14_method_37_code, 3, some .int, 1, 3),
  (12, ⟨"CabinetTableModel", "send", "(I)I"⟩, prog_14_method_38_code, 2, some .int, 1, 2),
  (12, ⟨"CabinetTableModel", "isUnderWay", "(I)Z"⟩, prog_14_method_39_code, 2, some .boolean, 1, 2),
  (12, ⟨"CabinetTableModel", "take", "(I)I"⟩, prog_14_method_40_code, 2, some .int, 1, 2),
  (12, ⟨"CabinetTableModel", "word", "(III)I"⟩, prog_14_method_41_code, 7, some .int, 1, 4),
  (12, ⟨"CabinetTableModel", "feed", "(III)I"⟩, prog_14_method_42_code, 6, some .int, 1, 4),
  (12, ⟨"CabinetTableModel", "trim", "(I)I"⟩, prog_14_method_43_code, 2, some .int, 1, 2),
  (12, ⟨"CabinetTableModel", "isLetter", "(I)Z"⟩, prog_14_method_44_code, 2, some .boolean, 1, 2),
  (12, ⟨"CabinetTableModel", "isFigure", "(I)Z"⟩, prog_14_method_45_code, 2, some .boolean, 1, 2),
  (12, ⟨"CabinetTableModel", "readLetters", "()V"⟩, prog_14_method_46_code, 5, none, 1, 1),
  (12, ⟨"CabinetTableModel", "readFigures", "()V"⟩, prog_14_method_47_code, 1, none, 1, 1),
  (12, ⟨"CabinetTableModel", "go", "()V"⟩, prog_14_method_48_code, 2, none, 1, 1),
  (12, ⟨"CabinetTableModel", "isWord", "(I)Z"⟩, prog_14_method_49_code, 2, some .boolean, 1, 2),
  (12, ⟨"CabinetTableModel", "isSign", "(I)Z"⟩, prog_14_method_50_code, 2, some .boolean, 1, 2),
  (12, ⟨"CabinetTableModel", "takesNumber", "()Z"⟩, prog_14_method_51_code, 1, some .boolean, 1, 1),
  (12, ⟨"CabinetTableModel", "emit", "(III)V"⟩, prog_14_method_52_code, 4, none, 1, 4)]
def mL6 : List MI := [(12, ⟨"CabinetTableModel", "takesAtom", "()Z"⟩, prog_14_method_53_code, 3, some .boolean, 1, 1),
  (12, ⟨"CabinetTableModel", "await", "(I)V"⟩, prog_14_method_54_code, 2, none, 1, 2),
  (12, ⟨"CabinetTableModel", "endNots", "()V"⟩, prog_14_method_55_code, 1, none, 1, 1),
  (12, ⟨"CabinetTableModel", "doAll", "(Z)V"⟩, prog_14_method_56_code, 2, none, 1, 2),
  (12, ⟨"CabinetTableModel", "isOver", "(Z)Z"⟩, prog_14_method_57_code, 2, some .boolean, 1, 2),
  (12, ⟨"CabinetTableModel", "takesE", "(Z)Z"⟩, prog_14_method_58_code, 3, some .boolean, 1, 2),
  (12, ⟨"CabinetTableModel", "isBadHead", "()Z"⟩, prog_14_method_59_code, 2, some .boolean, 1, 1),
  (12, ⟨"CabinetTableModel", "takesHead", "()Z"⟩, prog_14_method_60_code, 1, some .boolean, 1, 1),
  (12, ⟨"CabinetTableModel", "takesRule", "()Z"⟩, prog_14_method_61_code, 1, some .boolean, 1, 1),
  (12, ⟨"CabinetTableModel", "rule", "(I)I"⟩, prog_14_method_62_code, 8, some .int, 1, 2),
  (12, ⟨"CabinetTableModel", "ruleOf", "(II)I"⟩, prog_14_method_63_code, 3, some .int, 1, 3),
  (12, ⟨"CabinetTableModel", "of", "(II)I"⟩, prog_14_method_64_code, 3, some .int, 1, 3),
  (12, ⟨"CabinetTableModel", "isAtom", "(II)Z"⟩, prog_14_method_65_code, 5, some .boolean, 1, 3),
  (12, ⟨"CabinetTableModel", "worth", "(III)Z"⟩, prog_14_method_66_code, 7, some .boolean, 1, 4),
  (12, ⟨"CabinetTableModel", "wouldCount", "(II)Z"⟩, prog_14_method_67_code, 6, some .boolean, 1, 3),
  (12, ⟨"CabinetTableModel", "findCounted", "(I)V"⟩, prog_14_method_68_code, 4, none, 1, 2),
  (12, ⟨"CabinetTableModel", "counts", "(II)I"⟩, prog_14_method_69_code, 3, some .int, 1, 3),
  (12, ⟨"CabinetTableModel", "countsFor", "(II)I"⟩, prog_14_method_70_code, 5, some .int, 1, 3),
  (12, ⟨"CabinetTableModel", "needOf", "(I)I"⟩, prog_14_method_71_code, 4, some .int, 1, 2),
  (12, ⟨"CabinetTableModel", "dueOf", "(II)I"⟩, prog_14_method_72_code, 6, some .int, 1, 3),
  (12, ⟨"CabinetTableModel", "due", "(II)I"⟩, prog_14_method_73_code, 3, some .int, 1, 3),
  (12, ⟨"CabinetTableModel", "why", "(II)I"⟩, prog_14_method_74_code, 3, some .int, 1, 3),
  (12, ⟨"CabinetTableModel", "quarrel", "(II)I"⟩, prog_14_method_75_code, 6, some .int, 1, 3),
  (12, ⟨"CabinetTableModel", "lacksOf", "(II)I"⟩, prog_14_method_76_code, 4, some .int, 1, 3),
  (12, ⟨"CabinetTableModel", "lacks", "(II)I"⟩, prog_14_method_77_code, 3, some .int, 1, 3),
  (12, ⟨"CabinetTableModel", "hasSeat", "(II)Z"⟩, prog_14_method_78_code, 3, some .boolean, 1, 3),
  (12, ⟨"CabinetTableModel", "comesTo", "(IIII)V"⟩, prog_14_method_79_code, 5, none, 1, 5),
  (12, ⟨"CabinetTableModel", "come", "(III)I"⟩, prog_14_method_80_code, 5, some .int, 1, 4),
  (12, ⟨"CabinetTableModel", "decisionOf", "(II)I"⟩, prog_14_method_81_code, 3, some .int, 1, 3),
  (12, ⟨"CabinetTableModel", "thingOf", "(I)I"⟩, prog_14_method_82_code, 2, some .int, 1, 2),
  (12, ⟨"CabinetTableModel", "decides", "(III)I"⟩, prog_14_method_83_code, 5, some .int, 1, 4),
  (12, ⟨"CabinetTableModel", "hasDecision", "(I)Z"⟩, prog_14_method_84_code, 4, some .boolean, 1, 2),
  (12, ⟨"CabinetTableModel", "decide", "(III)I"⟩, prog_14_method_85_code, 4, some .int, 1, 4),
  (12, ⟨"CabinetTableModel", "standing", "(I)I"⟩, prog_14_method_86_code, 5, some .int, 1, 2),
  (12, ⟨"CabinetTableModel", "stands", "(I)Z"⟩, prog_14_method_87_code, 2, some .boolean, 1, 2),
  (12, ⟨"CabinetTableModel", "is", "(II)I"⟩, prog_14_method_88_code, 3, some .int, 1, 3),
  (12, ⟨"CabinetTableModel", "fallsWith", "(I)I"⟩, prog_14_method_89_code, 5, some .int, 1, 2),
  (12, ⟨"CabinetTableModel", "falls", "(I)I"⟩, prog_14_method_90_code, 2, some .int, 1, 2),
  (12, ⟨"CabinetTableModel", "reopen", "(I)I"⟩, prog_14_method_91_code, 3, some .int, 1, 2),
  (12, ⟨"CabinetTableModel", "currentOf", "(II)I"⟩, prog_14_method_92_code, 6, some .int, 1, 3)]
def mL7 : List MI := [(12, ⟨"CabinetTableModel", "current", "(II)I"⟩, prog_14_method_93_code, 3, some .int, 1, 3),
  (12, ⟨"CabinetTableModel", "bound", "(II)I"⟩, prog_14_method_94_code, 7, some .int, 1, 3),
  (12, ⟨"CabinetTableModel", "against", "(I)I"⟩, prog_14_method_95_code, 9, some .int, 1, 2),
  (12, ⟨"CabinetTableModel", "law", "(II)I"⟩, prog_14_method_96_code, 4, some .int, 1, 3),
  (12, ⟨"CabinetTableModel", "more", "(I)I"⟩, prog_14_method_97_code, 3, some .int, 1, 2),
  (12, ⟨"CabinetTableModel", "isSilent", "(I)V"⟩, prog_14_method_98_code, 6, none, 1, 2),
  (12, ⟨"CabinetTableModel", "goesBy", "()V"⟩, prog_14_method_99_code, 2, none, 1, 1),
  (12, ⟨"CabinetTableModel", "run", "(I)I"⟩, prog_14_method_100_code, 3, some .int, 1, 2),
  (12, ⟨"CabinetTableModel", "beside", "(I)I"⟩, prog_14_method_101_code, 5, some .int, 1, 2),
  (12, ⟨"CabinetTableModel", "copyOf", "(II)I"⟩, prog_14_method_102_code, 3, some .int, 1, 3),
  (12, ⟨"CabinetTableModel", "copy", "(III)I"⟩, prog_14_method_103_code, 5, some .int, 1, 4),
  (12, ⟨"CabinetTableModel", "comesBack", "(I)I"⟩, prog_14_method_104_code, 3, some .int, 1, 2),
  (12, ⟨"CabinetTableModel", "out", "(I)I"⟩, prog_14_method_105_code, 4, some .int, 1, 2),
  (12, ⟨"CabinetTableModel", "markAt", "(II)I"⟩, prog_14_method_106_code, 2, some .int, 0, 2),
  (12, ⟨"CabinetTableModel", "suspectOf", "(III)I"⟩, prog_14_method_107_code, 8, some .int, 1, 4),
  (12, ⟨"CabinetTableModel", "isPrinted", "(III)Z"⟩, prog_14_method_108_code, 4, some .boolean, 1, 4),
  (12, ⟨"CabinetTableModel", "suspect", "(III)I"⟩, prog_14_method_109_code, 4, some .int, 1, 4),
  (12, ⟨"CabinetTableModel", "alikeAt", "(II)I"⟩, prog_14_method_110_code, 7, some .int, 1, 3),
  (12, ⟨"CabinetTableModel", "look", "(III)I"⟩, prog_14_method_111_code, 8, some .int, 1, 4),
  (12, ⟨"CabinetTableModel", "hasCopy", "(III)Z"⟩, prog_14_method_112_code, 6, some .boolean, 1, 4),
  (12, ⟨"CabinetTableModel", "knows", "(II)I"⟩, prog_14_method_113_code, 7, some .int, 1, 3),
  (12, ⟨"CabinetTableModel", "openNow", "()I"⟩, prog_14_method_114_code, 4, some .int, 1, 1),
  (12, ⟨"CabinetTableModel", "open", "()I"⟩, prog_14_method_115_code, 1, some .int, 1, 1),
  (12, ⟨"CabinetTableModel", "group", "(I)I"⟩, prog_14_method_116_code, 2, some .int, 1, 2),
  (12, ⟨"CabinetTableModel", "reckoned", "()I"⟩, prog_14_method_117_code, 7, some .int, 1, 1),
  (12, ⟨"CabinetTableModel", "isRegister", "(I)Z"⟩, prog_14_method_118_code, 1, some .boolean, 0, 1),
  (12, ⟨"CabinetTableModel", "register", "(III)I"⟩, prog_14_method_119_code, 5, some .int, 1, 4),
  (12, ⟨"CabinetTableModel", "note", "(III)I"⟩, prog_14_method_120_code, 5, some .int, 1, 4),
  (12, ⟨"CabinetTableModel", "carry", "(IIIII)I"⟩, prog_14_method_121_code, 7, some .int, 1, 6),
  (12, ⟨"CabinetTableModel", "isSeat", "(I)Z"⟩, prog_14_method_122_code, 1, some .boolean, 0, 1),
  (12, ⟨"CabinetTableModel", "lay", "(III)I"⟩, prog_14_method_123_code, 6, some .int, 1, 4),
  (12, ⟨"CabinetTableModel", "whyNot", "(II)I"⟩, prog_14_method_124_code, 3, some .int, 1, 3),
  (12, ⟨"CabinetTableModel", "ask", "(II)I"⟩, prog_14_method_125_code, 4, some .int, 1, 3),
  (12, ⟨"CabinetTableModel", "item", "(II)I"⟩, prog_14_method_126_code, 4, some .int, 1, 3),
  (12, ⟨"CabinetTableModel", "rest", "(II)I"⟩, prog_14_method_127_code, 4, some .int, 1, 3),
  (12, ⟨"CabinetTableModel", "tell", "(I)I"⟩, prog_14_method_128_code, 2, some .int, 1, 2),
  (12, ⟨"CabinetTableModel", "check", "(I)I"⟩, prog_14_method_129_code, 4, some .int, 1, 2),
  (12, ⟨"CabinetTableModel", "keep", "()I"⟩, prog_14_method_130_code, 1, some .int, 1, 1),
  (12, ⟨"CabinetTableModel", "back", "()I"⟩, prog_14_method_131_code, 1, some .int, 1, 1),
  (12, ⟨"CabinetTableModel", "papersThat", "(I)I"⟩, prog_14_method_132_code, 4, some .int, 1, 2)]
def mL8 : List MI := [(12, ⟨"CabinetTableModel", "copiesOut", "()I"⟩, prog_14_method_133_code, 3, some .int, 1, 1),
  (12, ⟨"CabinetTableModel", "count", "(I)I"⟩, prog_14_method_134_code, 2, some .int, 1, 2),
  (14, ⟨"java/lang/Integer", "numberOfTrailingZeros", "(I)I"⟩, prog_15_method_48_code, 2, some .int, 0, 1),
  (14, ⟨"java/lang/Integer", "bitCount", "(I)I"⟩, prog_15_method_49_code, 1, some .int, 0, 1),
  (15, ⟨"java/lang/Math", "max", "(II)I"⟩, prog_16_method_65_code, 2, some .int, 0, 2),
  (13, ⟨"CabinetTableLaw", "law", "([I)Z"⟩, code, 4, some .boolean, 0, 1)]
def mL : List MI := mL0 ++ (mL1 ++ (mL2 ++ (mL3 ++ (mL4 ++ (mL5 ++ (mL6 ++ (mL7 ++ (mL8))))))))
def mI (i : Nat) : MI := mL.getD i (99, ⟨"", "", ""⟩, ⟨#[]⟩, 0, none, 9, 0)
def mCo (i : Nat) : Nat := (mI i).1
def mY (i : Nat) : MethodName := (mI i).2.1
def bt (i : Nat) : ByteArray := (mI i).2.2.1
def mMax (i : Nat) : Nat := (mI i).2.2.2.1
def mRet (i : Nat) : Option FieldType := (mI i).2.2.2.2.1
def mKind (i : Nat) : Nat := (mI i).2.2.2.2.2.1
def mNa (i : Nat) : Nat := (mI i).2.2.2.2.2.2
/-- by class: pool index, class and field, place of its word -/
def flL : List (List (Nat × Nat × Nat × Nat)) := [[(9, 0, 0, 223), (15, 0, 1, 224), (18, 0, 2, 225), (21, 0, 3, 226), (30, 0, 4, 227), (34, 0, 5, 228)],
  [(9, 1, 0, 187), (15, 1, 1, 188), (18, 1, 2, 189), (21, 1, 3, 191), (24, 1, 4, 192), (27, 1, 5, 193), (30, 1, 6, 194), (33, 1, 7, 195), (42, 1, 8, 196)],
  [(9, 2, 0, 133), (15, 2, 1, 134), (18, 2, 2, 135), (27, 2, 3, 136), (31, 2, 4, 138)],
  [(10, 3, 5, 261), (16, 3, 9, 271), (19, 3, 10, 273), (22, 3, 11, 276), (25, 3, 0, 249), (28, 3, 1, 250), (31, 3, 2, 253), (34, 3, 3, 256), (37, 3, 4, 259), (40, 3, 6, 264), (44, 3, 7, 266), (47, 3, 8, 269), (50, 3, 12, 279), (53, 3, 13, 281)],
  [(9, 4, 0, 481), (15, 4, 1, 483), (19, 4, 2, 485)],
  [(9, 5, 7, 336), (15, 5, 0, 318), (19, 5, 1, 322), (22, 5, 2, 325), (25, 5, 3, 329), (28, 5, 4, 331), (31, 5, 5, 332), (34, 5, 6, 334), (59, 3, 3, 257), (62, 3, 1, 251), (65, 3, 2, 254), (68, 3, 7, 268)],
  [(10, 6, 0, 502), (19, 6, 1, 504)],
  [(12, 7, 0, 355), (21, 7, 1, 357), (27, 7, 2, 359), (33, 7, 3, 361), (40, 7, 4, 363), (47, 7, 5, 365), (51, 7, 6, 367), (55, 7, 7, 369), (86, 7, 8, 371), (90, 7, 9, 373), (93, 7, 10, 375), (96, 7, 11, 377), (99, 7, 12, 379), (106, 5, 0, 319), (109, 5, 1, 323), (128, 5, 2, 326), (146, 3, 5, 262), (149, 3, 7, 267), (157, 3, 2, 255), (164, 3, 9, 272), (182, 3, 8, 270), (188, 8, 4, 164), (191, 3, 12, 280), (199, 3, 4, 260), (209, 3, 11, 277), (212, 3, 13, 282), (218, 3, 10, 274), (224, 3, 1, 252)],
  [(9, 8, 0, 158), (15, 8, 1, 159), (18, 8, 2, 160), (21, 8, 3, 161), (30, 8, 4, 162)],
  [(9, 9, 0, 441), (15, 9, 1, 442), (19, 9, 2, 443), (22, 9, 3, 444), (28, 9, 4, 445), (32, 9, 5, 447), (52, 9, 7, 450), (55, 9, 8, 451), (69, 5, 6, 335), (72, 5, 5, 333), (75, 9, 6, 449), (78, 5, 0, 320), (81, 5, 1, 324), (84, 5, 2, 327)],
  [(9, 10, 0, 414), (15, 10, 1, 415), (18, 10, 2, 416), (22, 10, 4, 418), (25, 10, 5, 419), (33, 10, 3, 417), (40, 8, 4, 163)],
  [(10, 11, 0, 517), (16, 11, 1, 518), (19, 11, 2, 519), (25, 11, 3, 520), (32, 11, 4, 521), (36, 11, 5, 522), (42, 11, 6, 523), (48, 11, 7, 524), (54, 7, 0, 356), (73, 7, 8, 372), (88, 7, 9, 374), (96, 7, 1, 358), (136, 7, 10, 376), (139, 7, 2, 360), (161, 3, 3, 258), (170, 3, 5, 263), (176, 3, 6, 265), (196, 9, 4, 446), (200, 2, 3, 137), (203, 8, 4, 165), (206, 7, 11, 378), (214, 7, 3, 362), (222, 5, 3, 330), (242, 5, 0, 321), (245, 5, 2, 328), (259, 3, 13, 283), (262, 3, 11, 278), (269, 7, 4, 364), (284, 3, 10, 275), (322, 7, 7, 370), (325, 1, 2, 190), (335, 7, 5, 366), (344, 0, 5, 229), (364, 7, 12, 380), (367, 7, 6, 368), (387, 4, 1, 484), (393, 4, 0, 482), (403, 6, 2, 506), (410, 6, 0, 503), (417, 6, 1, 505), (421, 6, 3, 507), (422, 11, 9, 526), (425, 11, 8, 525), (445, 1, 8, 197), (449, 2, 4, 139), (452, 9, 5, 448)],
  [(9, 12, 0, 1385), (13, 12, 1, 1386), (16, 12, 2, 1387), (19, 12, 4, 1389), (22, 12, 5, 1390), (25, 12, 6, 1391), (28, 12, 9, 1394), (31, 12, 11, 1396), (35, 12, 12, 1397), (38, 12, 22, 1407), (41, 12, 30, 1415), (44, 12, 34, 1419), (48, 12, 35, 1420), (51, 12, 36, 1421), (54, 12, 37, 1422), (57, 12, 38, 1423), (60, 12, 39, 1424), (63, 12, 40, 1425), (66, 12, 41, 1426), (69, 12, 42, 1427), (72, 12, 43, 1428), (75, 12, 45, 1430), (78, 12, 46, 1431), (110, 12, 7, 1392), (114, 12, 8, 1393), (159, 12, 10, 1395), (162, 12, 13, 1398), (165, 12, 14, 1399), (171, 12, 16, 1401), (174, 12, 15, 1400), (177, 12, 17, 1402), (183, 12, 18, 1403), (192, 12, 29, 1414), (198, 12, 23, 1408), (201, 12, 24, 1409), (211, 12, 28, 1413), (218, 12, 27, 1412), (221, 12, 31, 1416), (224, 12, 33, 1418), (227, 12, 32, 1417), (250, 12, 19, 1404), (253, 12, 20, 1405), (259, 12, 21, 1406), (265, 12, 25, 1410), (268, 12, 26, 1411), (391, 12, 44, 1429), (394, 12, 3, 1388)],
  [],
  [],
  []]
/-- by class: pool index, method, values taken, nest or not, place of its word -/
def mlL : List (List (Nat × Nat × Nat × Nat × Nat)) := [[(3, 1000, 1, 0, 222), (24, 1001, 5, 0, 1349), (38, 323, 1, 0, 1378), (45, 9, 3, 0, 1200), (49, 324, 2, 0, 1204)],
  [(3, 1000, 1, 0, 186), (36, 1001, 5, 0, 1344), (46, 12, 1, 0, 1046), (52, 175, 3, 1, 1054), (56, 20, 3, 0, 1071), (60, 19, 2, 0, 1067), (64, 26, 3, 0, 1120)],
  [(3, 1000, 1, 0, 132), (21, 1001, 5, 0, 1332), (35, 31, 3, 0, 577)],
  [(3, 1000, 1, 0, 247), (56, 35, 1, 0, 747), (60, 36, 1, 0, 748), (67, 181, 1, 1, 695), (71, 43, 1, 0, 700), (75, 44, 1, 0, 707), (78, 45, 1, 0, 711), (81, 46, 1, 0, 715), (84, 324, 2, 0, 704)],
  [(3, 1000, 1, 0, 480), (22, 1001, 5, 0, 1302)],
  [(3, 1000, 1, 0, 317), (37, 1001, 5, 0, 920), (45, 38, 2, 0, 945), (51, 61, 6, 0, 946), (55, 62, 4, 0, 950)],
  [(1, 1000, 1, 0, 497), (9, 32, 1, 1, 499), (18, 47, 1, 1, 501)],
  [(3, 1000, 1, 0, 126), (11, 27, 1, 1, 129), (20, 82, 1, 1, 154), (39, 10, 1, 1, 183), (46, 0, 1, 1, 219), (58, 32, 1, 1, 244), (59, 54, 1, 1, 314), (61, 28, 2, 0, 1328), (65, 83, 2, 0, 1333), (68, 34, 2, 0, 1338), (71, 55, 2, 0, 1339), (74, 11, 2, 0, 1340), (77, 1, 2, 0, 1345), (80, 1001, 5, 0, 1350), (102, 60, 4, 0, 941), (112, 66, 2, 0, 961), (116, 69, 4, 0, 962), (120, 70, 2, 0, 966), (124, 67, 3, 0, 970), (131, 43, 1, 0, 974), (135, 44, 1, 0, 975), (138, 37, 1, 0, 997), (142, 88, 3, 0, 998), (152, 322, 1, 0, 999), (160, 15, 5, 0, 1042), (167, 86, 2, 0, 1049), (170, 16, 5, 0, 1050), (174, 75, 2, 0, 1140), (178, 38, 2, 0, 1144), (185, 12, 1, 0, 1145), (195, 39, 3, 0, 1146), (202, 73, 4, 0, 1147), (206, 36, 1, 0, 1156), (215, 6, 3, 0, 1213), (221, 87, 3, 0, 1217), (227, 35, 1, 0, 1226), (230, 68, 3, 0, 1227), (234, 323, 1, 0, 1241), (237, 181, 1, 1, 1369)],
  [(3, 1000, 1, 0, 157), (24, 1001, 5, 0, 1337), (35, 175, 3, 1, 1011), (39, 86, 2, 0, 1012), (43, 89, 3, 0, 624), (47, 90, 3, 0, 639)],
  [(3, 1000, 1, 0, 438), (27, 54, 1, 1, 440), (37, 94, 2, 0, 769), (41, 175, 3, 1, 781), (46, 104, 1, 0, 791), (49, 56, 1, 0, 873), (58, 99, 1, 0, 878), (62, 98, 1, 0, 882), (65, 100, 3, 0, 886), (87, 101, 3, 0, 890), (90, 57, 3, 0, 898), (94, 102, 3, 0, 894), (97, 103, 1, 0, 903), (100, 181, 1, 1, 907), (104, 106, 1, 0, 795), (108, 107, 3, 0, 798), (112, 108, 4, 0, 802), (116, 105, 3, 0, 869), (119, 110, 3, 0, 806), (122, 109, 3, 0, 865), (127, 111, 4, 0, 811), (135, 1002, 1, 0, 815), (140, 1003, 2, 0, 825)],
  [(3, 1000, 1, 0, 413), (28, 115, 6, 0, 651), (36, 116, 3, 0, 655), (45, 90, 3, 0, 662), (49, 89, 3, 0, 663), (53, 1001, 5, 0, 659)],
  [(1, 1000, 1, 0, 118), (9, 64, 1, 0, 123), (24, 112, 1, 1, 410), (31, 92, 1, 1, 435), (52, 47, 1, 1, 477), (53, 63, 1, 1, 494), (58, 29, 1, 0, 552), (64, 182, 2, 0, 561), (68, 176, 2, 0, 568), (77, 30, 4, 0, 573), (81, 177, 1, 0, 586), (84, 31, 3, 0, 589), (92, 175, 3, 0, 565), (100, 84, 4, 0, 599), (105, 183, 2, 0, 608), (108, 85, 3, 0, 612), (111, 88, 3, 0, 620), (114, 181, 1, 0, 628), (118, 91, 4, 0, 635), (122, 113, 6, 0, 647), (126, 114, 2, 0, 664), (130, 179, 1, 0, 673), (133, 178, 1, 0, 676), (143, 33, 6, 0, 679), (149, 184, 2, 0, 687), (152, 41, 2, 0, 691), (155, 42, 2, 0, 696), (158, 38, 2, 0, 723), (165, 35, 1, 0, 734), (173, 37, 1, 0, 743), (180, 40, 3, 0, 756), (184, 93, 4, 0, 764), (187, 95, 2, 0, 777), (190, 96, 1, 0, 787), (193, 97, 1, 0, 908), (209, 59, 4, 0, 912), (218, 55, 2, 0, 916), (225, 185, 2, 0, 925), (228, 58, 2, 0, 929), (231, 66, 2, 0, 937), (235, 68, 3, 0, 957), (239, 67, 3, 0, 980), (249, 71, 3, 0, 985), (253, 72, 3, 0, 993), (256, 87, 3, 0, 1007), (265, 39, 3, 0, 1016), (273, 13, 2, 0, 1024), (278, 45, 1, 0, 1028), (281, 36, 1, 0, 1029), (287, 14, 2, 0, 1030), (290, 12, 1, 0, 1034), (293, 73, 4, 0, 1038), (296, 186, 2, 0, 1059), (299, 21, 3, 0, 1063), (302, 17, 3, 0, 1075), (304, 146, 2, 0, 1083), (307, 18, 3, 0, 1091), (310, 22, 3, 0, 1087), (313, 23, 3, 0, 1100), (316, 24, 4, 0, 1108), (319, 25, 3, 0, 1116), (328, 74, 1, 0, 1136), (331, 76, 2, 0, 1152), (339, 2, 5, 0, 1162), (345, 3, 2, 0, 1171), (348, 5, 2, 0, 1179), (351, 7, 4, 0, 1187), (354, 8, 3, 0, 1195), (357, 77, 3, 0, 1209), (360, 78, 1, 0, 1222), (370, 79, 2, 0, 1237), (373, 48, 3, 0, 1251), (376, 50, 1, 0, 1260), (380, 51, 2, 0, 1265), (383, 53, 3, 0, 1269), (390, 52, 3, 0, 1278), (394, 1001, 5, 0, 1282), (400, 180, 1, 0, 1287), (406, 187, 4, 0, 1290), (414, 46, 1, 0, 1307), (428, 65, 2, 0, 1324), (431, 19, 2, 0, 1351), (434, 323, 1, 0, 1352), (439, 80, 1, 0, 1365), (442, 81, 1, 0, 1370), (446, 4, 1, 0, 1374), (455, 34, 2, 0, 1294), (458, 49, 2, 0, 1298)],
  [(1, 1000, 1, 0, 1384), (82, 189, 3, 0, 1542), (87, 194, 2, 0, 1538), (92, 203, 3, 0, 1547), (96, 190, 1, 0, 1551), (100, 199, 1, 0, 1558), (103, 195, 2, 0, 1573), (106, 209, 3, 0, 1581), (117, 212, 2, 0, 1597), (121, 213, 3, 0, 1601), (124, 214, 5, 0, 1593), (128, 217, 2, 0, 1628), (131, 218, 2, 0, 1631), (134, 200, 1, 0, 1609), (137, 221, 4, 0, 1612), (141, 196, 2, 0, 1620), (144, 220, 3, 0, 1624), (147, 219, 3, 0, 1634), (151, 216, 2, 0, 1641), (156, 226, 2, 0, 1654), (168, 231, 2, 0, 1682), (180, 232, 2, 0, 1686), (186, 233, 1, 0, 1690), (189, 234, 1, 0, 1694), (195, 235, 1, 0, 1678), (204, 237, 2, 0, 1730), (207, 238, 1, 0, 1702), (215, 239, 4, 0, 1738), (230, 236, 2, 0, 1714), (233, 244, 2, 0, 1722), (237, 241, 2, 0, 1726), (240, 240, 1, 0, 1734), (243, 242, 1, 0, 1742), (246, 243, 2, 0, 1746), (256, 197, 2, 0, 1710), (262, 246, 1, 0, 1706), (271, 247, 1, 0, 1698), (274, 245, 2, 0, 1718), (277, 248, 1, 0, 1674), (280, 250, 3, 0, 1754), (283, 252, 3, 0, 1774), (286, 253, 4, 0, 1770), (289, 254, 3, 0, 1766), (292, 255, 2, 0, 1762), (295, 258, 2, 0, 1786), (298, 257, 3, 0, 1790), (301, 259, 3, 0, 1782), (304, 192, 1, 0, 1810), (307, 263, 3, 0, 1806), (310, 265, 3, 0, 1817), (313, 266, 5, 0, 1821), (316, 268, 3, 0, 1837), (319, 201, 3, 0, 1829), (322, 271, 2, 0, 1833), (325, 270, 4, 0, 1841), (328, 273, 2, 0, 1861), (331, 198, 2, 0, 1849), (334, 269, 2, 0, 1853), (337, 274, 2, 0, 1857), (340, 276, 2, 0, 1869), (343, 279, 3, 0, 1881), (346, 285, 2, 0, 1909), (349, 286, 1, 0, 1905), (353, 289, 3, 0, 1926), (356, 293, 2, 0, 1946), (359, 295, 4, 0, 1938), (362, 294, 4, 0, 1942), (365, 297, 3, 0, 1953), (368, 299, 4, 0, 1961), (371, 301, 1, 0, 1969), (376, 191, 1, 0, 1982), (379, 305, 1, 0, 1989), (385, 309, 1, 0, 2007), (388, 311, 3, 0, 2014), (397, 193, 3, 0, 2034), (401, 319, 2, 0, 2050), (404, 320, 1, 0, 2054)],
  [(9, 117, 1, 0, 115), (12, 188, 1, 0, 1381), (13, 118, 1, 0, 548), (17, 202, 1, 0, 1529), (18, 119, 3, 0, 557), (22, 204, 3, 0, 1534), (23, 120, 3, 0, 582), (26, 205, 3, 0, 1554), (27, 121, 1, 0, 590), (30, 206, 1, 0, 1561), (31, 122, 4, 0, 595), (35, 207, 4, 0, 1565), (36, 123, 3, 0, 604), (39, 208, 3, 0, 1569), (40, 124, 3, 0, 616), (43, 210, 3, 0, 1577), (44, 125, 4, 0, 631), (47, 211, 4, 0, 1585), (48, 126, 5, 0, 643), (52, 215, 5, 0, 1589), (53, 127, 6, 0, 669), (57, 222, 6, 0, 1605), (58, 128, 3, 0, 683), (61, 223, 3, 0, 1616), (62, 129, 3, 0, 719), (65, 224, 3, 0, 1637), (66, 130, 2, 0, 730), (70, 225, 2, 0, 1645), (71, 131, 2, 0, 739), (74, 227, 2, 0, 1650), (75, 132, 4, 0, 752), (78, 228, 4, 0, 1658), (79, 133, 4, 0, 760), (82, 229, 4, 0, 1662), (83, 134, 2, 0, 773), (86, 230, 2, 0, 1666), (87, 135, 2, 0, 783), (90, 249, 2, 0, 1670), (91, 136, 3, 0, 921), (94, 251, 3, 0, 1750), (95, 137, 3, 0, 933), (98, 256, 3, 0, 1758), (99, 138, 3, 0, 953), (102, 260, 3, 0, 1778), (103, 139, 3, 0, 976), (106, 261, 3, 0, 1794), (107, 140, 3, 0, 981), (110, 262, 3, 0, 1798), (111, 141, 3, 0, 989), (114, 264, 3, 0, 1802), (115, 142, 4, 0, 1003), (118, 267, 4, 0, 1813), (119, 143, 4, 0, 1020), (122, 272, 4, 0, 1825), (123, 144, 3, 0, 1055), (126, 275, 3, 0, 1845), (127, 145, 2, 0, 1079), (130, 278, 2, 0, 1873), (131, 146, 2, 0, 1095), (134, 277, 2, 0, 1865), (135, 147, 3, 0, 1096), (138, 280, 3, 0, 1877), (139, 148, 3, 0, 1104), (142, 281, 3, 0, 1885), (143, 149, 2, 0, 1112), (146, 282, 2, 0, 1889), (147, 150, 3, 0, 1124), (150, 283, 3, 0, 1893), (151, 151, 2, 0, 1128), (154, 284, 2, 0, 1897), (155, 152, 2, 0, 1132), (158, 287, 2, 0, 1901), (159, 153, 2, 0, 1148), (162, 288, 2, 0, 1913), (163, 154, 4, 0, 1157), (166, 290, 4, 0, 1917), (167, 155, 2, 0, 1167), (170, 291, 2, 0, 1922), (171, 156, 2, 0, 1175), (174, 292, 2, 0, 1930), (175, 157, 4, 0, 1183), (178, 296, 4, 0, 1934), (179, 158, 4, 0, 1191), (182, 298, 4, 0, 1949), (183, 159, 3, 0, 1205), (186, 300, 3, 0, 1957), (187, 160, 1, 0, 1218), (190, 302, 1, 0, 1965), (191, 161, 2, 0, 1228), (194, 303, 2, 0, 1973), (195, 162, 1, 0, 1233), (198, 304, 1, 0, 1978), (199, 163, 4, 0, 1247), (202, 306, 4, 0, 1985), (203, 164, 4, 0, 1256), (206, 307, 4, 0, 1993), (207, 165, 6, 0, 1274), (210, 308, 6, 0, 1999), (211, 166, 4, 0, 1283), (214, 310, 4, 0, 2003), (215, 167, 3, 0, 1303), (218, 312, 3, 0, 2010), (219, 168, 3, 0, 1308), (222, 313, 3, 0, 2018), (223, 169, 3, 0, 1312), (226, 314, 3, 0, 2022), (227, 170, 2, 0, 1316), (230, 315, 2, 0, 2026), (231, 171, 2, 0, 1320), (234, 316, 2, 0, 2030), (235, 172, 1, 0, 1353), (238, 317, 1, 0, 2038), (239, 173, 1, 0, 1357), (242, 318, 1, 0, 2042), (243, 174, 2, 0, 1361), (246, 321, 2, 0, 2046)],
  [],
  []]
def klL : List (List (Nat × Int32 × Nat)) := [[(37, (-1000000003), 1166), (44, (-1000000005), 1199)],
  [(50, (-1000000003), 1047), (51, (-1000000005), 1048)],
  [(34, (-1000000003), 556), (39, (-1000000005), 581)],
  [(9, (-1000000005), 248)],
  [],
  [(43, (-1000000005), 877), (44, (100000), 902)],
  [],
  [(60, (-1000000005), 354)],
  [(34, (-1000000003), 603)],
  [(36, (-1000000003), 768), (45, (-1000000001), 782)],
  [(32, (-1000000005), 668)],
  [(72, (-1000000001), 572), (91, (-1000000003), 594), (164, (-1000000012), 729), (169, (-1000000002), 738), (248, (-1000000005), 571), (334, (65535), 1161), (363, (16777215), 1232), (375, (-1000000014), 1255), (379, (-1000000011), 1264), (386, (-1000000013), 1273)],
  [(81, (-1000000005), 1545), (86, (-1000000003), 1533), (91, (-1000000001), 1546), (154, (-1000000012), 1644), (155, (-1000000002), 1649), (352, (65535), 1921), (375, (16777215), 1977), (382, (-1000000014), 1992), (383, (-1000000011), 1997), (384, (-1000000013), 1998)],
  [],
  [(264, (65536), 1002), (265, (1431655765), 1244), (266, (858993459), 1245), (267, (252645135), 1246)],
  []]
def clL : List (List (Nat × Nat × Nat)) := [[],
  [],
  [],
  [],
  [],
  [],
  [(7, 3, 498), (16, 4, 500)],
  [(9, 2, 127), (18, 8, 152), (25, 3, 177), (31, 5, 179), (37, 1, 181), (44, 0, 217)],
  [],
  [(25, 5, 439)],
  [],
  [(7, 7, 121), (22, 10, 408), (29, 9, 433), (40, 4, 472), (46, 6, 474)],
  [],
  [(7, 11, 113), (10, 12, 1379)],
  [],
  []]
def fl (c i : Nat) : Option (Nat × Nat) := ((flL.getD c []).find? (fun q => q.1 == i)).map (fun q => (q.2.1, q.2.2.1))
def ml (c i : Nat) : Option (Nat × Nat × Nat) := ((mlL.getD c []).find? (fun q => q.1 == i)).map (fun q => (q.2.1, q.2.2.1, q.2.2.2.1))
def kl (c i : Nat) : Option Int32 := ((klL.getD c []).find? (fun q => q.1 == i)).map (fun q => q.2.1)
def cll (c i : Nat) : Option Nat := ((clL.getD c []).find? (fun q => q.1 == i)).map (fun q => q.2.1)
/-- the String constants of Tape -/
def sll (c i : Nat) : Option Nat := if c = 9 then (if i = 125 then some 0 else if i = 131 then some 1 else if i = 133 then some 2 else none) else none
/-- by method: the places of its words: code, kind, selects, initialized -/
def mpL : List (Nat × Nat × Nat × Nat) := [(221, 220, 0, 98), (1348, 1346, 1347, 98), (1165, 1163, 1164, 98), (1174, 1172, 1173, 98), (1377, 1375, 1376, 98), (1182, 1180, 1181, 98), (1216, 1214, 1215, 98), (1190, 1188, 1189, 98), (1198, 1196, 1197, 98), (1203, 1202, 27, 98), (185, 184, 0, 97), (1343, 1341, 1342, 97), (1037, 1035, 1036, 97), (1027, 1025, 1026, 97), (1033, 1031, 1032, 97), (1045, 1043, 1044, 97), (1053, 1051, 1052, 97), (1078, 1076, 1077, 97), (1094, 1092, 1093, 97), (1070, 1068, 1069, 97), (1074, 1073, 24, 97), (1066, 1064, 1065, 97), (1090, 1088, 1089, 97), (1103, 1101, 1102, 97), (1111, 1109, 1110, 97), (1119, 1117, 1118, 97), (1123, 1122, 25, 97), (131, 130, 0, 95), (1331, 1329, 1330, 95), (555, 553, 554, 95), (576, 574, 575, 95), (580, 578, 579, 95), (246, 245, 0, 99), (682, 680, 681, 99), (1297, 1295, 1296, 99), (737, 735, 736, 99), (751, 749, 750, 99), (746, 744, 745, 99), (726, 724, 725, 99), (1019, 1017, 1018, 99), (759, 757, 758, 99), (694, 692, 693, 99), (699, 697, 698, 99), (703, 701, 702, 99), (710, 708, 709, 99), (714, 712, 713, 99), (718, 716, 717, 99), (479, 478, 0, 103), (1254, 1252, 1253, 103), (1301, 1299, 1300, 103), (1263, 1261, 1262, 103), (1268, 1266, 1267, 103), (1281, 1279, 1280, 103), (1272, 1270, 1271, 103), (316, 315, 0, 100), (919, 917, 918, 100), (876, 874, 875, 100), (901, 899, 900, 100), (932, 930, 931, 100), (915, 913, 914, 100), (944, 942, 943, 100), (949, 948, 20, 100), (952, 951, 0, 100), (496, 495, 0, 104), (125, 124, 0, 94), (1327, 1325, 1326, 94), (940, 938, 939, 94), (973, 971, 972, 94), (960, 958, 959, 94), (965, 964, 21, 94), (969, 968, 22, 94), (988, 986, 987, 94), (996, 994, 995, 94), (1041, 1039, 1040, 94), (1139, 1137, 1138, 94), (1143, 1142, 26, 94), (1155, 1153, 1154, 94), (1212, 1210, 1211, 94), (1225, 1223, 1224, 94), (1240, 1238, 1239, 94), (1368, 1366, 1367, 94), (1373, 1371, 1372, 94), (156, 155, 0, 96), (1336, 1334, 1335, 96), (602, 600, 601, 96), (615, 613, 614, 96), (1015, 1013, 1014, 96), (1010, 1008, 1009, 96), (623, 621, 622, 96), (627, 625, 626, 96), (642, 640, 641, 96), (638, 636, 637, 96), (437, 436, 0, 102), (767, 765, 766, 102), (772, 771, 5, 102), (780, 778, 779, 102), (790, 788, 789, 102), (911, 909, 910, 102), (885, 884, 14, 102), (881, 880, 13, 102), (889, 888, 15, 102), (893, 892, 16, 102), (897, 896, 17, 102), (906, 905, 18, 102), (794, 793, 6, 102), (872, 871, 12, 102), (797, 796, 0, 102), (801, 800, 7, 102), (805, 804, 8, 102), (868, 867, 11, 102), (809, 808, 9, 102), (814, 813, 10, 102), (412, 411, 0, 101), (650, 648, 649, 101), (667, 665, 666, 101), (654, 653, 2, 101), (658, 657, 3, 101), (117, 116, 0, 93), (551, 549, 550, 93), (560, 558, 559, 93), (585, 583, 584, 93), (593, 591, 592, 93), (598, 596, 597, 93), (607, 605, 606, 93), (619, 617, 618, 93), (634, 632, 633, 93), (646, 644, 645, 93), (672, 670, 671, 93), (686, 684, 685, 93), (722, 720, 721, 93), (733, 731, 732, 93), (742, 740, 741, 93), (755, 753, 754, 93), (763, 761, 762, 93), (776, 774, 775, 93), (786, 784, 785, 93), (924, 922, 923, 93), (936, 934, 935, 93), (956, 954, 955, 93), (979, 977, 978, 93), (984, 982, 983, 93), (992, 990, 991, 93), (1006, 1004, 1005, 93), (1023, 1021, 1022, 93), (1058, 1056, 1057, 93), (1082, 1080, 1081, 93), (1086, 1084, 1085, 93), (1099, 1097, 1098, 93), (1107, 1105, 1106, 93), (1115, 1113, 1114, 93), (1127, 1125, 1126, 93), (1131, 1129, 1130, 93), (1135, 1133, 1134, 93), (1151, 1149, 1150, 93), (1160, 1158, 1159, 93), (1170, 1168, 1169, 93), (1178, 1176, 1177, 93), (1186, 1184, 1185, 93), (1194, 1192, 1193, 93), (1208, 1206, 1207, 93), (1221, 1219, 1220, 93), (1231, 1229, 1230, 93), (1236, 1234, 1235, 93), (1250, 1248, 1249, 93), (1259, 1257, 1258, 93), (1277, 1275, 1276, 93), (1286, 1284, 1285, 93), (1306, 1304, 1305, 93), (1311, 1309, 1310, 93), (1315, 1313, 1314, 93), (1319, 1317, 1318, 93), (1323, 1321, 1322, 93), (1356, 1354, 1355, 93), (1360, 1358, 1359, 93), (1364, 1362, 1363, 93), (567, 566, 0, 93), (570, 569, 0, 93), (588, 587, 0, 93), (678, 677, 0, 93), (675, 674, 0, 93), (1289, 1288, 0, 93), (630, 629, 0, 93), (564, 563, 0, 93), (611, 610, 1, 93), (690, 689, 4, 93), (928, 927, 19, 93), (1062, 1061, 23, 93), (1293, 1292, 28, 93), (1383, 1382, 0, 105), (1544, 1543, 0, 105), (1553, 1552, 0, 105), (1984, 1983, 0, 105), (1812, 1811, 0, 105), (2037, 2036, 89, 105), (1541, 1540, 29, 105), (1576, 1575, 31, 105), (1623, 1622, 37, 105), (1713, 1712, 49, 105), (1852, 1851, 74, 105), (1560, 1559, 0, 105), (1611, 1610, 0, 105), (1832, 1831, 70, 105), (1532, 1530, 1531, 105), (1550, 1549, 30, 105), (1537, 1535, 1536, 105), (1557, 1555, 1556, 105), (1564, 1562, 1563, 105), (1568, 1566, 1567, 105), (1572, 1570, 1571, 105), (1584, 1583, 32, 105), (1580, 1578, 1579, 105), (1588, 1586, 1587, 105), (1600, 1599, 34, 105), (1604, 1603, 35, 105), (1596, 1595, 33, 105), (1592, 1590, 1591, 105), (1643, 1642, 0, 105), (1630, 1629, 0, 105), (1633, 1632, 0, 105), (1636, 1635, 0, 105), (1627, 1626, 38, 105), (1615, 1614, 36, 105), (1608, 1606, 1607, 105), (1619, 1617, 1618, 105), (1640, 1638, 1639, 105), (1648, 1646, 1647, 105), (1657, 1656, 39, 105), (1653, 1651, 1652, 105), (1661, 1659, 1660, 105), (1665, 1663, 1664, 105), (1669, 1667, 1668, 105), (1685, 1684, 42, 105), (1689, 1688, 43, 105), (1693, 1692, 44, 105), (1697, 1696, 45, 105), (1681, 1680, 41, 105), (1717, 1716, 50, 105), (1733, 1732, 54, 105), (1705, 1704, 47, 105), (1741, 1740, 56, 105), (1737, 1736, 55, 105), (1729, 1728, 53, 105), (1745, 1744, 57, 105), (1749, 1748, 58, 105), (1725, 1724, 52, 105), (1721, 1720, 51, 105), (1709, 1708, 48, 105), (1701, 1700, 46, 105), (1677, 1676, 40, 105), (1673, 1671, 1672, 105), (1757, 1756, 59, 105), (1753, 1751, 1752, 105), (1777, 1776, 63, 105), (1773, 1772, 62, 105), (1769, 1768, 61, 105), (1765, 1764, 60, 105), (1761, 1759, 1760, 105), (1793, 1792, 66, 105), (1789, 1788, 65, 105), (1785, 1784, 64, 105), (1781, 1779, 1780, 105), (1797, 1795, 1796, 105), (1801, 1799, 1800, 105), (1809, 1808, 67, 105), (1805, 1803, 1804, 105), (1820, 1819, 68, 105), (1824, 1823, 69, 105), (1816, 1814, 1815, 105), (1840, 1839, 72, 105), (1856, 1855, 75, 105), (1844, 1843, 73, 105), (1836, 1835, 71, 105), (1828, 1826, 1827, 105), (1864, 1863, 77, 105), (1860, 1859, 76, 105), (1848, 1846, 1847, 105), (1872, 1871, 78, 105), (1868, 1866, 1867, 105), (1876, 1874, 1875, 105), (1884, 1883, 79, 105), (1880, 1878, 1879, 105), (1888, 1886, 1887, 105), (1892, 1890, 1891, 105), (1896, 1894, 1895, 105), (1900, 1898, 1899, 105), (1912, 1911, 81, 105), (1908, 1907, 80, 105), (1904, 1902, 1903, 105), (1916, 1914, 1915, 105), (1929, 1928, 82, 105), (1920, 1918, 1919, 105), (1925, 1923, 1924, 105), (1933, 1931, 1932, 105), (1948, 1947, 0, 105), (1945, 1944, 84, 105), (1941, 1940, 83, 105), (1937, 1935, 1936, 105), (1956, 1955, 85, 105), (1952, 1950, 1951, 105), (1964, 1963, 86, 105), (1960, 1958, 1959, 105), (1972, 1971, 87, 105), (1968, 1966, 1967, 105), (1976, 1974, 1975, 105), (1981, 1979, 1980, 105), (1991, 1990, 0, 105), (1988, 1986, 1987, 105), (1996, 1994, 1995, 105), (2002, 2000, 2001, 105), (2009, 2008, 0, 105), (2006, 2004, 2005, 105), (2017, 2016, 88, 105), (2013, 2011, 2012, 105), (2021, 2019, 2020, 105), (2025, 2023, 2024, 105), (2029, 2027, 2028, 105), (2033, 2031, 2032, 105), (2041, 2039, 2040, 105), (2045, 2043, 2044, 105), (2053, 2052, 90, 105), (2057, 2056, 91, 105), (2049, 2047, 2048, 105), (1001, 1000, 0, 112), (1243, 1242, 0, 112), (706, 705, 0, 107), (0, 0, 0, 0)]
def ipL : List (Nat × Nat) := [(218, 98), (182, 97), (128, 95), (243, 99), (476, 103), (313, 100), (493, 104), (122, 94), (153, 96), (434, 102), (409, 101), (114, 93), (1380, 105)]
def lpL : List (List Nat) := [[230, 232, 234, 236, 238, 240], [198, 200, 202, 204, 206, 208, 210, 212, 214], [140, 142, 144, 146, 148], [284, 286, 288, 290, 292, 294, 296, 298, 300, 302, 304, 306, 308, 310], [486, 488, 490], [337, 339, 341, 343, 345, 347, 349, 351], [508, 510, 512, 514], [381, 383, 385, 387, 389, 391, 393, 395, 397, 399, 401, 403, 405], [166, 168, 170, 172, 174], [452, 454, 456, 458, 460, 462, 464, 466, 468], [420, 422, 424, 426, 428, 430], [527, 529, 531, 533, 535, 537, 539, 541, 543, 545], [1432, 1434, 1436, 1438, 1440, 1442, 1444, 1446, 1448, 1450, 1452, 1454, 1456, 1458, 1460, 1462, 1464, 1466, 1468, 1470, 1472, 1474, 1476, 1478, 1480, 1482, 1484, 1486, 1488, 1490, 1492, 1494, 1496, 1498, 1500, 1502, 1504, 1506, 1508, 1510, 1512, 1514, 1516, 1518, 1520, 1522, 1524]]
