theorem pz_inr {big : List Cond} (ws : List Cond) (ps : List Nat) (hp : ws = ps.filterMap (fun i => big[i]?)) : ∀ w ∈ ws, w ∈ big := by
  intro w hw
  rw [hp] at hw
  obtain ⟨i, -, hi⟩ := List.mem_filterMap.mp hw
  exact List.mem_of_getElem? hi
def cz_R0 : String := "ByHeart"
def cz_F0 : List (String × String × String × Bool) := [("ByHeart", "tape", "LByHeart$Tape;", true), ("ByHeart", "score", "LByHeart$Score;", true), ("ByHeart", "pieceReader", "LByHeart$PieceReader;", true), ("ByHeart", "mind", "LByHeart$Mind;", true), ("ByHeart", "boxes", "[LByHeart$Mind;", true), ("ByHeart", "flow", "LByHeart$Flow;", true), ("ByHeart", "player", "LByHeart$Player;", true), ("ByHeart", "search", "LByHeart$Search;", true), ("ByHeart", "diaryBook", "LByHeart$Ledger;", true), ("ByHeart", "paperBook", "LByHeart$Ledger;", true), ("ByHeart", "ruleBook", "LByHeart$Rules;", true), ("ByHeart", "rulesReader", "LByHeart$RulesReader;", true), ("ByHeart", "cutsNow", "[I", true), ("ByHeart", "time", "I", false)]
def cz_T0 : u_T := fun k => cz_F0.getD k ("", "", "", false)
def cz_Y0 : List FieldType := [.object "ByHeart$Tape", .object "ByHeart$Score", .object "ByHeart$PieceReader", .object "ByHeart$Mind", .array (.object "ByHeart$Mind"), .object "ByHeart$Flow", .object "ByHeart$Player", .object "ByHeart$Search", .object "ByHeart$Ledger", .object "ByHeart$Ledger", .object "ByHeart$Rules", .object "ByHeart$RulesReader", .array .int, .int]
def cz_y0 : Nat → FieldType := fun k => cz_Y0.getD k .int
theorem cz_nd0 : (cz_F0.map (fun q => q.2.1)).Nodup := by decide +kernel
theorem cz_ok0 : ∀ k, k < 14 → parseFieldDescriptor (cz_T0 k).2.2.1 = some (cz_y0 k) := by decide +kernel
theorem cz_in0 : ∀ w ∈ u_ws cz_R0 cz_T0 14, w ∈ lw_tbl := pz_inr _ [620, 622, 624, 626, 628, 630, 632, 634, 636, 638, 640, 642, 644, 646] (by decide +kernel)
def cz_R1 : String := "ByHeart$Flow"
def cz_F1 : List (String × String × String × Bool) := [("ByHeart$Flow", "score", "LByHeart$Score;", true), ("ByHeart$Flow", "likes", "[I", true), ("ByHeart$Flow", "likeBar", "[I", true), ("ByHeart$Flow", "likeBy", "[I", true), ("ByHeart$Flow", "crossShare", "[I", true), ("ByHeart$Flow", "stop", "[I", true), ("ByHeart$Flow", "left", "[I", true), ("ByHeart$Flow", "doorOf", "[I", true), ("ByHeart$Flow", "sums", "[J", true), ("ByHeart$Flow", "now", "[J", false), ("ByHeart$Flow", "next", "[J", false)]
def cz_T1 : u_T := fun k => cz_F1.getD k ("", "", "", false)
def cz_Y1 : List FieldType := [.object "ByHeart$Score", .array .int, .array .int, .array .int, .array .int, .array .int, .array .int, .array .int, .array .long, .array .long, .array .long]
def cz_y1 : Nat → FieldType := fun k => cz_Y1.getD k .int
theorem cz_nd1 : (cz_F1.map (fun q => q.2.1)).Nodup := by decide +kernel
theorem cz_ok1 : ∀ k, k < 11 → parseFieldDescriptor (cz_T1 k).2.2.1 = some (cz_y1 k) := by decide +kernel
theorem cz_in1 : ∀ w ∈ u_ws cz_R1 cz_T1 11, w ∈ lw_tbl := pz_inr _ [445, 447, 449, 451, 453, 455, 457, 459, 461, 463, 465] (by decide +kernel)
def cz_R2 : String := "ByHeart$Ledger"
def cz_F2 : List (String × String × String × Bool) := [("ByHeart$Ledger", "bars", "[I", true), ("ByHeart$Ledger", "days", "[I", true), ("ByHeart$Ledger", "known", "[Z", true), ("ByHeart$Ledger", "toldAt", "[I", true), ("ByHeart$Ledger", "untoldAt", "[I", true), ("ByHeart$Ledger", "size", "I", false)]
def cz_T2 : u_T := fun k => cz_F2.getD k ("", "", "", false)
def cz_Y2 : List FieldType := [.array .int, .array .int, .array .boolean, .array .int, .array .int, .int]
def cz_y2 : Nat → FieldType := fun k => cz_Y2.getD k .int
theorem cz_nd2 : (cz_F2.map (fun q => q.2.1)).Nodup := by decide +kernel
theorem cz_ok2 : ∀ k, k < 6 → parseFieldDescriptor (cz_T2 k).2.2.1 = some (cz_y2 k) := by decide +kernel
theorem cz_in2 : ∀ w ∈ u_ws cz_R2 cz_T2 6, w ∈ lw_tbl := pz_inr _ [541, 543, 545, 547, 549, 551] (by decide +kernel)
def cz_R3 : String := "ByHeart$Mind"
def cz_F3 : List (String × String × String × Bool) := [("ByHeart$Mind", "hold", "[I", true), ("ByHeart$Mind", "head", "[I", true), ("ByHeart$Mind", "old", "[I", true), ("ByHeart$Mind", "learnt", "[I", true), ("ByHeart$Mind", "doors", "I", false), ("ByHeart$Mind", "marks", "I", false), ("ByHeart$Mind", "day", "I", false), ("ByHeart$Mind", "w", "I", false), ("ByHeart$Mind", "kept", "Z", false)]
def cz_T3 : u_T := fun k => cz_F3.getD k ("", "", "", false)
def cz_Y3 : List FieldType := [.array .int, .array .int, .array .int, .array .int, .int, .int, .int, .int, .boolean]
def cz_y3 : Nat → FieldType := fun k => cz_Y3.getD k .int
theorem cz_nd3 : (cz_F3.map (fun q => q.2.1)).Nodup := by decide +kernel
theorem cz_ok3 : ∀ k, k < 9 → parseFieldDescriptor (cz_T3 k).2.2.1 = some (cz_y3 k) := by decide +kernel
theorem cz_in3 : ∀ w ∈ u_ws cz_R3 cz_T3 9, w ∈ lw_tbl := pz_inr _ [406, 408, 410, 412, 414, 416, 418, 420, 422] (by decide +kernel)
def cz_R4 : String := "ByHeart$PieceReader"
def cz_F4 : List (String × String × String × Bool) := [("ByHeart$PieceReader", "tape", "LByHeart$Tape;", true), ("ByHeart$PieceReader", "score", "LByHeart$Score;", true)]
def cz_T4 : u_T := fun k => cz_F4.getD k ("", "", "", false)
def cz_Y4 : List FieldType := [.object "ByHeart$Tape", .object "ByHeart$Score"]
def cz_y4 : Nat → FieldType := fun k => cz_Y4.getD k .int
theorem cz_nd4 : (cz_F4.map (fun q => q.2.1)).Nodup := by decide +kernel
theorem cz_ok4 : ∀ k, k < 2 → parseFieldDescriptor (cz_T4 k).2.2.1 = some (cz_y4 k) := by decide +kernel
theorem cz_in4 : ∀ w ∈ u_ws cz_R4 cz_T4 2, w ∈ lw_tbl := pz_inr _ [365, 367] (by decide +kernel)
def cz_R5 : String := "ByHeart$Player"
def cz_F5 : List (String × String × String × Bool) := [("ByHeart$Player", "score", "LByHeart$Score;", true), ("ByHeart$Player", "mind", "LByHeart$Mind;", true), ("ByHeart$Player", "flow", "LByHeart$Flow;", true), ("ByHeart$Player", "tells", "[I", true), ("ByHeart$Player", "told", "Z", false)]
def cz_T5 : u_T := fun k => cz_F5.getD k ("", "", "", false)
def cz_Y5 : List FieldType := [.object "ByHeart$Score", .object "ByHeart$Mind", .object "ByHeart$Flow", .array .int, .boolean]
def cz_y5 : Nat → FieldType := fun k => cz_Y5.getD k .int
theorem cz_nd5 : (cz_F5.map (fun q => q.2.1)).Nodup := by decide +kernel
theorem cz_ok5 : ∀ k, k < 5 → parseFieldDescriptor (cz_T5 k).2.2.1 = some (cz_y5 k) := by decide +kernel
theorem cz_in5 : ∀ w ∈ u_ws cz_R5 cz_T5 5, w ∈ lw_tbl := pz_inr _ [481, 483, 485, 487, 489] (by decide +kernel)
def cz_R6 : String := "ByHeart$Rules"
def cz_F6 : List (String × String × String × Bool) := [("ByHeart$Rules", "count", "I", false), ("ByHeart$Rules", "units", "I", false), ("ByHeart$Rules", "size", "I", false), ("ByHeart$Rules", "planOf", "[I", true), ("ByHeart$Rules", "endOf", "[I", true), ("ByHeart$Rules", "steps", "[I", true), ("ByHeart$Rules", "stack", "[I", true)]
def cz_T6 : u_T := fun k => cz_F6.getD k ("", "", "", false)
def cz_Y6 : List FieldType := [.int, .int, .int, .array .int, .array .int, .array .int, .array .int]
def cz_y6 : Nat → FieldType := fun k => cz_Y6.getD k .int
theorem cz_nd6 : (cz_F6.map (fun q => q.2.1)).Nodup := by decide +kernel
theorem cz_ok6 : ∀ k, k < 7 → parseFieldDescriptor (cz_T6 k).2.2.1 = some (cz_y6 k) := by decide +kernel
theorem cz_in6 : ∀ w ∈ u_ws cz_R6 cz_T6 7, w ∈ lw_tbl := pz_inr _ [572, 574, 576, 578, 580, 582, 584] (by decide +kernel)
def cz_R7 : String := "ByHeart$RulesReader"
def cz_F7 : List (String × String × String × Bool) := [("ByHeart$RulesReader", "tape", "LByHeart$Tape;", true), ("ByHeart$RulesReader", "score", "LByHeart$Score;", true), ("ByHeart$RulesReader", "rules", "LByHeart$Rules;", true)]
def cz_T7 : u_T := fun k => cz_F7.getD k ("", "", "", false)
def cz_Y7 : List FieldType := [.object "ByHeart$Tape", .object "ByHeart$Score", .object "ByHeart$Rules"]
def cz_y7 : Nat → FieldType := fun k => cz_Y7.getD k .int
theorem cz_nd7 : (cz_F7.map (fun q => q.2.1)).Nodup := by decide +kernel
theorem cz_ok7 : ∀ k, k < 3 → parseFieldDescriptor (cz_T7 k).2.2.1 = some (cz_y7 k) := by decide +kernel
theorem cz_in7 : ∀ w ∈ u_ws cz_R7 cz_T7 3, w ∈ lw_tbl := pz_inr _ [599, 601, 603] (by decide +kernel)
def cz_R8 : String := "ByHeart$Score"
def cz_F8 : List (String × String × String × Bool) := [("ByHeart$Score", "bars", "I", false), ("ByHeart$Score", "looks", "[J", true), ("ByHeart$Score", "heapOf", "[I", true), ("ByHeart$Score", "heaps", "I", false), ("ByHeart$Score", "heapNames", "[J", true), ("ByHeart$Score", "heapFirst", "[I", true), ("ByHeart$Score", "parts", "I", false), ("ByHeart$Score", "partNames", "[J", true), ("ByHeart$Score", "partFirst", "[I", true), ("ByHeart$Score", "partLast", "[I", true), ("ByHeart$Score", "plans", "I", false), ("ByHeart$Score", "planNames", "[J", true), ("ByHeart$Score", "planFirst", "[I", true), ("ByHeart$Score", "planLast", "[I", true), ("ByHeart$Score", "planTimes", "[I", true), ("ByHeart$Score", "planSlow", "[I", true), ("ByHeart$Score", "doors", "I", false), ("ByHeart$Score", "marks", "I", false), ("ByHeart$Score", "lawTold", "Z", false), ("ByHeart$Score", "law", "[I", true)]
def cz_T8 : u_T := fun k => cz_F8.getD k ("", "", "", false)
def cz_Y8 : List FieldType := [.int, .array .long, .array .int, .int, .array .long, .array .int, .int, .array .long, .array .int, .array .int, .int, .array .long, .array .int, .array .int, .array .int, .array .int, .int, .int, .boolean, .array .int]
def cz_y8 : Nat → FieldType := fun k => cz_Y8.getD k .int
theorem cz_nd8 : (cz_F8.map (fun q => q.2.1)).Nodup := by decide +kernel
theorem cz_ok8 : ∀ k, k < 20 → parseFieldDescriptor (cz_T8 k).2.2.1 = some (cz_y8 k) := by decide +kernel
theorem cz_in8 : ∀ w ∈ u_ws cz_R8 cz_T8 20, w ∈ lw_tbl := pz_inr _ [312, 314, 316, 318, 320, 322, 324, 326, 328, 330, 332, 334, 336, 338, 340, 342, 344, 346, 348, 350] (by decide +kernel)
def cz_R9 : String := "ByHeart$Search"
def cz_F9 : List (String × String × String × Bool) := [("ByHeart$Search", "score", "LByHeart$Score;", true), ("ByHeart$Search", "flow", "LByHeart$Flow;", true), ("ByHeart$Search", "dayMinds", "[LByHeart$Mind;", true), ("ByHeart$Search", "row", "[I", true), ("ByHeart$Search", "bestRow", "[I", true), ("ByHeart$Search", "bestEnd", "I", false), ("ByHeart$Search", "jolt", "I", false), ("ByHeart$Search", "odds", "I", false)]
def cz_T9 : u_T := fun k => cz_F9.getD k ("", "", "", false)
def cz_Y9 : List FieldType := [.object "ByHeart$Score", .object "ByHeart$Flow", .array (.object "ByHeart$Mind"), .array .int, .array .int, .int, .int, .int]
def cz_y9 : Nat → FieldType := fun k => cz_Y9.getD k .int
theorem cz_nd9 : (cz_F9.map (fun q => q.2.1)).Nodup := by decide +kernel
theorem cz_ok9 : ∀ k, k < 8 → parseFieldDescriptor (cz_T9 k).2.2.1 = some (cz_y9 k) := by decide +kernel
theorem cz_in9 : ∀ w ∈ u_ws cz_R9 cz_T9 8, w ∈ lw_tbl := pz_inr _ [508, 510, 512, 514, 516, 518, 520, 522] (by decide +kernel)
def cz_R10 : String := "ByHeart$Tape"
def cz_F10 : List (String × String × String × Bool) := [("ByHeart$Tape", "bytes", "[B", true), ("ByHeart$Tape", "wordLetters", "[J", true), ("ByHeart$Tape", "length", "I", false), ("ByHeart$Tape", "signs", "Ljava/lang/String;", false), ("ByHeart$Tape", "at", "I", false), ("ByHeart$Tape", "start", "I", false), ("ByHeart$Tape", "kind", "I", false), ("ByHeart$Tape", "word", "I", false), ("ByHeart$Tape", "letters", "J", false), ("ByHeart$Tape", "number", "I", false), ("ByHeart$Tape", "sign", "I", false), ("ByHeart$Tape", "fault", "I", false), ("ByHeart$Tape", "place", "I", false)]
def cz_T10 : u_T := fun k => cz_F10.getD k ("", "", "", false)
def cz_Y10 : List FieldType := [.array .byte, .array .long, .int, .object "java/lang/String", .int, .int, .int, .int, .long, .int, .int, .int, .int]
def cz_y10 : Nat → FieldType := fun k => cz_Y10.getD k .int
theorem cz_nd10 : (cz_F10.map (fun q => q.2.1)).Nodup := by decide +kernel
theorem cz_ok10 : ∀ k, k < 13 → parseFieldDescriptor (cz_T10 k).2.2.1 = some (cz_y10 k) := by decide +kernel
theorem cz_in10 : ∀ w ∈ u_ws cz_R10 cz_T10 13, w ∈ lw_tbl := pz_inr _ [208, 210, 212, 214, 216, 218, 220, 222, 224, 226, 228, 230, 232] (by decide +kernel)
def cz_R11 : String := "ByHeartModel"
def cz_F11 : List (String × String × String × Bool) := [("ByHeartModel", "tape", "[B", true), ("ByHeartModel", "text", "[B", true), ("ByHeartModel", "taped", "I", false), ("ByHeartModel", "size", "I", false), ("ByHeartModel", "faultKind", "I", false), ("ByHeartModel", "faultPlace", "I", false), ("ByHeartModel", "at", "I", false), ("ByHeartModel", "end", "I", false), ("ByHeartModel", "token", "I", false), ("ByHeartModel", "number", "I", false), ("ByHeartModel", "name", "J", false), ("ByHeartModel", "isRules", "Z", false), ("ByHeartModel", "bars", "[I", true), ("ByHeartModel", "heaps", "[I", true), ("ByHeartModel", "parts", "[I", true), ("ByHeartModel", "plans", "[I", true), ("ByHeartModel", "gain", "[I", true), ("ByHeartModel", "fade", "[I", true), ("ByHeartModel", "cross", "[I", true), ("ByHeartModel", "weak", "[I", true), ("ByHeartModel", "save", "[I", true), ("ByHeartModel", "ear", "[I", true), ("ByHeartModel", "isLaw", "[Z", true), ("ByHeartModel", "isDoorTold", "[Z", true), ("ByHeartModel", "isMarkTold", "[Z", true), ("ByHeartModel", "look", "[J", true), ("ByHeartModel", "hName", "[J", true), ("ByHeartModel", "pName", "[J", true), ("ByHeartModel", "nName", "[J", true), ("ByHeartModel", "heapOf", "[I", true), ("ByHeartModel", "firstOf", "[I", true), ("ByHeartModel", "lastOf", "[I", true), ("ByHeartModel", "pFrom", "[I", true), ("ByHeartModel", "pTo", "[I", true), ("ByHeartModel", "nFrom", "[I", true), ("ByHeartModel", "nTo", "[I", true), ("ByHeartModel", "nTimes", "[I", true), ("ByHeartModel", "nSlow", "[I", true), ("ByHeartModel", "bank", "I", false), ("ByHeartModel", "rb", "I", false), ("ByHeartModel", "hold", "[I", true), ("ByHeartModel", "head", "[I", true), ("ByHeartModel", "old", "[I", true), ("ByHeartModel", "learnt", "[I", true), ("ByHeartModel", "isDoor", "[Z", true), ("ByHeartModel", "isMark", "[Z", true), ("ByHeartModel", "day", "I", false), ("ByHeartModel", "w", "I", false), ("ByHeartModel", "crosses", "[I", true), ("ByHeartModel", "stops", "I", false), ("ByHeartModel", "on", "I", false), ("ByHeartModel", "latestHow", "I", false), ("ByHeartModel", "latestBar", "I", false), ("ByHeartModel", "stopped", "I", false), ("ByHeartModel", "savedMany", "I", false), ("ByHeartModel", "heard", "I", false), ("ByHeartModel", "crossed", "I", false), ("ByHeartModel", "mass", "[J", true), ("ByHeartModel", "then", "[J", true), ("ByHeartModel", "sums", "[J", true), ("ByHeartModel", "putEnd", "I", false), ("ByHeartModel", "putOne", "I", false), ("ByHeartModel", "putTwo", "I", false), ("ByHeartModel", "bestRow", "I", false), ("ByHeartModel", "bestEnd", "I", false), ("ByHeartModel", "code", "[I", true), ("ByHeartModel", "codeNumber", "[I", true), ("ByHeartModel", "eWhat", "[I", true), ("ByHeartModel", "eSign", "[I", true), ("ByHeartModel", "pile", "[I", true), ("ByHeartModel", "rFrom", "[I", true), ("ByHeartModel", "rTo", "[I", true), ("ByHeartModel", "rPlan", "[I", true), ("ByHeartModel", "codes", "I", false), ("ByHeartModel", "units", "I", false), ("ByHeartModel", "within", "I", false), ("ByHeartModel", "piled", "I", false), ("ByHeartModel", "ruleMany", "I", false), ("ByHeartModel", "ruleUnits", "I", false), ("ByHeartModel", "rulesRead", "I", false), ("ByHeartModel", "dDay", "[I", true), ("ByHeartModel", "dFrom", "[I", true), ("ByHeartModel", "dTold", "[I", true), ("ByHeartModel", "dUntold", "[I", true), ("ByHeartModel", "aDays", "[I", true), ("ByHeartModel", "aBar", "[I", true), ("ByHeartModel", "aTold", "[I", true), ("ByHeartModel", "aUntold", "[I", true), ("ByHeartModel", "aKnown", "[Z", true), ("ByHeartModel", "diaries", "I", false), ("ByHeartModel", "papers", "I", false), ("ByHeartModel", "time", "I", false), ("ByHeartModel", "boxHold", "[I", true), ("ByHeartModel", "boxHead", "[I", true), ("ByHeartModel", "boxOld", "[I", true), ("ByHeartModel", "boxLearnt", "[I", true), ("ByHeartModel", "boxDay", "[I", true), ("ByHeartModel", "boxW", "[I", true), ("ByHeartModel", "boxDoor", "[Z", true), ("ByHeartModel", "boxMark", "[Z", true)]
def cz_T11 : u_T := fun k => cz_F11.getD k ("", "", "", false)
def cz_Y11 : List FieldType := [.array .byte, .array .byte, .int, .int, .int, .int, .int, .int, .int, .int, .long, .boolean, .array .int, .array .int, .array .int, .array .int, .array .int, .array .int, .array .int, .array .int, .array .int, .array .int, .array .boolean, .array .boolean, .array .boolean, .array .long, .array .long, .array .long, .array .long, .array .int, .array .int, .array .int, .array .int, .array .int, .array .int, .array .int, .array .int, .array .int, .int, .int, .array .int, .array .int, .array .int, .array .int, .array .boolean, .array .boolean, .int, .int, .array .int, .int, .int, .int, .int, .int, .int, .int, .int, .array .long, .array .long, .array .long, .int, .int, .int, .int, .int, .array .int, .array .int, .array .int, .array .int, .array .int, .array .int, .array .int, .array .int, .int, .int, .int, .int, .int, .int, .int, .array .int, .array .int, .array .int, .array .int, .array .int, .array .int, .array .int, .array .int, .array .boolean, .int, .int, .int, .array .int, .array .int, .array .int, .array .int, .array .int, .array .int, .array .boolean, .array .boolean]
def cz_y11 : Nat → FieldType := fun k => cz_Y11.getD k .int
theorem cz_nd11 : (cz_F11.map (fun q => q.2.1)).Nodup := by decide +kernel
theorem cz_ok11 : ∀ k, k < 100 → parseFieldDescriptor (cz_T11 k).2.2.1 = some (cz_y11 k) := by decide +kernel
theorem cz_in11 : ∀ w ∈ u_ws cz_R11 cz_T11 100, w ∈ lw_tbl := pz_inr _ [1478, 1480, 1482, 1484, 1486, 1488, 1490, 1492, 1494, 1496, 1498, 1500, 1502, 1504, 1506, 1508, 1510, 1512, 1514, 1516, 1518, 1520, 1522, 1524, 1526, 1528, 1530, 1532, 1534, 1536, 1538, 1540, 1542, 1544, 1546, 1548, 1550, 1552, 1554, 1556, 1558, 1560, 1562, 1564, 1566, 1568, 1570, 1572, 1574, 1576, 1578, 1580, 1582, 1584, 1586, 1588, 1590, 1592, 1594, 1596, 1598, 1600, 1602, 1604, 1606, 1608, 1610, 1612, 1614, 1616, 1618, 1620, 1622, 1624, 1626, 1628, 1630, 1632, 1634, 1636, 1638, 1640, 1642, 1644, 1646, 1648, 1650, 1652, 1654, 1656, 1658, 1660, 1662, 1664, 1666, 1668, 1670, 1672, 1674, 1676] (by decide +kernel)
abbrev cz_cl : List vw_C := [(cz_R0, cz_T0, 14), (cz_R1, cz_T1, 11), (cz_R2, cz_T2, 6), (cz_R3, cz_T3, 9), (cz_R4, cz_T4, 2), (cz_R5, cz_T5, 5), (cz_R6, cz_T6, 7), (cz_R7, cz_T7, 3), (cz_R8, cz_T8, 20), (cz_R9, cz_T9, 8), (cz_R10, cz_T10, 13), (cz_R11, cz_T11, 100)]
