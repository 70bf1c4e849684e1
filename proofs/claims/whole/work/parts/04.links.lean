theorem pz_inm {α : Type} {big : List Cond} (l : List α) (f : α → Cond) (ps : List Nat) (hp : l.map f = ps.filterMap (fun i => big[i]?)) : ∀ q ∈ l, f q ∈ big := fun q hq => pz_inr _ ps hp _ (List.mem_map_of_mem hq)
def cz_owns : List String := ["ByHeart", "ByHeart$Flow", "ByHeart$Ledger", "ByHeart$Mind", "ByHeart$PieceReader", "ByHeart$Player", "ByHeart$Rules", "ByHeart$RulesReader", "ByHeart$Score", "ByHeart$Search", "ByHeart$Tape", "ByHeartModel", "ByHeartLaw", "java/lang/Integer", "java/lang/Math", "java/lang/String", "java/lang/StringLatin1", "java/util/Arrays", "jdk/internal/util/Preconditions"]
def cz_own (k : Nat) : String := cz_owns.getD k ""
def cz_yn : MethodName := ⟨"", "", ""⟩
def cz_ys : List MethodName := [
  ⟨"ByHeartLaw", "law", "([I)Z"⟩,
  ⟨"ByHeart", "<init>", "()V"⟩,
  ⟨"ByHeartModel", "<init>", "()V"⟩,
  ⟨"ByHeart", "feed", "(IIIII)I"⟩,
  ⟨"ByHeartModel", "feed", "(IIIII)I"⟩,
  ⟨"ByHeart", "end", "(I)I"⟩,
  ⟨"ByHeartModel", "end", "(I)I"⟩,
  ⟨"ByHeart", "piece", "()I"⟩,
  ⟨"ByHeartModel", "piece", "()I"⟩,
  ⟨"ByHeart", "fault", "(I)I"⟩,
  ⟨"ByHeartModel", "fault", "(I)I"⟩,
  ⟨"ByHeart", "bar", "(II)I"⟩,
  ⟨"ByHeartModel", "bar", "(II)I"⟩,
  ⟨"ByHeart", "part", "(II)I"⟩,
  ⟨"ByHeartModel", "part", "(II)I"⟩,
  ⟨"ByHeart", "set", "(IIZ)Z"⟩,
  ⟨"ByHeartModel", "set", "(IIZ)Z"⟩,
  ⟨"ByHeart", "alike", "(II)I"⟩,
  ⟨"ByHeartModel", "alike", "(II)I"⟩,
  ⟨"ByHeart", "fork", "(I)I"⟩,
  ⟨"ByHeartModel", "fork", "(I)I"⟩,
  ⟨"ByHeart", "forks", "()I"⟩,
  ⟨"ByHeartModel", "forks", "()I"⟩,
  ⟨"ByHeart", "behind", "(II)I"⟩,
  ⟨"ByHeartModel", "behind", "(II)I"⟩,
  ⟨"ByHeart", "saved", "(I)I"⟩,
  ⟨"ByHeartModel", "saved", "(I)I"⟩,
  ⟨"ByHeart", "play", "(II)I"⟩,
  ⟨"ByHeartModel", "play", "(II)I"⟩,
  ⟨"ByHeart", "slow", "(II)I"⟩,
  ⟨"ByHeartModel", "slow", "(II)I"⟩,
  ⟨"ByHeart", "latest", "(I)I"⟩,
  ⟨"ByHeartModel", "latest", "(I)I"⟩,
  ⟨"ByHeart", "days", "(I)I"⟩,
  ⟨"ByHeartModel", "days", "(I)I"⟩,
  ⟨"ByHeart", "through", "(IIII)I"⟩,
  ⟨"ByHeartModel", "through", "(IIII)I"⟩,
  ⟨"ByHeart", "put", "(IIIII)I"⟩,
  ⟨"ByHeartModel", "put", "(IIIII)I"⟩,
  ⟨"ByHeart", "plans", "(II)I"⟩,
  ⟨"ByHeartModel", "plans", "(II)I"⟩,
  ⟨"ByHeart", "plan", "(I)I"⟩,
  ⟨"ByHeartModel", "plan", "(I)I"⟩,
  ⟨"ByHeart", "rules", "()I"⟩,
  ⟨"ByHeartModel", "rules", "()I"⟩,
  ⟨"ByHeart", "practise", "(I)I"⟩,
  ⟨"ByHeartModel", "practise", "(I)I"⟩,
  ⟨"ByHeart", "reach", "(I)I"⟩,
  ⟨"ByHeartModel", "reach", "(I)I"⟩,
  ⟨"ByHeart", "rule", "()I"⟩,
  ⟨"ByHeartModel", "rule", "()I"⟩,
  ⟨"ByHeart", "finger", "(I)I"⟩,
  ⟨"ByHeartModel", "finger", "(I)I"⟩,
  ⟨"ByHeart", "diary", "(III)I"⟩,
  ⟨"ByHeartModel", "diary", "(III)I"⟩,
  ⟨"ByHeart", "paper", "(IIZ)I"⟩,
  ⟨"ByHeartModel", "paper", "(IIZ)I"⟩,
  ⟨"ByHeart", "untell", "(ZI)Z"⟩,
  ⟨"ByHeartModel", "untell", "(ZI)Z"⟩,
  ⟨"ByHeart", "later", "(I)I"⟩,
  ⟨"ByHeartModel", "later", "(I)I"⟩,
  ⟨"ByHeart", "cuts", "(II)I"⟩,
  ⟨"ByHeartModel", "cuts", "(II)I"⟩,
  ⟨"ByHeart", "diaries", "(II)I"⟩,
  ⟨"ByHeartModel", "diaries", "(II)I"⟩,
  ⟨"ByHeart", "luck", "(II)J"⟩,
  ⟨"ByHeartModel", "luck", "(II)J"⟩,
  ⟨"ByHeart", "hang", "(II)I"⟩,
  ⟨"ByHeartModel", "hang", "(II)I"⟩,
  ⟨"ByHeart", "laws", "(II)I"⟩,
  ⟨"ByHeartModel", "laws", "(II)I"⟩,
  ⟨"ByHeart", "hidden", "(I)I"⟩,
  ⟨"ByHeartModel", "hidden", "(I)I"⟩,
  ⟨"ByHeart", "months", "(II)I"⟩,
  ⟨"ByHeartModel", "months", "(II)I"⟩,
  ⟨"ByHeart", "back", "(II)I"⟩,
  ⟨"ByHeartModel", "back", "(II)I"⟩,
  ⟨"ByHeart", "seed", "(I)I"⟩,
  ⟨"ByHeartModel", "seed", "(I)I"⟩,
  ⟨"ByHeart", "image", "(I)I"⟩,
  ⟨"ByHeartModel", "image", "(I)I"⟩,
  ⟨"ByHeart", "again", "(I)I"⟩,
  ⟨"ByHeartModel", "again", "(I)I"⟩,
  ⟨"ByHeart", "about", "(I)I"⟩,
  ⟨"ByHeartModel", "about", "(I)I"⟩,
  ⟨"ByHeart$Tape", "<init>", "()V"⟩,
  ⟨"ByHeart$Score", "<init>", "()V"⟩,
  ⟨"ByHeart$PieceReader", "<init>", "(LByHeart$Tape;)V"⟩,
  ⟨"ByHeart$Mind", "<init>", "()V"⟩,
  ⟨"ByHeart$Flow", "<init>", "(LByHeart$Score;)V"⟩,
  ⟨"ByHeart$Player", "<init>", "(LByHeart$Score;LByHeart$Mind;LByHeart$Flow;)V"⟩,
  ⟨"ByHeart$Search", "<init>", "(LByHeart$Score;LByHeart$Flow;)V"⟩,
  ⟨"ByHeart$Ledger", "<init>", "()V"⟩,
  ⟨"ByHeart$Rules", "<init>", "()V"⟩,
  ⟨"ByHeart$RulesReader", "<init>", "(LByHeart$Tape;LByHeart$Score;)V"⟩,
  ⟨"ByHeartModel", "clearBank", "()V"⟩,
  ⟨"ByHeartModel", "clearLearnt", "()V"⟩,
  ⟨"ByHeart$Tape", "lay", "(I)V"⟩,
  ⟨"ByHeart$PieceReader", "readAll", "()Z"⟩,
  ⟨"ByHeart$Score", "copyFrom", "(LByHeart$Score;)V"⟩,
  ⟨"ByHeart$Mind", "begin", "(LByHeart$Score;)V"⟩,
  ⟨"ByHeart$Flow", "begin", "()V"⟩,
  ⟨"ByHeart$Rules", "empty", "()V"⟩,
  ⟨"ByHeartModel", "takeTape", "(Z)V"⟩,
  ⟨"ByHeartModel", "goOn", "()V"⟩,
  ⟨"ByHeartModel", "isGood", "()Z"⟩,
  ⟨"ByHeartModel", "readLine", "()V"⟩,
  ⟨"ByHeart$Score", "hasBar", "(I)Z"⟩,
  ⟨"ByHeartModel", "isBar", "(I)Z"⟩,
  ⟨"ByHeartModel", "isIn", "(III)Z"⟩,
  ⟨"ByHeart$Score", "countAlike", "(II)I"⟩,
  ⟨"ByHeartModel", "alikeOf", "(II)I"⟩,
  ⟨"ByHeart$Score", "forksAt", "(II)Z"⟩,
  ⟨"ByHeartModel", "many", "()I"⟩,
  ⟨"ByHeartModel", "isFork", "(II)Z"⟩,
  ⟨"ByHeart$Flow", "weigh", "(I[I)V"⟩,
  ⟨"ByHeart$Flow", "goesOn", "(IZ)I"⟩,
  ⟨"ByHeart$Flow", "crossesTo", "(IIZ)I"⟩,
  ⟨"ByHeartModel", "layBehind", "(I)V"⟩,
  ⟨"ByHeart$Score", "doorFor", "(II)I"⟩,
  ⟨"ByHeartModel", "doorOf", "(I)I"⟩,
  ⟨"ByHeart$Score", "hasBars", "(II)Z"⟩,
  ⟨"ByHeart$Player", "perform", "(II)I"⟩,
  ⟨"ByHeartModel", "next", "(II)I"⟩,
  ⟨"ByHeart$Mind", "goSlowly", "(II)V"⟩,
  ⟨"ByHeartModel", "passSlow", "(II)I"⟩,
  ⟨"ByHeart$Mind", "rest", "(ILByHeart$Score;)V"⟩,
  ⟨"ByHeartModel", "passDay", "()V"⟩,
  ⟨"ByHeart", "canJolt", "(II)Z"⟩,
  ⟨"ByHeart$Flow", "weighAll", "([I)V"⟩,
  ⟨"ByHeart$Flow", "send", "(IIIII)V"⟩,
  ⟨"ByHeart$Flow", "millionths", "(I)I"⟩,
  ⟨"ByHeartModel", "layThrough", "(III)V"⟩,
  ⟨"java/lang/Integer", "bitCount", "(I)I"⟩,
  ⟨"ByHeart$Search", "putBest", "(LByHeart$Mind;IIII)V"⟩,
  ⟨"ByHeart$Search", "answer", "(I)I"⟩,
  ⟨"ByHeartModel", "findPut", "(IIII)V"⟩,
  ⟨"ByHeart$Search", "planBest", "(LByHeart$Mind;I)V"⟩,
  ⟨"ByHeartModel", "power", "(II)I"⟩,
  ⟨"ByHeartModel", "keep", "(I)V"⟩,
  ⟨"ByHeartModel", "doPlan", "(I)V"⟩,
  ⟨"ByHeartModel", "endOf", "(III)I"⟩,
  ⟨"ByHeartModel", "bring", "(I)V"⟩,
  ⟨"ByHeart$Mind", "follow", "(LByHeart$Score;I)V"⟩,
  ⟨"ByHeartModel", "isPlan", "(I)Z"⟩,
  ⟨"ByHeart$RulesReader", "readAll", "()Z"⟩,
  ⟨"ByHeart$Rules", "copyFrom", "(LByHeart$Rules;)V"⟩,
  ⟨"ByHeartModel", "readRule", "()V"⟩,
  ⟨"ByHeart", "countCutsNow", "()V"⟩,
  ⟨"ByHeart", "dayByRules", "(LByHeart$Mind;)Z"⟩,
  ⟨"ByHeartModel", "byRules", "()I"⟩,
  ⟨"ByHeart$Search", "trial", "(LByHeart$Mind;)LByHeart$Mind;"⟩,
  ⟨"ByHeart$Flow", "endOf", "(LByHeart$Mind;)I"⟩,
  ⟨"ByHeart$Rules", "planFor", "(LByHeart$Mind;[II)I"⟩,
  ⟨"ByHeartModel", "holds", "(I)Z"⟩,
  ⟨"ByHeart$Ledger", "tell", "(IIZI)I"⟩,
  ⟨"ByHeart$Ledger", "takeBack", "(II)Z"⟩,
  ⟨"ByHeart$Ledger", "countAt", "(II)I"⟩,
  ⟨"ByHeartModel", "cutsOf", "(II)I"⟩,
  ⟨"ByHeart$Ledger", "countAll", "(I)I"⟩,
  ⟨"ByHeart", "countByHeaps", "(I)I"⟩,
  ⟨"ByHeartModel", "countOf", "(I)I"⟩,
  ⟨"ByHeartModel", "byHeaps", "(I)I"⟩,
  ⟨"ByHeart", "waysAtHeaps", "(II)J"⟩,
  ⟨"ByHeart", "power", "(JI)J"⟩,
  ⟨"ByHeart", "lowestPart", "(JJI)J"⟩,
  ⟨"ByHeartModel", "isPart", "(I)Z"⟩,
  ⟨"ByHeartModel", "ways", "(II)J"⟩,
  ⟨"ByHeartModel", "common", "(JJ)J"⟩,
  ⟨"ByHeart", "letsAllPapers", "(II)Z"⟩,
  ⟨"ByHeartModel", "isLet", "(II)Z"⟩,
  ⟨"ByHeart$Mind", "faded", "(III)I"⟩,
  ⟨"ByHeart$Mind", "copyFrom", "(LByHeart$Mind;)V"⟩,
  ⟨"java/lang/String", "charAt", "(I)C"⟩,
  ⟨"ByHeart$Tape", "withLetter", "(JI)J"⟩,
  ⟨"ByHeart$Score", "empty", "()V"⟩,
  ⟨"ByHeart$Tape", "open", "(Ljava/lang/String;)V"⟩,
  ⟨"ByHeart$Tape", "isFine", "()Z"⟩,
  ⟨"ByHeart$Tape", "isAtEnd", "()Z"⟩,
  ⟨"ByHeart$PieceReader", "readHeap", "()V"⟩,
  ⟨"ByHeart$PieceReader", "readPart", "()V"⟩,
  ⟨"ByHeart$PieceReader", "withBar", "(I)I"⟩,
  ⟨"ByHeart$PieceReader", "readLaw", "()V"⟩,
  ⟨"ByHeart$PieceReader", "readPlan", "()V"⟩,
  ⟨"ByHeart$Tape", "fail", "(I)V"⟩,
  ⟨"java/util/Arrays", "fill", "([II)V"⟩,
  ⟨"ByHeartModel", "sign", "(I)I"⟩,
  ⟨"ByHeartModel", "isLetter", "(I)Z"⟩,
  ⟨"ByHeartModel", "isKept", "(J)Z"⟩,
  ⟨"ByHeartModel", "isDigit", "(I)Z"⟩,
  ⟨"ByHeartModel", "isSign", "(I)Z"⟩,
  ⟨"ByHeartModel", "isFull", "()Z"⟩,
  ⟨"ByHeartModel", "misplaced", "()V"⟩,
  ⟨"ByHeartModel", "readHeap", "()V"⟩,
  ⟨"ByHeartModel", "readPart", "()V"⟩,
  ⟨"ByHeartModel", "readSpot", "(Z)V"⟩,
  ⟨"ByHeartModel", "readLaw", "()V"⟩,
  ⟨"ByHeartModel", "readPlan", "()V"⟩,
  ⟨"ByHeartModel", "is", "(I)Z"⟩,
  ⟨"ByHeartModel", "must", "(Z)V"⟩,
  ⟨"ByHeartModel", "lookOf", "(I)J"⟩,
  ⟨"ByHeart$Player", "nextBar", "(II)I"⟩,
  ⟨"ByHeartModel", "draw", "(I)I"⟩,
  ⟨"ByHeartModel", "stop", "(I)I"⟩,
  ⟨"ByHeartModel", "growHold", "(II)V"⟩,
  ⟨"ByHeart$Mind", "grown", "(II)I"⟩,
  ⟨"ByHeart$Mind", "growHold", "(II)V"⟩,
  ⟨"ByHeartModel", "grown", "(II)I"⟩,
  ⟨"java/util/Arrays", "fill", "([JJ)V"⟩,
  ⟨"ByHeart$Flow", "spread", "(IJZ)V"⟩,
  ⟨"ByHeartModel", "stopParts", "(IJ)V"⟩,
  ⟨"ByHeartModel", "goParts", "(IJ)V"⟩,
  ⟨"ByHeart$Search", "isFree", "(LByHeart$Mind;ZI)Z"⟩,
  ⟨"ByHeart$Search", "tryPut", "(II)V"⟩,
  ⟨"ByHeart$Search", "putSecond", "(LByHeart$Mind;IIZI)V"⟩,
  ⟨"ByHeartModel", "canPut", "(ZI)Z"⟩,
  ⟨"ByHeartModel", "lift", "(ZIZ)V"⟩,
  ⟨"ByHeartModel", "tryPut", "(IIII)V"⟩,
  ⟨"ByHeart$Search", "tryDay", "(II)V"⟩,
  ⟨"ByHeart$RulesReader", "readRule", "()V"⟩,
  ⟨"ByHeartModel", "isWord", "(J)Z"⟩,
  ⟨"ByHeartModel", "e", "()V"⟩,
  ⟨"ByHeartModel", "here", "([JII)I"⟩,
  ⟨"ByHeartModel", "fails", "(II)V"⟩,
  ⟨"ByHeart$Rules", "valueOf", "(IILByHeart$Mind;[II)I"⟩,
  ⟨"ByHeartModel", "worth", "(II)I"⟩,
  ⟨"ByHeartModel", "two", "(III)I"⟩,
  ⟨"ByHeart$Ledger", "counts", "(II)Z"⟩,
  ⟨"ByHeartModel", "isKnownAt", "(III)Z"⟩,
  ⟨"ByHeart", "commonDivisor", "(JJ)J"⟩,
  ⟨"java/lang/String", "isLatin1", "()Z"⟩,
  ⟨"java/lang/StringLatin1", "charAt", "([BI)C"⟩,
  ⟨"ByHeart$Tape", "advance", "()V"⟩,
  ⟨"ByHeart$PieceReader", "beginNamed", "(II[J)Z"⟩,
  ⟨"ByHeart$PieceReader", "readLook", "()Z"⟩,
  ⟨"ByHeart$Tape", "isSign", "(C)Z"⟩,
  ⟨"ByHeart$Tape", "takeSign", "(C)V"⟩,
  ⟨"ByHeart$Tape", "takeWord", "(I)Z"⟩,
  ⟨"ByHeart$PieceReader", "takeHeap", "(I)I"⟩,
  ⟨"ByHeart$Score", "lastBarOf", "(I)I"⟩,
  ⟨"ByHeart$Tape", "atNumber", "(II)Z"⟩,
  ⟨"ByHeart$PieceReader", "takeNumber", "(III)I"⟩,
  ⟨"ByHeartModel", "fresh", "([JII)J"⟩,
  ⟨"ByHeartModel", "aHeap", "(I)I"⟩,
  ⟨"ByHeartModel", "numeral", "(II)I"⟩,
  ⟨"ByHeartModel", "after", "(JII)I"⟩,
  ⟨"ByHeart$Mind", "draw", "(I)I"⟩,
  ⟨"ByHeart$Player", "stopAt", "(I)I"⟩,
  ⟨"ByHeart$Flow", "crossingFor", "(II)I"⟩,
  ⟨"ByHeart$Flow", "halt", "(IJ)V"⟩,
  ⟨"ByHeart$Flow", "arrive", "(IJ)V"⟩,
  ⟨"ByHeart$Search", "compare", "(I)V"⟩,
  ⟨"ByHeart$RulesReader", "readEither", "(I)V"⟩,
  ⟨"ByHeart$Tape", "atName", "()Z"⟩,
  ⟨"ByHeart$Score", "planNamed", "(J)I"⟩,
  ⟨"ByHeart$Rules", "closeRule", "(I)V"⟩,
  ⟨"ByHeartModel", "pushE", "(II)V"⟩,
  ⟨"ByHeartModel", "unit", "()Z"⟩,
  ⟨"ByHeartModel", "behindUnit", "()Z"⟩,
  ⟨"ByHeart$Rules", "unitValue", "(IILByHeart$Mind;[II)I"⟩,
  ⟨"ByHeart$Rules", "joined", "(III)I"⟩,
  ⟨"ByHeartModel", "leastHold", "()I"⟩,
  ⟨"java/lang/String", "checkIndex", "(II)V"⟩,
  ⟨"ByHeart$Tape", "isLetter", "(I)Z"⟩,
  ⟨"ByHeart$Tape", "readWord", "()V"⟩,
  ⟨"ByHeart$Tape", "isDigit", "(I)Z"⟩,
  ⟨"ByHeart$Tape", "readNumber", "()V"⟩,
  ⟨"ByHeart$Tape", "readSign", "()V"⟩,
  ⟨"ByHeart$Score", "placeOf", "(J[JI)I"⟩,
  ⟨"ByHeart$Score", "heapNamed", "(J)I"⟩,
  ⟨"ByHeart$Flow", "isHeard", "(II)Z"⟩,
  ⟨"ByHeart$RulesReader", "readBoth", "(I)V"⟩,
  ⟨"ByHeart$Rules", "addStep", "(II)V"⟩,
  ⟨"ByHeartModel", "wordHere", "()I"⟩,
  ⟨"ByHeartModel", "emit", "(II)V"⟩,
  ⟨"ByHeartModel", "rankHere", "()I"⟩,
  ⟨"ByHeartModel", "isCompared", "()Z"⟩,
  ⟨"ByHeart$Rules", "leastHold", "(LByHeart$Mind;I)I"⟩,
  ⟨"jdk/internal/util/Preconditions", "checkIndex", "(IILjava/util/function/BiFunction;)I"⟩,
  ⟨"java/lang/String", "indexOf", "(I)I"⟩,
  ⟨"ByHeart$RulesReader", "readOne", "(I)V"⟩,
  ⟨"java/lang/String", "indexOf", "(II)I"⟩,
  ⟨"ByHeart$RulesReader", "readSum", "(I)V"⟩,
  ⟨"java/lang/String", "length", "()I"⟩,
  ⟨"java/lang/StringLatin1", "indexOf", "([BIII)I"⟩,
  ⟨"ByHeart$RulesReader", "readTerm", "(I)V"⟩,
  ⟨"java/lang/String", "coder", "()B"⟩,
  ⟨"java/lang/StringLatin1", "canEncode", "(I)Z"⟩,
  ⟨"java/lang/StringLatin1", "indexOfChar", "([BIII)I"⟩,
  ⟨"ByHeart$RulesReader", "readUnit", "(I)V"⟩,
  ⟨"ByHeart$Tape", "isNumber", "()Z"⟩,
  ⟨"ByHeart$RulesReader", "readInner", "(I)V"⟩,
  ⟨"ByHeart$RulesReader", "readWordUnit", "()V"⟩,
  ⟨"ByHeart$RulesReader", "kindOf", "(I)I"⟩]
def cz_y (k : Nat) : MethodName := cz_ys.getD k cz_yn
def cz_ci : List (Nat × Nat × Nat) := [(0, 225, 100000), (0, 292, 1000000), (0, 346, 4293967296), (3, 94, 1103515245), (6, 44, 65535), (11, 443, 1103515245), (11, 474, 100000), (11, 608, 1000000), (11, 633, 4293967296), (13, 265, 1431655765), (13, 266, 858993459), (13, 267, 252645135)]
def cz_cs : List (Nat × Nat × Nat) := [(4, 25, 6), (7, 29, 7), (10, 23, 4), (10, 57, 5)]
def cz_cj : List (Nat × Nat × Nat) := [(0, 320, 18446744073709551615), (0, 322, 18446744073709551614), (1, 69, 1000), (1, 103, 1000000000), (11, 224, 1751474544), (11, 226, 1885434484), (11, 228, 1718775661), (11, 230, 29807), (11, 232, 1685024626), (11, 234, 1835102827), (11, 236, 7102839), (11, 238, 1734437230), (11, 240, 1717658725), (11, 242, 427121668979), (11, 244, 2003132779), (11, 246, 1935767141), (11, 248, 6644082), (11, 250, 1886151022), (11, 252, 499984983411), (11, 254, 1936486263), (11, 256, 2003330414), (11, 258, 25711), (11, 260, 6578553), (11, 262, 1752132708), (11, 264, 1751474532), (11, 266, 1668641907), (11, 268, 465557353332), (11, 270, 6385252), (11, 272, 28530), (11, 274, 7237492), (11, 478, 1000000000), (11, 480, 1000), (11, 621, 18446744073709551615), (11, 623, 18446744073709551614)]
def cz_sg : List (Nat × Nat × Nat × Nat) := [(4, 159, 2, 1), (4, 162, 3, 1), (8, 75, 1, 1), (15, 38, 1, 0), (15, 1053, 0, 2)]
def cz_fl : List (Nat × Nat × Nat × Nat × Nat) := [(0, 10, 0, 0, 2), (0, 19, 0, 1, 2), (0, 28, 0, 2, 2), (0, 35, 0, 3, 2), (0, 39, 0, 4, 2), (0, 48, 0, 5, 2), (0, 57, 0, 6, 2), (0, 66, 0, 7, 2), (0, 73, 0, 8, 2), (0, 77, 0, 9, 2), (0, 83, 0, 10, 2), (0, 92, 0, 11, 2), (0, 96, 0, 12, 2), (0, 100, 0, 13, 0), (1, 9, 1, 1, 2), (1, 15, 1, 2, 2), (1, 18, 1, 3, 2), (1, 21, 1, 4, 2), (1, 24, 1, 5, 2), (1, 27, 1, 6, 2), (1, 30, 1, 7, 2), (1, 33, 1, 8, 2), (1, 37, 1, 9, 2), (1, 40, 1, 10, 2), (1, 43, 1, 0, 2), (2, 9, 2, 0, 2), (2, 15, 2, 1, 2), (2, 18, 2, 2, 2), (2, 22, 2, 3, 2), (2, 25, 2, 4, 2), (2, 28, 2, 5, 0), (3, 9, 3, 0, 2), (3, 15, 3, 1, 2), (3, 18, 3, 2, 2), (3, 21, 3, 3, 2), (3, 24, 3, 4, 0), (3, 28, 3, 5, 0), (3, 31, 3, 6, 0), (3, 34, 3, 7, 0), (3, 37, 3, 8, 3), (4, 12, 4, 1, 2), (4, 18, 4, 0, 2), (5, 11, 5, 3, 2), (5, 15, 5, 4, 3), (5, 19, 5, 0, 2), (5, 23, 5, 1, 2), (5, 27, 5, 2, 2), (6, 9, 6, 0, 0), (6, 15, 6, 1, 0), (6, 18, 6, 2, 0), (6, 21, 6, 3, 2), (6, 25, 6, 4, 2), (6, 28, 6, 5, 2), (6, 31, 6, 6, 2), (7, 12, 7, 2, 2), (7, 18, 7, 0, 2), (7, 22, 7, 1, 2), (8, 9, 8, 0, 0), (8, 15, 8, 1, 2), (8, 19, 8, 2, 2), (8, 23, 8, 3, 0), (8, 26, 8, 4, 2), (8, 29, 8, 5, 2), (8, 32, 8, 6, 0), (8, 35, 8, 7, 2), (8, 38, 8, 8, 2), (8, 41, 8, 9, 2), (8, 44, 8, 10, 0), (8, 47, 8, 11, 2), (8, 50, 8, 12, 2), (8, 53, 8, 13, 2), (8, 56, 8, 14, 2), (8, 59, 8, 15, 2), (8, 62, 8, 16, 0), (8, 65, 8, 17, 0), (8, 68, 8, 18, 3), (8, 72, 8, 19, 2), (9, 11, 9, 2, 2), (9, 17, 9, 3, 2), (9, 21, 9, 4, 2), (9, 24, 9, 5, 0), (9, 28, 9, 6, 0), (9, 31, 9, 7, 0), (9, 34, 9, 0, 2), (9, 38, 9, 1, 2), (10, 9, 10, 0, 2), (10, 15, 10, 1, 2), (10, 19, 10, 2, 0), (10, 25, 10, 3, 2), (10, 29, 10, 4, 0), (10, 32, 10, 5, 0), (10, 35, 10, 6, 0), (10, 38, 10, 7, 0), (10, 41, 10, 8, 1), (10, 45, 10, 9, 0), (10, 48, 10, 10, 0), (10, 51, 10, 11, 0), (10, 54, 10, 12, 0), (11, 7, 11, 0, 2), (11, 13, 11, 1, 2), (11, 16, 11, 5, 0), (11, 20, 11, 12, 2), (11, 24, 11, 13, 2), (11, 27, 11, 14, 2), (11, 30, 11, 15, 2), (11, 33, 11, 16, 2), (11, 36, 11, 17, 2), (11, 39, 11, 18, 2), (11, 42, 11, 19, 2), (11, 45, 11, 20, 2), (11, 48, 11, 21, 2), (11, 51, 11, 22, 2), (11, 55, 11, 23, 2), (11, 58, 11, 24, 2), (11, 61, 11, 25, 2), (11, 65, 11, 26, 2), (11, 68, 11, 27, 2), (11, 71, 11, 28, 2), (11, 74, 11, 29, 2), (11, 77, 11, 30, 2), (11, 80, 11, 31, 2), (11, 83, 11, 32, 2), (11, 86, 11, 33, 2), (11, 89, 11, 34, 2), (11, 92, 11, 35, 2), (11, 95, 11, 36, 2), (11, 98, 11, 37, 2), (11, 101, 11, 40, 2), (11, 104, 11, 41, 2), (11, 107, 11, 42, 2), (11, 110, 11, 43, 2), (11, 113, 11, 44, 2), (11, 116, 11, 45, 2), (11, 119, 11, 47, 0), (11, 122, 11, 48, 2), (11, 125, 11, 57, 2), (11, 128, 11, 58, 2), (11, 131, 11, 59, 2), (11, 134, 11, 65, 2), (11, 137, 11, 66, 2), (11, 140, 11, 67, 2), (11, 143, 11, 68, 2), (11, 146, 11, 69, 2), (11, 149, 11, 70, 2), (11, 152, 11, 71, 2), (11, 155, 11, 72, 2), (11, 158, 11, 80, 2), (11, 161, 11, 81, 2), (11, 164, 11, 82, 2), (11, 167, 11, 83, 2), (11, 170, 11, 84, 2), (11, 173, 11, 85, 2), (11, 176, 11, 86, 2), (11, 179, 11, 87, 2), (11, 182, 11, 88, 2), (11, 185, 11, 92, 2), (11, 188, 11, 93, 2), (11, 191, 11, 94, 2), (11, 194, 11, 95, 2), (11, 197, 11, 96, 2), (11, 200, 11, 97, 2), (11, 203, 11, 98, 2), (11, 206, 11, 99, 2), (11, 212, 11, 51, 0), (11, 218, 11, 3, 0), (11, 221, 11, 4, 0), (11, 276, 11, 11, 3), (11, 280, 11, 7, 0), (11, 283, 11, 6, 0), (11, 290, 11, 8, 0), (11, 297, 11, 10, 1), (11, 308, 11, 9, 0), (11, 339, 11, 2, 0), (11, 342, 11, 39, 0), (11, 348, 11, 38, 0), (11, 354, 11, 46, 0), (11, 357, 11, 89, 0), (11, 360, 11, 90, 0), (11, 363, 11, 77, 0), (11, 366, 11, 78, 0), (11, 430, 11, 49, 0), (11, 433, 11, 50, 0), (11, 444, 11, 53, 0), (11, 447, 11, 54, 0), (11, 450, 11, 55, 0), (11, 453, 11, 56, 0), (11, 456, 11, 52, 0), (11, 497, 11, 61, 0), (11, 500, 11, 60, 0), (11, 503, 11, 62, 0), (11, 527, 11, 63, 0), (11, 539, 11, 64, 0), (11, 542, 11, 73, 0), (11, 545, 11, 74, 0), (11, 548, 11, 79, 0), (11, 557, 11, 76, 0), (11, 560, 11, 75, 0), (11, 587, 11, 91, 0), (15, 9, 100, 0, 2), (15, 15, 100, 1, 0)]
def cz_fln : List (Nat × Nat × Nat × Nat × Nat) := [(0, 104, 10, 2, 0), (0, 115, 4, 1, 2), (0, 124, 5, 4, 3), (0, 128, 2, 5, 0), (0, 134, 3, 8, 3), (0, 137, 8, 0, 0), (0, 140, 10, 11, 0), (0, 143, 10, 12, 0), (0, 150, 3, 0, 2), (0, 153, 3, 1, 2), (0, 156, 3, 2, 2), (0, 159, 3, 3, 2), (0, 162, 8, 2, 2), (0, 165, 3, 4, 0), (0, 168, 3, 5, 0), (0, 171, 8, 6, 0), (0, 174, 8, 8, 2), (0, 177, 8, 9, 2), (0, 192, 1, 5, 2), (0, 212, 8, 19, 2), (0, 219, 5, 3, 2), (0, 222, 3, 6, 0), (0, 257, 8, 10, 0), (0, 269, 7, 2, 2), (0, 275, 6, 0, 0), (0, 314, 8, 3, 0), (0, 317, 8, 5, 2), (0, 353, 2, 0, 2), (0, 355, 2, 1, 2), (0, 362, 2, 2, 2), (0, 366, 3, 7, 0), (0, 372, 6, 1, 0), (1, 47, 8, 0, 0), (1, 57, 8, 19, 2), (1, 71, 3, 0, 2), (1, 80, 3, 4, 0), (1, 83, 3, 5, 0), (3, 47, 8, 16, 0), (3, 50, 8, 17, 0), (3, 65, 8, 19, 2), (3, 68, 8, 0, 0), (3, 75, 8, 12, 2), (3, 78, 8, 13, 2), (3, 81, 8, 14, 2), (3, 84, 8, 15, 2), (4, 40, 10, 7, 0), (4, 50, 8, 16, 0), (4, 57, 8, 17, 0), (4, 76, 10, 8, 1), (4, 84, 8, 3, 0), (4, 87, 8, 4, 2), (4, 95, 8, 5, 2), (4, 99, 8, 0, 0), (4, 113, 8, 1, 2), (4, 116, 8, 2, 2), (4, 119, 8, 6, 0), (4, 122, 8, 7, 2), (4, 132, 8, 8, 2), (4, 135, 8, 9, 2), (4, 149, 10, 9, 0), (4, 152, 8, 18, 3), (4, 156, 8, 19, 2), (4, 169, 8, 10, 0), (4, 172, 8, 11, 2), (4, 175, 8, 12, 2), (4, 178, 8, 13, 2), (4, 181, 8, 14, 2), (4, 184, 8, 15, 2), (5, 41, 3, 0, 2), (5, 56, 1, 5, 2), (5, 62, 3, 5, 0), (5, 69, 8, 19, 2), (5, 78, 8, 0, 0), (5, 81, 3, 4, 0), (6, 52, 3, 6, 0), (6, 61, 3, 0, 2), (6, 64, 3, 1, 2), (7, 47, 6, 0, 0), (7, 65, 10, 8, 1), (7, 88, 10, 7, 0), (7, 111, 6, 1, 0), (7, 117, 10, 9, 0), (7, 130, 8, 0, 0), (9, 53, 3, 0, 2), (9, 62, 8, 0, 0), (9, 71, 3, 4, 0), (9, 74, 3, 5, 0), (9, 104, 8, 10, 0)]
def cz_nw : List (Nat × Nat × Nat) := [(0, 7, 10), (0, 16, 8), (0, 23, 4), (0, 32, 3), (0, 43, 1), (0, 52, 5), (0, 61, 9), (0, 70, 2), (0, 80, 6), (0, 87, 7), (4, 9, 8), (7, 9, 6), (9, 9, 3), (12, 7, 0), (12, 10, 11)]
def cz_an : List (Nat × Nat) := [(0, 32), (9, 9)]
def cz_oi : List (Nat × Nat) := [(0, 1), (1, 3), (2, 3), (3, 3), (4, 3), (5, 3), (6, 3), (7, 3), (8, 3), (9, 3), (10, 3), (11, 1)]
def cz_ac : List (Nat × Nat) := [(3, 51), (6, 34), (8, 78), (9, 47)]
def cz_mv : List (Nat × Nat × Nat × Nat × Nat) := [(0, 107, 97, 1, 20), (0, 111, 98, 0, 14), (0, 116, 99, 1, 18), (0, 119, 100, 1, 13), (0, 122, 101, 0, 11), (0, 131, 102, 0, 16), (0, 146, 107, 1, 18), (0, 180, 110, 2, 18), (0, 184, 112, 2, 18), (0, 188, 115, 2, 11), (0, 195, 116, 2, 11), (0, 199, 117, 3, 11), (0, 203, 119, 2, 18), (0, 206, 121, 2, 18), (0, 209, 122, 2, 15), (0, 215, 124, 2, 13), (0, 226, 126, 2, 13), (0, 230, 128, 2, 10), (0, 233, 129, 1, 11), (0, 237, 130, 5, 11), (0, 241, 131, 1, 11), (0, 250, 134, 5, 19), (0, 254, 135, 1, 19), (0, 260, 137, 2, 19), (0, 264, 143, 2, 13), (0, 268, 145, 0, 17), (0, 272, 146, 1, 16), (0, 278, 148, 0, 10), (0, 281, 149, 1, 10), (0, 285, 157, 2, 12), (0, 288, 153, 3, 16), (0, 293, 151, 1, 19), (0, 297, 152, 1, 11), (0, 301, 155, 4, 12), (0, 305, 156, 2, 12), (0, 308, 159, 1, 12), (0, 311, 160, 1, 10), (0, 324, 163, 2, 10), (0, 347, 169, 2, 10), (0, 350, 227, 2, 12), (0, 369, 172, 1, 13), (1, 53, 110, 2, 18), (1, 65, 115, 2, 11), (1, 76, 129, 1, 11), (1, 86, 130, 5, 11), (1, 90, 131, 1, 11), (1, 100, 119, 2, 18), (1, 105, 209, 3, 11), (1, 109, 249, 2, 11), (1, 113, 250, 2, 11), (1, 116, 116, 2, 11), (1, 120, 270, 2, 11), (2, 32, 227, 2, 12), (3, 61, 206, 2, 13), (3, 87, 124, 2, 13), (3, 90, 126, 2, 13), (4, 22, 175, 0, 18), (4, 27, 176, 1, 20), (4, 33, 177, 0, 20), (4, 37, 178, 0, 20), (4, 44, 179, 0, 14), (4, 47, 180, 0, 14), (4, 53, 181, 1, 14), (4, 60, 182, 0, 14), (4, 63, 183, 0, 14), (4, 66, 184, 1, 20), (4, 70, 232, 0, 20), (4, 73, 253, 0, 20), (4, 91, 233, 3, 14), (4, 102, 234, 0, 14), (4, 105, 235, 1, 20), (4, 109, 236, 1, 20), (4, 125, 237, 1, 20), (4, 129, 238, 1, 14), (4, 138, 239, 1, 18), (4, 141, 269, 1, 18), (4, 145, 240, 2, 20), (4, 165, 241, 3, 14), (5, 37, 201, 2, 15), (5, 46, 115, 2, 11), (5, 52, 246, 1, 13), (5, 59, 247, 1, 15), (5, 66, 248, 2, 11), (5, 74, 206, 2, 13), (5, 84, 119, 2, 18), (5, 87, 270, 2, 11), (6, 40, 224, 5, 16), (7, 26, 102, 0, 16), (7, 31, 176, 1, 20), (7, 37, 177, 0, 20), (7, 41, 178, 0, 20), (7, 44, 219, 0, 17), (7, 51, 184, 1, 20), (7, 55, 237, 1, 20), (7, 59, 252, 1, 17), (7, 62, 253, 0, 20), (7, 69, 254, 1, 18), (7, 75, 232, 0, 20), (7, 78, 236, 1, 20), (7, 82, 255, 1, 16), (7, 85, 271, 1, 17), (7, 91, 272, 2, 16), (7, 95, 280, 1, 17), (7, 98, 282, 1, 17), (7, 101, 235, 1, 20), (7, 105, 285, 1, 17), (7, 108, 289, 1, 17), (7, 114, 290, 0, 20), (7, 120, 291, 1, 17), (7, 123, 292, 0, 17), (7, 133, 240, 2, 20), (9, 43, 172, 1, 13), (9, 56, 129, 1, 11), (9, 77, 213, 2, 19), (9, 81, 214, 5, 19), (9, 85, 130, 5, 11), (9, 89, 131, 1, 11), (9, 93, 251, 1, 19), (9, 97, 218, 2, 19), (9, 100, 152, 1, 11), (9, 107, 143, 2, 13), (10, 59, 173, 1, 110), (10, 69, 232, 0, 20), (10, 72, 263, 1, 20), (10, 76, 264, 0, 20), (10, 79, 265, 1, 20), (10, 82, 266, 0, 20), (10, 85, 267, 0, 20), (10, 88, 184, 1, 20), (10, 92, 279, 1, 110), (10, 96, 235, 1, 20), (11, 209, 95, 0, 21), (11, 215, 96, 0, 21), (11, 286, 186, 1, 21), (11, 311, 190, 1, 21), (11, 314, 223, 2, 21), (11, 318, 105, 0, 21), (11, 322, 104, 0, 21), (11, 325, 192, 0, 21), (11, 328, 220, 1, 21), (11, 331, 199, 1, 21), (11, 335, 244, 2, 21), (11, 345, 103, 1, 21), (11, 351, 106, 0, 21), (11, 369, 191, 0, 21), (11, 372, 193, 0, 21), (11, 375, 194, 0, 21), (11, 378, 195, 1, 21), (11, 381, 196, 0, 21), (11, 384, 197, 0, 21), (11, 387, 198, 1, 21), (11, 390, 222, 3, 21), (11, 394, 242, 3, 21), (11, 398, 243, 1, 21), (11, 401, 245, 3, 21), (11, 409, 113, 0, 21), (11, 416, 108, 1, 21), (11, 419, 200, 1, 21), (11, 423, 111, 2, 21), (11, 426, 114, 2, 21), (11, 436, 118, 1, 21), (11, 440, 120, 1, 21), (11, 459, 123, 2, 21), (11, 462, 202, 1, 21), (11, 465, 203, 1, 21), (11, 468, 204, 2, 21), (11, 471, 125, 2, 21), (11, 475, 127, 0, 21), (11, 482, 210, 2, 21), (11, 486, 211, 2, 21), (11, 489, 132, 3, 21), (11, 493, 141, 3, 21), (11, 506, 215, 2, 21), (11, 510, 216, 3, 21), (11, 514, 217, 4, 21), (11, 518, 136, 4, 21), (11, 521, 144, 1, 21), (11, 524, 140, 1, 21), (11, 533, 139, 1, 21), (11, 536, 142, 1, 21), (11, 551, 147, 0, 21), (11, 554, 221, 0, 21), (11, 563, 256, 2, 21), (11, 566, 257, 0, 21), (11, 569, 258, 0, 21), (11, 572, 273, 0, 21), (11, 575, 274, 2, 21), (11, 578, 275, 0, 21), (11, 581, 276, 0, 21), (11, 584, 261, 0, 21), (11, 590, 158, 2, 21), (11, 593, 225, 2, 21), (11, 599, 154, 1, 21), (11, 602, 50, 0, 21), (11, 605, 150, 0, 21), (11, 612, 161, 1, 21), (11, 615, 162, 1, 21), (11, 634, 170, 2, 21), (12, 13, 3, 5, 10), (12, 17, 4, 5, 21), (12, 18, 5, 1, 10), (12, 22, 6, 1, 21), (12, 23, 7, 0, 10), (12, 27, 8, 0, 21), (12, 28, 9, 1, 10), (12, 31, 10, 1, 21), (12, 32, 11, 2, 10), (12, 36, 12, 2, 21), (12, 37, 13, 2, 10), (12, 40, 14, 2, 21), (12, 41, 15, 3, 10), (12, 45, 16, 3, 21), (12, 46, 17, 2, 10), (12, 49, 18, 2, 21), (12, 50, 19, 1, 10), (12, 53, 20, 1, 21), (12, 54, 21, 0, 10), (12, 57, 22, 0, 21), (12, 58, 23, 2, 10), (12, 61, 24, 2, 21), (12, 62, 25, 1, 10), (12, 65, 26, 1, 21), (12, 66, 27, 2, 10), (12, 69, 28, 2, 21), (12, 70, 29, 2, 10), (12, 73, 30, 2, 21), (12, 74, 31, 1, 10), (12, 77, 32, 1, 21), (12, 78, 33, 1, 10), (12, 81, 34, 1, 21), (12, 82, 35, 4, 10), (12, 86, 36, 4, 21), (12, 87, 37, 5, 10), (12, 90, 38, 5, 21), (12, 91, 39, 2, 10), (12, 94, 40, 2, 21), (12, 95, 41, 1, 10), (12, 98, 42, 1, 21), (12, 99, 43, 0, 10), (12, 102, 44, 0, 21), (12, 103, 45, 1, 10), (12, 106, 46, 1, 21), (12, 107, 47, 1, 10), (12, 110, 48, 1, 21), (12, 111, 49, 0, 10), (12, 114, 50, 0, 21), (12, 115, 51, 1, 10), (12, 118, 52, 1, 21), (12, 119, 53, 3, 10), (12, 123, 54, 3, 21), (12, 124, 55, 3, 10), (12, 128, 56, 3, 21), (12, 129, 57, 2, 10), (12, 133, 58, 2, 21), (12, 134, 59, 1, 10), (12, 137, 60, 1, 21), (12, 138, 61, 2, 10), (12, 141, 62, 2, 21), (12, 142, 63, 2, 10), (12, 145, 64, 2, 21), (12, 146, 65, 2, 10), (12, 150, 66, 2, 21), (12, 151, 67, 2, 10), (12, 154, 68, 2, 21), (12, 155, 69, 2, 10), (12, 158, 70, 2, 21), (12, 159, 71, 1, 10), (12, 162, 72, 1, 21), (12, 163, 73, 2, 10), (12, 166, 74, 2, 21), (12, 167, 75, 2, 10), (12, 170, 76, 2, 21), (12, 171, 77, 1, 10), (12, 174, 78, 1, 21), (12, 175, 79, 1, 10), (12, 178, 80, 1, 21), (12, 179, 81, 1, 10), (12, 182, 82, 1, 21), (12, 183, 83, 1, 10), (12, 186, 84, 1, 21), (15, 335, 286, 0, 110), (15, 492, 230, 0, 110), (15, 505, 283, 0, 110), (15, 633, 281, 2, 110)]
def cz_ms : List (Nat × Nat × Nat × Nat × Nat) := [(0, 9, 85, 0, 20), (0, 18, 86, 0, 18), (0, 25, 87, 1, 14), (0, 45, 89, 1, 11), (0, 54, 90, 3, 15), (0, 63, 91, 2, 19), (0, 89, 94, 2, 17), (4, 11, 86, 0, 18), (12, 9, 1, 0, 10), (12, 12, 2, 0, 21)]
def cz_msn : List (Nat × Nat × Nat × Nat × Nat) := [(0, 34, 88, 0, 13), (0, 72, 92, 0, 12), (0, 82, 93, 0, 16), (7, 11, 93, 0, 16), (9, 42, 88, 0, 13)]
def cz_mt : List (Nat × Nat × Nat × Nat × Nat) := [(0, 245, 133, 1, 0), (0, 328, 164, 2, 0), (0, 332, 165, 3, 0), (0, 342, 229, 2, 0), (0, 358, 171, 3, 0), (1, 94, 208, 2, 0), (3, 41, 185, 2, 0), (3, 57, 205, 2, 0), (3, 71, 171, 3, 0), (4, 80, 268, 3, 0), (5, 31, 185, 2, 0), (6, 45, 259, 5, 0), (6, 48, 260, 3, 0), (6, 57, 277, 2, 0), (7, 126, 293, 1, 0), (8, 84, 268, 3, 0), (9, 67, 212, 3, 0), (10, 65, 174, 2, 0), (11, 293, 187, 1, 0), (11, 301, 188, 1, 0), (11, 305, 189, 1, 0), (11, 405, 109, 3, 0), (11, 413, 207, 2, 0), (11, 530, 138, 2, 0), (11, 596, 226, 3, 0), (11, 609, 228, 3, 0), (11, 618, 166, 1, 0), (11, 625, 167, 2, 0), (11, 629, 168, 2, 0), (15, 495, 231, 2, 0), (15, 637, 284, 4, 0), (15, 1059, 278, 3, 0), (16, 9, 262, 2, 0), (16, 88, 287, 1, 0), (16, 95, 288, 4, 0)]
def cz_mm : List (Nat × Nat × Nat) := [(0, 336, 6), (1, 60, 5), (6, 67, 5), (16, 38, 5), (16, 92, 4)]
theorem cz_ci_ok : ∀ q ∈ cz_ci, Cond.constant (cz_own q.1) q.2.1 (Int32.ofNat q.2.2) ∈ lw_tbl := pz_inm cz_ci (fun q => Cond.constant (cz_own q.1) q.2.1 (Int32.ofNat q.2.2)) [1000, 1244, 1324, 962, 1229, 1885, 1913, 2066, 2122, 1056, 1057, 1058] (by decide +kernel)
theorem cz_cj_ok : ∀ q ∈ cz_cj, Cond.constantLong (cz_own q.1) q.2.1 (Int64.ofNat q.2.2) ∈ lw_tbl := pz_inm cz_cj (fun q => Cond.constantLong (cz_own q.1) q.2.1 (Int64.ofNat q.2.2)) [1302, 1303, 1030, 1029, 1701, 1702, 1703, 1704, 1705, 1706, 1707, 1708, 1709, 1710, 1711, 1712, 1713, 1714, 1715, 1716, 1717, 1718, 1719, 1720, 1721, 1722, 1723, 1724, 1725, 1726, 1926, 1927, 2110, 2111] (by decide +kernel)
def cz_T (ci : Nat) : u_T := ([cz_T0, cz_T1, cz_T2, cz_T3, cz_T4, cz_T5, cz_T6, cz_T7, cz_T8, cz_T9, cz_T10, cz_T11] : List u_T).getD ci cz_T0
def cz_N (ci : Nat) : Nat := ([14, 11, 6, 9, 2, 5, 7, 3, 20, 8, 13, 100] : List Nat).getD ci 0
def cz_y0t : Nat → FieldType := fun _ => .int
def cz_yt (ci : Nat) : Nat → FieldType := ([cz_y0, cz_y1, cz_y2, cz_y3, cz_y4, cz_y5, cz_y6, cz_y7, cz_y8, cz_y9, cz_y10, cz_y11] : List (Nat → FieldType)).getD ci cz_y0t
def cz_fo : List (Nat × Nat × Nat × Nat × Nat) := cz_fl.filter (fun q => q.2.2.1 != 100)
def cz_fs : List (Nat × Nat × Nat × Nat × Nat) := cz_fl.filter (fun q => q.2.2.1 == 100)
theorem cz_fo_ok : ∀ q ∈ cz_fo, Cond.fieldLink (cz_own q.1) q.2.1 (cz_T q.2.2.1 q.2.2.2.1).1 (cz_T q.2.2.1 q.2.2.2.1).2.1 (cz_T q.2.2.1 q.2.2.2.1).2.2.1 ∈ lw_tbl := pz_inm cz_fo (fun q => Cond.fieldLink (cz_own q.1) q.2.1 (cz_T q.2.2.1 q.2.2.2.1).1 (cz_T q.2.2.1 q.2.2.2.1).2.1 (cz_T q.2.2.1 q.2.2.2.1).2.2.1) [606, 607, 608, 609, 610, 611, 612, 613, 614, 615, 616, 617, 618, 619, 433, 434, 435, 436, 437, 440, 441, 442, 443, 444, 432, 531, 533, 535, 537, 538, 539, 376, 382, 385, 387, 389, 394, 399, 402, 404, 363, 362, 477, 479, 474, 475, 476, 561, 564, 567, 568, 569, 570, 571, 597, 595, 596, 248, 256, 258, 261, 264, 266, 269, 272, 274, 277, 280, 284, 286, 289, 292, 295, 298, 301, 304, 306, 502, 503, 504, 505, 506, 507, 500, 501, 186, 187, 188, 190, 191, 192, 193, 194, 197, 200, 203, 204, 206, 1378, 1379, 1383, 1390, 1391, 1392, 1393, 1394, 1395, 1396, 1397, 1398, 1399, 1400, 1401, 1402, 1403, 1404, 1405, 1406, 1407, 1408, 1409, 1410, 1411, 1412, 1413, 1414, 1415, 1418, 1419, 1420, 1421, 1422, 1423, 1425, 1426, 1435, 1436, 1437, 1443, 1444, 1445, 1446, 1447, 1448, 1449, 1450, 1458, 1459, 1460, 1461, 1462, 1463, 1464, 1465, 1466, 1470, 1471, 1472, 1473, 1474, 1475, 1476, 1477, 1429, 1381, 1382, 1389, 1385, 1384, 1386, 1388, 1387, 1380, 1417, 1416, 1424, 1467, 1468, 1455, 1456, 1427, 1428, 1431, 1432, 1433, 1434, 1430, 1439, 1438, 1440, 1441, 1442, 1451, 1452, 1457, 1454, 1453, 1469] (by decide +kernel)
theorem cz_fn_ok : ∀ q ∈ cz_fln, Cond.fieldLinkNest (cz_own q.1) q.2.1 (cz_T q.2.2.1 q.2.2.2.1).1 (cz_T q.2.2.1 q.2.2.2.1).2.1 (cz_T q.2.2.1 q.2.2.2.1).2.2.1 "ByHeart" ∈ lw_tbl := pz_inm cz_fln (fun q => Cond.fieldLinkNest (cz_own q.1) q.2.1 (cz_T q.2.2.1 q.2.2.2.1).1 (cz_T q.2.2.1 q.2.2.2.1).2.1 (cz_T q.2.2.1 q.2.2.2.1).2.2.1 "ByHeart") [189, 364, 480, 540, 405, 252, 205, 207, 379, 383, 386, 388, 260, 392, 397, 271, 276, 279, 439, 311, 478, 401, 283, 598, 563, 263, 268, 532, 534, 536, 403, 566, 249, 307, 381, 393, 398, 299, 302, 309, 254, 287, 290, 293, 296, 195, 300, 303, 198, 262, 265, 267, 251, 257, 259, 270, 273, 275, 278, 201, 305, 310, 282, 285, 288, 291, 294, 297, 377, 438, 395, 308, 250, 390, 400, 380, 384, 562, 199, 196, 565, 202, 255, 378, 253, 391, 396, 281] (by decide +kernel)
def cz_sf (j : Nat) : String × String := if j = 0 then ("value", "[B") else ("coder", "B")
theorem cz_fs_ok : ∀ q ∈ cz_fs, Cond.fieldLink (cz_own q.1) q.2.1 "java/lang/String" (cz_sf q.2.2.2.1).1 (cz_sf q.2.2.2.1).2 ∈ lw_tbl := pz_inm cz_fs (fun q => Cond.fieldLink (cz_own q.1) q.2.1 "java/lang/String" (cz_sf q.2.2.2.1).1 (cz_sf q.2.2.2.1).2) [2168, 2167] (by decide +kernel)
def pz_kd (t : FieldType) : Nat := match t with
  | .long => 1
  | .object _ => 2
  | .array _ => 2
  | .boolean => 3
  | _ => 0
theorem cz_fk : ∀ q ∈ cz_fo ++ cz_fln, q.2.2.1 < 12 ∧ q.2.2.2.1 < cz_N q.2.2.1 ∧ q.2.2.2.2 = pz_kd (cz_yt q.2.2.1 q.2.2.2.1) ∧ cz_own q.2.2.1 = (cz_T q.2.2.1 q.2.2.2.1).1 := by decide +kernel
theorem cz_nk : ∀ ci, ci < 12 → ∀ j, j < cz_N ci → cz_yt ci j = .int ∨ cz_yt ci j = .long ∨ cz_yt ci j = .boolean ∨ pz_kd (cz_yt ci j) = 2 := by decide +kernel
def cz_sn (a c : Nat) : String × String × String := if c = 0 then ("java/lang/String", "COMPACT_STRINGS", "Z") else if c = 2 then ("jdk/internal/util/Preconditions", "SIOOBE_FORMATTER", "Ljava/util/function/BiFunction;") else if a = 1 then ("ByHeart", "LAW_UNTOLD", "[I") else if a = 2 then ("ByHeart", "LAW_LEAST", "[I") else ("ByHeart", "LAW_MOST", "[I")
theorem cz_sg_v : ∀ q ∈ cz_sg, q.2.2.2 = 0 ∧ q.2.2.1 = 1 ∨ q.2.2.2 = 1 ∧ (q.2.2.1 = 1 ∨ q.2.2.1 = 2 ∨ q.2.2.1 = 3) ∨ q.2.2.2 = 2 := by decide +kernel
def cz_sgA : List (Nat × Nat × Nat × Nat) := cz_sg.filter (fun q => q.2.2.2 != 1)
def cz_sgB : List (Nat × Nat × Nat × Nat) := cz_sg.filter (fun q => q.2.2.2 == 1)
theorem cz_sgA_ok : ∀ q ∈ cz_sgA, Cond.fieldLink (cz_own q.1) q.2.1 (cz_sn q.2.2.1 q.2.2.2).1 (cz_sn q.2.2.1 q.2.2.2).2.1 (cz_sn q.2.2.1 q.2.2.2).2.2 ∈ lw_tbl := pz_inm cz_sgA (fun q => Cond.fieldLink (cz_own q.1) q.2.1 (cz_sn q.2.2.1 q.2.2.2).1 (cz_sn q.2.2.1 q.2.2.2).2.1 (cz_sn q.2.2.1 q.2.2.2).2.2) [151, 159] (by decide +kernel)
theorem cz_sgB_ok : ∀ q ∈ cz_sgB, Cond.fieldLinkNest (cz_own q.1) q.2.1 (cz_sn q.2.2.1 q.2.2.2).1 (cz_sn q.2.2.1 q.2.2.2).2.1 (cz_sn q.2.2.1 q.2.2.2).2.2 "ByHeart" ∈ lw_tbl := pz_inm cz_sgB (fun q => Cond.fieldLinkNest (cz_own q.1) q.2.1 (cz_sn q.2.2.1 q.2.2.2).1 (cz_sn q.2.2.1 q.2.2.2).2.1 (cz_sn q.2.2.1 q.2.2.2).2.2 "ByHeart") [843, 845, 243] (by decide +kernel)
def cz_str : List (String × Nat × String × Nat) := [("ByHeart$Tape", 23, "", 4), ("ByHeart$Tape", 57, "heap part from to   door mark law  gain fade crossweak save ear  plan timesslow when do   day  hold head cuts leastand  or   not  ", 5), ("ByHeart$PieceReader", 25, ";", 6), ("ByHeart$RulesReader", 29, ";()<>=+-*", 7)]
theorem cz_cs_ok : ∀ q ∈ cz_cs, ∃ r ∈ cz_str, r.1 = cz_own q.1 ∧ r.2.1 = q.2.1 ∧ r.2.2.2 = q.2.2 := by decide +kernel
theorem cz_nw_ok : ∀ q ∈ cz_nw, Cond.classLink (cz_own q.1) q.2.1 (cz_own q.2.2) ∈ lw_tbl := pz_inm cz_nw (fun q => Cond.classLink (cz_own q.1) q.2.1 (cz_own q.2.2)) [135, 237, 354, 370, 426, 468, 492, 525, 555, 587, 360, 593, 498, 127, 1364] (by decide +kernel)
theorem cz_nw_in : ∀ q ∈ cz_nw, Cond.instantiable (cz_own q.2.2) (cz_N q.2.2) ∈ lw_tbl := pz_inm cz_nw (fun q => Cond.instantiable (cz_own q.2.2) (cz_N q.2.2)) [136, 238, 355, 371, 427, 469, 493, 526, 556, 588, 238, 556, 371, 128, 1365] (by decide +kernel)
theorem cz_nw_ii : ∀ q ∈ cz_nw, Cond.initialized (cz_own q.2.2) ∈ lw_tbl := pz_inm cz_nw (fun q => Cond.initialized (cz_own q.2.2)) [107, 112, 114, 115, 116, 117, 118, 119, 120, 121, 112, 120, 115, 106, 122] (by decide +kernel)
theorem cz_nw_lt : ∀ q ∈ cz_nw, q.2.2 < 12 := by decide +kernel
theorem cz_an_ok : ∀ q ∈ cz_an, Cond.classLink (cz_own q.1) q.2 "ByHeart$Mind" ∈ lw_tbl := pz_inm cz_an (fun q => Cond.classLink (cz_own q.1) q.2 "ByHeart$Mind") [370, 498] (by decide +kernel)
theorem cz_oi_ok : ∀ q ∈ cz_oi, Cond.methodLink (cz_own q.1) q.2 Lib.objectInit ∈ lw_tbl := pz_inm cz_oi (fun q => Cond.methodLink (cz_own q.1) q.2 Lib.objectInit) [132, 431, 530, 375, 359, 473, 560, 592, 242, 497, 140, 1369] (by decide +kernel)
theorem cz_ac_ok : ∀ q ∈ cz_ac, Cond.methodLink (cz_own q.1) q.2 arraycopyName ∈ lw_tbl := pz_inm cz_ac (fun q => Cond.methodLink (cz_own q.1) q.2 arraycopyName) [1098, 1200, 245, 1077] (by decide +kernel)
def cz_mn (z : Nat) : MethodName := if z = 4 then Lib.Math.max.name else if z = 5 then Lib.Math.min.name else Lib.MathLoose.abs_long.x
theorem cz_mm_z : ∀ q ∈ cz_mm, q.2.2 = 4 ∨ q.2.2 = 5 ∨ q.2.2 = 6 := by decide +kernel
theorem cz_mm_ok : ∀ q ∈ cz_mm, Cond.methodLink (cz_own q.1) q.2.1 (cz_mn q.2.2) ∈ lw_tbl := pz_inm cz_mm (fun q => Cond.methodLink (cz_own q.1) q.2.1 (cz_mn q.2.2)) [1314, 923, 1236, 731, 728] (by decide +kernel)
theorem cz_mv_ok : ∀ q ∈ cz_mv, Cond.methodLink (cz_own q.1) q.2.1 (cz_y q.2.2.1) ∈ lw_tbl := pz_inm cz_mv (fun q => Cond.methodLink (cz_own q.1) q.2.1 (cz_y q.2.2.1)) [653, 665, 855, 859, 866, 874, 886, 902, 907, 919, 924, 928, 936, 944, 948, 987, 1001, 1012, 1016, 1021, 1045, 1059, 1082, 1090, 1120, 1125, 1196, 1205, 1217, 1209, 1221, 1245, 1249, 1262, 1274, 1290, 1294, 1304, 1329, 1333, 1355, 870, 1020, 1107, 1108, 1109, 1028, 1031, 1035, 1040, 1044, 1039, 1213, 991, 1114, 1115, 669, 674, 772, 776, 780, 810, 831, 839, 851, 788, 789, 790, 784, 797, 801, 805, 814, 818, 827, 822, 835, 847, 953, 957, 958, 963, 972, 976, 967, 968, 1225, 1129, 1131, 1132, 1133, 1134, 1138, 1139, 1140, 1187, 1188, 1152, 1178, 1192, 1144, 1153, 1148, 1157, 1173, 1161, 1165, 1169, 1174, 1179, 1186, 1094, 1063, 1067, 1078, 1071, 1072, 1073, 1099, 1103, 1110, 143, 678, 682, 686, 694, 698, 702, 690, 706, 809, 1370, 1374, 1691, 1730, 1754, 1734, 1687, 1750, 1746, 1774, 1786, 1683, 1738, 1742, 1758, 1770, 1782, 1790, 1798, 1802, 1766, 1762, 1778, 1794, 1818, 1814, 1841, 1837, 1849, 1861, 1869, 1877, 1881, 1886, 1890, 1901, 1914, 1928, 1932, 1922, 1956, 1944, 1948, 1952, 1940, 1964, 1968, 1979, 1983, 1991, 1995, 1999, 2003, 2015, 2007, 2011, 2019, 2023, 2039, 2043, 2035, 2031, 2061, 2057, 2095, 2099, 2127, 649, 2159, 657, 2163, 661, 1679, 878, 1806, 882, 1810, 890, 1825, 894, 1829, 898, 1833, 903, 1853, 911, 1845, 915, 1857, 932, 1865, 940, 1873, 983, 1897, 992, 1905, 996, 1909, 1008, 1918, 1049, 1936, 1086, 1972, 1116, 1960, 1121, 1987, 1201, 2053, 1240, 2062, 1250, 2027, 1254, 2067, 1258, 2071, 1266, 2075, 1270, 2079, 1278, 2083, 1282, 2087, 1286, 2091, 1298, 2103, 1320, 2118, 1325, 2123, 1335, 2131, 1339, 2135, 1343, 2139, 1347, 2143, 1351, 2147, 1356, 2151, 1360, 2155, 718, 147, 714, 710] (by decide +kernel)
theorem cz_ms_ok : ∀ q ∈ cz_ms, Cond.methodLink (cz_own q.1) q.2.1 (cz_y q.2.2.1) ∈ lw_tbl := pz_inm cz_ms (fun q => Cond.methodLink (cz_own q.1) q.2.1 (cz_y q.2.2.1)) [137, 239, 356, 428, 470, 494, 589, 361, 129, 1366] (by decide +kernel)
theorem cz_mt_ok : ∀ q ∈ cz_mt, Cond.methodLink (cz_own q.1) q.2.1 (cz_y q.2.2.1) ∈ lw_tbl := pz_inm cz_mt (fun q => Cond.methodLink (cz_own q.1) q.2.1 (cz_y q.2.2.1)) [1053, 1308, 1311, 1317, 1334, 1025, 863, 980, 1005, 794, 952, 1230, 1237, 1233, 1183, 826, 1064, 183, 1695, 1698, 1727, 1822, 1894, 1976, 2050, 2047, 2107, 2112, 2115, 153, 722, 161, 156, 725, 734] (by decide +kernel)
theorem cz_msn_ok : ∀ q ∈ cz_msn, Cond.methodLinkNest (cz_own q.1) q.2.1 (cz_y q.2.2.1) "ByHeart" ∈ lw_tbl := pz_inm cz_msn (fun q => Cond.methodLinkNest (cz_own q.1) q.2.1 (cz_y q.2.2.1) "ByHeart") [372, 527, 557, 594, 499] (by decide +kernel)
theorem cz_mv_im : ∀ q ∈ cz_mv, Cond.instanceMethod (cz_y q.2.2.1) ∈ lw_tbl := pz_inm cz_mv (fun q => Cond.instanceMethod (cz_y q.2.2.1)) [654, 666, 856, 860, 867, 875, 887, 871, 908, 920, 925, 929, 937, 945, 949, 988, 1002, 1014, 1017, 1022, 1046, 1060, 1083, 1091, 1111, 1126, 1197, 1207, 1219, 1210, 1222, 1246, 1104, 1263, 1275, 1291, 1296, 1306, 1331, 1214, 1095, 871, 920, 1017, 1022, 1046, 937, 1033, 1037, 1042, 925, 969, 1214, 977, 988, 1002, 670, 675, 773, 777, 782, 812, 833, 841, 853, 691, 679, 791, 786, 799, 802, 806, 815, 820, 828, 823, 836, 849, 955, 920, 959, 965, 973, 977, 937, 969, 1227, 875, 675, 773, 777, 1136, 691, 815, 1142, 791, 1189, 679, 806, 1193, 1146, 1154, 1150, 1159, 802, 1163, 1167, 1170, 1176, 1181, 836, 1095, 1017, 1069, 1080, 1022, 1046, 1075, 1101, 1104, 1111, 144, 679, 684, 688, 696, 700, 704, 691, 707, 802, 1372, 1376, 1693, 1732, 1756, 1736, 1689, 1752, 1748, 1776, 1788, 1685, 1740, 1744, 1760, 1772, 1784, 1792, 1800, 1804, 1768, 1764, 1780, 1796, 1820, 1816, 1843, 1839, 1851, 1863, 1871, 1879, 1883, 1888, 1892, 1903, 1916, 1930, 1934, 1924, 1958, 1946, 1950, 1954, 1942, 1966, 1970, 1981, 1985, 1993, 1997, 2001, 2005, 2017, 2009, 2013, 2021, 2025, 2041, 2045, 2037, 2033, 2028, 2059, 2097, 2101, 2129, 650, 2160, 658, 2164, 662, 1680, 879, 1807, 883, 1811, 891, 1826, 895, 1830, 899, 1834, 904, 1854, 912, 1846, 916, 1858, 933, 1866, 941, 1874, 984, 1898, 993, 1906, 997, 1910, 1009, 1919, 1050, 1937, 1087, 1973, 1117, 1961, 1122, 1988, 1202, 2054, 1241, 2063, 1251, 2028, 1255, 2068, 1259, 2072, 1267, 2076, 1271, 2080, 1279, 2084, 1283, 2088, 1287, 2092, 1299, 2104, 1321, 2119, 1326, 2124, 1336, 2132, 1340, 2136, 1344, 2140, 1348, 2144, 1352, 2148, 1357, 2152, 1361, 2156, 719, 148, 715, 711] (by decide +kernel)
theorem cz_ms_im : ∀ q ∈ cz_ms, Cond.instanceMethod (cz_y q.2.2.1) ∈ lw_tbl := pz_inm cz_ms (fun q => Cond.instanceMethod (cz_y q.2.2.1)) [138, 240, 357, 429, 471, 495, 590, 240, 130, 1367] (by decide +kernel)
theorem cz_msn_im : ∀ q ∈ cz_msn, Cond.instanceMethod (cz_y q.2.2.1) ∈ lw_tbl := pz_inm cz_msn (fun q => Cond.instanceMethod (cz_y q.2.2.1)) [373, 528, 558, 558, 373] (by decide +kernel)
theorem cz_mt_st : ∀ q ∈ cz_mt, Cond.static (cz_y q.2.2.1) ∈ lw_tbl := pz_inm cz_mt (fun q => Cond.static (cz_y q.2.2.1)) [1054, 1309, 1312, 1318, 1006, 1026, 864, 981, 1006, 795, 864, 1231, 1238, 1234, 1184, 795, 1065, 184, 1696, 1699, 1728, 1823, 1895, 1977, 2051, 2048, 2108, 2113, 2116, 154, 723, 162, 157, 726, 735] (by decide +kernel)
theorem cz_mv_se : ∀ q ∈ cz_mv, Cond.selects (cz_y q.2.2.1).cls (cz_y q.2.2.1) (cz_y q.2.2.1) ∈ lw_tbl := pz_inm cz_mv (fun q => Cond.selects (cz_y q.2.2.1).cls (cz_y q.2.2.1) (cz_y q.2.2.1)) [655, 667, 857, 861, 868, 876, 888, 872, 909, 921, 926, 930, 938, 946, 950, 989, 1003, 16, 1018, 1023, 1047, 1061, 1084, 1092, 1112, 1127, 1198, 33, 34, 1211, 1223, 1247, 1105, 1264, 1276, 1292, 36, 37, 38, 1215, 1096, 872, 921, 1018, 1023, 1047, 938, 17, 18, 19, 926, 970, 1215, 978, 989, 1003, 671, 676, 774, 778, 5, 8, 10, 11, 13, 692, 680, 792, 6, 7, 803, 807, 816, 9, 829, 824, 837, 12, 14, 921, 960, 15, 974, 978, 938, 970, 35, 876, 676, 774, 778, 24, 692, 816, 25, 792, 1190, 680, 807, 1194, 26, 1155, 27, 28, 803, 29, 30, 1171, 31, 32, 837, 1096, 1018, 20, 22, 1023, 1047, 21, 23, 1105, 1112, 145, 680, 0, 1, 2, 3, 4, 692, 708, 803, 39, 40, 43, 44, 50, 45, 42, 49, 48, 55, 58, 41, 46, 47, 51, 54, 57, 59, 61, 62, 53, 52, 56, 60, 64, 63, 66, 65, 67, 68, 69, 70, 71, 72, 73, 74, 75, 77, 78, 76, 83, 80, 81, 82, 79, 84, 85, 86, 87, 88, 89, 90, 91, 94, 92, 93, 95, 96, 99, 100, 98, 97, 2029, 101, 102, 103, 104, 651, 2161, 659, 2165, 663, 1681, 880, 1808, 884, 1812, 892, 1827, 896, 1831, 900, 1835, 905, 1855, 913, 1847, 917, 1859, 934, 1867, 942, 1875, 985, 1899, 994, 1907, 998, 1911, 1010, 1920, 1051, 1938, 1088, 1974, 1118, 1962, 1123, 1989, 1203, 2055, 1242, 2064, 1252, 2029, 1256, 2069, 1260, 2073, 1268, 2077, 1272, 2081, 1280, 2085, 1284, 2089, 1288, 2093, 1300, 2105, 1322, 2120, 1327, 2125, 1337, 2133, 1341, 2137, 1345, 2141, 1349, 2145, 1353, 2149, 1358, 2153, 1362, 2157, 720, 149, 716, 712] (by decide +kernel)
theorem cz_mv_ii : ∀ q ∈ cz_mv, Cond.initialized (cz_y q.2.2.1).cls ∈ lw_tbl := pz_inm cz_mv (fun q => Cond.initialized (cz_y q.2.2.1).cls) [107, 114, 112, 115, 116, 120, 112, 112, 112, 116, 116, 116, 112, 112, 117, 115, 115, 106, 116, 116, 116, 118, 118, 118, 115, 121, 120, 106, 106, 119, 120, 118, 116, 119, 119, 119, 106, 106, 106, 119, 115, 112, 116, 116, 116, 116, 112, 116, 116, 116, 116, 116, 119, 115, 115, 115, 112, 107, 107, 107, 114, 114, 114, 114, 114, 107, 107, 107, 114, 114, 107, 107, 107, 114, 112, 112, 107, 114, 117, 116, 115, 117, 116, 115, 112, 116, 120, 120, 107, 107, 107, 121, 107, 107, 121, 107, 112, 107, 107, 120, 121, 120, 121, 121, 107, 121, 121, 107, 121, 121, 107, 115, 116, 118, 118, 116, 116, 118, 118, 116, 115, 108, 107, 107, 107, 107, 107, 107, 107, 108, 107, 122, 122, 122, 122, 122, 122, 122, 122, 122, 122, 122, 122, 122, 122, 122, 122, 122, 122, 122, 122, 122, 122, 122, 122, 122, 122, 122, 122, 122, 122, 122, 122, 122, 122, 122, 122, 122, 122, 122, 122, 122, 122, 122, 122, 122, 122, 122, 122, 122, 122, 122, 122, 122, 122, 122, 122, 122, 122, 122, 122, 122, 122, 122, 122, 122, 122, 122, 106, 122, 106, 122, 106, 122, 106, 122, 106, 122, 106, 122, 106, 122, 106, 122, 106, 122, 106, 122, 106, 122, 106, 122, 106, 122, 106, 122, 106, 122, 106, 122, 106, 122, 106, 122, 106, 122, 106, 122, 106, 122, 106, 122, 106, 122, 106, 122, 106, 122, 106, 122, 106, 122, 106, 122, 106, 122, 106, 122, 106, 122, 106, 122, 106, 122, 106, 122, 106, 122, 106, 122, 106, 122, 106, 122, 106, 122, 106, 122, 106, 122, 108, 108, 108, 108] (by decide +kernel)
theorem cz_mv_d : ∀ q ∈ cz_mv, (cz_y q.2.2.1).cls ≠ "java/lang/invoke/MethodHandle" ∧ (cz_y q.2.2.1).cls ≠ "java/lang/invoke/VarHandle" ∧ (parseMethodDescriptor (cz_y q.2.2.1).desc).map (fun d => d.parameters.length) = some q.2.2.2.1 := by decide +kernel
theorem cz_ms_ii : ∀ q ∈ cz_ms, Cond.initialized (cz_y q.2.2.1).cls ∈ lw_tbl := pz_inm cz_ms (fun q => Cond.initialized (cz_y q.2.2.1).cls) [107, 112, 114, 116, 117, 118, 121, 112, 106, 122] (by decide +kernel)
theorem cz_ms_d : ∀ q ∈ cz_ms, (cz_y q.2.2.1).cls ≠ "java/lang/invoke/MethodHandle" ∧ (cz_y q.2.2.1).cls ≠ "java/lang/invoke/VarHandle" ∧ (parseMethodDescriptor (cz_y q.2.2.1).desc).map (fun d => d.parameters.length) = some q.2.2.2.1 := by decide +kernel
theorem cz_msn_ii : ∀ q ∈ cz_msn, Cond.initialized (cz_y q.2.2.1).cls ∈ lw_tbl := pz_inm cz_msn (fun q => Cond.initialized (cz_y q.2.2.1).cls) [115, 119, 120, 120, 115] (by decide +kernel)
theorem cz_msn_d : ∀ q ∈ cz_msn, (cz_y q.2.2.1).cls ≠ "java/lang/invoke/MethodHandle" ∧ (cz_y q.2.2.1).cls ≠ "java/lang/invoke/VarHandle" ∧ (parseMethodDescriptor (cz_y q.2.2.1).desc).map (fun d => d.parameters.length) = some q.2.2.2.1 := by decide +kernel
theorem cz_mt_ii : ∀ q ∈ cz_mt, Cond.initialized (cz_y q.2.2.1).cls ∈ lw_tbl := pz_inm cz_mt (fun q => Cond.initialized (cz_y q.2.2.1).cls) [126, 106, 106, 106, 115, 125, 125, 115, 115, 112, 125, 120, 120, 120, 121, 112, 118, 107, 122, 122, 122, 122, 122, 122, 122, 122, 122, 122, 122, 109, 109, 110, 108, 109, 109] (by decide +kernel)
theorem cz_mt_d : ∀ q ∈ cz_mt, (cz_y q.2.2.1).cls ≠ "java/lang/invoke/MethodHandle" ∧ (cz_y q.2.2.1).cls ≠ "java/lang/invoke/VarHandle" ∧ (parseMethodDescriptor (cz_y q.2.2.1).desc).map (fun d => d.parameters.length) = some q.2.2.2.1 := by decide +kernel
def cz_rn (c : Nat) : String := if c = 110 then "java/lang/String" else cz_own (c - 10)
theorem cz_mv_c : ∀ q ∈ cz_mv, (cz_y q.2.2.1).cls = cz_rn q.2.2.2.2 ∧ (10 ≤ q.2.2.2.2 ∧ q.2.2.2.2 < 22 ∨ q.2.2.2.2 = 110) := by decide +kernel
theorem cz_ms_c : ∀ q ∈ cz_ms ++ cz_msn, 10 ≤ q.2.2.2.2 ∧ q.2.2.2.2 < 22 ∧ (cz_y q.2.2.1).name = "<init>" := by decide +kernel
theorem cz_mt_c : ∀ q ∈ cz_mt, q.2.2.2.2 = 0 := by decide +kernel
theorem cz_w1 : Cond.instanceMethod Lib.objectInit ∈ lw_tbl := by decide +kernel
theorem cz_w2 : Cond.code Lib.objectInit ⟨#[0xb1]⟩ 1 none ∈ lw_tbl := by decide +kernel
theorem cz_w3 : Cond.native arraycopyName ∈ lw_tbl := by decide +kernel
theorem cz_w4 : Cond.static arraycopyName ∈ lw_tbl := by decide +kernel
theorem cz_w5 : Cond.initialized "java/lang/System" ∈ lw_tbl := by decide +kernel
theorem cz_w6 : Cond.arrayOver (.object "ByHeart$Mind") ∈ lw_tbl := by decide +kernel
theorem cz_w7 : Cond.arrayClass .int ∈ lw_tbl := by decide +kernel
theorem cz_w8 : Cond.arrayClass .long ∈ lw_tbl := by decide +kernel
theorem cz_w9 : Cond.arrayClass .byte ∈ lw_tbl := by decide +kernel
theorem cz_w10 : Cond.arrayClass .boolean ∈ lw_tbl := by decide +kernel
theorem cz_x1 : Cond.static Lib.Math.max.name ∈ lw_tbl := by decide +kernel
theorem cz_x2 : Cond.static Lib.Math.min.name ∈ lw_tbl := by decide +kernel
theorem cz_x3 : Cond.static Lib.MathLoose.abs_long.x ∈ lw_tbl := by decide +kernel
theorem cz_x4 : Cond.initialized "java/lang/Math" ∈ lw_tbl := by decide +kernel
theorem cz_x5 : Cond.code Lib.Math.max.name Lib.Math.max.code 2 (some .int) ∈ lw_tbl := by decide +kernel
theorem cz_x6 : Cond.code Lib.Math.min.name Lib.Math.min.code 2 (some .int) ∈ lw_tbl := by decide +kernel
theorem cz_x7 : Cond.code Lib.MathLoose.abs_long.x Lib.MathLoose.abs_long.code 2 (some .long) ∈ lw_tbl := by decide +kernel
def gw_tbl : List Cond := lw_tbl.filter goodWord
theorem gw_in {w : Cond} (h : w ∈ lw_tbl) (hg : goodWord w = true) : w ∈ gw_tbl := List.mem_filter.mpr ⟨h, hg⟩
