section
def nsF : List (String × Nat × String × String × String × String) := [("KerbSplash", 81, "KerbSplash$Tape", "fed", "I", "KerbSplash"), ("KerbSplash", 99, "KerbSplash$Tape", "fault", "I", "KerbSplash"), ("KerbSplash", 127, "KerbSplash$Tape", "faultAt", "I", "KerbSplash"), ("KerbSplash$Car", 28, "KerbSplash$Street", "wide", "I", "KerbSplash"), ("KerbSplash$StreetReader", 112, "KerbSplash$Street", "wide", "I", "KerbSplash"), ("KerbSplash$WhatIf", 82, "KerbSplash$Street", "wide", "I", "KerbSplash"), ("KerbSplash", 138, "KerbSplash$Street", "wide", "I", "KerbSplash"), ("KerbSplash$Car", 66, "KerbSplash$Street", "rows", "I", "KerbSplash"), ("KerbSplash$StreetReader", 115, "KerbSplash$Street", "rows", "I", "KerbSplash"), ("KerbSplash$WhatIf", 85, "KerbSplash$Street", "rows", "I", "KerbSplash"), ("KerbSplash", 141, "KerbSplash$Street", "rows", "I", "KerbSplash"), ("KerbSplash", 167, "KerbSplash$Street", "height", "[I", "KerbSplash"), ("KerbSplash$StreetReader", 128, "KerbSplash$Street", "height", "[I", "KerbSplash"), ("KerbSplash$WhatIf", 44, "KerbSplash$Street", "water", "[I", "KerbSplash"), ("KerbSplash$Car", 72, "KerbSplash$Street", "water", "[I", "KerbSplash"), ("KerbSplash", 170, "KerbSplash$Street", "water", "[I", "KerbSplash"), ("KerbSplash$StreetReader", 68, "KerbSplash$Street", "drains", "I", "KerbSplash"), ("KerbSplash$WhatIf", 73, "KerbSplash$Street", "drains", "I", "KerbSplash"), ("KerbSplash", 144, "KerbSplash$Street", "drains", "I", "KerbSplash"), ("KerbSplash$Orders", 51, "KerbSplash$Street", "drainsTold", "I", "KerbSplash"), ("KerbSplash$WhatIf", 63, "KerbSplash$Street", "drainsTold", "I", "KerbSplash"), ("KerbSplash$StreetReader", 139, "KerbSplash$Street", "drainsTold", "I", "KerbSplash"), ("KerbSplash", 183, "KerbSplash$Street", "drainsTold", "I", "KerbSplash"), ("KerbSplash$Orders", 56, "KerbSplash$Street", "drain", "[I", "KerbSplash"), ("KerbSplash$WhatIf", 66, "KerbSplash$Street", "drain", "[I", "KerbSplash"), ("KerbSplash", 180, "KerbSplash$Street", "drain", "[I", "KerbSplash"), ("KerbSplash$StreetReader", 75, "KerbSplash$Street", "persons", "I", "KerbSplash"), ("KerbSplash$Car", 83, "KerbSplash$Street", "persons", "I", "KerbSplash"), ("KerbSplash", 147, "KerbSplash$Street", "persons", "I", "KerbSplash"), ("KerbSplash$WhatIf", 128, "KerbSplash$Street", "persons", "I", "KerbSplash"), ("KerbSplash$Car", 89, "KerbSplash$Street", "person", "[I", "KerbSplash"), ("KerbSplash$WhatIf", 125, "KerbSplash$Street", "person", "[I", "KerbSplash"), ("KerbSplash", 186, "KerbSplash$Street", "person", "[I", "KerbSplash"), ("KerbSplash$Car", 86, "KerbSplash$Street", "guesses", "I", "KerbSplash"), ("KerbSplash$StreetReader", 81, "KerbSplash$Street", "shelters", "I", "KerbSplash"), ("KerbSplash", 150, "KerbSplash$Street", "shelters", "I", "KerbSplash"), ("KerbSplash$StreetReader", 87, "KerbSplash$Street", "works", "I", "KerbSplash"), ("KerbSplash", 153, "KerbSplash$Street", "works", "I", "KerbSplash"), ("KerbSplash$WhatIf", 145, "KerbSplash$Street", "works", "I", "KerbSplash"), ("KerbSplash", 189, "KerbSplash$Street", "work", "[I", "KerbSplash"), ("KerbSplash$WhatIf", 148, "KerbSplash$Street", "done", "I", "KerbSplash"), ("KerbSplash", 156, "KerbSplash$Street", "minutes", "I", "KerbSplash"), ("KerbSplash", 215, "KerbSplash$Street", "fallen", "I", "KerbSplash"), ("KerbSplash", 218, "KerbSplash$Street", "taken", "I", "KerbSplash"), ("KerbSplash", 221, "KerbSplash$Street", "gone", "I", "KerbSplash"), ("KerbSplash$WhatIf", 96, "KerbSplash$Plan", "cars", "I", "KerbSplash"), ("KerbSplash", 263, "KerbSplash$Plan", "cars", "I", "KerbSplash"), ("KerbSplash$WhatIf", 101, "KerbSplash$Plan", "traffic", "[I", "KerbSplash"), ("KerbSplash$Orders", 17, "KerbSplash$Plan", "dips", "I", "KerbSplash"), ("KerbSplash", 312, "KerbSplash$Plan", "dips", "I", "KerbSplash"), ("KerbSplash$Orders", 48, "KerbSplash$Plan", "dip", "[I", "KerbSplash"), ("KerbSplash$WhatIf", 168, "KerbSplash$Plan", "shares", "[I", "KerbSplash"), ("KerbSplash", 301, "KerbSplash$Plan", "shares", "[I", "KerbSplash"), ("KerbSplash", 234, "KerbSplash$Car", "names", "[I", "KerbSplash"), ("KerbSplash$WhatIf", 155, "KerbSplash$Car", "kind", "I", "KerbSplash"), ("KerbSplash$WhatIf", 162, "KerbSplash$Car", "rowThere", "I", "KerbSplash"), ("KerbSplash$WhatIf", 165, "KerbSplash$Car", "paceThere", "I", "KerbSplash"), ("KerbSplash", 230, "KerbSplash$WhatIf", "car", "LKerbSplash$Car;", "KerbSplash"), ("KerbSplash", 319, "KerbSplash$Orders", "late", "I", "KerbSplash"), ("KerbSplash", 322, "KerbSplash$Orders", "least", "I", "KerbSplash"), ("KerbSplash", 325, "KerbSplash$Orders", "order", "I", "KerbSplash"), ("KerbSplash$WhatIf", 56, "KerbSplash$Rain", "falls", "[I", "KerbSplash"), ("KerbSplash$Street", 122, "KerbSplash$Rain", "falls", "[I", "KerbSplash"), ("KerbSplash$WhatIf", 47, "KerbSplash$Rain", "minutes", "I", "KerbSplash"), ("KerbSplash$Street", 119, "KerbSplash$Rain", "minutes", "I", "KerbSplash"), ("KerbSplash$LawReader", 51, "KerbSplash$Law", "size", "I", "KerbSplash"), ("KerbSplash$LawReader", 47, "KerbSplash$Law", "starts", "[I", "KerbSplash"), ("KerbSplash$StreetReader", 84, "KerbSplash$Word", "work", "I", "KerbSplash"), ("KerbSplash$LawReader", 37, "KerbSplash$Word", "saying", "I", "KerbSplash"), ("KerbSplash$LawReader", 111, "KerbSplash$Word", "name", "I", "KerbSplash")]
def nsM : List (String × Nat × MethodName × String) := [("KerbSplash", 9, ⟨"KerbSplash$Tape", "<init>", "()V"⟩, "KerbSplash"), ("KerbSplash", 30, ⟨"KerbSplash$Street", "<init>", "()V"⟩, "KerbSplash"), ("KerbSplash", 40, ⟨"KerbSplash$Plan", "<init>", "()V"⟩, "KerbSplash"), ("KerbSplash", 55, ⟨"KerbSplash$WhatIf", "<init>", "()V"⟩, "KerbSplash"), ("KerbSplash$WhatIf", 11, ⟨"KerbSplash$Street", "<init>", "()V"⟩, "KerbSplash"), ("KerbSplash$WhatIf", 20, ⟨"KerbSplash$Car", "<init>", "()V"⟩, "KerbSplash"), ("KerbSplash", 62, ⟨"KerbSplash$Orders", "<init>", "()V"⟩, "KerbSplash"), ("KerbSplash", 71, ⟨"KerbSplash$Rain", "<init>", "()V"⟩, "KerbSplash"), ("KerbSplash", 72, ⟨"KerbSplash$Law", "<init>", "()V"⟩, "KerbSplash"), ("KerbSplash", 73, ⟨"KerbSplash$Tape", "hasRoom", "()Z"⟩, "KerbSplash"), ("KerbSplash", 77, ⟨"KerbSplash$Tape", "add", "(I)V"⟩, "KerbSplash"), ("KerbSplash", 341, ⟨"KerbSplash$Street", "become", "(LKerbSplash$Street;)V"⟩, "KerbSplash"), ("KerbSplash", 343, ⟨"KerbSplash$Plan", "become", "(LKerbSplash$Plan;)V"⟩, "KerbSplash"), ("KerbSplash", 345, ⟨"KerbSplash$Tape", "begin", "(I)V"⟩, "KerbSplash"), ("KerbSplash", 90, ⟨"KerbSplash$StreetReader", "<init>", "(LKerbSplash$Tape;LKerbSplash$Street;)V"⟩, "KerbSplash"), ("KerbSplash", 93, ⟨"KerbSplash$StreetReader", "read", "()V"⟩, "KerbSplash"), ("KerbSplash$StreetReader", 19, ⟨"KerbSplash$Street", "reset", "()V"⟩, "KerbSplash"), ("KerbSplash$StreetReader", 24, ⟨"KerbSplash$Tape", "hasMore", "()Z"⟩, "KerbSplash"), ("KerbSplash$StreetReader", 34, ⟨"KerbSplash$Tape", "word", "()LKerbSplash$Word;"⟩, "KerbSplash"), ("KerbSplash$Tape", 48, ⟨"KerbSplash$Word", "of", "([BII)LKerbSplash$Word;"⟩, "KerbSplash"), ("KerbSplash$StreetReader", 38, ⟨"KerbSplash$Word", "beginsClause", "()Z"⟩, "KerbSplash"), ("KerbSplash$StreetReader", 43, ⟨"KerbSplash$Tape", "refuse", "(I)V"⟩, "KerbSplash"), ("KerbSplash$StreetReader", 54, ⟨"KerbSplash$Tape", "takeWord", "(LKerbSplash$Word;)Z"⟩, "KerbSplash"), ("KerbSplash$StreetReader", 105, ⟨"KerbSplash$Tape", "number", "(II)I"⟩, "KerbSplash"), ("KerbSplash$Tape", 66, ⟨"KerbSplash", "isWithin", "(III)Z"⟩, "KerbSplash"), ("KerbSplash$StreetReader", 109, ⟨"KerbSplash$Tape", "good", "()Z"⟩, "KerbSplash"), ("KerbSplash$StreetReader", 142, ⟨"KerbSplash$Street", "addWork", "(IIIII)V"⟩, "KerbSplash"), ("KerbSplash$StreetReader", 118, ⟨"KerbSplash$Street", "addPerson", "(II)V"⟩, "KerbSplash"), ("KerbSplash$StreetReader", 122, ⟨"KerbSplash$Street", "addShelter", "(II)V"⟩, "KerbSplash"), ("KerbSplash$StreetReader", 132, ⟨"KerbSplash$Street", "index", "(II)I"⟩, "KerbSplash"), ("KerbSplash$StreetReader", 135, ⟨"KerbSplash$Street", "addDrain", "(IIII)V"⟩, "KerbSplash"), ("KerbSplash$StreetReader", 61, ⟨"KerbSplash$Tape", "want", "(C)V"⟩, "KerbSplash"), ("KerbSplash", 96, ⟨"KerbSplash$Tape", "good", "()Z"⟩, "KerbSplash"), ("KerbSplash", 102, ⟨"KerbSplash$Plan", "reset", "()V"⟩, "KerbSplash"), ("KerbSplash", 108, ⟨"KerbSplash$Street", "cells", "()I"⟩, "KerbSplash"), ("KerbSplash", 115, ⟨"KerbSplash$Rain", "read", "(LKerbSplash$Tape;)V"⟩, "KerbSplash"), ("KerbSplash$Rain", 17, ⟨"KerbSplash$Tape", "hasMore", "()Z"⟩, "KerbSplash"), ("KerbSplash$Rain", 23, ⟨"KerbSplash$Tape", "refuse", "(I)V"⟩, "KerbSplash"), ("KerbSplash$Rain", 31, ⟨"KerbSplash$Tape", "word", "()LKerbSplash$Word;"⟩, "KerbSplash"), ("KerbSplash$Rain", 41, ⟨"KerbSplash$Tape", "wantWord", "(LKerbSplash$Word;)V"⟩, "KerbSplash"), ("KerbSplash$Rain", 45, ⟨"KerbSplash$Tape", "number", "(II)I"⟩, "KerbSplash"), ("KerbSplash$Rain", 49, ⟨"KerbSplash$Tape", "want", "(C)V"⟩, "KerbSplash"), ("KerbSplash$Rain", 53, ⟨"KerbSplash$Tape", "good", "()Z"⟩, "KerbSplash"), ("KerbSplash", 123, ⟨"KerbSplash$LawReader", "<init>", "(LKerbSplash$Tape;LKerbSplash$Law;)V"⟩, "KerbSplash"), ("KerbSplash", 126, ⟨"KerbSplash$LawReader", "read", "()V"⟩, "KerbSplash"), ("KerbSplash$LawReader", 19, ⟨"KerbSplash$Law", "reset", "()V"⟩, "KerbSplash"), ("KerbSplash$LawReader", 26, ⟨"KerbSplash$Tape", "hasMore", "()Z"⟩, "KerbSplash"), ("KerbSplash$LawReader", 33, ⟨"KerbSplash$Tape", "word", "()LKerbSplash$Word;"⟩, "KerbSplash"), ("KerbSplash$LawReader", 43, ⟨"KerbSplash$Tape", "refuse", "(I)V"⟩, "KerbSplash"), ("KerbSplash$LawReader", 54, ⟨"KerbSplash$Tape", "takeWord", "(LKerbSplash$Word;)Z"⟩, "KerbSplash"), ("KerbSplash$LawReader", 58, ⟨"KerbSplash$Tape", "want", "(C)V"⟩, "KerbSplash"), ("KerbSplash$LawReader", 89, ⟨"KerbSplash$Tape", "wantWord", "(LKerbSplash$Word;)V"⟩, "KerbSplash"), ("KerbSplash$LawReader", 65, ⟨"KerbSplash$Law", "add", "(II)I"⟩, "KerbSplash"), ("KerbSplash$LawReader", 114, ⟨"KerbSplash$Tape", "sign", "()I"⟩, "KerbSplash"), ("KerbSplash$LawReader", 82, ⟨"KerbSplash$Tape", "take", "(C)Z"⟩, "KerbSplash"), ("KerbSplash$LawReader", 102, ⟨"KerbSplash$Law", "aim", "(I)V"⟩, "KerbSplash"), ("KerbSplash$LawReader", 118, ⟨"KerbSplash$Tape", "number", "(II)I"⟩, "KerbSplash"), ("KerbSplash$LawReader", 79, ⟨"KerbSplash$Tape", "good", "()Z"⟩, "KerbSplash"), ("KerbSplash", 348, ⟨"KerbSplash$Street", "has", "(II)Z"⟩, "KerbSplash"), ("KerbSplash", 163, ⟨"KerbSplash$Street", "index", "(II)I"⟩, "KerbSplash"), ("KerbSplash", 173, ⟨"KerbSplash$Street", "surface", "(I)I"⟩, "KerbSplash"), ("KerbSplash", 192, ⟨"KerbSplash$Street", "doWork", "(I)Z"⟩, "KerbSplash"), ("KerbSplash$Street", 100, ⟨"KerbSplash", "held", "(JII)I"⟩, "KerbSplash"), ("KerbSplash", 196, ⟨"KerbSplash$Street", "isTold", "()Z"⟩, "KerbSplash"), ("KerbSplash", 199, ⟨"KerbSplash$Street", "hasTime", "()Z"⟩, "KerbSplash"), ("KerbSplash", 205, ⟨"KerbSplash$Street", "passMinutes", "(II)I"⟩, "KerbSplash"), ("KerbSplash", 211, ⟨"KerbSplash$Street", "passRain", "(LKerbSplash$Rain;)I"⟩, "KerbSplash"), ("KerbSplash", 224, ⟨"KerbSplash$Street", "standing", "()I"⟩, "KerbSplash"), ("KerbSplash", 239, ⟨"KerbSplash$Law", "value", "(I[I)I"⟩, "KerbSplash"), ("KerbSplash", 247, ⟨"KerbSplash$Car", "become", "(IIII)V"⟩, "KerbSplash"), ("KerbSplash", 251, ⟨"KerbSplash$Car", "drive", "(LKerbSplash$Street;LKerbSplash$Law;)I"⟩, "KerbSplash"), ("KerbSplash$Car", 58, ⟨"KerbSplash$Street", "peopleAt", "(I)I"⟩, "KerbSplash"), ("KerbSplash$Car", 75, ⟨"KerbSplash$Street", "index", "(II)I"⟩, "KerbSplash"), ("KerbSplash$Car", 37, ⟨"KerbSplash$Law", "value", "(I[I)I"⟩, "KerbSplash"), ("KerbSplash$Car", 41, ⟨"KerbSplash", "held", "(JII)I"⟩, "KerbSplash"), ("KerbSplash$Car", 50, ⟨"KerbSplash$Street", "throwFrom", "(III)V"⟩, "KerbSplash"), ("KerbSplash$Car", 79, ⟨"KerbSplash$Street", "isSheltered", "(I)Z"⟩, "KerbSplash"), ("KerbSplash$Street", 139, ⟨"KerbSplash", "isWithin", "(III)Z"⟩, "KerbSplash"), ("KerbSplash", 255, ⟨"KerbSplash$Plan", "addCar", "(IIIII)I"⟩, "KerbSplash"), ("KerbSplash", 259, ⟨"KerbSplash$WhatIf", "passTraffic", "(LKerbSplash$Street;LKerbSplash$Plan;LKerbSplash$Law;)I"⟩, "KerbSplash"), ("KerbSplash$WhatIf", 104, ⟨"KerbSplash$Street", "runRounds", "(I)V"⟩, "KerbSplash"), ("KerbSplash$WhatIf", 107, ⟨"KerbSplash$Car", "become", "(IIII)V"⟩, "KerbSplash"), ("KerbSplash$WhatIf", 110, ⟨"KerbSplash$Car", "drive", "(LKerbSplash$Street;LKerbSplash$Law;)I"⟩, "KerbSplash"), ("KerbSplash", 266, ⟨"KerbSplash$WhatIf", "depthBehind", "(LKerbSplash$Street;LKerbSplash$Rain;I)I"⟩, "KerbSplash"), ("KerbSplash$WhatIf", 36, ⟨"KerbSplash$Street", "become", "(LKerbSplash$Street;)V"⟩, "KerbSplash"), ("KerbSplash$WhatIf", 40, ⟨"KerbSplash$Street", "passRain", "(LKerbSplash$Rain;)I"⟩, "KerbSplash"), ("KerbSplash", 270, ⟨"KerbSplash$WhatIf", "minuteOf", "(LKerbSplash$Street;LKerbSplash$Rain;II)I"⟩, "KerbSplash"), ("KerbSplash$WhatIf", 52, ⟨"KerbSplash$Street", "hasTime", "()Z"⟩, "KerbSplash"), ("KerbSplash$WhatIf", 59, ⟨"KerbSplash$Street", "passMinute", "(I)V"⟩, "KerbSplash"), ("KerbSplash", 274, ⟨"KerbSplash$WhatIf", "findBlame", "(LKerbSplash$Street;LKerbSplash$Rain;I)V"⟩, "KerbSplash"), ("KerbSplash", 278, ⟨"KerbSplash$WhatIf", "answer", "(I)I"⟩, "KerbSplash"), ("KerbSplash", 281, ⟨"KerbSplash$WhatIf", "findLook", "(LKerbSplash$Street;LKerbSplash$Rain;)V"⟩, "KerbSplash"), ("KerbSplash$WhatIf", 69, ⟨"KerbSplash$Street", "cells", "()I"⟩, "KerbSplash"), ("KerbSplash$WhatIf", 88, ⟨"KerbSplash$Street", "index", "(II)I"⟩, "KerbSplash"), ("KerbSplash", 285, ⟨"KerbSplash$WhatIf", "findStand", "(LKerbSplash$Street;LKerbSplash$Plan;LKerbSplash$Law;I)V"⟩, "KerbSplash"), ("KerbSplash$WhatIf", 117, ⟨"KerbSplash$Street", "guessPerson", "(II)V"⟩, "KerbSplash"), ("KerbSplash", 289, ⟨"KerbSplash$WhatIf", "greatestPace", "(LKerbSplash$Street;LKerbSplash$Law;III)I"⟩, "KerbSplash"), ("KerbSplash", 293, ⟨"KerbSplash$WhatIf", "findStep", "(LKerbSplash$Street;LKerbSplash$Plan;LKerbSplash$Law;)V"⟩, "KerbSplash"), ("KerbSplash$WhatIf", 131, ⟨"KerbSplash$Street", "canStep", "(I)Z"⟩, "KerbSplash"), ("KerbSplash$WhatIf", 135, ⟨"KerbSplash$Street", "stepAll", "(I)V"⟩, "KerbSplash"), ("KerbSplash", 297, ⟨"KerbSplash$WhatIf", "findMend", "(LKerbSplash$Street;LKerbSplash$Rain;II)V"⟩, "KerbSplash"), ("KerbSplash$WhatIf", 151, ⟨"KerbSplash$Street", "coinOf", "(I)I"⟩, "KerbSplash"), ("KerbSplash$WhatIf", 142, ⟨"KerbSplash$Street", "doWorks", "(I)V"⟩, "KerbSplash"), ("KerbSplash", 304, ⟨"KerbSplash$WhatIf", "shareMeant", "(LKerbSplash$Street;LKerbSplash$Plan;LKerbSplash$Law;III)I"⟩, "KerbSplash"), ("KerbSplash$WhatIf", 158, ⟨"KerbSplash$Car", "come", "(LKerbSplash$Street;LKerbSplash$Law;I)V"⟩, "KerbSplash"), ("KerbSplash", 308, ⟨"KerbSplash$Plan", "addDip", "(III)I"⟩, "KerbSplash"), ("KerbSplash", 315, ⟨"KerbSplash$Orders", "findFirst", "(LKerbSplash$Plan;)V"⟩, "KerbSplash"), ("KerbSplash", 328, ⟨"KerbSplash$Orders", "findSweeping", "(LKerbSplash$Street;)V"⟩, "KerbSplash"), ("KerbSplash", 332, ⟨"KerbSplash$Street", "iceCells", "(I)I"⟩, "KerbSplash"), ("KerbSplash", 335, ⟨"KerbSplash$Street", "longestIce", "(I)I"⟩, "KerbSplash"), ("KerbSplash", 338, ⟨"KerbSplash$Street", "personsOnIce", "(I)I"⟩, "KerbSplash")]
def NW (U : State) : Prop := (∀ q ∈ nsF, va_Nw (.fieldLinkNest q.1 q.2.1 q.2.2.1 q.2.2.2.1 q.2.2.2.2.1 q.2.2.2.2.2) U) ∧ (∀ q ∈ nsM, va_Nw (.methodLinkNest q.1 q.2.1 q.2.2.1 q.2.2.2) U)
theorem NW.warm {s U : State} (hW : s.WarmedH U.vm) (h : NW s) : NW U := ⟨fun q hq => va_Nw.warmF hW (h.1 q hq), fun q hq => va_Nw.warmM hW (h.2 q hq)⟩
theorem NW.same {s U : State} (hv : s.vm = U.vm) (h : NW s) : NW U := ⟨fun q hq => va_Nw.same rfl hv (h.1 q hq), fun q hq => va_Nw.same rfl hv (h.2 q hq)⟩
theorem nF_K_81 {U : State} (h : NW U) : va_Nw (.fieldLinkNest "KerbSplash" 81 "KerbSplash$Tape" "fed" "I" "KerbSplash") U := h.1 ("KerbSplash", 81, "KerbSplash$Tape", "fed", "I", "KerbSplash") (List.mem_of_getElem? (i := 0) rfl)
theorem nF_K_99 {U : State} (h : NW U) : va_Nw (.fieldLinkNest "KerbSplash" 99 "KerbSplash$Tape" "fault" "I" "KerbSplash") U := h.1 ("KerbSplash", 99, "KerbSplash$Tape", "fault", "I", "KerbSplash") (List.mem_of_getElem? (i := 1) rfl)
theorem nF_K_127 {U : State} (h : NW U) : va_Nw (.fieldLinkNest "KerbSplash" 127 "KerbSplash$Tape" "faultAt" "I" "KerbSplash") U := h.1 ("KerbSplash", 127, "KerbSplash$Tape", "faultAt", "I", "KerbSplash") (List.mem_of_getElem? (i := 2) rfl)
theorem nF_Car_28 {U : State} (h : NW U) : va_Nw (.fieldLinkNest "KerbSplash$Car" 28 "KerbSplash$Street" "wide" "I" "KerbSplash") U := h.1 ("KerbSplash$Car", 28, "KerbSplash$Street", "wide", "I", "KerbSplash") (List.mem_of_getElem? (i := 3) rfl)
theorem nF_StreetReader_112 {U : State} (h : NW U) : va_Nw (.fieldLinkNest "KerbSplash$StreetReader" 112 "KerbSplash$Street" "wide" "I" "KerbSplash") U := h.1 ("KerbSplash$StreetReader", 112, "KerbSplash$Street", "wide", "I", "KerbSplash") (List.mem_of_getElem? (i := 4) rfl)
theorem nF_WhatIf_82 {U : State} (h : NW U) : va_Nw (.fieldLinkNest "KerbSplash$WhatIf" 82 "KerbSplash$Street" "wide" "I" "KerbSplash") U := h.1 ("KerbSplash$WhatIf", 82, "KerbSplash$Street", "wide", "I", "KerbSplash") (List.mem_of_getElem? (i := 5) rfl)
theorem nF_K_138 {U : State} (h : NW U) : va_Nw (.fieldLinkNest "KerbSplash" 138 "KerbSplash$Street" "wide" "I" "KerbSplash") U := h.1 ("KerbSplash", 138, "KerbSplash$Street", "wide", "I", "KerbSplash") (List.mem_of_getElem? (i := 6) rfl)
theorem nF_Car_66 {U : State} (h : NW U) : va_Nw (.fieldLinkNest "KerbSplash$Car" 66 "KerbSplash$Street" "rows" "I" "KerbSplash") U := h.1 ("KerbSplash$Car", 66, "KerbSplash$Street", "rows", "I", "KerbSplash") (List.mem_of_getElem? (i := 7) rfl)
theorem nF_StreetReader_115 {U : State} (h : NW U) : va_Nw (.fieldLinkNest "KerbSplash$StreetReader" 115 "KerbSplash$Street" "rows" "I" "KerbSplash") U := h.1 ("KerbSplash$StreetReader", 115, "KerbSplash$Street", "rows", "I", "KerbSplash") (List.mem_of_getElem? (i := 8) rfl)
theorem nF_WhatIf_85 {U : State} (h : NW U) : va_Nw (.fieldLinkNest "KerbSplash$WhatIf" 85 "KerbSplash$Street" "rows" "I" "KerbSplash") U := h.1 ("KerbSplash$WhatIf", 85, "KerbSplash$Street", "rows", "I", "KerbSplash") (List.mem_of_getElem? (i := 9) rfl)
theorem nF_K_141 {U : State} (h : NW U) : va_Nw (.fieldLinkNest "KerbSplash" 141 "KerbSplash$Street" "rows" "I" "KerbSplash") U := h.1 ("KerbSplash", 141, "KerbSplash$Street", "rows", "I", "KerbSplash") (List.mem_of_getElem? (i := 10) rfl)
theorem nF_K_167 {U : State} (h : NW U) : va_Nw (.fieldLinkNest "KerbSplash" 167 "KerbSplash$Street" "height" "[I" "KerbSplash") U := h.1 ("KerbSplash", 167, "KerbSplash$Street", "height", "[I", "KerbSplash") (List.mem_of_getElem? (i := 11) rfl)
theorem nF_StreetReader_128 {U : State} (h : NW U) : va_Nw (.fieldLinkNest "KerbSplash$StreetReader" 128 "KerbSplash$Street" "height" "[I" "KerbSplash") U := h.1 ("KerbSplash$StreetReader", 128, "KerbSplash$Street", "height", "[I", "KerbSplash") (List.mem_of_getElem? (i := 12) rfl)
theorem nF_WhatIf_44 {U : State} (h : NW U) : va_Nw (.fieldLinkNest "KerbSplash$WhatIf" 44 "KerbSplash$Street" "water" "[I" "KerbSplash") U := h.1 ("KerbSplash$WhatIf", 44, "KerbSplash$Street", "water", "[I", "KerbSplash") (List.mem_of_getElem? (i := 13) rfl)
theorem nF_Car_72 {U : State} (h : NW U) : va_Nw (.fieldLinkNest "KerbSplash$Car" 72 "KerbSplash$Street" "water" "[I" "KerbSplash") U := h.1 ("KerbSplash$Car", 72, "KerbSplash$Street", "water", "[I", "KerbSplash") (List.mem_of_getElem? (i := 14) rfl)
theorem nF_K_170 {U : State} (h : NW U) : va_Nw (.fieldLinkNest "KerbSplash" 170 "KerbSplash$Street" "water" "[I" "KerbSplash") U := h.1 ("KerbSplash", 170, "KerbSplash$Street", "water", "[I", "KerbSplash") (List.mem_of_getElem? (i := 15) rfl)
theorem nF_StreetReader_68 {U : State} (h : NW U) : va_Nw (.fieldLinkNest "KerbSplash$StreetReader" 68 "KerbSplash$Street" "drains" "I" "KerbSplash") U := h.1 ("KerbSplash$StreetReader", 68, "KerbSplash$Street", "drains", "I", "KerbSplash") (List.mem_of_getElem? (i := 16) rfl)
theorem nF_WhatIf_73 {U : State} (h : NW U) : va_Nw (.fieldLinkNest "KerbSplash$WhatIf" 73 "KerbSplash$Street" "drains" "I" "KerbSplash") U := h.1 ("KerbSplash$WhatIf", 73, "KerbSplash$Street", "drains", "I", "KerbSplash") (List.mem_of_getElem? (i := 17) rfl)
theorem nF_K_144 {U : State} (h : NW U) : va_Nw (.fieldLinkNest "KerbSplash" 144 "KerbSplash$Street" "drains" "I" "KerbSplash") U := h.1 ("KerbSplash", 144, "KerbSplash$Street", "drains", "I", "KerbSplash") (List.mem_of_getElem? (i := 18) rfl)
theorem nF_Orders_51 {U : State} (h : NW U) : va_Nw (.fieldLinkNest "KerbSplash$Orders" 51 "KerbSplash$Street" "drainsTold" "I" "KerbSplash") U := h.1 ("KerbSplash$Orders", 51, "KerbSplash$Street", "drainsTold", "I", "KerbSplash") (List.mem_of_getElem? (i := 19) rfl)
theorem nF_WhatIf_63 {U : State} (h : NW U) : va_Nw (.fieldLinkNest "KerbSplash$WhatIf" 63 "KerbSplash$Street" "drainsTold" "I" "KerbSplash") U := h.1 ("KerbSplash$WhatIf", 63, "KerbSplash$Street", "drainsTold", "I", "KerbSplash") (List.mem_of_getElem? (i := 20) rfl)
theorem nF_StreetReader_139 {U : State} (h : NW U) : va_Nw (.fieldLinkNest "KerbSplash$StreetReader" 139 "KerbSplash$Street" "drainsTold" "I" "KerbSplash") U := h.1 ("KerbSplash$StreetReader", 139, "KerbSplash$Street", "drainsTold", "I", "KerbSplash") (List.mem_of_getElem? (i := 21) rfl)
theorem nF_K_183 {U : State} (h : NW U) : va_Nw (.fieldLinkNest "KerbSplash" 183 "KerbSplash$Street" "drainsTold" "I" "KerbSplash") U := h.1 ("KerbSplash", 183, "KerbSplash$Street", "drainsTold", "I", "KerbSplash") (List.mem_of_getElem? (i := 22) rfl)
theorem nF_Orders_56 {U : State} (h : NW U) : va_Nw (.fieldLinkNest "KerbSplash$Orders" 56 "KerbSplash$Street" "drain" "[I" "KerbSplash") U := h.1 ("KerbSplash$Orders", 56, "KerbSplash$Street", "drain", "[I", "KerbSplash") (List.mem_of_getElem? (i := 23) rfl)
theorem nF_WhatIf_66 {U : State} (h : NW U) : va_Nw (.fieldLinkNest "KerbSplash$WhatIf" 66 "KerbSplash$Street" "drain" "[I" "KerbSplash") U := h.1 ("KerbSplash$WhatIf", 66, "KerbSplash$Street", "drain", "[I", "KerbSplash") (List.mem_of_getElem? (i := 24) rfl)
theorem nF_K_180 {U : State} (h : NW U) : va_Nw (.fieldLinkNest "KerbSplash" 180 "KerbSplash$Street" "drain" "[I" "KerbSplash") U := h.1 ("KerbSplash", 180, "KerbSplash$Street", "drain", "[I", "KerbSplash") (List.mem_of_getElem? (i := 25) rfl)
theorem nF_StreetReader_75 {U : State} (h : NW U) : va_Nw (.fieldLinkNest "KerbSplash$StreetReader" 75 "KerbSplash$Street" "persons" "I" "KerbSplash") U := h.1 ("KerbSplash$StreetReader", 75, "KerbSplash$Street", "persons", "I", "KerbSplash") (List.mem_of_getElem? (i := 26) rfl)
theorem nF_Car_83 {U : State} (h : NW U) : va_Nw (.fieldLinkNest "KerbSplash$Car" 83 "KerbSplash$Street" "persons" "I" "KerbSplash") U := h.1 ("KerbSplash$Car", 83, "KerbSplash$Street", "persons", "I", "KerbSplash") (List.mem_of_getElem? (i := 27) rfl)
theorem nF_K_147 {U : State} (h : NW U) : va_Nw (.fieldLinkNest "KerbSplash" 147 "KerbSplash$Street" "persons" "I" "KerbSplash") U := h.1 ("KerbSplash", 147, "KerbSplash$Street", "persons", "I", "KerbSplash") (List.mem_of_getElem? (i := 28) rfl)
theorem nF_WhatIf_128 {U : State} (h : NW U) : va_Nw (.fieldLinkNest "KerbSplash$WhatIf" 128 "KerbSplash$Street" "persons" "I" "KerbSplash") U := h.1 ("KerbSplash$WhatIf", 128, "KerbSplash$Street", "persons", "I", "KerbSplash") (List.mem_of_getElem? (i := 29) rfl)
theorem nF_Car_89 {U : State} (h : NW U) : va_Nw (.fieldLinkNest "KerbSplash$Car" 89 "KerbSplash$Street" "person" "[I" "KerbSplash") U := h.1 ("KerbSplash$Car", 89, "KerbSplash$Street", "person", "[I", "KerbSplash") (List.mem_of_getElem? (i := 30) rfl)
theorem nF_WhatIf_125 {U : State} (h : NW U) : va_Nw (.fieldLinkNest "KerbSplash$WhatIf" 125 "KerbSplash$Street" "person" "[I" "KerbSplash") U := h.1 ("KerbSplash$WhatIf", 125, "KerbSplash$Street", "person", "[I", "KerbSplash") (List.mem_of_getElem? (i := 31) rfl)
theorem nF_K_186 {U : State} (h : NW U) : va_Nw (.fieldLinkNest "KerbSplash" 186 "KerbSplash$Street" "person" "[I" "KerbSplash") U := h.1 ("KerbSplash", 186, "KerbSplash$Street", "person", "[I", "KerbSplash") (List.mem_of_getElem? (i := 32) rfl)
theorem nF_Car_86 {U : State} (h : NW U) : va_Nw (.fieldLinkNest "KerbSplash$Car" 86 "KerbSplash$Street" "guesses" "I" "KerbSplash") U := h.1 ("KerbSplash$Car", 86, "KerbSplash$Street", "guesses", "I", "KerbSplash") (List.mem_of_getElem? (i := 33) rfl)
theorem nF_StreetReader_81 {U : State} (h : NW U) : va_Nw (.fieldLinkNest "KerbSplash$StreetReader" 81 "KerbSplash$Street" "shelters" "I" "KerbSplash") U := h.1 ("KerbSplash$StreetReader", 81, "KerbSplash$Street", "shelters", "I", "KerbSplash") (List.mem_of_getElem? (i := 34) rfl)
theorem nF_K_150 {U : State} (h : NW U) : va_Nw (.fieldLinkNest "KerbSplash" 150 "KerbSplash$Street" "shelters" "I" "KerbSplash") U := h.1 ("KerbSplash", 150, "KerbSplash$Street", "shelters", "I", "KerbSplash") (List.mem_of_getElem? (i := 35) rfl)
theorem nF_StreetReader_87 {U : State} (h : NW U) : va_Nw (.fieldLinkNest "KerbSplash$StreetReader" 87 "KerbSplash$Street" "works" "I" "KerbSplash") U := h.1 ("KerbSplash$StreetReader", 87, "KerbSplash$Street", "works", "I", "KerbSplash") (List.mem_of_getElem? (i := 36) rfl)
theorem nF_K_153 {U : State} (h : NW U) : va_Nw (.fieldLinkNest "KerbSplash" 153 "KerbSplash$Street" "works" "I" "KerbSplash") U := h.1 ("KerbSplash", 153, "KerbSplash$Street", "works", "I", "KerbSplash") (List.mem_of_getElem? (i := 37) rfl)
theorem nF_WhatIf_145 {U : State} (h : NW U) : va_Nw (.fieldLinkNest "KerbSplash$WhatIf" 145 "KerbSplash$Street" "works" "I" "KerbSplash") U := h.1 ("KerbSplash$WhatIf", 145, "KerbSplash$Street", "works", "I", "KerbSplash") (List.mem_of_getElem? (i := 38) rfl)
theorem nF_K_189 {U : State} (h : NW U) : va_Nw (.fieldLinkNest "KerbSplash" 189 "KerbSplash$Street" "work" "[I" "KerbSplash") U := h.1 ("KerbSplash", 189, "KerbSplash$Street", "work", "[I", "KerbSplash") (List.mem_of_getElem? (i := 39) rfl)
theorem nF_WhatIf_148 {U : State} (h : NW U) : va_Nw (.fieldLinkNest "KerbSplash$WhatIf" 148 "KerbSplash$Street" "done" "I" "KerbSplash") U := h.1 ("KerbSplash$WhatIf", 148, "KerbSplash$Street", "done", "I", "KerbSplash") (List.mem_of_getElem? (i := 40) rfl)
theorem nF_K_156 {U : State} (h : NW U) : va_Nw (.fieldLinkNest "KerbSplash" 156 "KerbSplash$Street" "minutes" "I" "KerbSplash") U := h.1 ("KerbSplash", 156, "KerbSplash$Street", "minutes", "I", "KerbSplash") (List.mem_of_getElem? (i := 41) rfl)
theorem nF_K_215 {U : State} (h : NW U) : va_Nw (.fieldLinkNest "KerbSplash" 215 "KerbSplash$Street" "fallen" "I" "KerbSplash") U := h.1 ("KerbSplash", 215, "KerbSplash$Street", "fallen", "I", "KerbSplash") (List.mem_of_getElem? (i := 42) rfl)
theorem nF_K_218 {U : State} (h : NW U) : va_Nw (.fieldLinkNest "KerbSplash" 218 "KerbSplash$Street" "taken" "I" "KerbSplash") U := h.1 ("KerbSplash", 218, "KerbSplash$Street", "taken", "I", "KerbSplash") (List.mem_of_getElem? (i := 43) rfl)
theorem nF_K_221 {U : State} (h : NW U) : va_Nw (.fieldLinkNest "KerbSplash" 221 "KerbSplash$Street" "gone" "I" "KerbSplash") U := h.1 ("KerbSplash", 221, "KerbSplash$Street", "gone", "I", "KerbSplash") (List.mem_of_getElem? (i := 44) rfl)
theorem nF_WhatIf_96 {U : State} (h : NW U) : va_Nw (.fieldLinkNest "KerbSplash$WhatIf" 96 "KerbSplash$Plan" "cars" "I" "KerbSplash") U := h.1 ("KerbSplash$WhatIf", 96, "KerbSplash$Plan", "cars", "I", "KerbSplash") (List.mem_of_getElem? (i := 45) rfl)
theorem nF_K_263 {U : State} (h : NW U) : va_Nw (.fieldLinkNest "KerbSplash" 263 "KerbSplash$Plan" "cars" "I" "KerbSplash") U := h.1 ("KerbSplash", 263, "KerbSplash$Plan", "cars", "I", "KerbSplash") (List.mem_of_getElem? (i := 46) rfl)
theorem nF_WhatIf_101 {U : State} (h : NW U) : va_Nw (.fieldLinkNest "KerbSplash$WhatIf" 101 "KerbSplash$Plan" "traffic" "[I" "KerbSplash") U := h.1 ("KerbSplash$WhatIf", 101, "KerbSplash$Plan", "traffic", "[I", "KerbSplash") (List.mem_of_getElem? (i := 47) rfl)
theorem nF_Orders_17 {U : State} (h : NW U) : va_Nw (.fieldLinkNest "KerbSplash$Orders" 17 "KerbSplash$Plan" "dips" "I" "KerbSplash") U := h.1 ("KerbSplash$Orders", 17, "KerbSplash$Plan", "dips", "I", "KerbSplash") (List.mem_of_getElem? (i := 48) rfl)
theorem nF_K_312 {U : State} (h : NW U) : va_Nw (.fieldLinkNest "KerbSplash" 312 "KerbSplash$Plan" "dips" "I" "KerbSplash") U := h.1 ("KerbSplash", 312, "KerbSplash$Plan", "dips", "I", "KerbSplash") (List.mem_of_getElem? (i := 49) rfl)
theorem nF_Orders_48 {U : State} (h : NW U) : va_Nw (.fieldLinkNest "KerbSplash$Orders" 48 "KerbSplash$Plan" "dip" "[I" "KerbSplash") U := h.1 ("KerbSplash$Orders", 48, "KerbSplash$Plan", "dip", "[I", "KerbSplash") (List.mem_of_getElem? (i := 50) rfl)
theorem nF_WhatIf_168 {U : State} (h : NW U) : va_Nw (.fieldLinkNest "KerbSplash$WhatIf" 168 "KerbSplash$Plan" "shares" "[I" "KerbSplash") U := h.1 ("KerbSplash$WhatIf", 168, "KerbSplash$Plan", "shares", "[I", "KerbSplash") (List.mem_of_getElem? (i := 51) rfl)
theorem nF_K_301 {U : State} (h : NW U) : va_Nw (.fieldLinkNest "KerbSplash" 301 "KerbSplash$Plan" "shares" "[I" "KerbSplash") U := h.1 ("KerbSplash", 301, "KerbSplash$Plan", "shares", "[I", "KerbSplash") (List.mem_of_getElem? (i := 52) rfl)
theorem nF_K_234 {U : State} (h : NW U) : va_Nw (.fieldLinkNest "KerbSplash" 234 "KerbSplash$Car" "names" "[I" "KerbSplash") U := h.1 ("KerbSplash", 234, "KerbSplash$Car", "names", "[I", "KerbSplash") (List.mem_of_getElem? (i := 53) rfl)
theorem nF_WhatIf_155 {U : State} (h : NW U) : va_Nw (.fieldLinkNest "KerbSplash$WhatIf" 155 "KerbSplash$Car" "kind" "I" "KerbSplash") U := h.1 ("KerbSplash$WhatIf", 155, "KerbSplash$Car", "kind", "I", "KerbSplash") (List.mem_of_getElem? (i := 54) rfl)
theorem nF_WhatIf_162 {U : State} (h : NW U) : va_Nw (.fieldLinkNest "KerbSplash$WhatIf" 162 "KerbSplash$Car" "rowThere" "I" "KerbSplash") U := h.1 ("KerbSplash$WhatIf", 162, "KerbSplash$Car", "rowThere", "I", "KerbSplash") (List.mem_of_getElem? (i := 55) rfl)
theorem nF_WhatIf_165 {U : State} (h : NW U) : va_Nw (.fieldLinkNest "KerbSplash$WhatIf" 165 "KerbSplash$Car" "paceThere" "I" "KerbSplash") U := h.1 ("KerbSplash$WhatIf", 165, "KerbSplash$Car", "paceThere", "I", "KerbSplash") (List.mem_of_getElem? (i := 56) rfl)
theorem nF_K_230 {U : State} (h : NW U) : va_Nw (.fieldLinkNest "KerbSplash" 230 "KerbSplash$WhatIf" "car" "LKerbSplash$Car;" "KerbSplash") U := h.1 ("KerbSplash", 230, "KerbSplash$WhatIf", "car", "LKerbSplash$Car;", "KerbSplash") (List.mem_of_getElem? (i := 57) rfl)
theorem nF_K_319 {U : State} (h : NW U) : va_Nw (.fieldLinkNest "KerbSplash" 319 "KerbSplash$Orders" "late" "I" "KerbSplash") U := h.1 ("KerbSplash", 319, "KerbSplash$Orders", "late", "I", "KerbSplash") (List.mem_of_getElem? (i := 58) rfl)
theorem nF_K_322 {U : State} (h : NW U) : va_Nw (.fieldLinkNest "KerbSplash" 322 "KerbSplash$Orders" "least" "I" "KerbSplash") U := h.1 ("KerbSplash", 322, "KerbSplash$Orders", "least", "I", "KerbSplash") (List.mem_of_getElem? (i := 59) rfl)
theorem nF_K_325 {U : State} (h : NW U) : va_Nw (.fieldLinkNest "KerbSplash" 325 "KerbSplash$Orders" "order" "I" "KerbSplash") U := h.1 ("KerbSplash", 325, "KerbSplash$Orders", "order", "I", "KerbSplash") (List.mem_of_getElem? (i := 60) rfl)
theorem nF_WhatIf_56 {U : State} (h : NW U) : va_Nw (.fieldLinkNest "KerbSplash$WhatIf" 56 "KerbSplash$Rain" "falls" "[I" "KerbSplash") U := h.1 ("KerbSplash$WhatIf", 56, "KerbSplash$Rain", "falls", "[I", "KerbSplash") (List.mem_of_getElem? (i := 61) rfl)
theorem nF_Street_122 {U : State} (h : NW U) : va_Nw (.fieldLinkNest "KerbSplash$Street" 122 "KerbSplash$Rain" "falls" "[I" "KerbSplash") U := h.1 ("KerbSplash$Street", 122, "KerbSplash$Rain", "falls", "[I", "KerbSplash") (List.mem_of_getElem? (i := 62) rfl)
theorem nF_WhatIf_47 {U : State} (h : NW U) : va_Nw (.fieldLinkNest "KerbSplash$WhatIf" 47 "KerbSplash$Rain" "minutes" "I" "KerbSplash") U := h.1 ("KerbSplash$WhatIf", 47, "KerbSplash$Rain", "minutes", "I", "KerbSplash") (List.mem_of_getElem? (i := 63) rfl)
theorem nF_Street_119 {U : State} (h : NW U) : va_Nw (.fieldLinkNest "KerbSplash$Street" 119 "KerbSplash$Rain" "minutes" "I" "KerbSplash") U := h.1 ("KerbSplash$Street", 119, "KerbSplash$Rain", "minutes", "I", "KerbSplash") (List.mem_of_getElem? (i := 64) rfl)
theorem nF_LawReader_51 {U : State} (h : NW U) : va_Nw (.fieldLinkNest "KerbSplash$LawReader" 51 "KerbSplash$Law" "size" "I" "KerbSplash") U := h.1 ("KerbSplash$LawReader", 51, "KerbSplash$Law", "size", "I", "KerbSplash") (List.mem_of_getElem? (i := 65) rfl)
theorem nF_LawReader_47 {U : State} (h : NW U) : va_Nw (.fieldLinkNest "KerbSplash$LawReader" 47 "KerbSplash$Law" "starts" "[I" "KerbSplash") U := h.1 ("KerbSplash$LawReader", 47, "KerbSplash$Law", "starts", "[I", "KerbSplash") (List.mem_of_getElem? (i := 66) rfl)
theorem nF_StreetReader_84 {U : State} (h : NW U) : va_Nw (.fieldLinkNest "KerbSplash$StreetReader" 84 "KerbSplash$Word" "work" "I" "KerbSplash") U := h.1 ("KerbSplash$StreetReader", 84, "KerbSplash$Word", "work", "I", "KerbSplash") (List.mem_of_getElem? (i := 67) rfl)
theorem nF_LawReader_37 {U : State} (h : NW U) : va_Nw (.fieldLinkNest "KerbSplash$LawReader" 37 "KerbSplash$Word" "saying" "I" "KerbSplash") U := h.1 ("KerbSplash$LawReader", 37, "KerbSplash$Word", "saying", "I", "KerbSplash") (List.mem_of_getElem? (i := 68) rfl)
theorem nF_LawReader_111 {U : State} (h : NW U) : va_Nw (.fieldLinkNest "KerbSplash$LawReader" 111 "KerbSplash$Word" "name" "I" "KerbSplash") U := h.1 ("KerbSplash$LawReader", 111, "KerbSplash$Word", "name", "I", "KerbSplash") (List.mem_of_getElem? (i := 69) rfl)
theorem nM_K_9 {U : State} (h : NW U) : va_Nw (.methodLinkNest "KerbSplash" 9 ⟨"KerbSplash$Tape", "<init>", "()V"⟩ "KerbSplash") U := h.2 ("KerbSplash", 9, ⟨"KerbSplash$Tape", "<init>", "()V"⟩, "KerbSplash") (List.mem_of_getElem? (i := 0) rfl)
theorem nM_K_30 {U : State} (h : NW U) : va_Nw (.methodLinkNest "KerbSplash" 30 ⟨"KerbSplash$Street", "<init>", "()V"⟩ "KerbSplash") U := h.2 ("KerbSplash", 30, ⟨"KerbSplash$Street", "<init>", "()V"⟩, "KerbSplash") (List.mem_of_getElem? (i := 1) rfl)
theorem nM_K_40 {U : State} (h : NW U) : va_Nw (.methodLinkNest "KerbSplash" 40 ⟨"KerbSplash$Plan", "<init>", "()V"⟩ "KerbSplash") U := h.2 ("KerbSplash", 40, ⟨"KerbSplash$Plan", "<init>", "()V"⟩, "KerbSplash") (List.mem_of_getElem? (i := 2) rfl)
theorem nM_K_55 {U : State} (h : NW U) : va_Nw (.methodLinkNest "KerbSplash" 55 ⟨"KerbSplash$WhatIf", "<init>", "()V"⟩ "KerbSplash") U := h.2 ("KerbSplash", 55, ⟨"KerbSplash$WhatIf", "<init>", "()V"⟩, "KerbSplash") (List.mem_of_getElem? (i := 3) rfl)
theorem nM_WhatIf_11 {U : State} (h : NW U) : va_Nw (.methodLinkNest "KerbSplash$WhatIf" 11 ⟨"KerbSplash$Street", "<init>", "()V"⟩ "KerbSplash") U := h.2 ("KerbSplash$WhatIf", 11, ⟨"KerbSplash$Street", "<init>", "()V"⟩, "KerbSplash") (List.mem_of_getElem? (i := 4) rfl)
theorem nM_WhatIf_20 {U : State} (h : NW U) : va_Nw (.methodLinkNest "KerbSplash$WhatIf" 20 ⟨"KerbSplash$Car", "<init>", "()V"⟩ "KerbSplash") U := h.2 ("KerbSplash$WhatIf", 20, ⟨"KerbSplash$Car", "<init>", "()V"⟩, "KerbSplash") (List.mem_of_getElem? (i := 5) rfl)
theorem nM_K_62 {U : State} (h : NW U) : va_Nw (.methodLinkNest "KerbSplash" 62 ⟨"KerbSplash$Orders", "<init>", "()V"⟩ "KerbSplash") U := h.2 ("KerbSplash", 62, ⟨"KerbSplash$Orders", "<init>", "()V"⟩, "KerbSplash") (List.mem_of_getElem? (i := 6) rfl)
theorem nM_K_71 {U : State} (h : NW U) : va_Nw (.methodLinkNest "KerbSplash" 71 ⟨"KerbSplash$Rain", "<init>", "()V"⟩ "KerbSplash") U := h.2 ("KerbSplash", 71, ⟨"KerbSplash$Rain", "<init>", "()V"⟩, "KerbSplash") (List.mem_of_getElem? (i := 7) rfl)
theorem nM_K_72 {U : State} (h : NW U) : va_Nw (.methodLinkNest "KerbSplash" 72 ⟨"KerbSplash$Law", "<init>", "()V"⟩ "KerbSplash") U := h.2 ("KerbSplash", 72, ⟨"KerbSplash$Law", "<init>", "()V"⟩, "KerbSplash") (List.mem_of_getElem? (i := 8) rfl)
theorem nM_K_73 {U : State} (h : NW U) : va_Nw (.methodLinkNest "KerbSplash" 73 ⟨"KerbSplash$Tape", "hasRoom", "()Z"⟩ "KerbSplash") U := h.2 ("KerbSplash", 73, ⟨"KerbSplash$Tape", "hasRoom", "()Z"⟩, "KerbSplash") (List.mem_of_getElem? (i := 9) rfl)
theorem nM_K_77 {U : State} (h : NW U) : va_Nw (.methodLinkNest "KerbSplash" 77 ⟨"KerbSplash$Tape", "add", "(I)V"⟩ "KerbSplash") U := h.2 ("KerbSplash", 77, ⟨"KerbSplash$Tape", "add", "(I)V"⟩, "KerbSplash") (List.mem_of_getElem? (i := 10) rfl)
theorem nM_K_341 {U : State} (h : NW U) : va_Nw (.methodLinkNest "KerbSplash" 341 ⟨"KerbSplash$Street", "become", "(LKerbSplash$Street;)V"⟩ "KerbSplash") U := h.2 ("KerbSplash", 341, ⟨"KerbSplash$Street", "become", "(LKerbSplash$Street;)V"⟩, "KerbSplash") (List.mem_of_getElem? (i := 11) rfl)
theorem nM_K_343 {U : State} (h : NW U) : va_Nw (.methodLinkNest "KerbSplash" 343 ⟨"KerbSplash$Plan", "become", "(LKerbSplash$Plan;)V"⟩ "KerbSplash") U := h.2 ("KerbSplash", 343, ⟨"KerbSplash$Plan", "become", "(LKerbSplash$Plan;)V"⟩, "KerbSplash") (List.mem_of_getElem? (i := 12) rfl)
theorem nM_K_345 {U : State} (h : NW U) : va_Nw (.methodLinkNest "KerbSplash" 345 ⟨"KerbSplash$Tape", "begin", "(I)V"⟩ "KerbSplash") U := h.2 ("KerbSplash", 345, ⟨"KerbSplash$Tape", "begin", "(I)V"⟩, "KerbSplash") (List.mem_of_getElem? (i := 13) rfl)
theorem nM_K_90 {U : State} (h : NW U) : va_Nw (.methodLinkNest "KerbSplash" 90 ⟨"KerbSplash$StreetReader", "<init>", "(LKerbSplash$Tape;LKerbSplash$Street;)V"⟩ "KerbSplash") U := h.2 ("KerbSplash", 90, ⟨"KerbSplash$StreetReader", "<init>", "(LKerbSplash$Tape;LKerbSplash$Street;)V"⟩, "KerbSplash") (List.mem_of_getElem? (i := 14) rfl)
theorem nM_K_93 {U : State} (h : NW U) : va_Nw (.methodLinkNest "KerbSplash" 93 ⟨"KerbSplash$StreetReader", "read", "()V"⟩ "KerbSplash") U := h.2 ("KerbSplash", 93, ⟨"KerbSplash$StreetReader", "read", "()V"⟩, "KerbSplash") (List.mem_of_getElem? (i := 15) rfl)
theorem nM_StreetReader_19 {U : State} (h : NW U) : va_Nw (.methodLinkNest "KerbSplash$StreetReader" 19 ⟨"KerbSplash$Street", "reset", "()V"⟩ "KerbSplash") U := h.2 ("KerbSplash$StreetReader", 19, ⟨"KerbSplash$Street", "reset", "()V"⟩, "KerbSplash") (List.mem_of_getElem? (i := 16) rfl)
theorem nM_StreetReader_24 {U : State} (h : NW U) : va_Nw (.methodLinkNest "KerbSplash$StreetReader" 24 ⟨"KerbSplash$Tape", "hasMore", "()Z"⟩ "KerbSplash") U := h.2 ("KerbSplash$StreetReader", 24, ⟨"KerbSplash$Tape", "hasMore", "()Z"⟩, "KerbSplash") (List.mem_of_getElem? (i := 17) rfl)
theorem nM_StreetReader_34 {U : State} (h : NW U) : va_Nw (.methodLinkNest "KerbSplash$StreetReader" 34 ⟨"KerbSplash$Tape", "word", "()LKerbSplash$Word;"⟩ "KerbSplash") U := h.2 ("KerbSplash$StreetReader", 34, ⟨"KerbSplash$Tape", "word", "()LKerbSplash$Word;"⟩, "KerbSplash") (List.mem_of_getElem? (i := 18) rfl)
theorem nM_Tape_48 {U : State} (h : NW U) : va_Nw (.methodLinkNest "KerbSplash$Tape" 48 ⟨"KerbSplash$Word", "of", "([BII)LKerbSplash$Word;"⟩ "KerbSplash") U := h.2 ("KerbSplash$Tape", 48, ⟨"KerbSplash$Word", "of", "([BII)LKerbSplash$Word;"⟩, "KerbSplash") (List.mem_of_getElem? (i := 19) rfl)
theorem nM_StreetReader_38 {U : State} (h : NW U) : va_Nw (.methodLinkNest "KerbSplash$StreetReader" 38 ⟨"KerbSplash$Word", "beginsClause", "()Z"⟩ "KerbSplash") U := h.2 ("KerbSplash$StreetReader", 38, ⟨"KerbSplash$Word", "beginsClause", "()Z"⟩, "KerbSplash") (List.mem_of_getElem? (i := 20) rfl)
theorem nM_StreetReader_43 {U : State} (h : NW U) : va_Nw (.methodLinkNest "KerbSplash$StreetReader" 43 ⟨"KerbSplash$Tape", "refuse", "(I)V"⟩ "KerbSplash") U := h.2 ("KerbSplash$StreetReader", 43, ⟨"KerbSplash$Tape", "refuse", "(I)V"⟩, "KerbSplash") (List.mem_of_getElem? (i := 21) rfl)
theorem nM_StreetReader_54 {U : State} (h : NW U) : va_Nw (.methodLinkNest "KerbSplash$StreetReader" 54 ⟨"KerbSplash$Tape", "takeWord", "(LKerbSplash$Word;)Z"⟩ "KerbSplash") U := h.2 ("KerbSplash$StreetReader", 54, ⟨"KerbSplash$Tape", "takeWord", "(LKerbSplash$Word;)Z"⟩, "KerbSplash") (List.mem_of_getElem? (i := 22) rfl)
theorem nM_StreetReader_105 {U : State} (h : NW U) : va_Nw (.methodLinkNest "KerbSplash$StreetReader" 105 ⟨"KerbSplash$Tape", "number", "(II)I"⟩ "KerbSplash") U := h.2 ("KerbSplash$StreetReader", 105, ⟨"KerbSplash$Tape", "number", "(II)I"⟩, "KerbSplash") (List.mem_of_getElem? (i := 23) rfl)
theorem nM_Tape_66 {U : State} (h : NW U) : va_Nw (.methodLinkNest "KerbSplash$Tape" 66 ⟨"KerbSplash", "isWithin", "(III)Z"⟩ "KerbSplash") U := h.2 ("KerbSplash$Tape", 66, ⟨"KerbSplash", "isWithin", "(III)Z"⟩, "KerbSplash") (List.mem_of_getElem? (i := 24) rfl)
theorem nM_StreetReader_109 {U : State} (h : NW U) : va_Nw (.methodLinkNest "KerbSplash$StreetReader" 109 ⟨"KerbSplash$Tape", "good", "()Z"⟩ "KerbSplash") U := h.2 ("KerbSplash$StreetReader", 109, ⟨"KerbSplash$Tape", "good", "()Z"⟩, "KerbSplash") (List.mem_of_getElem? (i := 25) rfl)
theorem nM_StreetReader_142 {U : State} (h : NW U) : va_Nw (.methodLinkNest "KerbSplash$StreetReader" 142 ⟨"KerbSplash$Street", "addWork", "(IIIII)V"⟩ "KerbSplash") U := h.2 ("KerbSplash$StreetReader", 142, ⟨"KerbSplash$Street", "addWork", "(IIIII)V"⟩, "KerbSplash") (List.mem_of_getElem? (i := 26) rfl)
theorem nM_StreetReader_118 {U : State} (h : NW U) : va_Nw (.methodLinkNest "KerbSplash$StreetReader" 118 ⟨"KerbSplash$Street", "addPerson", "(II)V"⟩ "KerbSplash") U := h.2 ("KerbSplash$StreetReader", 118, ⟨"KerbSplash$Street", "addPerson", "(II)V"⟩, "KerbSplash") (List.mem_of_getElem? (i := 27) rfl)
theorem nM_StreetReader_122 {U : State} (h : NW U) : va_Nw (.methodLinkNest "KerbSplash$StreetReader" 122 ⟨"KerbSplash$Street", "addShelter", "(II)V"⟩ "KerbSplash") U := h.2 ("KerbSplash$StreetReader", 122, ⟨"KerbSplash$Street", "addShelter", "(II)V"⟩, "KerbSplash") (List.mem_of_getElem? (i := 28) rfl)
theorem nM_StreetReader_132 {U : State} (h : NW U) : va_Nw (.methodLinkNest "KerbSplash$StreetReader" 132 ⟨"KerbSplash$Street", "index", "(II)I"⟩ "KerbSplash") U := h.2 ("KerbSplash$StreetReader", 132, ⟨"KerbSplash$Street", "index", "(II)I"⟩, "KerbSplash") (List.mem_of_getElem? (i := 29) rfl)
theorem nM_StreetReader_135 {U : State} (h : NW U) : va_Nw (.methodLinkNest "KerbSplash$StreetReader" 135 ⟨"KerbSplash$Street", "addDrain", "(IIII)V"⟩ "KerbSplash") U := h.2 ("KerbSplash$StreetReader", 135, ⟨"KerbSplash$Street", "addDrain", "(IIII)V"⟩, "KerbSplash") (List.mem_of_getElem? (i := 30) rfl)
theorem nM_StreetReader_61 {U : State} (h : NW U) : va_Nw (.methodLinkNest "KerbSplash$StreetReader" 61 ⟨"KerbSplash$Tape", "want", "(C)V"⟩ "KerbSplash") U := h.2 ("KerbSplash$StreetReader", 61, ⟨"KerbSplash$Tape", "want", "(C)V"⟩, "KerbSplash") (List.mem_of_getElem? (i := 31) rfl)
theorem nM_K_96 {U : State} (h : NW U) : va_Nw (.methodLinkNest "KerbSplash" 96 ⟨"KerbSplash$Tape", "good", "()Z"⟩ "KerbSplash") U := h.2 ("KerbSplash", 96, ⟨"KerbSplash$Tape", "good", "()Z"⟩, "KerbSplash") (List.mem_of_getElem? (i := 32) rfl)
theorem nM_K_102 {U : State} (h : NW U) : va_Nw (.methodLinkNest "KerbSplash" 102 ⟨"KerbSplash$Plan", "reset", "()V"⟩ "KerbSplash") U := h.2 ("KerbSplash", 102, ⟨"KerbSplash$Plan", "reset", "()V"⟩, "KerbSplash") (List.mem_of_getElem? (i := 33) rfl)
theorem nM_K_108 {U : State} (h : NW U) : va_Nw (.methodLinkNest "KerbSplash" 108 ⟨"KerbSplash$Street", "cells", "()I"⟩ "KerbSplash") U := h.2 ("KerbSplash", 108, ⟨"KerbSplash$Street", "cells", "()I"⟩, "KerbSplash") (List.mem_of_getElem? (i := 34) rfl)
theorem nM_K_115 {U : State} (h : NW U) : va_Nw (.methodLinkNest "KerbSplash" 115 ⟨"KerbSplash$Rain", "read", "(LKerbSplash$Tape;)V"⟩ "KerbSplash") U := h.2 ("KerbSplash", 115, ⟨"KerbSplash$Rain", "read", "(LKerbSplash$Tape;)V"⟩, "KerbSplash") (List.mem_of_getElem? (i := 35) rfl)
theorem nM_Rain_17 {U : State} (h : NW U) : va_Nw (.methodLinkNest "KerbSplash$Rain" 17 ⟨"KerbSplash$Tape", "hasMore", "()Z"⟩ "KerbSplash") U := h.2 ("KerbSplash$Rain", 17, ⟨"KerbSplash$Tape", "hasMore", "()Z"⟩, "KerbSplash") (List.mem_of_getElem? (i := 36) rfl)
theorem nM_Rain_23 {U : State} (h : NW U) : va_Nw (.methodLinkNest "KerbSplash$Rain" 23 ⟨"KerbSplash$Tape", "refuse", "(I)V"⟩ "KerbSplash") U := h.2 ("KerbSplash$Rain", 23, ⟨"KerbSplash$Tape", "refuse", "(I)V"⟩, "KerbSplash") (List.mem_of_getElem? (i := 37) rfl)
theorem nM_Rain_31 {U : State} (h : NW U) : va_Nw (.methodLinkNest "KerbSplash$Rain" 31 ⟨"KerbSplash$Tape", "word", "()LKerbSplash$Word;"⟩ "KerbSplash") U := h.2 ("KerbSplash$Rain", 31, ⟨"KerbSplash$Tape", "word", "()LKerbSplash$Word;"⟩, "KerbSplash") (List.mem_of_getElem? (i := 38) rfl)
theorem nM_Rain_41 {U : State} (h : NW U) : va_Nw (.methodLinkNest "KerbSplash$Rain" 41 ⟨"KerbSplash$Tape", "wantWord", "(LKerbSplash$Word;)V"⟩ "KerbSplash") U := h.2 ("KerbSplash$Rain", 41, ⟨"KerbSplash$Tape", "wantWord", "(LKerbSplash$Word;)V"⟩, "KerbSplash") (List.mem_of_getElem? (i := 39) rfl)
theorem nM_Rain_45 {U : State} (h : NW U) : va_Nw (.methodLinkNest "KerbSplash$Rain" 45 ⟨"KerbSplash$Tape", "number", "(II)I"⟩ "KerbSplash") U := h.2 ("KerbSplash$Rain", 45, ⟨"KerbSplash$Tape", "number", "(II)I"⟩, "KerbSplash") (List.mem_of_getElem? (i := 40) rfl)
theorem nM_Rain_49 {U : State} (h : NW U) : va_Nw (.methodLinkNest "KerbSplash$Rain" 49 ⟨"KerbSplash$Tape", "want", "(C)V"⟩ "KerbSplash") U := h.2 ("KerbSplash$Rain", 49, ⟨"KerbSplash$Tape", "want", "(C)V"⟩, "KerbSplash") (List.mem_of_getElem? (i := 41) rfl)
theorem nM_Rain_53 {U : State} (h : NW U) : va_Nw (.methodLinkNest "KerbSplash$Rain" 53 ⟨"KerbSplash$Tape", "good", "()Z"⟩ "KerbSplash") U := h.2 ("KerbSplash$Rain", 53, ⟨"KerbSplash$Tape", "good", "()Z"⟩, "KerbSplash") (List.mem_of_getElem? (i := 42) rfl)
theorem nM_K_123 {U : State} (h : NW U) : va_Nw (.methodLinkNest "KerbSplash" 123 ⟨"KerbSplash$LawReader", "<init>", "(LKerbSplash$Tape;LKerbSplash$Law;)V"⟩ "KerbSplash") U := h.2 ("KerbSplash", 123, ⟨"KerbSplash$LawReader", "<init>", "(LKerbSplash$Tape;LKerbSplash$Law;)V"⟩, "KerbSplash") (List.mem_of_getElem? (i := 43) rfl)
theorem nM_K_126 {U : State} (h : NW U) : va_Nw (.methodLinkNest "KerbSplash" 126 ⟨"KerbSplash$LawReader", "read", "()V"⟩ "KerbSplash") U := h.2 ("KerbSplash", 126, ⟨"KerbSplash$LawReader", "read", "()V"⟩, "KerbSplash") (List.mem_of_getElem? (i := 44) rfl)
theorem nM_LawReader_19 {U : State} (h : NW U) : va_Nw (.methodLinkNest "KerbSplash$LawReader" 19 ⟨"KerbSplash$Law", "reset", "()V"⟩ "KerbSplash") U := h.2 ("KerbSplash$LawReader", 19, ⟨"KerbSplash$Law", "reset", "()V"⟩, "KerbSplash") (List.mem_of_getElem? (i := 45) rfl)
theorem nM_LawReader_26 {U : State} (h : NW U) : va_Nw (.methodLinkNest "KerbSplash$LawReader" 26 ⟨"KerbSplash$Tape", "hasMore", "()Z"⟩ "KerbSplash") U := h.2 ("KerbSplash$LawReader", 26, ⟨"KerbSplash$Tape", "hasMore", "()Z"⟩, "KerbSplash") (List.mem_of_getElem? (i := 46) rfl)
theorem nM_LawReader_33 {U : State} (h : NW U) : va_Nw (.methodLinkNest "KerbSplash$LawReader" 33 ⟨"KerbSplash$Tape", "word", "()LKerbSplash$Word;"⟩ "KerbSplash") U := h.2 ("KerbSplash$LawReader", 33, ⟨"KerbSplash$Tape", "word", "()LKerbSplash$Word;"⟩, "KerbSplash") (List.mem_of_getElem? (i := 47) rfl)
theorem nM_LawReader_43 {U : State} (h : NW U) : va_Nw (.methodLinkNest "KerbSplash$LawReader" 43 ⟨"KerbSplash$Tape", "refuse", "(I)V"⟩ "KerbSplash") U := h.2 ("KerbSplash$LawReader", 43, ⟨"KerbSplash$Tape", "refuse", "(I)V"⟩, "KerbSplash") (List.mem_of_getElem? (i := 48) rfl)
theorem nM_LawReader_54 {U : State} (h : NW U) : va_Nw (.methodLinkNest "KerbSplash$LawReader" 54 ⟨"KerbSplash$Tape", "takeWord", "(LKerbSplash$Word;)Z"⟩ "KerbSplash") U := h.2 ("KerbSplash$LawReader", 54, ⟨"KerbSplash$Tape", "takeWord", "(LKerbSplash$Word;)Z"⟩, "KerbSplash") (List.mem_of_getElem? (i := 49) rfl)
theorem nM_LawReader_58 {U : State} (h : NW U) : va_Nw (.methodLinkNest "KerbSplash$LawReader" 58 ⟨"KerbSplash$Tape", "want", "(C)V"⟩ "KerbSplash") U := h.2 ("KerbSplash$LawReader", 58, ⟨"KerbSplash$Tape", "want", "(C)V"⟩, "KerbSplash") (List.mem_of_getElem? (i := 50) rfl)
theorem nM_LawReader_89 {U : State} (h : NW U) : va_Nw (.methodLinkNest "KerbSplash$LawReader" 89 ⟨"KerbSplash$Tape", "wantWord", "(LKerbSplash$Word;)V"⟩ "KerbSplash") U := h.2 ("KerbSplash$LawReader", 89, ⟨"KerbSplash$Tape", "wantWord", "(LKerbSplash$Word;)V"⟩, "KerbSplash") (List.mem_of_getElem? (i := 51) rfl)
theorem nM_LawReader_65 {U : State} (h : NW U) : va_Nw (.methodLinkNest "KerbSplash$LawReader" 65 ⟨"KerbSplash$Law", "add", "(II)I"⟩ "KerbSplash") U := h.2 ("KerbSplash$LawReader", 65, ⟨"KerbSplash$Law", "add", "(II)I"⟩, "KerbSplash") (List.mem_of_getElem? (i := 52) rfl)
theorem nM_LawReader_114 {U : State} (h : NW U) : va_Nw (.methodLinkNest "KerbSplash$LawReader" 114 ⟨"KerbSplash$Tape", "sign", "()I"⟩ "KerbSplash") U := h.2 ("KerbSplash$LawReader", 114, ⟨"KerbSplash$Tape", "sign", "()I"⟩, "KerbSplash") (List.mem_of_getElem? (i := 53) rfl)
theorem nM_LawReader_82 {U : State} (h : NW U) : va_Nw (.methodLinkNest "KerbSplash$LawReader" 82 ⟨"KerbSplash$Tape", "take", "(C)Z"⟩ "KerbSplash") U := h.2 ("KerbSplash$LawReader", 82, ⟨"KerbSplash$Tape", "take", "(C)Z"⟩, "KerbSplash") (List.mem_of_getElem? (i := 54) rfl)
theorem nM_LawReader_102 {U : State} (h : NW U) : va_Nw (.methodLinkNest "KerbSplash$LawReader" 102 ⟨"KerbSplash$Law", "aim", "(I)V"⟩ "KerbSplash") U := h.2 ("KerbSplash$LawReader", 102, ⟨"KerbSplash$Law", "aim", "(I)V"⟩, "KerbSplash") (List.mem_of_getElem? (i := 55) rfl)
theorem nM_LawReader_118 {U : State} (h : NW U) : va_Nw (.methodLinkNest "KerbSplash$LawReader" 118 ⟨"KerbSplash$Tape", "number", "(II)I"⟩ "KerbSplash") U := h.2 ("KerbSplash$LawReader", 118, ⟨"KerbSplash$Tape", "number", "(II)I"⟩, "KerbSplash") (List.mem_of_getElem? (i := 56) rfl)
theorem nM_LawReader_79 {U : State} (h : NW U) : va_Nw (.methodLinkNest "KerbSplash$LawReader" 79 ⟨"KerbSplash$Tape", "good", "()Z"⟩ "KerbSplash") U := h.2 ("KerbSplash$LawReader", 79, ⟨"KerbSplash$Tape", "good", "()Z"⟩, "KerbSplash") (List.mem_of_getElem? (i := 57) rfl)
theorem nM_K_348 {U : State} (h : NW U) : va_Nw (.methodLinkNest "KerbSplash" 348 ⟨"KerbSplash$Street", "has", "(II)Z"⟩ "KerbSplash") U := h.2 ("KerbSplash", 348, ⟨"KerbSplash$Street", "has", "(II)Z"⟩, "KerbSplash") (List.mem_of_getElem? (i := 58) rfl)
theorem nM_K_163 {U : State} (h : NW U) : va_Nw (.methodLinkNest "KerbSplash" 163 ⟨"KerbSplash$Street", "index", "(II)I"⟩ "KerbSplash") U := h.2 ("KerbSplash", 163, ⟨"KerbSplash$Street", "index", "(II)I"⟩, "KerbSplash") (List.mem_of_getElem? (i := 59) rfl)
theorem nM_K_173 {U : State} (h : NW U) : va_Nw (.methodLinkNest "KerbSplash" 173 ⟨"KerbSplash$Street", "surface", "(I)I"⟩ "KerbSplash") U := h.2 ("KerbSplash", 173, ⟨"KerbSplash$Street", "surface", "(I)I"⟩, "KerbSplash") (List.mem_of_getElem? (i := 60) rfl)
theorem nM_K_192 {U : State} (h : NW U) : va_Nw (.methodLinkNest "KerbSplash" 192 ⟨"KerbSplash$Street", "doWork", "(I)Z"⟩ "KerbSplash") U := h.2 ("KerbSplash", 192, ⟨"KerbSplash$Street", "doWork", "(I)Z"⟩, "KerbSplash") (List.mem_of_getElem? (i := 61) rfl)
theorem nM_Street_100 {U : State} (h : NW U) : va_Nw (.methodLinkNest "KerbSplash$Street" 100 ⟨"KerbSplash", "held", "(JII)I"⟩ "KerbSplash") U := h.2 ("KerbSplash$Street", 100, ⟨"KerbSplash", "held", "(JII)I"⟩, "KerbSplash") (List.mem_of_getElem? (i := 62) rfl)
theorem nM_K_196 {U : State} (h : NW U) : va_Nw (.methodLinkNest "KerbSplash" 196 ⟨"KerbSplash$Street", "isTold", "()Z"⟩ "KerbSplash") U := h.2 ("KerbSplash", 196, ⟨"KerbSplash$Street", "isTold", "()Z"⟩, "KerbSplash") (List.mem_of_getElem? (i := 63) rfl)
theorem nM_K_199 {U : State} (h : NW U) : va_Nw (.methodLinkNest "KerbSplash" 199 ⟨"KerbSplash$Street", "hasTime", "()Z"⟩ "KerbSplash") U := h.2 ("KerbSplash", 199, ⟨"KerbSplash$Street", "hasTime", "()Z"⟩, "KerbSplash") (List.mem_of_getElem? (i := 64) rfl)
theorem nM_K_205 {U : State} (h : NW U) : va_Nw (.methodLinkNest "KerbSplash" 205 ⟨"KerbSplash$Street", "passMinutes", "(II)I"⟩ "KerbSplash") U := h.2 ("KerbSplash", 205, ⟨"KerbSplash$Street", "passMinutes", "(II)I"⟩, "KerbSplash") (List.mem_of_getElem? (i := 65) rfl)
theorem nM_K_211 {U : State} (h : NW U) : va_Nw (.methodLinkNest "KerbSplash" 211 ⟨"KerbSplash$Street", "passRain", "(LKerbSplash$Rain;)I"⟩ "KerbSplash") U := h.2 ("KerbSplash", 211, ⟨"KerbSplash$Street", "passRain", "(LKerbSplash$Rain;)I"⟩, "KerbSplash") (List.mem_of_getElem? (i := 66) rfl)
theorem nM_K_224 {U : State} (h : NW U) : va_Nw (.methodLinkNest "KerbSplash" 224 ⟨"KerbSplash$Street", "standing", "()I"⟩ "KerbSplash") U := h.2 ("KerbSplash", 224, ⟨"KerbSplash$Street", "standing", "()I"⟩, "KerbSplash") (List.mem_of_getElem? (i := 67) rfl)
theorem nM_K_239 {U : State} (h : NW U) : va_Nw (.methodLinkNest "KerbSplash" 239 ⟨"KerbSplash$Law", "value", "(I[I)I"⟩ "KerbSplash") U := h.2 ("KerbSplash", 239, ⟨"KerbSplash$Law", "value", "(I[I)I"⟩, "KerbSplash") (List.mem_of_getElem? (i := 68) rfl)
theorem nM_K_247 {U : State} (h : NW U) : va_Nw (.methodLinkNest "KerbSplash" 247 ⟨"KerbSplash$Car", "become", "(IIII)V"⟩ "KerbSplash") U := h.2 ("KerbSplash", 247, ⟨"KerbSplash$Car", "become", "(IIII)V"⟩, "KerbSplash") (List.mem_of_getElem? (i := 69) rfl)
theorem nM_K_251 {U : State} (h : NW U) : va_Nw (.methodLinkNest "KerbSplash" 251 ⟨"KerbSplash$Car", "drive", "(LKerbSplash$Street;LKerbSplash$Law;)I"⟩ "KerbSplash") U := h.2 ("KerbSplash", 251, ⟨"KerbSplash$Car", "drive", "(LKerbSplash$Street;LKerbSplash$Law;)I"⟩, "KerbSplash") (List.mem_of_getElem? (i := 70) rfl)
theorem nM_Car_58 {U : State} (h : NW U) : va_Nw (.methodLinkNest "KerbSplash$Car" 58 ⟨"KerbSplash$Street", "peopleAt", "(I)I"⟩ "KerbSplash") U := h.2 ("KerbSplash$Car", 58, ⟨"KerbSplash$Street", "peopleAt", "(I)I"⟩, "KerbSplash") (List.mem_of_getElem? (i := 71) rfl)
theorem nM_Car_75 {U : State} (h : NW U) : va_Nw (.methodLinkNest "KerbSplash$Car" 75 ⟨"KerbSplash$Street", "index", "(II)I"⟩ "KerbSplash") U := h.2 ("KerbSplash$Car", 75, ⟨"KerbSplash$Street", "index", "(II)I"⟩, "KerbSplash") (List.mem_of_getElem? (i := 72) rfl)
theorem nM_Car_37 {U : State} (h : NW U) : va_Nw (.methodLinkNest "KerbSplash$Car" 37 ⟨"KerbSplash$Law", "value", "(I[I)I"⟩ "KerbSplash") U := h.2 ("KerbSplash$Car", 37, ⟨"KerbSplash$Law", "value", "(I[I)I"⟩, "KerbSplash") (List.mem_of_getElem? (i := 73) rfl)
theorem nM_Car_41 {U : State} (h : NW U) : va_Nw (.methodLinkNest "KerbSplash$Car" 41 ⟨"KerbSplash", "held", "(JII)I"⟩ "KerbSplash") U := h.2 ("KerbSplash$Car", 41, ⟨"KerbSplash", "held", "(JII)I"⟩, "KerbSplash") (List.mem_of_getElem? (i := 74) rfl)
theorem nM_Car_50 {U : State} (h : NW U) : va_Nw (.methodLinkNest "KerbSplash$Car" 50 ⟨"KerbSplash$Street", "throwFrom", "(III)V"⟩ "KerbSplash") U := h.2 ("KerbSplash$Car", 50, ⟨"KerbSplash$Street", "throwFrom", "(III)V"⟩, "KerbSplash") (List.mem_of_getElem? (i := 75) rfl)
theorem nM_Car_79 {U : State} (h : NW U) : va_Nw (.methodLinkNest "KerbSplash$Car" 79 ⟨"KerbSplash$Street", "isSheltered", "(I)Z"⟩ "KerbSplash") U := h.2 ("KerbSplash$Car", 79, ⟨"KerbSplash$Street", "isSheltered", "(I)Z"⟩, "KerbSplash") (List.mem_of_getElem? (i := 76) rfl)
theorem nM_Street_139 {U : State} (h : NW U) : va_Nw (.methodLinkNest "KerbSplash$Street" 139 ⟨"KerbSplash", "isWithin", "(III)Z"⟩ "KerbSplash") U := h.2 ("KerbSplash$Street", 139, ⟨"KerbSplash", "isWithin", "(III)Z"⟩, "KerbSplash") (List.mem_of_getElem? (i := 77) rfl)
theorem nM_K_255 {U : State} (h : NW U) : va_Nw (.methodLinkNest "KerbSplash" 255 ⟨"KerbSplash$Plan", "addCar", "(IIIII)I"⟩ "KerbSplash") U := h.2 ("KerbSplash", 255, ⟨"KerbSplash$Plan", "addCar", "(IIIII)I"⟩, "KerbSplash") (List.mem_of_getElem? (i := 78) rfl)
theorem nM_K_259 {U : State} (h : NW U) : va_Nw (.methodLinkNest "KerbSplash" 259 ⟨"KerbSplash$WhatIf", "passTraffic", "(LKerbSplash$Street;LKerbSplash$Plan;LKerbSplash$Law;)I"⟩ "KerbSplash") U := h.2 ("KerbSplash", 259, ⟨"KerbSplash$WhatIf", "passTraffic", "(LKerbSplash$Street;LKerbSplash$Plan;LKerbSplash$Law;)I"⟩, "KerbSplash") (List.mem_of_getElem? (i := 79) rfl)
theorem nM_WhatIf_104 {U : State} (h : NW U) : va_Nw (.methodLinkNest "KerbSplash$WhatIf" 104 ⟨"KerbSplash$Street", "runRounds", "(I)V"⟩ "KerbSplash") U := h.2 ("KerbSplash$WhatIf", 104, ⟨"KerbSplash$Street", "runRounds", "(I)V"⟩, "KerbSplash") (List.mem_of_getElem? (i := 80) rfl)
theorem nM_WhatIf_107 {U : State} (h : NW U) : va_Nw (.methodLinkNest "KerbSplash$WhatIf" 107 ⟨"KerbSplash$Car", "become", "(IIII)V"⟩ "KerbSplash") U := h.2 ("KerbSplash$WhatIf", 107, ⟨"KerbSplash$Car", "become", "(IIII)V"⟩, "KerbSplash") (List.mem_of_getElem? (i := 81) rfl)
theorem nM_WhatIf_110 {U : State} (h : NW U) : va_Nw (.methodLinkNest "KerbSplash$WhatIf" 110 ⟨"KerbSplash$Car", "drive", "(LKerbSplash$Street;LKerbSplash$Law;)I"⟩ "KerbSplash") U := h.2 ("KerbSplash$WhatIf", 110, ⟨"KerbSplash$Car", "drive", "(LKerbSplash$Street;LKerbSplash$Law;)I"⟩, "KerbSplash") (List.mem_of_getElem? (i := 82) rfl)
theorem nM_K_266 {U : State} (h : NW U) : va_Nw (.methodLinkNest "KerbSplash" 266 ⟨"KerbSplash$WhatIf", "depthBehind", "(LKerbSplash$Street;LKerbSplash$Rain;I)I"⟩ "KerbSplash") U := h.2 ("KerbSplash", 266, ⟨"KerbSplash$WhatIf", "depthBehind", "(LKerbSplash$Street;LKerbSplash$Rain;I)I"⟩, "KerbSplash") (List.mem_of_getElem? (i := 83) rfl)
theorem nM_WhatIf_36 {U : State} (h : NW U) : va_Nw (.methodLinkNest "KerbSplash$WhatIf" 36 ⟨"KerbSplash$Street", "become", "(LKerbSplash$Street;)V"⟩ "KerbSplash") U := h.2 ("KerbSplash$WhatIf", 36, ⟨"KerbSplash$Street", "become", "(LKerbSplash$Street;)V"⟩, "KerbSplash") (List.mem_of_getElem? (i := 84) rfl)
theorem nM_WhatIf_40 {U : State} (h : NW U) : va_Nw (.methodLinkNest "KerbSplash$WhatIf" 40 ⟨"KerbSplash$Street", "passRain", "(LKerbSplash$Rain;)I"⟩ "KerbSplash") U := h.2 ("KerbSplash$WhatIf", 40, ⟨"KerbSplash$Street", "passRain", "(LKerbSplash$Rain;)I"⟩, "KerbSplash") (List.mem_of_getElem? (i := 85) rfl)
theorem nM_K_270 {U : State} (h : NW U) : va_Nw (.methodLinkNest "KerbSplash" 270 ⟨"KerbSplash$WhatIf", "minuteOf", "(LKerbSplash$Street;LKerbSplash$Rain;II)I"⟩ "KerbSplash") U := h.2 ("KerbSplash", 270, ⟨"KerbSplash$WhatIf", "minuteOf", "(LKerbSplash$Street;LKerbSplash$Rain;II)I"⟩, "KerbSplash") (List.mem_of_getElem? (i := 86) rfl)
theorem nM_WhatIf_52 {U : State} (h : NW U) : va_Nw (.methodLinkNest "KerbSplash$WhatIf" 52 ⟨"KerbSplash$Street", "hasTime", "()Z"⟩ "KerbSplash") U := h.2 ("KerbSplash$WhatIf", 52, ⟨"KerbSplash$Street", "hasTime", "()Z"⟩, "KerbSplash") (List.mem_of_getElem? (i := 87) rfl)
theorem nM_WhatIf_59 {U : State} (h : NW U) : va_Nw (.methodLinkNest "KerbSplash$WhatIf" 59 ⟨"KerbSplash$Street", "passMinute", "(I)V"⟩ "KerbSplash") U := h.2 ("KerbSplash$WhatIf", 59, ⟨"KerbSplash$Street", "passMinute", "(I)V"⟩, "KerbSplash") (List.mem_of_getElem? (i := 88) rfl)
theorem nM_K_274 {U : State} (h : NW U) : va_Nw (.methodLinkNest "KerbSplash" 274 ⟨"KerbSplash$WhatIf", "findBlame", "(LKerbSplash$Street;LKerbSplash$Rain;I)V"⟩ "KerbSplash") U := h.2 ("KerbSplash", 274, ⟨"KerbSplash$WhatIf", "findBlame", "(LKerbSplash$Street;LKerbSplash$Rain;I)V"⟩, "KerbSplash") (List.mem_of_getElem? (i := 89) rfl)
theorem nM_K_278 {U : State} (h : NW U) : va_Nw (.methodLinkNest "KerbSplash" 278 ⟨"KerbSplash$WhatIf", "answer", "(I)I"⟩ "KerbSplash") U := h.2 ("KerbSplash", 278, ⟨"KerbSplash$WhatIf", "answer", "(I)I"⟩, "KerbSplash") (List.mem_of_getElem? (i := 90) rfl)
theorem nM_K_281 {U : State} (h : NW U) : va_Nw (.methodLinkNest "KerbSplash" 281 ⟨"KerbSplash$WhatIf", "findLook", "(LKerbSplash$Street;LKerbSplash$Rain;)V"⟩ "KerbSplash") U := h.2 ("KerbSplash", 281, ⟨"KerbSplash$WhatIf", "findLook", "(LKerbSplash$Street;LKerbSplash$Rain;)V"⟩, "KerbSplash") (List.mem_of_getElem? (i := 91) rfl)
theorem nM_WhatIf_69 {U : State} (h : NW U) : va_Nw (.methodLinkNest "KerbSplash$WhatIf" 69 ⟨"KerbSplash$Street", "cells", "()I"⟩ "KerbSplash") U := h.2 ("KerbSplash$WhatIf", 69, ⟨"KerbSplash$Street", "cells", "()I"⟩, "KerbSplash") (List.mem_of_getElem? (i := 92) rfl)
theorem nM_WhatIf_88 {U : State} (h : NW U) : va_Nw (.methodLinkNest "KerbSplash$WhatIf" 88 ⟨"KerbSplash$Street", "index", "(II)I"⟩ "KerbSplash") U := h.2 ("KerbSplash$WhatIf", 88, ⟨"KerbSplash$Street", "index", "(II)I"⟩, "KerbSplash") (List.mem_of_getElem? (i := 93) rfl)
theorem nM_K_285 {U : State} (h : NW U) : va_Nw (.methodLinkNest "KerbSplash" 285 ⟨"KerbSplash$WhatIf", "findStand", "(LKerbSplash$Street;LKerbSplash$Plan;LKerbSplash$Law;I)V"⟩ "KerbSplash") U := h.2 ("KerbSplash", 285, ⟨"KerbSplash$WhatIf", "findStand", "(LKerbSplash$Street;LKerbSplash$Plan;LKerbSplash$Law;I)V"⟩, "KerbSplash") (List.mem_of_getElem? (i := 94) rfl)
theorem nM_WhatIf_117 {U : State} (h : NW U) : va_Nw (.methodLinkNest "KerbSplash$WhatIf" 117 ⟨"KerbSplash$Street", "guessPerson", "(II)V"⟩ "KerbSplash") U := h.2 ("KerbSplash$WhatIf", 117, ⟨"KerbSplash$Street", "guessPerson", "(II)V"⟩, "KerbSplash") (List.mem_of_getElem? (i := 95) rfl)
theorem nM_K_289 {U : State} (h : NW U) : va_Nw (.methodLinkNest "KerbSplash" 289 ⟨"KerbSplash$WhatIf", "greatestPace", "(LKerbSplash$Street;LKerbSplash$Law;III)I"⟩ "KerbSplash") U := h.2 ("KerbSplash", 289, ⟨"KerbSplash$WhatIf", "greatestPace", "(LKerbSplash$Street;LKerbSplash$Law;III)I"⟩, "KerbSplash") (List.mem_of_getElem? (i := 96) rfl)
theorem nM_K_293 {U : State} (h : NW U) : va_Nw (.methodLinkNest "KerbSplash" 293 ⟨"KerbSplash$WhatIf", "findStep", "(LKerbSplash$Street;LKerbSplash$Plan;LKerbSplash$Law;)V"⟩ "KerbSplash") U := h.2 ("KerbSplash", 293, ⟨"KerbSplash$WhatIf", "findStep", "(LKerbSplash$Street;LKerbSplash$Plan;LKerbSplash$Law;)V"⟩, "KerbSplash") (List.mem_of_getElem? (i := 97) rfl)
theorem nM_WhatIf_131 {U : State} (h : NW U) : va_Nw (.methodLinkNest "KerbSplash$WhatIf" 131 ⟨"KerbSplash$Street", "canStep", "(I)Z"⟩ "KerbSplash") U := h.2 ("KerbSplash$WhatIf", 131, ⟨"KerbSplash$Street", "canStep", "(I)Z"⟩, "KerbSplash") (List.mem_of_getElem? (i := 98) rfl)
theorem nM_WhatIf_135 {U : State} (h : NW U) : va_Nw (.methodLinkNest "KerbSplash$WhatIf" 135 ⟨"KerbSplash$Street", "stepAll", "(I)V"⟩ "KerbSplash") U := h.2 ("KerbSplash$WhatIf", 135, ⟨"KerbSplash$Street", "stepAll", "(I)V"⟩, "KerbSplash") (List.mem_of_getElem? (i := 99) rfl)
theorem nM_K_297 {U : State} (h : NW U) : va_Nw (.methodLinkNest "KerbSplash" 297 ⟨"KerbSplash$WhatIf", "findMend", "(LKerbSplash$Street;LKerbSplash$Rain;II)V"⟩ "KerbSplash") U := h.2 ("KerbSplash", 297, ⟨"KerbSplash$WhatIf", "findMend", "(LKerbSplash$Street;LKerbSplash$Rain;II)V"⟩, "KerbSplash") (List.mem_of_getElem? (i := 100) rfl)
theorem nM_WhatIf_151 {U : State} (h : NW U) : va_Nw (.methodLinkNest "KerbSplash$WhatIf" 151 ⟨"KerbSplash$Street", "coinOf", "(I)I"⟩ "KerbSplash") U := h.2 ("KerbSplash$WhatIf", 151, ⟨"KerbSplash$Street", "coinOf", "(I)I"⟩, "KerbSplash") (List.mem_of_getElem? (i := 101) rfl)
theorem nM_WhatIf_142 {U : State} (h : NW U) : va_Nw (.methodLinkNest "KerbSplash$WhatIf" 142 ⟨"KerbSplash$Street", "doWorks", "(I)V"⟩ "KerbSplash") U := h.2 ("KerbSplash$WhatIf", 142, ⟨"KerbSplash$Street", "doWorks", "(I)V"⟩, "KerbSplash") (List.mem_of_getElem? (i := 102) rfl)
theorem nM_K_304 {U : State} (h : NW U) : va_Nw (.methodLinkNest "KerbSplash" 304 ⟨"KerbSplash$WhatIf", "shareMeant", "(LKerbSplash$Street;LKerbSplash$Plan;LKerbSplash$Law;III)I"⟩ "KerbSplash") U := h.2 ("KerbSplash", 304, ⟨"KerbSplash$WhatIf", "shareMeant", "(LKerbSplash$Street;LKerbSplash$Plan;LKerbSplash$Law;III)I"⟩, "KerbSplash") (List.mem_of_getElem? (i := 103) rfl)
theorem nM_WhatIf_158 {U : State} (h : NW U) : va_Nw (.methodLinkNest "KerbSplash$WhatIf" 158 ⟨"KerbSplash$Car", "come", "(LKerbSplash$Street;LKerbSplash$Law;I)V"⟩ "KerbSplash") U := h.2 ("KerbSplash$WhatIf", 158, ⟨"KerbSplash$Car", "come", "(LKerbSplash$Street;LKerbSplash$Law;I)V"⟩, "KerbSplash") (List.mem_of_getElem? (i := 104) rfl)
theorem nM_K_308 {U : State} (h : NW U) : va_Nw (.methodLinkNest "KerbSplash" 308 ⟨"KerbSplash$Plan", "addDip", "(III)I"⟩ "KerbSplash") U := h.2 ("KerbSplash", 308, ⟨"KerbSplash$Plan", "addDip", "(III)I"⟩, "KerbSplash") (List.mem_of_getElem? (i := 105) rfl)
theorem nM_K_315 {U : State} (h : NW U) : va_Nw (.methodLinkNest "KerbSplash" 315 ⟨"KerbSplash$Orders", "findFirst", "(LKerbSplash$Plan;)V"⟩ "KerbSplash") U := h.2 ("KerbSplash", 315, ⟨"KerbSplash$Orders", "findFirst", "(LKerbSplash$Plan;)V"⟩, "KerbSplash") (List.mem_of_getElem? (i := 106) rfl)
theorem nM_K_328 {U : State} (h : NW U) : va_Nw (.methodLinkNest "KerbSplash" 328 ⟨"KerbSplash$Orders", "findSweeping", "(LKerbSplash$Street;)V"⟩ "KerbSplash") U := h.2 ("KerbSplash", 328, ⟨"KerbSplash$Orders", "findSweeping", "(LKerbSplash$Street;)V"⟩, "KerbSplash") (List.mem_of_getElem? (i := 107) rfl)
theorem nM_K_332 {U : State} (h : NW U) : va_Nw (.methodLinkNest "KerbSplash" 332 ⟨"KerbSplash$Street", "iceCells", "(I)I"⟩ "KerbSplash") U := h.2 ("KerbSplash", 332, ⟨"KerbSplash$Street", "iceCells", "(I)I"⟩, "KerbSplash") (List.mem_of_getElem? (i := 108) rfl)
theorem nM_K_335 {U : State} (h : NW U) : va_Nw (.methodLinkNest "KerbSplash" 335 ⟨"KerbSplash$Street", "longestIce", "(I)I"⟩ "KerbSplash") U := h.2 ("KerbSplash", 335, ⟨"KerbSplash$Street", "longestIce", "(I)I"⟩, "KerbSplash") (List.mem_of_getElem? (i := 109) rfl)
theorem nM_K_338 {U : State} (h : NW U) : va_Nw (.methodLinkNest "KerbSplash" 338 ⟨"KerbSplash$Street", "personsOnIce", "(I)I"⟩ "KerbSplash") U := h.2 ("KerbSplash", 338, ⟨"KerbSplash$Street", "personsOnIce", "(I)I"⟩, "KerbSplash") (List.mem_of_getElem? (i := 110) rfl)
abbrev tyW (cy : Nat → ClassId) : List (ClassId × FieldType) := [(cy 0, .int), (cy 1, .byte), (cy 2, .long), (cy 3, .object RX6), (cy 4, .object RX5), (cy 5, .object RX1), (cy 6, .object RX4)]
def exn : List String := ["java/lang/IndexOutOfBoundsException", "java/util/NoSuchElementException", "java/lang/IllegalArgumentException", "java/lang/IllegalStateException"]
def stX : List (String × Nat × String × Nat) := [(RX11, 354, "no such cell", 0), (RX11, 361, "there is none of that number", 1), (RX11, 366, "a number is none such", 2), (RX11, 371, "there is no street, or its time is over", 3), (RX12, 133, "clear", 234), (RX12, 139, "raise", 235), (RX12, 141, "lower", 236), (RX12, 143, "bore", 237), (RX12, 154, "size", 229), (RX12, 155, "high", 230), (RX12, 157, "drain", 231), (RX12, 162, "person", 232), (RX12, 185, "shelter", 233), (RX12, 207, "rain", 238), (RX12, 215, "depth", 250), (RX12, 217, "pace", 251), (RX12, 219, "tyre", 252), (RX12, 221, "row", 253), (RX12, 223, "far", 254), (RX12, 225, "people", 255), (RX12, 242, "if", 244), (RX12, 247, "then", 245), (RX12, 252, "else", 246), (RX12, 257, "not", 249), (RX12, 262, "and", 248), (RX12, 267, "or", 247), (RX12, 269, "throw", 239), (RX12, 271, "reach", 240), (RX12, 273, "wet", 241), (RX12, 275, "slow", 242), (RX12, 277, "out", 243)]
def dcl : List MethodName := [⟨"java/lang/RuntimeException", "<init>", "(Ljava/lang/String;)V"⟩, ⟨"java/lang/Exception", "<init>", "(Ljava/lang/String;)V"⟩, ⟨"java/lang/Throwable", "<init>", "(Ljava/lang/String;)V"⟩]
/-- what all contracts take as given: the tables' words on fields, arrays, private members, texts, casts -/
def GC (D : va_G) (cy : Nat → ClassId) (sa : Nat → Nat) (U : State) : Prop :=
  va_K D vwCl (tyW cy) U ∧ NW U ∧ (∀ (k : Nat) (q : String × Nat × String × Nat), stX[k]? = some q → vk_R q.1 q.2.1 q.2.2.1 (sa q.2.2.2) U) ∧ (∀ e ∈ exn, va_Nw (.castable e e) U) ∧ (∀ e ∈ exn, ∀ f ∈ exn, e ≠ f → va_Nc e f U) ∧ (va_AO RX5 U ∧ va_AO RX1 U ∧ va_AO RX6 U ∧ va_AO RX4 U) ∧ (∀ y ∈ dcl, va_Nw (.declares y) U)
theorem GC.warm {D : va_G} {cy : Nat → ClassId} {sa : Nat → Nat} {s U : State} (hW : s.WarmedH U.vm) (h : GC D cy sa s) : GC D cy sa U :=
  ⟨va_K.moved hW.alike h.1, h.2.1.warm hW, fun k q hq => vk_R.warm hW (h.2.2.1 k q hq), fun e he => va_Nw.warmC hW (h.2.2.2.1 e he), fun e he f hf hn => (h.2.2.2.2.1 e he f hf hn).moved hW.alike, ⟨h.2.2.2.2.2.1.1.moved hW.alike, h.2.2.2.2.2.1.2.1.moved hW.alike, h.2.2.2.2.2.1.2.2.1.moved hW.alike, h.2.2.2.2.2.1.2.2.2.moved hW.alike⟩, fun y hy => va_Nw.warmD hW (h.2.2.2.2.2.2 y hy)⟩
theorem GC.same {D : va_G} {cy : Nat → ClassId} {sa : Nat → Nat} {s U : State} (hv : s.vm = U.vm) (h : GC D cy sa s) : GC D cy sa U := by
  have ha : s.vm.Alike U.vm := by rw [hv]; exact Vm.Alike.refl _
  exact ⟨va_K.moved ha h.1, h.2.1.same hv, fun k q hq => vk_R.same hv.symm (h.2.2.1 k q hq), fun e he => va_Nw.same rfl hv (h.2.2.2.1 e he), fun e he f hf hn => (h.2.2.2.2.1 e he f hf hn).moved ha, ⟨h.2.2.2.2.2.1.1.moved ha, h.2.2.2.2.2.1.2.1.moved ha, h.2.2.2.2.2.1.2.2.1.moved ha, h.2.2.2.2.2.1.2.2.2.moved ha⟩, fun y hy => va_Nw.same rfl hv (h.2.2.2.2.2.2 y hy)⟩
/-- what a throw reads of Throwable's statics -/
def TH (sa : Nat → Nat) (A : Nat → Prop) (U : State) (H : Heap) : Prop := vx_Zq Bundle.tN "UNASSIGNED_STACK" Bundle.steD A U H ∧ vx_Zq Bundle.tN "SUPPRESSED_SENTINEL" Bundle.listD A U H ∧ WD sa A U H
theorem TH.moved {sa : Nat → Nat} {A : Nat → Prop} {u U : State} {H : Heap} (hvm : u.vm.Alike U.vm) (h : TH sa A u H) : TH sa A U H := ⟨h.1.moved hvm, h.2.1.moved hvm, h.2.2.moved hvm⟩
theorem TH.kept {sa : Nat → Nat} {A : Nat → Prop} {U : State} {H H1 : Heap} (h : TH sa A U H) (hq : ∀ a : Nat, a < H.size → ¬ A a → H1[a]? = H[a]?) : TH sa A U H1 := ⟨h.1.kept hq, h.2.1.kept hq, h.2.2.kept hq⟩
theorem TH.narrow {sa : Nat → Nat} {A B : Nat → Prop} {U : State} {H : Heap} (h : TH sa A U H) (hAB : ∀ q, B q → A q) : TH sa B U H := ⟨h.1.narrow hAB, h.2.1.narrow hAB, h.2.2.narrow hAB⟩
/-- a contract's start -/
def pcW (D : va_G) (cy : Nat → ClassId) (sa : Nat → Nat) (sz : Nat) (ws : va_W) (U : State) : Prop :=
  U.heap.size = sz ∧ va_P D vwCl ws U.heap ∧ GC D cy sa U ∧ va_D (fun _ => True) ws ∧ TH sa (va_A ws sz) U U.heap
theorem pcW.blind {D : va_G} {cy : Nat → ClassId} {sa : Nat → Nat} {sz : Nat} {ws : va_W} {av : List Value} : FrameBlind (va_Pc av (pcW D cy sa sz ws)) := by
  intro a U g mk q
  obtain ⟨q0, q1, q2, q3, q4, q5⟩ := q
  exact ⟨q0, q1, q2, GC.same (s := U) (U := U.calling g mk a) rfl q3, q4, TH.moved (u := U) (U := U.calling g mk a) (Vm.Alike.refl U.vm) q5⟩
theorem fm_of_map {ws wc : va_W} (is : List Nat) (h : is.map (fun i => ws[i]?) = wc.map some) : is.filterMap (fun i => ws[i]?) = wc := by
  have e : is.filterMap (fun i => ws[i]?) = (is.map (fun i => ws[i]?)).filterMap id := by rw [List.filterMap_map]; rfl
  rw [e, h, List.filterMap_map]
  have : (id ∘ some : Nat × va_E → Option (Nat × va_E)) = some := rfl
  rw [this, List.filterMap_some]
theorem pcW.mk {D : va_G} {cy : Nat → ClassId} {sa : Nat → Nat} {s : State} {H : Heap} {locs : List Loc} {A : Nat → Prop} {ws wc : va_W} {av : List Value} (hP : va_P D vwCl ws H) (hD : va_D A ws) (hS : va_S A s.heap H locs) (hA : ∀ q, s.heap.size ≤ q → A q) (hG : GC D cy sa s) (hT : TH sa A s s.heap) (is : List Nat) (hC : is.map (fun i => ws[i]?) = wc.map some) (hn : va_nd is = true) :
    ∀ U : State, U.heap = H → s.WarmedH U.vm → va_Pc av (pcW D cy sa H.size wc) av.toArray U := by
  intro U hU hW
  refine ⟨rfl, by rw [hU], by rw [hU]; exact hP.sub is (fm_of_map is hC), hG.warm hW, (hD.sub is hn hC).weaken (fun _ _ _ _ => trivial), ?_⟩
  rw [hU]
  exact ((hT.kept hS.2.1).moved hW.alike).narrow (va_free hD hS hA is hC)
abbrev atW (D : va_G) (A : Nat → Prop) (ws : va_W) (t : State) : Prop := va_P D vwCl ws t.heap ∧ va_D A ws
abbrev SU : Type := (Nat → Nat) × (Nat → Int32) × (Nat → Nat → Int32)
section CJ
variable {p : Program} {l : Launch} {e : Env} {R : Room} {s : State} {m : MethodId} {args : Array Value} {below : List Frame} {meth : Method} {c : Code} {H : Heap} {locs : List Loc} {cells slots mc ms : Nat} {Q : State → Prop} {pc : Nat} {ls : Array Slot} {st0 rest : List Value} {a : Array Value} {D : va_G} {A : Nat → Prop} {ws wc wr : va_W}
theorem lt_i {x y : Int32} (h : x = y) (k : W p l e R s m args below meth c H locs cells slots Q (F0 m pc ls (.int y :: rest))) : W p l e R s m args below meth c H locs cells slots Q (F0 m pc ls (.int x :: rest)) := h ▸ k
theorem cj_i {S : Type} {post : Int32 → S → Prop} {wB : S → va_W} (hr : va_Run p l e R s m args below meth c H locs cells slots mc ms (F0 m pc ls st0) rest (va_Qi post (fun u t => atW D (va_A wc H.size) (wB u) t) (va_A wc H.size) a) (va_A wc H.size))
    (hP : va_P D vwCl ws H) (hD : va_D A ws) (hS : va_S A s.heap H locs) (hA : ∀ q, s.heap.size ≤ q → A q) (isC isR : List Nat) (hC : isC.map (fun i => ws[i]?) = wc.map some) (hR : isR.map (fun i => ws[i]?) = wr.map some) (hn : va_nd isR = true) (hdis : ∀ i ∈ isR, i ∉ isC)
    (kk : ∀ (r : Int32) (u : S) (H1 : Heap) (locs1 : List Loc), post r u → va_P D vwCl (wr ++ wB u) H1 → va_D A (wr ++ wB u) → va_S A s.heap H1 locs1 → W p l e R s m args below meth c H1 locs1 (cells + mc) (slots + ms) Q (F0 m (pc + 3) ls (.int r :: rest))) : W p l e R s m args below meth c H locs cells slots Q (F0 m pc ls st0) := by
  have hF := va_free hD hS hA isC hC
  refine va_calli hr hS (fun q _ h => hF q h) hF (fun r u t H1 locs1 ht hvm hw hB hz hk hS1 => ?_)
  obtain ⟨hP1, hD1⟩ := hB
  rw [ht] at hP1
  obtain ⟨hP2, hD2⟩ := va_join hP hD isC isR hC hR hn hdis hk hF hP1 hD1
  exact kk r u H1 locs1 hw hP2 hD2 hS1
theorem cj_v {S : Type} {post : S → Prop} {wB : S → va_W} (hr : va_Run p l e R s m args below meth c H locs cells slots mc ms (F0 m pc ls st0) rest (va_Qv post (fun u t => atW D (va_A wc H.size) (wB u) t) (va_A wc H.size) a) (va_A wc H.size))
    (hP : va_P D vwCl ws H) (hD : va_D A ws) (hS : va_S A s.heap H locs) (hA : ∀ q, s.heap.size ≤ q → A q) (isC isR : List Nat) (hC : isC.map (fun i => ws[i]?) = wc.map some) (hR : isR.map (fun i => ws[i]?) = wr.map some) (hn : va_nd isR = true) (hdis : ∀ i ∈ isR, i ∉ isC)
    (kk : ∀ (u : S) (H1 : Heap) (locs1 : List Loc), post u → va_P D vwCl (wr ++ wB u) H1 → va_D A (wr ++ wB u) → va_S A s.heap H1 locs1 → W p l e R s m args below meth c H1 locs1 (cells + mc) (slots + ms) Q (F0 m (pc + 3) ls rest)) : W p l e R s m args below meth c H locs cells slots Q (F0 m pc ls st0) := by
  have hF := va_free hD hS hA isC hC
  refine va_callv hr hS (fun q _ h => hF q h) hF (fun u t H1 locs1 ht hvm hw hB hz hk hS1 => ?_)
  obtain ⟨hP1, hD1⟩ := hB
  rw [ht] at hP1
  obtain ⟨hP2, hD2⟩ := va_join hP hD isC isR hC hR hn hdis hk hF hP1 hD1
  exact kk u H1 locs1 hw hP2 hD2 hS1
theorem cj_r {S : Type} {post : S → Prop} {wB : S → va_W} {ra : S → Nat} (hr : va_Run p l e R s m args below meth c H locs cells slots mc ms (F0 m pc ls st0) rest (va_Qr post (fun u a t => a = ra u ∧ atW D (va_A wc H.size) (wB u) t) (va_A wc H.size) a) (va_A wc H.size))
    (hP : va_P D vwCl ws H) (hD : va_D A ws) (hS : va_S A s.heap H locs) (hA : ∀ q, s.heap.size ≤ q → A q) (isC isR : List Nat) (hC : isC.map (fun i => ws[i]?) = wc.map some) (hR : isR.map (fun i => ws[i]?) = wr.map some) (hn : va_nd isR = true) (hdis : ∀ i ∈ isR, i ∉ isC)
    (kk : ∀ (u : S) (H1 : Heap) (locs1 : List Loc), post u → va_P D vwCl (wr ++ wB u) H1 → va_D A (wr ++ wB u) → va_S A s.heap H1 locs1 → W p l e R s m args below meth c H1 locs1 (cells + mc) (slots + ms) Q (F0 m (pc + 3) ls (.ref (ra u) :: rest))) : W p l e R s m args below meth c H locs cells slots Q (F0 m pc ls st0) := by
  have hF := va_free hD hS hA isC hC
  refine va_callr hr hS (fun q _ h => hF q h) hF (fun u q9 t H1 locs1 ht hvm hw hB hz hk hS1 => ?_)
  obtain ⟨hq9, hP1, hD1⟩ := hB
  subst hq9
  rw [ht] at hP1
  obtain ⟨hP2, hD2⟩ := va_join hP hD isC isR hC hR hn hdis hk hF hP1 hD1
  exact kk u H1 locs1 hw hP2 hD2 hS1
/-- a new array of numbers: its class is the one that cy names -/
theorem nw_a {cc : ByteArray} (hexec : p.tables.exec = Jvm.exec) (hb : c.code = cc) {atype : ArrayType} (harr : (Cond.arrayClass (newarray.typeOf atype)).before args s = true) {cy : Nat → ClassId} {ty : FieldType} (hty : newarray.typeOf atype = ty) (t0 : Nat) (ht0 : (tyW cy)[t0]? = some (cy t0, ty)) (hp : ∀ C, ty ≠ .object C) (hK : va_K D vwCl (tyW cy) s) (hP : va_P D vwCl ws H) (hD : va_D A ws) (hS : va_S A s.heap H locs) (hA : ∀ q, s.heap.size ≤ q → A q)
    {n : Int32} {N' : Nat} {a0 : vp_A} (ha : ∀ cA : ClassId, vp_cell cA a0 = arrV cA N' (fun _ => defaultValue ty)) (hn : ¬ n < 0) (hN : n.toNatClampNeg = N') (hbytes : N' * componentBytes ty ≤ 536870912) (hcells : cells + 1 ≤ R.cells) (hslots : slots + N' ≤ R.slots) (hdg : decode cc pc = .ok (.newarray atype, 2))
    (kk : ∀ (q : Nat) (H1 : Heap), va_P D vwCl (ws ++ [(q, .inl (cy t0, a0))]) H1 → va_D A (ws ++ [(q, .inl (cy t0, a0))]) → va_S A s.heap H1 locs →
      W p l e R s m args below meth c H1 locs (cells + 1) (slots + N') Q (F0 m (pc + 2) ls (.ref q :: rest))) : W p l e R s m args below meth c H locs cells slots Q (F0 m pc ls (.int n :: rest)) := by
  refine va_newa hexec hb harr hty hK hP hD hS hA ha hn hN hbytes hcells hslots hdg (fun q cA H1 hK1 hP1 hD1 hS1 => ?_)
  have h1 := (hK1.2 (tyW cy).length (cA, ty) (by rw [List.getElem?_append_right (Nat.le_refl _), Nat.sub_self]; rfl)).2
  have h2 := (hK.2 t0 _ ht0).2
  have he : cA = cy t0 := by
    cases ty with
    | object C => exact absurd rfl (hp C)
    | _ => exact Option.some.inj (h1.symm.trans h2)
  subst he
  exact kk q H1 hP1 hD1 hS1
/-- a new array of objects -/
theorem nw_q {cc : ByteArray} (hexec : p.tables.exec = Jvm.exec) (hb : c.code = cc) {own C : String} {index : Nat} (hown : s.vm.findClass own = some m.cls) (hclink : (Cond.classLink own index C).before args s = true) (hover : va_AO C s) {cy : Nat → ClassId} (t0 : Nat) (ht0 : (tyW cy)[t0]? = some (cy t0, .object C)) (hK : va_K D vwCl (tyW cy) s) (hP : va_P D vwCl ws H) (hD : va_D A ws) (hS : va_S A s.heap H locs) (hA : ∀ q, s.heap.size ≤ q → A q)
    {n : Int32} {N' : Nat} (hn : ¬ n < 0) (hN : n.toNatClampNeg = N') (hbytes : N' * 4 ≤ 536870912) (hcells : cells + 1 ≤ R.cells) (hslots : slots + N' ≤ R.slots) (hdg : decode cc pc = .ok (.anewarray index, 3))
    (kk : ∀ (q : Nat) (H1 : Heap), va_P D vwCl (ws ++ [(q, .inl (cy t0, N', .inr (.inr (.inr (.inr (fun _ => none))))))]) H1 → va_D A (ws ++ [(q, .inl (cy t0, N', .inr (.inr (.inr (.inr (fun _ => none))))))]) → va_S A s.heap H1 locs →
      W p l e R s m args below meth c H1 locs (cells + 1) (slots + N') Q (F0 m (pc + 3) ls (.ref q :: rest))) : W p l e R s m args below meth c H locs cells slots Q (F0 m pc ls (.int n :: rest)) := by
  refine va_newq hexec hb hown hclink hover hK hP hD hS hA hn hN hbytes hcells hslots hdg (fun q cA H1 hK1 hP1 hD1 hS1 => ?_)
  have h1 := (hK1.2 (tyW cy).length (cA, .object C) (by rw [List.getElem?_append_right (Nat.le_refl _), Nat.sub_self]; rfl)).2
  have h2 := (hK.2 t0 _ ht0).2
  have he : cA = cy t0 := by
    obtain ⟨-, -, -, -, -, e1⟩ := h1
    obtain ⟨-, -, -, -, -, e2⟩ := h2
    exact Option.some.inj (e1.symm.trans e2)
  subst he
  exact kk q H1 hP1 hD1 hS1
end CJ
/-- the words of a throw of E, out of the method's own list and GC -/
def xB (E : String) : List Cond := [.castable E E, .declares ⟨"java/lang/RuntimeException", "<init>", "(Ljava/lang/String;)V"⟩, .declares ⟨"java/lang/Exception", "<init>", "(Ljava/lang/String;)V"⟩, .declares ⟨"java/lang/Throwable", "<init>", "(Ljava/lang/String;)V"⟩]
theorem xB_ok {D : va_G} {cy : Nat → ClassId} {sa : Nat → Nat} {s : State} {args : Array Value} (h : GC D cy sa s) {E : String} (hE : E ∈ exn) : ∀ w ∈ xB E, w.before args s = true :=
  vx_c (va_Nw.use rfl (h.2.2.2.1 E hE)) (vx_c (va_Nw.use rfl (h.2.2.2.2.2.2 _ (List.mem_of_getElem? (i := 0) rfl))) (vx_c (va_Nw.use rfl (h.2.2.2.2.2.2 _ (List.mem_of_getElem? (i := 1) rfl))) (vx_c (va_Nw.use rfl (h.2.2.2.2.2.2 _ (List.mem_of_getElem? (i := 2) rfl))) vx_n)))
theorem xI2 : ∀ w ∈ (vx_atS RX11 368 "java/lang/IllegalArgumentException" ["java/lang/RuntimeException", "java/lang/Exception"]).filter (fun w => !goodWord w), w ∈ xB "java/lang/IllegalArgumentException" := by decide +kernel
theorem xI0 : ∀ w ∈ (vx_atS RX11 356 "java/lang/IndexOutOfBoundsException" ["java/lang/RuntimeException", "java/lang/Exception"]).filter (fun w => !goodWord w), w ∈ xB "java/lang/IndexOutOfBoundsException" := by decide +kernel
theorem xI3 : ∀ w ∈ (vx_atS RX11 373 "java/lang/IllegalStateException" ["java/lang/RuntimeException", "java/lang/Exception"]).filter (fun w => !goodWord w), w ∈ xB "java/lang/IllegalStateException" := by decide +kernel
theorem vpd {i : Int32} {n : Nat} (h : ¬ (i < 0 ∨ n ≤ i.toNatClampNeg)) : vp_in i n := h
end
section
section B2
variable {p : Program} {l : Launch} {e : Env} {R : Room} {s : State} {m : MethodId} {args : Array Value} {below : List Frame} {meth : Method} {c : Code} {H : Heap} {locs : List Loc} {cells slots : Nat} {Q : State → Prop} {pc : Nat} {ls : Array Slot} {rest : List Value}
theorem ltv {x y : Value} (h : x = y) (k : W p l e R s m args below meth c H locs cells slots Q (F0 m pc ls (y :: rest))) : W p l e R s m args below meth c H locs cells slots Q (F0 m pc ls (x :: rest)) := h ▸ k
end B2
theorem arq {D : va_G} {ws : va_W} {H : Heap} {A : Nat → Prop} (k : Nat) {a : Nat} {cA : ClassId} {n : Nat} {f : Nat → Option Nat} (g : Nat → Option Nat) (hP : va_P D vwCl ws H) (hD : va_D A ws) (hk : ws[k]? = some (a, .inl (cA, n, .inr (.inr (.inr (.inr f)))))) (h : ∀ j, j < n → f j = g j) :
    va_P D vwCl (ws.set k (a, .inl (cA, n, .inr (.inr (.inr (.inr g)))))) H ∧ va_D A (ws.set k (a, .inl (cA, n, .inr (.inr (.inr (.inr g)))))) := by
  refine ⟨hP.set hD hk ?_ (fun q _ => rfl), hD.set hk⟩
  have h1 : H[a]? = some (vp_cell cA (n, .inr (.inr (.inr (.inr f))))) := hP k _ hk
  show H[a]? = some (vp_cell cA (n, .inr (.inr (.inr (.inr g)))))
  rw [h1]
  show some (arrV cA n (fun j => va_rf (f j))) = some (arrV cA n (fun j => va_rf (g j)))
  congr 1
  unfold arrV
  congr 1
  apply Array.ext
  · simp
  · intro i h1 h2
    simp only [Array.getElem_ofFn]
    rw [h i (by simpa using h1)]
end
section

theorem iI_to {a : Int} (h : -2147483648 ≤ a) (h' : a ≤ 2147483647) : (iI a).toInt = a := Int32.toInt_ofInt_of_le (by omega) (by omega)
theorem iI_ex (x : Int32) : ∃ z : Int, x = iI z ∧ -2147483648 ≤ z ∧ z ≤ 2147483647 := by
  refine ⟨x.toInt, (Int32.ofInt_toInt x).symm, ?_, ?_⟩
  · have := x.le_toInt; omega
  · have := x.toInt_lt; omega
theorem iI_lt {a b : Int} (ha : -2147483648 ≤ a ∧ a ≤ 2147483647) (hb : -2147483648 ≤ b ∧ b ≤ 2147483647) : iI a < iI b ↔ a < b := by
  rw [Int32.lt_iff_toInt_lt, iI_to ha.1 ha.2, iI_to hb.1 hb.2]
theorem iI_le {a b : Int} (ha : -2147483648 ≤ a ∧ a ≤ 2147483647) (hb : -2147483648 ≤ b ∧ b ≤ 2147483647) : iI a ≤ iI b ↔ a ≤ b := by
  rw [Int32.le_iff_toInt_le, iI_to ha.1 ha.2, iI_to hb.1 hb.2]
theorem iI_eq {a b : Int} (ha : -2147483648 ≤ a ∧ a ≤ 2147483647) (hb : -2147483648 ≤ b ∧ b ≤ 2147483647) : iI a = iI b ↔ a = b := by
  rw [← Int32.toInt_inj, iI_to ha.1 ha.2, iI_to hb.1 hb.2]
theorem iI_cl {e : Int} (h0 : 0 ≤ e) (h1 : e ≤ 2147483647) : (iI e).toNatClampNeg = e.toNat := by
  show (iI e).toInt.toNat = e.toNat
  rw [iI_to (by omega) h1]
theorem rgw {x lo hi a b : Int} (h : lo ≤ x ∧ x ≤ hi) (h1 : a ≤ lo) (h2 : hi ≤ b) : a ≤ x ∧ x ≤ b := ⟨Int.le_trans h1 h.1, Int.le_trans h.2 h2⟩
theorem iI_in {e : Int} {n : Nat} (h : 0 ≤ e ∧ e < n) (hn : n ≤ 2147483647) : vp_in (iI e) n := by
  intro hc
  rcases hc with hc | hc
  · have := (iI_lt (a := e) (b := 0) (by omega) (by omega)).mp hc
    omega
  · rw [iI_cl h.1 (by omega)] at hc
    omega
/-- what an array's places hold -/
def inv_ (n : Nat) (lo hi : Int) (f : Nat → Int32) : Prop := ∀ j : Nat, j < n → ∃ z : Int, f j = iI z ∧ -2147483648 ≤ z ∧ z ≤ 2147483647 ∧ lo ≤ z ∧ z ≤ hi
theorem inv_rd {n : Nat} {lo hi : Int} {f : Nat → Int32} (hf : inv_ n lo hi f) {e : Int} (h : 0 ≤ e ∧ e < n) (hn : n ≤ 2147483647) : ∃ z : Int, f (iI e).toNatClampNeg = iI z ∧ (-2147483648 ≤ z ∧ z ≤ 2147483647) ∧ lo ≤ z ∧ z ≤ hi := by
  rw [iI_cl h.1 (by omega)]
  obtain ⟨z, h1, h2, h3, h4, h5⟩ := hf e.toNat (by omega)
  exact ⟨z, h1, ⟨h2, h3⟩, h4, h5⟩
theorem inv_wr {n : Nat} {lo hi : Int} {f : Nat → Int32} (hf : inv_ n lo hi f) {k : Nat} {v : Int} (h : (-2147483648 ≤ v ∧ v ≤ 2147483647) ∧ lo ≤ v ∧ v ≤ hi) : inv_ n lo hi (upd f k (iI v)) := by
  intro j hj
  unfold upd
  by_cases e : j = k
  · rw [if_pos e]; exact ⟨v, rfl, h.1.1, h.1.2, h.2.1, h.2.2⟩
  · rw [if_neg e]; exact hf j hj
/-- rows of st numbers: of the first cnt rows each column lies in its range -/
def tab_ (st : Nat) (cnt : Int) (lo hi : List Int) (f : Nat → Int32) : Prop := ∀ k c : Nat, (k : Int) < cnt → c < st → ∃ z : Int, f (st * k + c) = iI z ∧ (-2147483648 ≤ z ∧ z ≤ 2147483647) ∧ lo.getD c 0 ≤ z ∧ z ≤ hi.getD c 0
theorem tab_ix {st : Nat} {e k : Int} {c : Nat} (he : e = st * k + c) (hk : 0 ≤ k) : e.toNat = st * k.toNat + c := by
  obtain ⟨n, rfl⟩ := Int.eq_ofNat_of_zero_le hk
  subst he
  have : ((st * n + c : Nat) : Int) = (st : Int) * (n : Int) + (c : Int) := by simp
  rw [← this, Int.toNat_natCast, Int.toNat_natCast]
theorem tab_rd {st : Nat} {cnt : Int} {lo hi : List Int} {f : Nat → Int32} (hf : tab_ st cnt lo hi f) {e k : Int} {c : Nat} {a b : Int} (he : e = st * k + c) (hk : 0 ≤ k ∧ k < cnt) (hc : c < st) (hN : 0 ≤ e ∧ e ≤ 2147483647) (ha : lo.getD c 0 = a) (hb : hi.getD c 0 = b) : ∃ z : Int, f (iI e).toNatClampNeg = iI z ∧ (-2147483648 ≤ z ∧ z ≤ 2147483647) ∧ a ≤ z ∧ z ≤ b := by
  rw [iI_cl hN.1 hN.2, tab_ix he hk.1, ← ha, ← hb]
  exact hf k.toNat c (by omega) hc
theorem tab_wr {st : Nat} {cnt : Int} {lo hi : List Int} {f : Nat → Int32} (hf : tab_ st cnt lo hi f) {e k v : Int} {c : Nat} {a b : Int} (he : e = st * k + c) (hk : 0 ≤ k) (hc : c < st) (hN : 0 ≤ e ∧ e ≤ 2147483647) (ha : lo.getD c 0 = a) (hb : hi.getD c 0 = b) (hv : (-2147483648 ≤ v ∧ v ≤ 2147483647) ∧ a ≤ v ∧ v ≤ b) : tab_ st cnt lo hi (upd f (iI e).toNatClampNeg (iI v)) := by
  intro k9 c9 h1 h2
  rw [iI_cl hN.1 hN.2, tab_ix he hk]
  unfold upd
  by_cases q : st * k9 + c9 = st * k.toNat + c
  · rw [if_pos q]
    have hcc : c9 = c := by
      have h3 := congrArg (· % st) q
      simpa [Nat.mul_add_mod, Nat.mod_eq_of_lt h2, Nat.mod_eq_of_lt hc] using h3
    subst hcc
    exact ⟨v, rfl, hv.1, by rw [ha]; exact hv.2.1, by rw [hb]; exact hv.2.2⟩
  · rw [if_neg q]
    exact hf k9 c9 h1 h2
theorem ia_ex (x : Int32) {mk : Int32} (k : Nat) (hm : mk.toBitVec.toNat = 2 ^ k - 1) (hk : k ≤ 30) : ∃ z : Int, x &&& mk = iI z ∧ 0 ≤ z ∧ z < 2 ^ k := by
  obtain ⟨j, h1, h2⟩ := pk_andE x k hm
  refine ⟨(j : Int), ?_, by omega, ?_⟩
  · rw [h2]; rfl
  · have : ((2 ^ k : Nat) : Int) = 2 ^ k := by simp
    omega
theorem iI_nI (n : Nat) : nI n = iI (n : Int) := rfl
theorem sr_eq {a : Int} {y : Int32} (k : Nat) (hs : (y.toBitVec.smod 32).toNat = k) (h : 0 ≤ a ∧ a ≤ 2147483647) : iI a >>> y = iI (a / 2 ^ k) := by
  obtain ⟨n, rfl⟩ := Int.eq_ofNat_of_zero_le h.1
  rw [← iI_nI, pk_shrN (by omega) y k hs, iI_nI]
  simp
theorem sl_eq {a : Int} {y : Int32} (k : Nat) (hs : (y.toBitVec.smod 32).toNat = k) (h : 0 ≤ a ∧ a * 2 ^ k ≤ 2147483647) : iI a <<< y = iI (a * 2 ^ k) := by
  obtain ⟨n, rfl⟩ := Int.eq_ofNat_of_zero_le h.1
  have h2 : ((n * 2 ^ k : Nat) : Int) = (n : Int) * 2 ^ k := by simp
  rw [← iI_nI, pk_shlN y k hs (by omega), iI_nI, h2]
theorem mul_bd {a b x y M : Int} (ha : 0 ≤ a ∧ a ≤ x) (hb : 0 ≤ b ∧ b ≤ y) (hM : x * y = M) : 0 ≤ a * b ∧ a * b ≤ M :=
  ⟨Int.mul_nonneg ha.1 hb.1, hM ▸ Int.mul_le_mul ha.2 hb.2 hb.1 (Int.le_trans ha.1 ha.2)⟩
abbrev SV : Type := (Nat → Nat) × (Nat → Int) × (Nat → Nat → Int32)
section RG
variable {p : Program} {l : Launch} {e : Env} {R : Room} {s : State} {m : MethodId} {args : Array Value} {below : List Frame} {meth : Method} {c : Code} {H : Heap} {locs : List Loc} {cells slots : Nat} {Q : State → Prop} {pc : Nat} {ls : Array Slot} {rest : List Value} {cc : ByteArray}
/-- a number gets a name, with its range -/
theorem lt_z {x : Int32} (k : ∀ z : Int, x = iI z → -2147483648 ≤ z → z ≤ 2147483647 → W p l e R s m args below meth c H locs cells slots Q (F0 m pc ls (.int (iI z) :: rest))) : W p l e R s m args below meth c H locs cells slots Q (F0 m pc ls (.int x :: rest)) := by
  obtain ⟨z, h1, h2, h3⟩ := iI_ex x
  rw [h1]
  exact k z h1 h2 h3
theorem lt_mn {a b : Int} (ha : -2147483648 ≤ a ∧ a ≤ 2147483647) (hb : -2147483648 ≤ b ∧ b ≤ 2147483647) (kk : ∀ z : Int, z ≤ a ∧ z ≤ b ∧ (z = a ∨ z = b) → W p l e R s m args below meth c H locs cells slots Q (F0 m pc ls (.int (iI z) :: rest))) : W p l e R s m args below meth c H locs cells slots Q (F0 m pc ls (.int (if iI b < iI a then iI b else iI a) :: rest)) := by
  by_cases h : iI b < iI a
  · rw [if_pos h]
    have := (iI_lt hb ha).mp h
    exact kk b (by omega)
  · rw [if_neg h]
    have : ¬ b < a := fun q => h ((iI_lt hb ha).mpr q)
    exact kk a (by omega)
theorem lt_mx {a b : Int} (ha : -2147483648 ≤ a ∧ a ≤ 2147483647) (hb : -2147483648 ≤ b ∧ b ≤ 2147483647) (kk : ∀ z : Int, a ≤ z ∧ b ≤ z ∧ (z = a ∨ z = b) → W p l e R s m args below meth c H locs cells slots Q (F0 m pc ls (.int (iI z) :: rest))) : W p l e R s m args below meth c H locs cells slots Q (F0 m pc ls (.int (if iI a < iI b then iI b else iI a) :: rest)) := by
  by_cases h : iI a < iI b
  · rw [if_pos h]
    have := (iI_lt ha hb).mp h
    exact kk b (by omega)
  · rw [if_neg h]
    have : ¬ a < b := fun q => h ((iI_lt ha hb).mpr q)
    exact kk a (by omega)
theorem lt_ab {a : Int} (ha : -2147483647 ≤ a ∧ a ≤ 2147483647) (kk : ∀ z : Int, 0 ≤ z ∧ (z = a ∨ z = - a) → W p l e R s m args below meth c H locs cells slots Q (F0 m pc ls (.int (iI z) :: rest))) : W p l e R s m args below meth c H locs cells slots Q (F0 m pc ls (.int (if 0 ≤ iI a then iI a else 0 - iI a) :: rest)) := by
  by_cases h : (0 : Int32) ≤ iI a
  · rw [if_pos h]
    have := (iI_le (a := 0) (by omega) (by omega)).mp h
    exact kk a (by omega)
  · rw [if_neg h]
    have h2 : ¬ (0 : Int) ≤ a := fun q => h ((iI_le (a := 0) (by omega) (by omega)).mpr q)
    have h3 : (0 : Int32) - iI a = iI (0 - a) := (Int32.ofInt_sub 0 a).symm
    rw [h3]
    exact kk (0 - a) (by omega)
/-- ways that meet: what follows is shown once -/
theorem jn {g : JFrame} {α : Type} (T : α → Heap → List Loc → JFrame → Prop) (k1 : ∀ a H1 locs1 g1, T a H1 locs1 g1 → W p l e R s m args below meth c H1 locs1 cells slots Q g1) (k2 : (∀ a H1 locs1 g1, T a H1 locs1 g1 → W p l e R s m args below meth c H1 locs1 cells slots Q g1) → W p l e R s m args below meth c H locs cells slots Q g) : W p l e R s m args below meth c H locs cells slots Q g := k2 k1
/-- a sum, difference, product that has a name -/
theorem lt_e {x : Int32} {e0 : Int} (he : x = iI e0) (k : ∀ z : Int, z = e0 → W p l e R s m args below meth c H locs cells slots Q (F0 m pc ls (.int (iI z) :: rest))) : W p l e R s m args below meth c H locs cells slots Q (F0 m pc ls (.int x :: rest)) := by
  rw [he]
  exact k e0 rfl
theorem ir_lt (hexec : p.tables.exec = Jvm.exec) (hb : c.code = cc) {a b : Int} {off : Int} {tgt : Nat} (hdg : decode cc pc = .ok (.if_icmp .lt off, 3)) (ht : (pc : Int) + off = (tgt : Int)) (ha9 : -2147483648 ≤ a ∧ a ≤ 2147483647) (hb9 : -2147483648 ≤ b ∧ b ≤ 2147483647)
    (kt : a < b → W p l e R s m args below meth c H locs cells slots Q (F0 m tgt ls rest)) (kf : ¬ a < b → W p l e R s m args below meth c H locs cells slots Q (F0 m (pc + 3) ls rest)) : W p l e R s m args below meth c H locs cells slots Q (F0 m pc ls (.int (iI b) :: .int (iI a) :: rest)) :=
  lv_icmp_lt hexec hb hdg ht (fun c => kt ((iI_lt ha9 hb9).mp c)) (fun c => kf (fun q => c ((iI_lt ha9 hb9).mpr q)))
theorem iz_lt (hexec : p.tables.exec = Jvm.exec) (hb : c.code = cc) {a : Int} {off : Int} {tgt : Nat} (hdg : decode cc pc = .ok (.ifCond .lt off, 3)) (ht : (pc : Int) + off = (tgt : Int)) (ha9 : -2147483648 ≤ a ∧ a ≤ 2147483647)
    (kt : a < 0 → W p l e R s m args below meth c H locs cells slots Q (F0 m tgt ls rest)) (kf : ¬ a < 0 → W p l e R s m args below meth c H locs cells slots Q (F0 m (pc + 3) ls rest)) : W p l e R s m args below meth c H locs cells slots Q (F0 m pc ls (.int (iI a) :: rest)) := by
  have hz9 : -2147483648 ≤ (0 : Int) ∧ (0 : Int) ≤ 2147483647 := by omega
  exact lv_if_lt hexec hb hdg ht (fun c => kt ((iI_lt (b := 0) ha9 hz9).mp c)) (fun c => kf (fun q => c ((iI_lt (b := 0) ha9 hz9).mpr q)))
theorem ir_ge (hexec : p.tables.exec = Jvm.exec) (hb : c.code = cc) {a b : Int} {off : Int} {tgt : Nat} (hdg : decode cc pc = .ok (.if_icmp .ge off, 3)) (ht : (pc : Int) + off = (tgt : Int)) (ha9 : -2147483648 ≤ a ∧ a ≤ 2147483647) (hb9 : -2147483648 ≤ b ∧ b ≤ 2147483647)
    (kt : b ≤ a → W p l e R s m args below meth c H locs cells slots Q (F0 m tgt ls rest)) (kf : ¬ b ≤ a → W p l e R s m args below meth c H locs cells slots Q (F0 m (pc + 3) ls rest)) : W p l e R s m args below meth c H locs cells slots Q (F0 m pc ls (.int (iI b) :: .int (iI a) :: rest)) :=
  lv_icmp_ge hexec hb hdg ht (fun c => kt ((iI_le hb9 ha9).mp c)) (fun c => kf (fun q => c ((iI_le hb9 ha9).mpr q)))
theorem iz_ge (hexec : p.tables.exec = Jvm.exec) (hb : c.code = cc) {a : Int} {off : Int} {tgt : Nat} (hdg : decode cc pc = .ok (.ifCond .ge off, 3)) (ht : (pc : Int) + off = (tgt : Int)) (ha9 : -2147483648 ≤ a ∧ a ≤ 2147483647)
    (kt : 0 ≤ a → W p l e R s m args below meth c H locs cells slots Q (F0 m tgt ls rest)) (kf : ¬ 0 ≤ a → W p l e R s m args below meth c H locs cells slots Q (F0 m (pc + 3) ls rest)) : W p l e R s m args below meth c H locs cells slots Q (F0 m pc ls (.int (iI a) :: rest)) := by
  have hz9 : -2147483648 ≤ (0 : Int) ∧ (0 : Int) ≤ 2147483647 := by omega
  exact lv_if_ge hexec hb hdg ht (fun c => kt ((iI_le (a := 0) hz9 ha9).mp c)) (fun c => kf (fun q => c ((iI_le (a := 0) hz9 ha9).mpr q)))
theorem ir_gt (hexec : p.tables.exec = Jvm.exec) (hb : c.code = cc) {a b : Int} {off : Int} {tgt : Nat} (hdg : decode cc pc = .ok (.if_icmp .gt off, 3)) (ht : (pc : Int) + off = (tgt : Int)) (ha9 : -2147483648 ≤ a ∧ a ≤ 2147483647) (hb9 : -2147483648 ≤ b ∧ b ≤ 2147483647)
    (kt : b < a → W p l e R s m args below meth c H locs cells slots Q (F0 m tgt ls rest)) (kf : ¬ b < a → W p l e R s m args below meth c H locs cells slots Q (F0 m (pc + 3) ls rest)) : W p l e R s m args below meth c H locs cells slots Q (F0 m pc ls (.int (iI b) :: .int (iI a) :: rest)) :=
  lv_icmp_gt hexec hb hdg ht (fun c => kt ((iI_lt hb9 ha9).mp c)) (fun c => kf (fun q => c ((iI_lt hb9 ha9).mpr q)))
theorem ir_le (hexec : p.tables.exec = Jvm.exec) (hb : c.code = cc) {a b : Int} {off : Int} {tgt : Nat} (hdg : decode cc pc = .ok (.if_icmp .le off, 3)) (ht : (pc : Int) + off = (tgt : Int)) (ha9 : -2147483648 ≤ a ∧ a ≤ 2147483647) (hb9 : -2147483648 ≤ b ∧ b ≤ 2147483647)
    (kt : a ≤ b → W p l e R s m args below meth c H locs cells slots Q (F0 m tgt ls rest)) (kf : ¬ a ≤ b → W p l e R s m args below meth c H locs cells slots Q (F0 m (pc + 3) ls rest)) : W p l e R s m args below meth c H locs cells slots Q (F0 m pc ls (.int (iI b) :: .int (iI a) :: rest)) :=
  lv_icmp_le hexec hb hdg ht (fun c => kt ((iI_le ha9 hb9).mp c)) (fun c => kf (fun q => c ((iI_le ha9 hb9).mpr q)))
theorem iz_le (hexec : p.tables.exec = Jvm.exec) (hb : c.code = cc) {a : Int} {off : Int} {tgt : Nat} (hdg : decode cc pc = .ok (.ifCond .le off, 3)) (ht : (pc : Int) + off = (tgt : Int)) (ha9 : -2147483648 ≤ a ∧ a ≤ 2147483647)
    (kt : a ≤ 0 → W p l e R s m args below meth c H locs cells slots Q (F0 m tgt ls rest)) (kf : ¬ a ≤ 0 → W p l e R s m args below meth c H locs cells slots Q (F0 m (pc + 3) ls rest)) : W p l e R s m args below meth c H locs cells slots Q (F0 m pc ls (.int (iI a) :: rest)) := by
  have hz9 : -2147483648 ≤ (0 : Int) ∧ (0 : Int) ≤ 2147483647 := by omega
  exact lv_if_le hexec hb hdg ht (fun c => kt ((iI_le (b := 0) ha9 hz9).mp c)) (fun c => kf (fun q => c ((iI_le (b := 0) ha9 hz9).mpr q)))
theorem ir_eq (hexec : p.tables.exec = Jvm.exec) (hb : c.code = cc) {a b : Int} {off : Int} {tgt : Nat} (hdg : decode cc pc = .ok (.if_icmp .eq off, 3)) (ht : (pc : Int) + off = (tgt : Int)) (ha9 : -2147483648 ≤ a ∧ a ≤ 2147483647) (hb9 : -2147483648 ≤ b ∧ b ≤ 2147483647)
    (kt : a = b → W p l e R s m args below meth c H locs cells slots Q (F0 m tgt ls rest)) (kf : ¬ a = b → W p l e R s m args below meth c H locs cells slots Q (F0 m (pc + 3) ls rest)) : W p l e R s m args below meth c H locs cells slots Q (F0 m pc ls (.int (iI b) :: .int (iI a) :: rest)) :=
  lv_icmp_eq hexec hb hdg ht (fun c => kt ((iI_eq ha9 hb9).mp c)) (fun c => kf (fun q => c ((iI_eq ha9 hb9).mpr q)))
theorem iz_eq (hexec : p.tables.exec = Jvm.exec) (hb : c.code = cc) {a : Int} {off : Int} {tgt : Nat} (hdg : decode cc pc = .ok (.ifCond .eq off, 3)) (ht : (pc : Int) + off = (tgt : Int)) (ha9 : -2147483648 ≤ a ∧ a ≤ 2147483647)
    (kt : a = 0 → W p l e R s m args below meth c H locs cells slots Q (F0 m tgt ls rest)) (kf : ¬ a = 0 → W p l e R s m args below meth c H locs cells slots Q (F0 m (pc + 3) ls rest)) : W p l e R s m args below meth c H locs cells slots Q (F0 m pc ls (.int (iI a) :: rest)) := by
  have hz9 : -2147483648 ≤ (0 : Int) ∧ (0 : Int) ≤ 2147483647 := by omega
  exact lv_if_eq hexec hb hdg ht (fun c => kt ((iI_eq (b := 0) ha9 hz9).mp c)) (fun c => kf (fun q => c ((iI_eq (b := 0) ha9 hz9).mpr q)))
theorem ir_ne (hexec : p.tables.exec = Jvm.exec) (hb : c.code = cc) {a b : Int} {off : Int} {tgt : Nat} (hdg : decode cc pc = .ok (.if_icmp .ne off, 3)) (ht : (pc : Int) + off = (tgt : Int)) (ha9 : -2147483648 ≤ a ∧ a ≤ 2147483647) (hb9 : -2147483648 ≤ b ∧ b ≤ 2147483647)
    (kt : ¬ a = b → W p l e R s m args below meth c H locs cells slots Q (F0 m tgt ls rest)) (kf : a = b → W p l e R s m args below meth c H locs cells slots Q (F0 m (pc + 3) ls rest)) : W p l e R s m args below meth c H locs cells slots Q (F0 m pc ls (.int (iI b) :: .int (iI a) :: rest)) :=
  lv_icmp_ne hexec hb hdg ht (fun c => kt (fun q => c ((iI_eq ha9 hb9).mpr q))) (fun c => kf ((iI_eq ha9 hb9).mp c))
theorem iz_ne (hexec : p.tables.exec = Jvm.exec) (hb : c.code = cc) {a : Int} {off : Int} {tgt : Nat} (hdg : decode cc pc = .ok (.ifCond .ne off, 3)) (ht : (pc : Int) + off = (tgt : Int)) (ha9 : -2147483648 ≤ a ∧ a ≤ 2147483647)
    (kt : ¬ a = 0 → W p l e R s m args below meth c H locs cells slots Q (F0 m tgt ls rest)) (kf : a = 0 → W p l e R s m args below meth c H locs cells slots Q (F0 m (pc + 3) ls rest)) : W p l e R s m args below meth c H locs cells slots Q (F0 m pc ls (.int (iI a) :: rest)) := by
  have hz9 : -2147483648 ≤ (0 : Int) ∧ (0 : Int) ≤ 2147483647 := by omega
  exact lv_if_ne hexec hb hdg ht (fun c => kt (fun q => c ((iI_eq (b := 0) ha9 hz9).mpr q))) (fun c => kf ((iI_eq (b := 0) ha9 hz9).mp c))
end RG
end
section
theorem nar_b {a : Int} (h : 0 ≤ a ∧ a ≤ 1) : narrow .boolean (.int (iI a)) = .int (iI a) := by
  rcases (show a = 0 ∨ a = 1 by omega) with rfl | rfl <;> decide
theorem nar_c {a : Int} (h : 0 ≤ a ∧ a ≤ 65535) : narrow .char (.int (iI a)) = .int (iI a) := by
  obtain ⟨n, rfl⟩ := Int.eq_ofNat_of_zero_le h.1
  exact (pk_charN (by omega)).1
theorem i2c_eq {a : Int} (h : 0 ≤ a ∧ a ≤ 65535) : ((iI a).toUInt32 % 65536).toInt32 = iI a := by
  obtain ⟨n, rfl⟩ := Int.eq_ofNat_of_zero_le h.1
  rw [pk_char, ← iI_nI, pk_tn (by omega), Nat.mod_eq_of_lt (by omega)]
theorem ia_id {a : Int} {mk : Int32} (k : Nat) (hm : mk.toBitVec.toNat = 2 ^ k - 1) (hk : k ≤ 30) (h : 0 ≤ a ∧ a < 2 ^ k) : iI a &&& mk = iI a := by
  obtain ⟨n, rfl⟩ := Int.eq_ofNat_of_zero_le h.1
  have h1 : n < 2 ^ k := by
    have : ((2 ^ k : Nat) : Int) = 2 ^ k := by simp
    omega
  have h2 : (2 : Nat) ^ k ≤ 2 ^ 30 := Nat.pow_le_pow_right (by decide) hk
  rw [← iI_nI, pk_andN (by omega) k hm, Nat.mod_eq_of_lt h1]
theorem dv_eq {a b : Int} (ha : 0 ≤ a ∧ a ≤ 2147483647) (hb : 0 < b ∧ b ≤ 2147483647) : iI a / iI b = iI (a / b) := by
  obtain ⟨n, rfl⟩ := Int.eq_ofNat_of_zero_le ha.1
  obtain ⟨d, rfl⟩ := Int.eq_ofNat_of_zero_le (Int.le_of_lt hb.1)
  rw [← iI_nI, ← iI_nI, pk_div (by omega) (by omega) (by omega), iI_nI]
  simp
theorem ng_eq (a : Int) : -(iI a) = iI (-a) := (Int32.ofInt_neg a).symm
abbrev jJ (z : Int) : Int64 := Int64.ofInt z
theorem jJ_to {a : Int} (h : -9223372036854775808 ≤ a ∧ a ≤ 9223372036854775807) : (jJ a).toInt = a := Int64.toInt_ofInt_of_le (by omega) (by omega)
theorem jJ_i {a : Int} (h : -2147483648 ≤ a ∧ a ≤ 2147483647) : (iI a).toInt64 = jJ a := by
  rw [← Int64.toInt_inj, Int32.toInt_toInt64, iI_to h.1 h.2, jJ_to (by omega)]
theorem jJ_l {a : Int} (h : -2147483648 ≤ a ∧ a ≤ 2147483647) : (jJ a).toInt32 = iI a := by
  rw [← jJ_i h]; simp
theorem jJ_lt {a b : Int} (ha : -9223372036854775808 ≤ a ∧ a ≤ 9223372036854775807) (hb : -9223372036854775808 ≤ b ∧ b ≤ 9223372036854775807) : jJ a < jJ b ↔ a < b := by
  rw [Int64.lt_iff_toInt_lt, jJ_to ha, jJ_to hb]
theorem jJ_eq {a b : Int} (ha : -9223372036854775808 ≤ a ∧ a ≤ 9223372036854775807) (hb : -9223372036854775808 ≤ b ∧ b ≤ 9223372036854775807) : jJ a = jJ b ↔ a = b := by
  rw [← Int64.toInt_inj, jJ_to ha, jJ_to hb]
theorem lc_ex {a b : Int} (ha : -9223372036854775808 ≤ a ∧ a ≤ 9223372036854775807) (hb : -9223372036854775808 ≤ b ∧ b ≤ 9223372036854775807) : ∃ z : Int, lg_cmp (jJ a) (jJ b) = iI z ∧ ((z = -1 ∧ a < b) ∨ (z = 0 ∧ a = b) ∨ (z = 1 ∧ b < a)) := by
  unfold lg_cmp
  by_cases h1 : jJ a > jJ b
  · exact ⟨1, by rw [if_pos h1]; rfl, Or.inr (Or.inr ⟨rfl, (jJ_lt hb ha).mp h1⟩)⟩
  · rw [if_neg h1]
    have h3 : ¬ b < a := fun q => h1 ((jJ_lt hb ha).mpr q)
    by_cases h2 : jJ a = jJ b
    · exact ⟨0, by rw [if_pos h2]; rfl, Or.inr (Or.inl ⟨rfl, (jJ_eq ha hb).mp h2⟩)⟩
    · have h4 : ¬ a = b := fun q => h2 ((jJ_eq ha hb).mpr q)
      exact ⟨-1, by rw [if_neg h2]; rfl, Or.inl ⟨rfl, by omega⟩⟩
theorem fW_b {k : Int} (h : 0 ≤ k ∧ k < 28) : (-1 ≤ fW k ∧ fW k ≤ 3) ∧ (fW k = -1 ↔ k < 6 ∨ 9 < k) := by
  have := fW_r k.toNat (by omega)
  unfold fW
  omega
theorem fS_b {k : Int} (h : 0 ≤ k ∧ k < 28) : -1 ≤ fS k ∧ fS k ≤ 4 := fS_r k.toNat (by omega)
theorem fM_b {k : Int} (h : 0 ≤ k ∧ k < 28) : -1 ≤ fM k ∧ fM k ≤ 6 := fM_r k.toNat (by omega)
theorem sl_b {k : Int} (h : 0 ≤ k ∧ k < 56) : 0 ≤ slen k ∧ slen k ≤ 7 := by
  have := slen_r k.toNat (by omega)
  unfold slen
  omega
theorem sc_b {k i : Int} (h : 0 ≤ k ∧ k < 56) (hi : 0 ≤ i ∧ i < slen k) : 97 ≤ sch k i ∧ sch k i ≤ 122 := by
  unfold slen at hi
  exact sch_r k.toNat (by omega) i.toNat (by omega)
theorem sb_rd {k e : Int} (h : 0 ≤ e ∧ e < slen k) (hk : 0 ≤ k ∧ k < 56) : (fun j : Nat => Value.int (iI ((wdT.getD k.toNat []).getD j 0))) (iI e).toNatClampNeg = .int (iI (sch k e)) := by
  have := sl_b hk
  show Value.int (iI ((wdT.getD k.toNat []).getD (iI e).toNatClampNeg 0)) = _
  rw [iI_cl h.1 (by omega)]
  rfl
theorem sb_in {k e : Int} (h : 0 ≤ e ∧ e < slen k) (hk : 0 ≤ k ∧ k < 56) : vp_in (iI e) (wdT.getD k.toNat []).length := by
  have := sl_b hk
  unfold slen at h this
  exact iI_in h (by omega)
theorem wa_rd {sa : Nat → Nat} {e : Int} (h : 0 ≤ e ∧ e < 28) : (fun j : Nat => Value.ref (sa (100 + j))) (iI e).toNatClampNeg = .ref (wd sa e) := by
  show Value.ref (sa (100 + (iI e).toNatClampNeg)) = _
  rw [iI_cl h.1 (by omega)]
theorem wd_inj {sa : Nat → Nat} {A : Nat → Prop} {U : State} {H : Heap} (h : WD sa A U H) {i j : Int} (hi : 0 ≤ i ∧ i < 28) (hj : 0 ≤ j ∧ j < 28) (e : wd sa i = wd sa j) : i = j := by
  have := h.2.1 i.toNat j.toNat (by omega) (by omega) e
  omega
theorem inv_cpy {n : Nat} {lo hi : Int} {f g : Nat → Int32} {sp dp m : Nat} (hf : inv_ n lo hi f) (h0 : sp = 0) (h1 : dp = 0) (h2 : m = n) : inv_ n lo hi (va_cpy f g sp dp m) := by
  subst h0 h1 h2
  intro j hj
  rw [pk_cpy_in (Nat.zero_le j) (by omega), show 0 + (j - 0) = j by omega]
  exact hf j hj
theorem tab_cpy {st : Nat} {cnt : Int} {lo hi : List Int} {f g : Nat → Int32} {sp dp n : Nat} (hf : tab_ st cnt lo hi f) (h0 : sp = 0) (h1 : dp = 0) (hn : (st : Int) * cnt ≤ n) : tab_ st cnt lo hi (va_cpy f g sp dp n) := by
  subst h0 h1
  intro k c hk hc
  have h3 : (st : Int) * ((k : Int) + 1) ≤ st * cnt := Int.mul_le_mul_of_nonneg_left (by omega) (by omega)
  have h4 : ((st * k : Nat) : Int) = (st : Int) * k := by simp
  have h5 : (st : Int) * ((k : Int) + 1) = st * k + st := by rw [Int.mul_add, Int.mul_one]
  have h6 : st * k + c < n := by omega
  rw [pk_cpy_in (Nat.zero_le _) (by omega), show 0 + (st * k + c - 0) = st * k + c by omega]
  exact hf k c hk hc
theorem tab_weak {st : Nat} {cnt : Int} {lo hi lo2 hi2 : List Int} {f : Nat → Int32} (hf : tab_ st cnt lo hi f) (h : ∀ c, c < st → lo2.getD c 0 ≤ lo.getD c 0 ∧ hi.getD c 0 ≤ hi2.getD c 0) : tab_ st cnt lo2 hi2 f := by
  intro k c hk hc
  obtain ⟨z, h1, h2, h3, h4⟩ := hf k c hk hc
  exact ⟨z, h1, h2, Int.le_trans (h c hc).1 h3, Int.le_trans h4 (h c hc).2⟩
theorem or_nI (n k : Nat) : nI n ||| nI k = nI (n ||| k) := by
  apply Int32.toBitVec_inj.mp
  show (nI n).toBitVec ||| (nI k).toBitVec = _
  exact BitVec.ofNat_or.symm
theorem or_b {a b : Int} (k : Nat) (ha : 0 ≤ a ∧ a < 2 ^ k) (hb : 0 ≤ b ∧ b < 2 ^ k) : ∃ z : Int, iI a ||| iI b = iI z ∧ 0 ≤ z ∧ z < 2 ^ k := by
  obtain ⟨n, rfl⟩ := Int.eq_ofNat_of_zero_le ha.1
  obtain ⟨q, rfl⟩ := Int.eq_ofNat_of_zero_le hb.1
  have e : ((2 ^ k : Nat) : Int) = 2 ^ k := by simp
  have h := Nat.or_lt_two_pow (x := n) (y := q) (n := k) (by omega) (by omega)
  refine ⟨((n ||| q : Nat) : Int), ?_, by omega, by omega⟩
  rw [← iI_nI, ← iI_nI, ← iI_nI, or_nI]
theorem sh1 : ∀ k : Nat, k < 31 → iI 1 <<< iI (k : Int) = iI ((2 ^ k : Nat) : Int) := by decide
theorem sh_b {k : Int} {n : Nat} (hk : 0 ≤ k ∧ k ≤ n) (hn : n ≤ 30) : ∃ z : Int, iI 1 <<< iI k = iI z ∧ 1 ≤ z ∧ z ≤ 2 ^ n := by
  obtain ⟨q, rfl⟩ := Int.eq_ofNat_of_zero_le hk.1
  have e : ((2 ^ n : Nat) : Int) = 2 ^ n := by simp
  have h1 : (2 : Nat) ^ q ≤ 2 ^ n := Nat.pow_le_pow_right (by decide) (by omega)
  have h2 : 0 < (2 : Nat) ^ q := Nat.two_pow_pos q
  exact ⟨((2 ^ q : Nat) : Int), sh1 q (by omega), by omega, by omega⟩
theorem go_0 : ∀ a : Fin 64, ∀ k : Fin 6, ¬ (iI (a.1 : Int) >>> iI (k.1 : Int)) &&& iI 1 = iI 0 → ∃ z : Fin 64, iI (a.1 : Int) &&& ((iI 1 <<< iI (k.1 : Int)) ^^^ iI (-1)) = iI (z.1 : Int) ∧ z.1 < a.1 := by decide +kernel
theorem go_dec {a k z1 z2 z4 z5 : Int} (ha : 0 ≤ a ∧ a < 64) (hk : 0 ≤ k ∧ k < 6) (e1 : iI 1 <<< iI k = iI z1) (e2 : iI z1 ^^^ iI (-1) = iI z2) (e4 : iI a >>> iI k = iI z4) (e5 : iI z4 &&& iI 1 = iI z5) (h5 : ¬ z5 = 0) (hr : 0 ≤ z5 ∧ z5 ≤ 1) : ∃ z : Int, iI a &&& iI z2 = iI z ∧ 0 ≤ z ∧ z < a := by
  obtain ⟨n, rfl⟩ := Int.eq_ofNat_of_zero_le ha.1
  obtain ⟨q, rfl⟩ := Int.eq_ofNat_of_zero_le hk.1
  obtain ⟨z, h1, h2⟩ := go_0 ⟨n, by omega⟩ ⟨q, by omega⟩ (by
    show ¬ (iI (n : Int) >>> iI (q : Int)) &&& iI 1 = iI 0
    rw [e4, e5]
    exact fun h => h5 ((iI_eq (by omega) (by omega)).mp h))
  rw [e1, e2] at h1
  exact ⟨(z.1 : Int), h1, by omega, by have : z.1 < n := h2; omega⟩
/-- the rows of works: of a work that clears, the drain is one -/
def tw_ (f : Nat → Int32) : Prop := tab_ 5 8 [0, 0, 0, 0, 0] [3, 99, 15, 5, 99] f ∧ ∀ k : Nat, k < 8 → f (5 * k) = iI 0 → ∃ z : Int, f (5 * k + 2) = iI z ∧ 0 ≤ z ∧ z ≤ 13
theorem tw_cpy {f g : Nat → Int32} {sp dp n : Nat} (hf : tw_ f) (h0 : sp = 0) (h1 : dp = 0) (hn : n = 40) : tw_ (va_cpy f g sp dp n) := by
  refine ⟨tab_cpy hf.1 h0 h1 (by omega), ?_⟩
  subst h0 h1 hn
  intro k hk h
  rw [pk_cpy_in (Nat.zero_le _) (by omega), show 0 + (5 * k - 0) = 5 * k by omega] at h
  rw [pk_cpy_in (Nat.zero_le _) (by omega), show 0 + (5 * k + 2 - 0) = 5 * k + 2 by omega]
  exact hf.2 k hk h
theorem tw_x {f : Nat → Int32} (hf : tw_ f) {k e0 e2 z0 z2 : Int} (hk : 0 ≤ k ∧ k < 8) (he0 : e0 = 5 * k) (he2 : e2 = 5 * k + 2) (h0 : f (iI e0).toNatClampNeg = iI z0) (h2 : f (iI e2).toNatClampNeg = iI z2) (hz : z0 = 0) (hr : -2147483648 ≤ z2 ∧ z2 ≤ 2147483647) : 0 ≤ z2 ∧ z2 ≤ 13 := by
  subst hz
  rw [iI_cl (by omega) (by omega), show e0.toNat = 5 * k.toNat by omega] at h0
  rw [iI_cl (by omega) (by omega), show e2.toNat = 5 * k.toNat + 2 by omega] at h2
  obtain ⟨z, h3, h4⟩ := hf.2 k.toNat (by omega) h0
  have := (iI_eq (a := z2) (b := z) hr (by omega)).mp (h2.symm.trans h3)
  omega
theorem tw_set {f f1 f2 f3 f4 f5 : Nat → Int32} (hf : tw_ f) {k e0 e1 e2 e3 e4 v0 v1 v2 v3 v4 : Int} (hk : 0 ≤ k ∧ k < 8) (he0 : e0 = 5 * k) (he1 : e1 = 5 * k + 1) (he2 : e2 = 5 * k + 2) (he3 : e3 = 5 * k + 3) (he4 : e4 = 5 * k + 4)
    (h1 : f1 = upd f (iI e0).toNatClampNeg (iI v0)) (h2 : f2 = upd f1 (iI e1).toNatClampNeg (iI v1)) (h3 : f3 = upd f2 (iI e2).toNatClampNeg (iI v2)) (h4 : f4 = upd f3 (iI e3).toNatClampNeg (iI v3)) (h5 : f5 = upd f4 (iI e4).toNatClampNeg (iI v4))
    (b0 : 0 ≤ v0 ∧ v0 ≤ 3) (b1 : 0 ≤ v1 ∧ v1 ≤ 99) (b2 : 0 ≤ v2 ∧ v2 ≤ 15) (b3 : 0 ≤ v3 ∧ v3 ≤ 5) (b4 : 0 ≤ v4 ∧ v4 ≤ 99) (hx : v0 = 0 → v2 ≤ 13) : tw_ f5 := by
  have t1 : tab_ 5 8 [0, 0, 0, 0, 0] [3, 99, 15, 5, 99] f1 := by rw [h1]; exact tab_wr (k := k) (c := 0) (a := 0) (b := 3) hf.1 (by omega) (by omega) (by decide) (by omega) rfl rfl (by omega)
  have t2 : tab_ 5 8 [0, 0, 0, 0, 0] [3, 99, 15, 5, 99] f2 := by rw [h2]; exact tab_wr (k := k) (c := 1) (a := 0) (b := 99) t1 (by omega) (by omega) (by decide) (by omega) rfl rfl (by omega)
  have t3 : tab_ 5 8 [0, 0, 0, 0, 0] [3, 99, 15, 5, 99] f3 := by rw [h3]; exact tab_wr (k := k) (c := 2) (a := 0) (b := 15) t2 (by omega) (by omega) (by decide) (by omega) rfl rfl (by omega)
  have t4 : tab_ 5 8 [0, 0, 0, 0, 0] [3, 99, 15, 5, 99] f4 := by rw [h4]; exact tab_wr (k := k) (c := 3) (a := 0) (b := 5) t3 (by omega) (by omega) (by decide) (by omega) rfl rfl (by omega)
  have t5 : tab_ 5 8 [0, 0, 0, 0, 0] [3, 99, 15, 5, 99] f5 := by rw [h5]; exact tab_wr (k := k) (c := 4) (a := 0) (b := 99) t4 (by omega) (by omega) (by decide) (by omega) rfl rfl (by omega)
  refine ⟨t5, ?_⟩
  rw [iI_cl (by omega) (by omega), show e0.toNat = 5 * k.toNat by omega] at h1
  rw [iI_cl (by omega) (by omega), show e1.toNat = 5 * k.toNat + 1 by omega] at h2
  rw [iI_cl (by omega) (by omega), show e2.toNat = 5 * k.toNat + 2 by omega] at h3
  rw [iI_cl (by omega) (by omega), show e3.toNat = 5 * k.toNat + 3 by omega] at h4
  rw [iI_cl (by omega) (by omega), show e4.toNat = 5 * k.toNat + 4 by omega] at h5
  intro j hj h
  by_cases q : j = k.toNat
  · subst q
    have g0 : f5 (5 * k.toNat) = iI v0 := by rw [h5, pk_un (by omega), h4, pk_un (by omega), h3, pk_un (by omega), h2, pk_un (by omega), h1, pk_us]
    have g2 : f5 (5 * k.toNat + 2) = iI v2 := by rw [h5, pk_un (by omega), h4, pk_un (by omega), h3, pk_us]
    have g3 : v0 = 0 := (iI_eq (by omega) (by omega)).mp (g0.symm.trans h)
    exact ⟨v2, g2, b2.1, hx g3⟩
  · have g : ∀ c : Nat, c < 5 → f5 (5 * j + c) = f (5 * j + c) := fun c hc => by rw [h5, pk_un (by omega), h4, pk_un (by omega), h3, pk_un (by omega), h2, pk_un (by omega), h1, pk_un (by omega)]
    have g0 := g 0 (by decide)
    rw [Nat.add_zero] at g0
    rw [g0] at h
    rw [g 2 (by decide)]
    exact hf.2 j hj h
theorem gsub_V {own C : String} {idx : Nat} {y : MethodName} {L : List Cond} {hd hd0 : Cond} (h1 : Cond.methodLink own idx y ∈ L) (h2 : Cond.instanceMethod y ∈ L) (h3 : Cond.selects C y y ∈ L) (h4 : Cond.initialized C ∈ L) (h5 : hd ∈ L) : ∀ w ∈ wsV own idx C y (hd :: L), w ∈ hd0 :: L := by
  intro w hw
  refine List.mem_cons_of_mem _ ?_
  simp only [wsV, List.mem_append, List.mem_cons, List.not_mem_nil, or_false] at hw
  rcases hw with (rfl | rfl | rfl | rfl) | rfl | h <;> assumption
section RG2
variable {p : Program} {l : Launch} {e : Env} {R : Room} {s : State} {m : MethodId} {args : Array Value} {below : List Frame} {meth : Method} {c : Code} {H : Heap} {locs : List Loc} {cells slots : Nat} {Q : State → Prop} {pc : Nat} {ls : Array Slot} {rest : List Value} {cc : ByteArray} {A : Nat → Prop} {sa : Nat → Nat}
theorem lt_l {x y : Int64} (h : x = y) (k : W p l e R s m args below meth c H locs cells slots Q (F0 m pc ls (.long y :: rest))) : W p l e R s m args below meth c H locs cells slots Q (F0 m pc ls (.long x :: rest)) := h ▸ k
theorem lt_lc {a b : Int} (ha : -9223372036854775808 ≤ a ∧ a ≤ 9223372036854775807) (hb : -9223372036854775808 ≤ b ∧ b ≤ 9223372036854775807) (kk : ∀ z : Int, ((z = -1 ∧ a < b) ∨ (z = 0 ∧ a = b) ∨ (z = 1 ∧ b < a)) → W p l e R s m args below meth c H locs cells slots Q (F0 m pc ls (.int (iI z) :: rest))) : W p l e R s m args below meth c H locs cells slots Q (F0 m pc ls (.int (lg_cmp (jJ a) (jJ b)) :: rest)) := by
  obtain ⟨z, h1, h2⟩ := lc_ex ha hb
  rw [h1]
  exact kk z h2
theorem lt_aE {x : Int32} {mk : Int32} (k : Nat) (hm : mk.toBitVec.toNat = 2 ^ k - 1) (hk : k ≤ 30) {hi : Int} (hh : (2 : Int) ^ k = hi + 1) (kk : ∀ z : Int, x &&& mk = iI z → 0 ≤ z → z ≤ hi → W p l e R s m args below meth c H locs cells slots Q (F0 m pc ls (.int (iI z) :: rest))) : W p l e R s m args below meth c H locs cells slots Q (F0 m pc ls (.int (x &&& mk) :: rest)) := by
  obtain ⟨z, h1, h2, h3⟩ := ia_ex x k hm hk
  have h4 := kk z h1 h2 (by omega)
  rw [h1]
  exact h4
theorem lt_o2 {a b : Int} (k : Nat) {M : Int} (hM : (2 : Int) ^ k = M + 1) (ha : 0 ≤ a ∧ a ≤ M) (hb : 0 ≤ b ∧ b ≤ M) (kk : ∀ z : Int, 0 ≤ z → z ≤ M → W p l e R s m args below meth c H locs cells slots Q (F0 m pc ls (.int (iI z) :: rest))) : W p l e R s m args below meth c H locs cells slots Q (F0 m pc ls (.int (iI a ||| iI b) :: rest)) := by
  obtain ⟨z, h1, h2, h3⟩ := or_b (a := a) (b := b) k (by omega) (by omega)
  rw [h1]
  exact kk z h2 (by omega)
theorem aw_eq (hexec : p.tables.exec = Jvm.exec) (hb : c.code = cc) (hW : WD sa A s s.heap) {i j : Int} {off : Int} {tgt : Nat} (hdg : decode cc pc = .ok (.if_acmp .eq off, 3)) (ht : (pc : Int) + off = (tgt : Int)) (hi : 0 ≤ i ∧ i < 28) (hj : 0 ≤ j ∧ j < 28)
    (kt : i = j → W p l e R s m args below meth c H locs cells slots Q (F0 m tgt ls rest)) (kf : ¬ i = j → W p l e R s m args below meth c H locs cells slots Q (F0 m (pc + 3) ls rest)) : W p l e R s m args below meth c H locs cells slots Q (F0 m pc ls (.ref (wd sa j) :: .ref (wd sa i) :: rest)) :=
  lv_acmp_eq (rx := some (wd sa i)) (ry := some (wd sa j)) hexec hb hdg ht (fun q => kt (wd_inj hW hi hj (Option.some.inj q))) (fun q => kf (fun z => q (by rw [z])))
theorem aw_ne (hexec : p.tables.exec = Jvm.exec) (hb : c.code = cc) (hW : WD sa A s s.heap) {i j : Int} {off : Int} {tgt : Nat} (hdg : decode cc pc = .ok (.if_acmp .ne off, 3)) (ht : (pc : Int) + off = (tgt : Int)) (hi : 0 ≤ i ∧ i < 28) (hj : 0 ≤ j ∧ j < 28)
    (kt : ¬ i = j → W p l e R s m args below meth c H locs cells slots Q (F0 m tgt ls rest)) (kf : i = j → W p l e R s m args below meth c H locs cells slots Q (F0 m (pc + 3) ls rest)) : W p l e R s m args below meth c H locs cells slots Q (F0 m pc ls (.ref (wd sa j) :: .ref (wd sa i) :: rest)) :=
  lv_acmp_ne (rx := some (wd sa i)) (ry := some (wd sa j)) hexec hb hdg ht (fun q => kt (fun z => q (by rw [z]))) (fun q => kf (wd_inj hW hi hj (Option.some.inj q)))
theorem vk_getfN (hexec : p.tables.exec = Jvm.exec) (hb : c.code = cc) {o n d own ref host : String} {index q : Nat} {v : Value} (hE : va_OF o n d v q A s s.heap) (hS : va_S A s.heap H locs) (hown : s.vm.findClass own = some m.cls) (hlink : (Cond.fieldLinkNest own index ref n d host).before args s = true) (hsame : ∀ x, s.fieldFound? o n d = some x → s.fieldFound? ref n d = some x) (hdg : decode cc pc = .ok (.getfield index, 3))
    (kk : W p l e R s m args below meth c H locs cells slots Q (F0 m (pc + 3) ls (v :: rest))) : W p l e R s m args below meth c H locs cells slots Q (F0 m pc ls (.ref q :: rest)) := by
  obtain ⟨cf, k, fi, f, cell, h1, h2, h3, h4, h5, h6⟩ := hE.kept hS.2.1
  exact va_Wgetf hexec hb hown hlink (hsame _ h1) h2 h3 h4 (v := v) h5 rfl rfl hdg kk
theorem va_ldcwS (hexec : p.tables.exec = Jvm.exec) (hb : c.code = cc) {own tx : String} {index q : Nat} (hown : s.vm.findClass own = some m.cls) (hZ : vk_R own index tx q s) (hdg : decode cc pc = .ok (.ldc_w index, 3))
    (k : W p l e R s m args below meth c H locs cells slots Q (F0 m (pc + 3) ls (.ref q :: rest))) : W p l e R s m args below meth c H locs cells slots Q (F0 m pc ls rest) := by
  intro T hT X
  obtain ⟨t, a1, b1⟩ := k T hT X
  exact ⟨t, X.ldcStringW hexec hown (text := tx) (a := q) hZ.1 hZ.2 (g := F0 m pc ls rest) rfl (by rw [hb]; exact hdg) t a1, b1⟩
theorem wo_recv {E : String} {t : Nat} (h : va_O E t A s s.heap) (hS : va_S A s.heap H locs) : ∃ cell : Cell, H[t]? = some cell ∧ cell.vm.isStatics = false ∧ s.vm.findClass E = some cell.cls := by
  obtain ⟨cell, h1, h2, h3, -⟩ := h.kept hS.2.1
  exact ⟨cell, h1, h2, h3⟩
end RG2
end
section
def pm9 : va_W → List Bool → va_W
  | w :: ws, true :: bs => w :: pm9 ws bs
  | _ :: ws, false :: bs => pm9 ws bs
  | _, _ => []
def ix9 : Nat → va_W → List Bool → List Nat
  | k, _ :: ws, true :: bs => k :: ix9 (k + 1) ws bs
  | k, _ :: ws, false :: bs => ix9 (k + 1) ws bs
  | _, _, _ => []
def dj9 (bs : List Bool) (isC : List Nat) : Bool := va_nd isC && isC.all (fun i => bs.getD i false == false)
theorem ix9_map : ∀ (ws : va_W) (bs : List Bool) (pre : va_W), (ix9 pre.length ws bs).map (fun i => (pre ++ ws)[i]?) = (pm9 ws bs).map some
  | [], _, _ => rfl
  | _ :: _, [], _ => rfl
  | w :: ws, true :: bs, pre => by
    have h := ix9_map ws bs (pre ++ [w])
    rw [List.length_append, List.append_assoc] at h
    have h0 : (pre ++ w :: ws)[pre.length]? = some w := by rw [List.getElem?_append_right (Nat.le_refl _), Nat.sub_self]; rfl
    show (pre ++ w :: ws)[pre.length]? :: (ix9 (pre.length + 1) ws bs).map (fun i => (pre ++ w :: ws)[i]?) = some w :: (pm9 ws bs).map some
    rw [h0]
    exact congrArg (fun t => some w :: t) h
  | w :: ws, false :: bs, pre => by
    have h := ix9_map ws bs (pre ++ [w])
    rw [List.length_append, List.append_assoc] at h
    exact h
theorem ix9_mem : ∀ (ws : va_W) (bs : List Bool) (k i : Nat), i ∈ ix9 k ws bs → k ≤ i ∧ bs.getD (i - k) false = true
  | [], _, _, _, h => absurd h List.not_mem_nil
  | _ :: _, [], _, _, h => absurd h List.not_mem_nil
  | w :: ws, true :: bs, k, i, h => by
    have h1 : i ∈ k :: ix9 (k + 1) ws bs := h
    rcases List.mem_cons.mp h1 with h2 | h2
    · subst h2; exact ⟨Nat.le_refl _, by rw [Nat.sub_self]; rfl⟩
    · obtain ⟨a, b⟩ := ix9_mem ws bs (k + 1) i h2
      refine ⟨by omega, ?_⟩
      rw [show i - k = (i - (k + 1)) + 1 by omega]; exact b
  | w :: ws, false :: bs, k, i, h => by
    have h1 : i ∈ ix9 (k + 1) ws bs := h
    obtain ⟨a, b⟩ := ix9_mem ws bs (k + 1) i h1
    refine ⟨by omega, ?_⟩
    rw [show i - k = (i - (k + 1)) + 1 by omega]; exact b
theorem ix9_nd : ∀ (ws : va_W) (bs : List Bool) (k : Nat), va_nd (ix9 k ws bs) = true
  | [], _, _ => rfl
  | _ :: _, [], _ => rfl
  | w :: ws, true :: bs, k => by
    show (decide (k ∉ ix9 (k + 1) ws bs) && va_nd (ix9 (k + 1) ws bs)) = true
    rw [ix9_nd ws bs (k + 1), Bool.and_true]
    exact decide_eq_true (fun h => absurd (ix9_mem ws bs (k + 1) k h).1 (by omega))
  | w :: ws, false :: bs, k => ix9_nd ws bs (k + 1)
theorem dj9_nd {bs : List Bool} {isC : List Nat} (h : dj9 bs isC = true) : va_nd isC = true := (Bool.and_eq_true_iff.mp h).1
theorem dj9_dis {ws : va_W} {bs : List Bool} {isC : List Nat} (h : dj9 bs isC = true) : ∀ i ∈ ix9 0 ws bs, i ∉ isC := by
  intro i hi hc
  have h2 := List.all_eq_true.mp (Bool.and_eq_true_iff.mp h).2 i hc
  have h3 := (ix9_mem ws bs 0 i hi).2
  rw [Nat.sub_zero] at h3
  rw [h3] at h2
  exact absurd h2 (by decide)
def PD9 (D : va_G) (A : Nat → Prop) (ws : va_W) (H : Heap) : Prop := va_P D vwCl ws H ∧ va_D A ws
theorem pd9 {D : va_G} {A : Nat → Prop} {H : Heap} (ws : va_W) (h : PD9 D A ws H) : va_P D vwCl ws H ∧ va_D A ws := h
theorem pw9 {D : va_G} {A : Nat → Prop} {H : Heap} (ws : va_W) (hP : va_P D vwCl ws H) (hD : va_D A ws) : va_P D vwCl ws H ∧ va_D A ws := ⟨hP, hD⟩
theorem pe9 {α : Type} {D : va_G} {A : Nat → Prop} {H : Heap} (g : α → va_W) (f : α) (hP : va_P D vwCl (g f) H) (hD : va_D A (g f)) : ∃ f' : α, va_P D vwCl (g f') H ∧ va_D A (g f') := ⟨f, hP, hD⟩
theorem pe9e {α : Type} {D : va_G} {A : Nat → Prop} {H : Heap} (g : α → va_W) (f : α) (hP : va_P D vwCl (g f) H) (hD : va_D A (g f)) : ∃ f' : α, f' = f ∧ va_P D vwCl (g f') H ∧ va_D A (g f') := ⟨f, rfl, hP, hD⟩
theorem pe9i {α : Type} {D : va_G} {A : Nat → Prop} {H : Heap} (I : α → Prop) (g : α → va_W) {f : α} (hI : I f) (hP : va_P D vwCl (g f) H) (hD : va_D A (g f)) : ∃ f' : α, I f' ∧ va_P D vwCl (g f') H ∧ va_D A (g f') := ⟨f, hI, hP, hD⟩
theorem at9 {D : va_G} {A : Nat → Prop} {ws ws' : va_W} {H : Heap} {t : State} (ht : t.heap = H) (hP : va_P D vwCl ws H) (hD : va_D A ws) (is : List Nat) (hn : va_nd is = true) (hs : is.map (fun i => ws[i]?) = ws'.map some) : va_P D vwCl ws' t.heap ∧ va_D A ws' :=
  ⟨by rw [ht]; exact hP.sub is (fm_of_map is hs), hD.sub is hn hs⟩
abbrev mI9 (l : Launch) (y : MethodName) (vs : List Cond) (rm : Room) (D : va_G) (cy : Nat → ClassId) (sa : Nat → Nat) (sz : Nat) (av : List Value) (W : va_W) (post : Int32 → SV → Prop) (PW : SV → va_W) (mc ms : Nat) : Prop := Met l y vs rm (va_Pc av (pcW D cy sa sz W)) (va_Qi post (fun u t => atW D (va_A W sz) (PW u) t) (va_A W sz)) mc ms (va_A W sz)
abbrev mV9 (l : Launch) (y : MethodName) (vs : List Cond) (rm : Room) (D : va_G) (cy : Nat → ClassId) (sa : Nat → Nat) (sz : Nat) (av : List Value) (W : va_W) (post : SV → Prop) (PW : SV → va_W) (mc ms : Nat) : Prop := Met l y vs rm (va_Pc av (pcW D cy sa sz W)) (va_Qv post (fun u t => atW D (va_A W sz) (PW u) t) (va_A W sz)) mc ms (va_A W sz)
abbrev mR9 (l : Launch) (y : MethodName) (vs : List Cond) (rm : Room) (D : va_G) (cy : Nat → ClassId) (sa : Nat → Nat) (sz : Nat) (av : List Value) (W : va_W) (post : SV → Prop) (PW : SV → va_W) (k : Nat) (mc ms : Nat) : Prop := Met l y vs rm (va_Pc av (pcW D cy sa sz W)) (va_Qr post (fun u a t => a = wd sa (u.2.1 k) ∧ atW D (va_A W sz) (PW u) t) (va_A W sz)) mc ms (va_A W sz)
section C9
variable {p : Program} {l : Launch} {e : Env} {R : Room} {s : State} {m : MethodId} {args : Array Value} {below : List Frame} {meth : Method} {c : Code} {H : Heap} {locs : List Loc} {cells slots mc ms : Nat} {Q : State → Prop} {pc : Nat} {ls : Array Slot} {st0 rest : List Value} {a : Array Value} {D : va_G} {A : Nat → Prop} {ws wc pl : va_W} {cy : Nat → ClassId} {sa : Nat → Nat} {av : List Value}
theorem cjr_i {S : Type} {post : Int32 → S → Prop} {wB : S → va_W} (bs : List Bool) (hr : (∀ U : State, U.heap = H → s.WarmedH U.vm → va_Pc av (pcW D cy sa H.size wc) av.toArray U) → va_Run p l e R s m args below meth c H locs cells slots mc ms (F0 m pc ls st0) rest (va_Qi post (fun u t => atW D (va_A wc H.size) (wB u) t) (va_A wc H.size) a) (va_A wc H.size)) (hP : va_P D vwCl (ws) H) (hD : va_D A (ws)) (hS : va_S A s.heap H locs) (hA : ∀ q, s.heap.size ≤ q → A q) (hG : GC D cy sa s) (hT : TH sa A s s.heap) (isC : List Nat) (hC : isC.map (fun i => ws[i]?) = wc.map some) (hd : dj9 bs isC = true)
    (kk : ∀ (r : Int32) (u : S) (H1 : Heap) (locs1 : List Loc), post r u → PD9 D A ((pm9 ws bs ++ wB u)) H1 → va_S A s.heap H1 locs1 → W p l e R s m args below meth c H1 locs1 (cells + mc) (slots + ms) Q (F0 m (pc + 3) ls (.int r :: rest))) : W p l e R s m args below meth c H locs cells slots Q (F0 m pc ls st0) :=
  cj_i (hr (pcW.mk hP hD hS hA hG hT isC hC (dj9_nd hd))) hP hD hS hA isC (ix9 0 ws bs) hC (ix9_map ws bs []) (ix9_nd ws bs 0) (dj9_dis hd) (fun r u H1 locs1 h1 h2 h3 h4 => kk r u H1 locs1 h1 ⟨h2, h3⟩ h4)
theorem cjr_v {S : Type} {post : S → Prop} {wB : S → va_W} (bs : List Bool) (hr : (∀ U : State, U.heap = H → s.WarmedH U.vm → va_Pc av (pcW D cy sa H.size wc) av.toArray U) → va_Run p l e R s m args below meth c H locs cells slots mc ms (F0 m pc ls st0) rest (va_Qv post (fun u t => atW D (va_A wc H.size) (wB u) t) (va_A wc H.size) a) (va_A wc H.size)) (hP : va_P D vwCl (ws) H) (hD : va_D A (ws)) (hS : va_S A s.heap H locs) (hA : ∀ q, s.heap.size ≤ q → A q) (hG : GC D cy sa s) (hT : TH sa A s s.heap) (isC : List Nat) (hC : isC.map (fun i => ws[i]?) = wc.map some) (hd : dj9 bs isC = true)
    (kk : ∀ (u : S) (H1 : Heap) (locs1 : List Loc), post u → PD9 D A ((pm9 ws bs ++ wB u)) H1 → va_S A s.heap H1 locs1 → W p l e R s m args below meth c H1 locs1 (cells + mc) (slots + ms) Q (F0 m (pc + 3) ls rest)) : W p l e R s m args below meth c H locs cells slots Q (F0 m pc ls st0) :=
  cj_v (hr (pcW.mk hP hD hS hA hG hT isC hC (dj9_nd hd))) hP hD hS hA isC (ix9 0 ws bs) hC (ix9_map ws bs []) (ix9_nd ws bs 0) (dj9_dis hd) (fun u H1 locs1 h1 h2 h3 h4 => kk u H1 locs1 h1 ⟨h2, h3⟩ h4)
theorem cjr_r {S : Type} {post : S → Prop} {wB : S → va_W} {ra : S → Nat} (bs : List Bool) (hr : (∀ U : State, U.heap = H → s.WarmedH U.vm → va_Pc av (pcW D cy sa H.size wc) av.toArray U) → va_Run p l e R s m args below meth c H locs cells slots mc ms (F0 m pc ls st0) rest (va_Qr post (fun u a t => a = ra u ∧ atW D (va_A wc H.size) (wB u) t) (va_A wc H.size) a) (va_A wc H.size)) (hP : va_P D vwCl (ws) H) (hD : va_D A (ws)) (hS : va_S A s.heap H locs) (hA : ∀ q, s.heap.size ≤ q → A q) (hG : GC D cy sa s) (hT : TH sa A s s.heap) (isC : List Nat) (hC : isC.map (fun i => ws[i]?) = wc.map some) (hd : dj9 bs isC = true)
    (kk : ∀ (u : S) (H1 : Heap) (locs1 : List Loc), post u → PD9 D A ((pm9 ws bs ++ wB u)) H1 → va_S A s.heap H1 locs1 → W p l e R s m args below meth c H1 locs1 (cells + mc) (slots + ms) Q (F0 m (pc + 3) ls (.ref (ra u) :: rest))) : W p l e R s m args below meth c H locs cells slots Q (F0 m pc ls st0) :=
  cj_r (hr (pcW.mk hP hD hS hA hG hT isC hC (dj9_nd hd))) hP hD hS hA isC (ix9 0 ws bs) hC (ix9_map ws bs []) (ix9_nd ws bs 0) (dj9_dis hd) (fun u H1 locs1 h1 h2 h3 h4 => kk u H1 locs1 h1 ⟨h2, h3⟩ h4)
end C9
end
section
abbrev zO (a ci : Nat) (fs : List Value) : Nat × va_E := (a, .inr (ci, fs))
abbrev zI (a : Nat) (c : ClassId) (n : Nat) (f : Nat → Int32) : Nat × va_E := (a, .inl (c, n, .inl f))
abbrev zL (a : Nat) (c : ClassId) (n : Nat) (f : Nat → Int64) : Nat × va_E := (a, .inl (c, n, .inr (.inl f)))
abbrev zQ (a : Nat) (c : ClassId) (n : Nat) (f : Nat → Option Nat) : Nat × va_E := (a, .inl (c, n, .inr (.inr (.inr (.inr f)))))
abbrev vI (z : Int) : Value := Value.int (iI z)
abbrev vR (a : Nat) : Value := Value.ref a
abbrev vJ (z : Int) : Value := Value.long (jJ z)
abbrev vN : Value := Value.null
theorem gd_A {a b : List Cond} (h1 : a.all goodWord = true) (h2 : b.all goodWord = true) : (a ++ b).all goodWord = true := by rw [List.all_append, h1, h2]; rfl
theorem gd_C {a : Cond} {b : List Cond} (h1 : goodWord a = true) (h2 : b.all goodWord = true) : (a :: b).all goodWord = true := by rw [List.all_cons, h1, h2]; rfl
theorem gd_V {own C : String} {idx : Nat} {y : MethodName} {ws : List Cond} (h : ws.all goodWord = true) (h4 : ([.methodLink own idx y, .instanceMethod y, .selects C y y, .initialized C] : List Cond).all goodWord = true) : (wsV own idx C y ws).all goodWord = true := gd_A h4 h
theorem gd_S {own : String} {idx : Nat} {y : MethodName} {ws : List Cond} (h : ws.all goodWord = true) (h4 : ([.methodLink own idx y, .static y, .initialized y.cls] : List Cond).all goodWord = true) : (va_wsS own idx y ws).all goodWord = true := gd_A h4 h
end
section
theorem dX8_begin_0 : decode cX8_begin 0 = .ok (.aload_n 0, 1) := by decide +kernel
theorem dX8_begin_1 : decode cX8_begin 1 = .ok (.iload_n 1, 1) := by decide +kernel
theorem dX8_begin_10 : decode cX8_begin 10 = .ok (.aload_n 0, 1) := by decide +kernel
theorem dX8_begin_11 : decode cX8_begin 11 = .ok (.iconst 0, 1) := by decide +kernel
theorem dX8_begin_12 : decode cX8_begin 12 = .ok (.putfield 25, 3) := by decide +kernel
theorem dX8_begin_15 : decode cX8_begin 15 = .ok (.aload_n 0, 1) := by decide +kernel
theorem dX8_begin_16 : decode cX8_begin 16 = .ok (.iconst 0, 1) := by decide +kernel
theorem dX8_begin_17 : decode cX8_begin 17 = .ok (.putfield 28, 3) := by decide +kernel
theorem dX8_begin_2 : decode cX8_begin 2 = .ok (.putfield 22, 3) := by decide +kernel
theorem dX8_begin_20 : decode cX8_begin 20 = .ok (.aload_n 0, 1) := by decide +kernel
theorem dX8_begin_21 : decode cX8_begin 21 = .ok (.iconst 0, 1) := by decide +kernel
theorem dX8_begin_22 : decode cX8_begin 22 = .ok (.putfield 31, 3) := by decide +kernel
theorem dX8_begin_25 : decode cX8_begin 25 = .ok (.aload_n 0, 1) := by decide +kernel
theorem dX8_begin_26 : decode cX8_begin 26 = .ok (.iconst (-1), 1) := by decide +kernel
theorem dX8_begin_27 : decode cX8_begin 27 = .ok (.putfield 15, 3) := by decide +kernel
theorem dX8_begin_30 : decode cX8_begin 30 = .ok (.return_, 1) := by decide +kernel
theorem dX8_begin_5 : decode cX8_begin 5 = .ok (.aload_n 0, 1) := by decide +kernel
theorem dX8_begin_6 : decode cX8_begin 6 = .ok (.iconst 0, 1) := by decide +kernel
theorem dX8_begin_7 : decode cX8_begin 7 = .ok (.putfield 19, 3) := by decide +kernel
theorem dX8_good_0 : decode cX8_good 0 = .ok (.aload_n 0, 1) := by decide +kernel
theorem dX8_good_1 : decode cX8_good 1 = .ok (.getfield 31, 3) := by decide +kernel
theorem dX8_good_11 : decode cX8_good 11 = .ok (.iconst 0, 1) := by decide +kernel
theorem dX8_good_12 : decode cX8_good 12 = .ok (.ireturn, 1) := by decide +kernel
theorem dX8_good_4 : decode cX8_good 4 = .ok (.ifCond .ne 7, 3) := by decide +kernel
theorem dX8_good_7 : decode cX8_good 7 = .ok (.iconst 1, 1) := by decide +kernel
theorem dX8_good_8 : decode cX8_good 8 = .ok (.goto 4, 3) := by decide +kernel
theorem dX8_hasRoom_0 : decode cX8_hasRoom 0 = .ok (.aload_n 0, 1) := by decide +kernel
theorem dX8_hasRoom_1 : decode cX8_hasRoom 1 = .ok (.getfield 19, 3) := by decide +kernel
theorem dX8_hasRoom_10 : decode cX8_hasRoom 10 = .ok (.if_icmp .gt 7, 3) := by decide +kernel
theorem dX8_hasRoom_13 : decode cX8_hasRoom 13 = .ok (.iconst 1, 1) := by decide +kernel
theorem dX8_hasRoom_14 : decode cX8_hasRoom 14 = .ok (.goto 4, 3) := by decide +kernel
theorem dX8_hasRoom_17 : decode cX8_hasRoom 17 = .ok (.iconst 0, 1) := by decide +kernel
theorem dX8_hasRoom_18 : decode cX8_hasRoom 18 = .ok (.ireturn, 1) := by decide +kernel
theorem dX8_hasRoom_4 : decode cX8_hasRoom 4 = .ok (.bipush 20, 2) := by decide +kernel
theorem dX8_hasRoom_6 : decode cX8_hasRoom 6 = .ok (.iadd, 1) := by decide +kernel
theorem dX8_hasRoom_7 : decode cX8_hasRoom 7 = .ok (.sipush 600, 3) := by decide +kernel
theorem dX8_isDigit_0 : decode cX8_isDigit 0 = .ok (.iload_n 0, 1) := by decide +kernel
theorem dX8_isDigit_1 : decode cX8_isDigit 1 = .ok (.bipush 48, 2) := by decide +kernel
theorem dX8_isDigit_12 : decode cX8_isDigit 12 = .ok (.iconst 1, 1) := by decide +kernel
theorem dX8_isDigit_13 : decode cX8_isDigit 13 = .ok (.goto 4, 3) := by decide +kernel
theorem dX8_isDigit_16 : decode cX8_isDigit 16 = .ok (.iconst 0, 1) := by decide +kernel
theorem dX8_isDigit_17 : decode cX8_isDigit 17 = .ok (.ireturn, 1) := by decide +kernel
theorem dX8_isDigit_3 : decode cX8_isDigit 3 = .ok (.if_icmp .lt 13, 3) := by decide +kernel
theorem dX8_isDigit_6 : decode cX8_isDigit 6 = .ok (.iload_n 0, 1) := by decide +kernel
theorem dX8_isDigit_7 : decode cX8_isDigit 7 = .ok (.bipush 57, 2) := by decide +kernel
theorem dX8_isDigit_9 : decode cX8_isDigit 9 = .ok (.if_icmp .gt 7, 3) := by decide +kernel
theorem dX8_refuse_0 : decode cX8_refuse 0 = .ok (.aload_n 0, 1) := by decide +kernel
theorem dX8_refuse_1 : decode cX8_refuse 1 = .ok (.getfield 31, 3) := by decide +kernel
theorem dX8_refuse_12 : decode cX8_refuse 12 = .ok (.aload_n 0, 1) := by decide +kernel
theorem dX8_refuse_13 : decode cX8_refuse 13 = .ok (.aload_n 0, 1) := by decide +kernel
theorem dX8_refuse_14 : decode cX8_refuse 14 = .ok (.getfield 25, 3) := by decide +kernel
theorem dX8_refuse_17 : decode cX8_refuse 17 = .ok (.putfield 15, 3) := by decide +kernel
theorem dX8_refuse_20 : decode cX8_refuse 20 = .ok (.return_, 1) := by decide +kernel
theorem dX8_refuse_4 : decode cX8_refuse 4 = .ok (.ifCond .ne 16, 3) := by decide +kernel
theorem dX8_refuse_7 : decode cX8_refuse 7 = .ok (.aload_n 0, 1) := by decide +kernel
theorem dX8_refuse_8 : decode cX8_refuse 8 = .ok (.iload_n 1, 1) := by decide +kernel
theorem dX8_refuse_9 : decode cX8_refuse 9 = .ok (.putfield 31, 3) := by decide +kernel
def vs_s_hasRoom : List Cond := .code yX8_hasRoom cX8_hasRoom 1 (some .boolean) :: (([.fieldLink RX8 19 "KerbSplash$Tape" "fed" "I"] : List Cond) ++ ((wsX80) ++ ([])))
theorem gd_s_hasRoom : vs_s_hasRoom.all goodWord = true := gd_C (by decide +kernel) (gd_A (by decide +kernel) (gd_A (by decide +kernel) rfl))
set_option maxHeartbeats 4000000 in
set_option maxRecDepth 100000 in
theorem s_hasRoom (l : Launch) (hl : l.stackTraces = false) (D : va_G) (cy : Nat → ClassId) (sa : Nat → Nat) (ta tb : Nat) (fed len at_ we fa fp : Int) (sz : Nat) (hr_fed : 0 ≤ fed ∧ fed ≤ 600) (hr_len : 0 ≤ len ∧ len ≤ 600) (hr_at_ : 0 ≤ at_ ∧ at_ ≤ 600) (hr_we : 0 ≤ we ∧ we ≤ 600) (hr_fa : 0 ≤ fa ∧ fa ≤ 4) (hr_fp : (-1) ≤ fp ∧ fp ≤ 600) : mI9 l yX8_hasRoom vs_s_hasRoom ({ frames := 0, cells := 0, slots := 0, locals := 0 }) D cy sa sz [vR ta] [zO ta 8 [vR tb, vI fed, vI len, vI at_, vI we, vI fa, vI fp]] (fun (r : Int32) (u : SV) => r = iI (u.2.1 0) ∧ (0 ≤ u.2.1 0 ∧ u.2.1 0 ≤ 1) ∧ (u.2.1 0 = 1 → fed ≤ 580) ∧ (u.2.1 0 = 0 → 580 < fed)) (fun u : SV => [zO ta 8 [vR tb, vI fed, vI len, vI at_, vI we, vI fa, vI fp]]) 0 0 := by
  refine Met.ofW (cc := cX8_hasRoom) (maxL := 1) (ret := (some .boolean)) (by decide) rfl ?_
  intro p e s m args below meth c s₁ B hml hv
  obtain ⟨rfl, hsz, hP, hG, hD0, hT⟩ := hv
  have hx := B.exec
  have hb := B.bytes
  have hr := B.returns
  have hts := atoms_spec (ws := vs_s_hasRoom) B.pre
  have hown : s.vm.findClass RX8 = some m.cls := findClass_of_methodNamed B.named
  have hlocks := B.notSynchronized
  subst hsz
  have hD := hD0.self (sz := s.heap.size)
  generalize hAe : va_A [zO ta 8 [vR tb, vI fed, vI len, vI at_, vI we, vI fa, vI fp]] s.heap.size = A at hD hT ⊢
  have hA : ∀ q : Nat, s.heap.size ≤ q → A q := fun q h => by rw [← hAe]; exact Or.inr h
  have hS : va_S A s.heap s.heap [] := va_S.rf
  have hl0 := lv_entry ([vR ta]) (n := 1) (Nat.le_of_ble_eq_true rfl)
  rw [lg_entry_eq]
  generalize (lg_sl ([vR ta]) ++ List.replicate (1 - (lg_sl ([vR ta])).length) Slot.unset).toArray = ls at hl0 ⊢
  have hlv : lv_has ls 1 [(0, vR ta)] := hl0
  have lf19 := hts (.fieldLink RX8 19 "KerbSplash$Tape" "fed" "I") (List.mem_of_getElem? (i := 1) rfl)
  have hi8 : ∀ w ∈ wsX80, w ∈ vs_s_hasRoom := fun w h => List.mem_cons_of_mem _ (List.mem_append_right _ (List.mem_append_left _ h))
  refine lv_aload_n hx hb dX8_hasRoom_0 rfl (lv_at hlv 0 rfl) ?_
  refine va_get (D := D) (ci := 8) (v := vI fed) (C := RX8) (T := TX8) (N := 7) hx hb hts hi8 hown hG.1 hP 0 rfl rfl 1 (by decide) lf19 (fun _ h9 => h9) rfl dX8_hasRoom_1 ?_
  refine lv_bipush (v := iI 20) hx hb dX8_hasRoom_4 (by decide) ?_
  refine lv_iadd hx hb dX8_hasRoom_6 ?_
  refine lt_e (e0 := fed + 20) (Int32.ofInt_add _ _).symm (fun z_1 hz_1 => ?_)
  refine lv_sipush (v := iI 600) hx hb dX8_hasRoom_7 (by decide) ?_
  refine ir_gt (tgt := 17) hx hb dX8_hasRoom_10 (by decide) (by omega) (by show ((-2147483648) : Int) ≤ 600 ∧ (600 : Int) ≤ 2147483647; decide) (fun c_2 => ?_) (fun c_2 => ?_)
  · refine lv_iconst (v := iI 0) hx hb dX8_hasRoom_17 (by decide) ?_
    refine W.widen (k := 0) (n := 0) (Nat.le_of_ble_eq_true rfl) (Nat.le_of_ble_eq_true rfl) ?_
    exact W.zret (v := iI 0) hx hb hr (by first | rfl | decide) (fun t ht hW => ⟨⟨iI 0, ((fun k => ([] : List Nat).getD k 0), (fun k => ([0] : List Int).getD k 0), (fun k => ([] : List (Nat → Int32)).getD k (fun _ => 0))), rfl, ⟨rfl, (by show (0 ≤ 0 ∧ 0 ≤ 1); show (0 : Int) ≤ 0 ∧ (0 : Int) ≤ 1; decide), (by show (0 = 1 → fed ≤ 580); omega), (by show (0 = 0 → 580 < fed); omega)⟩, at9 ht hP hD [0] (by decide +kernel) rfl⟩, hS.F ht⟩) hS.2.2 dX8_hasRoom_18
  · refine lv_iconst (v := iI 1) hx hb dX8_hasRoom_13 (by decide) ?_
    refine lv_goto (tgt := 18) hx hb dX8_hasRoom_14 (by decide) ?_
    refine W.widen (k := 0) (n := 0) (Nat.le_of_ble_eq_true rfl) (Nat.le_of_ble_eq_true rfl) ?_
    exact W.zret (v := iI 1) hx hb hr (by first | rfl | decide) (fun t ht hW => ⟨⟨iI 1, ((fun k => ([] : List Nat).getD k 0), (fun k => ([1] : List Int).getD k 0), (fun k => ([] : List (Nat → Int32)).getD k (fun _ => 0))), rfl, ⟨rfl, (by show (0 ≤ 1 ∧ 1 ≤ 1); show (0 : Int) ≤ 1 ∧ (1 : Int) ≤ 1; decide), (by show (1 = 1 → fed ≤ 580); omega), (by show (1 = 0 → 580 < fed); omega)⟩, at9 ht hP hD [0] (by decide +kernel) rfl⟩, hS.F ht⟩) hS.2.2 dX8_hasRoom_18
def vs_s_good : List Cond := .code yX8_good cX8_good 1 (some .boolean) :: (([.fieldLink RX8 31 "KerbSplash$Tape" "fault" "I"] : List Cond) ++ ((wsX80) ++ ([])))
theorem gd_s_good : vs_s_good.all goodWord = true := gd_C (by decide +kernel) (gd_A (by decide +kernel) (gd_A (by decide +kernel) rfl))
set_option maxHeartbeats 4000000 in
set_option maxRecDepth 100000 in
theorem s_good (l : Launch) (hl : l.stackTraces = false) (D : va_G) (cy : Nat → ClassId) (sa : Nat → Nat) (ta tb : Nat) (fed len at_ we fa fp : Int) (sz : Nat) (hr_fed : 0 ≤ fed ∧ fed ≤ 600) (hr_len : 0 ≤ len ∧ len ≤ 600) (hr_at_ : 0 ≤ at_ ∧ at_ ≤ 600) (hr_we : 0 ≤ we ∧ we ≤ 600) (hr_fa : 0 ≤ fa ∧ fa ≤ 4) (hr_fp : (-1) ≤ fp ∧ fp ≤ 600) : mI9 l yX8_good vs_s_good ({ frames := 0, cells := 0, slots := 0, locals := 0 }) D cy sa sz [vR ta] [zO ta 8 [vR tb, vI fed, vI len, vI at_, vI we, vI fa, vI fp]] (fun (r : Int32) (u : SV) => r = iI (u.2.1 0) ∧ (0 ≤ u.2.1 0 ∧ u.2.1 0 ≤ 1) ∧ (u.2.1 0 = 1 → fa = 0) ∧ (u.2.1 0 = 0 → fa ≠ 0)) (fun u : SV => [zO ta 8 [vR tb, vI fed, vI len, vI at_, vI we, vI fa, vI fp]]) 0 0 := by
  refine Met.ofW (cc := cX8_good) (maxL := 1) (ret := (some .boolean)) (by decide) rfl ?_
  intro p e s m args below meth c s₁ B hml hv
  obtain ⟨rfl, hsz, hP, hG, hD0, hT⟩ := hv
  have hx := B.exec
  have hb := B.bytes
  have hr := B.returns
  have hts := atoms_spec (ws := vs_s_good) B.pre
  have hown : s.vm.findClass RX8 = some m.cls := findClass_of_methodNamed B.named
  have hlocks := B.notSynchronized
  subst hsz
  have hD := hD0.self (sz := s.heap.size)
  generalize hAe : va_A [zO ta 8 [vR tb, vI fed, vI len, vI at_, vI we, vI fa, vI fp]] s.heap.size = A at hD hT ⊢
  have hA : ∀ q : Nat, s.heap.size ≤ q → A q := fun q h => by rw [← hAe]; exact Or.inr h
  have hS : va_S A s.heap s.heap [] := va_S.rf
  have hl0 := lv_entry ([vR ta]) (n := 1) (Nat.le_of_ble_eq_true rfl)
  rw [lg_entry_eq]
  generalize (lg_sl ([vR ta]) ++ List.replicate (1 - (lg_sl ([vR ta])).length) Slot.unset).toArray = ls at hl0 ⊢
  have hlv : lv_has ls 1 [(0, vR ta)] := hl0
  have lf31 := hts (.fieldLink RX8 31 "KerbSplash$Tape" "fault" "I") (List.mem_of_getElem? (i := 1) rfl)
  have hi8 : ∀ w ∈ wsX80, w ∈ vs_s_good := fun w h => List.mem_cons_of_mem _ (List.mem_append_right _ (List.mem_append_left _ h))
  refine lv_aload_n hx hb dX8_good_0 rfl (lv_at hlv 0 rfl) ?_
  refine va_get (D := D) (ci := 8) (v := vI fa) (C := RX8) (T := TX8) (N := 7) hx hb hts hi8 hown hG.1 hP 0 rfl rfl 5 (by decide) lf31 (fun _ h9 => h9) rfl dX8_good_1 ?_
  refine iz_ne (tgt := 11) hx hb dX8_good_4 (by decide) (by first | exact rgw hr_fa (by decide) (by decide) | omega) (fun c_1 => ?_) (fun c_1 => ?_)
  · refine lv_iconst (v := iI 0) hx hb dX8_good_11 (by decide) ?_
    refine W.widen (k := 0) (n := 0) (Nat.le_of_ble_eq_true rfl) (Nat.le_of_ble_eq_true rfl) ?_
    exact W.zret (v := iI 0) hx hb hr (by first | rfl | decide) (fun t ht hW => ⟨⟨iI 0, ((fun k => ([] : List Nat).getD k 0), (fun k => ([0] : List Int).getD k 0), (fun k => ([] : List (Nat → Int32)).getD k (fun _ => 0))), rfl, ⟨rfl, (by show (0 ≤ 0 ∧ 0 ≤ 1); show (0 : Int) ≤ 0 ∧ (0 : Int) ≤ 1; decide), (by show (0 = 1 → fa = 0); omega), (by show (0 = 0 → fa ≠ 0); omega)⟩, at9 ht hP hD [0] (by decide +kernel) rfl⟩, hS.F ht⟩) hS.2.2 dX8_good_12
  · refine lv_iconst (v := iI 1) hx hb dX8_good_7 (by decide) ?_
    refine lv_goto (tgt := 12) hx hb dX8_good_8 (by decide) ?_
    refine W.widen (k := 0) (n := 0) (Nat.le_of_ble_eq_true rfl) (Nat.le_of_ble_eq_true rfl) ?_
    exact W.zret (v := iI 1) hx hb hr (by first | rfl | decide) (fun t ht hW => ⟨⟨iI 1, ((fun k => ([] : List Nat).getD k 0), (fun k => ([1] : List Int).getD k 0), (fun k => ([] : List (Nat → Int32)).getD k (fun _ => 0))), rfl, ⟨rfl, (by show (0 ≤ 1 ∧ 1 ≤ 1); show (0 : Int) ≤ 1 ∧ (1 : Int) ≤ 1; decide), (by show (1 = 1 → fa = 0); omega), (by show (1 = 0 → fa ≠ 0); omega)⟩, at9 ht hP hD [0] (by decide +kernel) rfl⟩, hS.F ht⟩) hS.2.2 dX8_good_12
def vs_s_begin : List Cond := .code yX8_begin cX8_begin 2 none :: (([.fieldLink RX8 22 "KerbSplash$Tape" "length" "I", .fieldLink RX8 19 "KerbSplash$Tape" "fed" "I", .fieldLink RX8 25 "KerbSplash$Tape" "at" "I", .fieldLink RX8 28 "KerbSplash$Tape" "wordEnd" "I", .fieldLink RX8 31 "KerbSplash$Tape" "fault" "I", .fieldLink RX8 15 "KerbSplash$Tape" "faultAt" "I"] : List Cond) ++ ((wsX80) ++ ([])))
theorem gd_s_begin : vs_s_begin.all goodWord = true := gd_C (by decide +kernel) (gd_A (by decide +kernel) (gd_A (by decide +kernel) rfl))
set_option maxHeartbeats 4000000 in
set_option maxRecDepth 100000 in
theorem s_begin (l : Launch) (hl : l.stackTraces = false) (D : va_G) (cy : Nat → ClassId) (sa : Nat → Nat) (ta tb : Nat) (fed len at_ we fa fp : Int) (n : Int) (sz : Nat) (hr_fed : 0 ≤ fed ∧ fed ≤ 600) (hr_len : 0 ≤ len ∧ len ≤ 600) (hr_at_ : 0 ≤ at_ ∧ at_ ≤ 600) (hr_we : 0 ≤ we ∧ we ≤ 600) (hr_fa : 0 ≤ fa ∧ fa ≤ 4) (hr_fp : (-1) ≤ fp ∧ fp ≤ 600) (hr_n : 0 ≤ n ∧ n ≤ 600) : mV9 l yX8_begin vs_s_begin ({ frames := 0, cells := 0, slots := 0, locals := 0 }) D cy sa sz [vR ta, vI n] [zO ta 8 [vR tb, vI fed, vI len, vI at_, vI we, vI fa, vI fp]] (fun u : SV => True) (fun u : SV => [zO ta 8 [vR tb, vI 0, vI n, vI 0, vI 0, vI 0, vI (-1)]]) 0 0 := by
  refine Met.ofW (cc := cX8_begin) (maxL := 2) (ret := none) (by decide) rfl ?_
  intro p e s m args below meth c s₁ B hml hv
  obtain ⟨rfl, hsz, hP, hG, hD0, hT⟩ := hv
  have hx := B.exec
  have hb := B.bytes
  have hr := B.returns
  have hts := atoms_spec (ws := vs_s_begin) B.pre
  have hown : s.vm.findClass RX8 = some m.cls := findClass_of_methodNamed B.named
  have hlocks := B.notSynchronized
  subst hsz
  have hD := hD0.self (sz := s.heap.size)
  generalize hAe : va_A [zO ta 8 [vR tb, vI fed, vI len, vI at_, vI we, vI fa, vI fp]] s.heap.size = A at hD hT ⊢
  have hA : ∀ q : Nat, s.heap.size ≤ q → A q := fun q h => by rw [← hAe]; exact Or.inr h
  have hS : va_S A s.heap s.heap [] := va_S.rf
  have hl0 := lv_entry ([vR ta, vI n]) (n := 2) (Nat.le_of_ble_eq_true rfl)
  rw [lg_entry_eq]
  generalize (lg_sl ([vR ta, vI n]) ++ List.replicate (2 - (lg_sl ([vR ta, vI n])).length) Slot.unset).toArray = ls at hl0 ⊢
  have hlv : lv_has ls 2 [(0, vR ta), (1, vI n)] := hl0
  have lf22 := hts (.fieldLink RX8 22 "KerbSplash$Tape" "length" "I") (List.mem_of_getElem? (i := 1) rfl)
  have hi8 : ∀ w ∈ wsX80, w ∈ vs_s_begin := fun w h => List.mem_cons_of_mem _ (List.mem_append_right _ (List.mem_append_left _ h))
  have lf19 := hts (.fieldLink RX8 19 "KerbSplash$Tape" "fed" "I") (List.mem_of_getElem? (i := 2) rfl)
  have lf25 := hts (.fieldLink RX8 25 "KerbSplash$Tape" "at" "I") (List.mem_of_getElem? (i := 3) rfl)
  have lf28 := hts (.fieldLink RX8 28 "KerbSplash$Tape" "wordEnd" "I") (List.mem_of_getElem? (i := 4) rfl)
  have lf31 := hts (.fieldLink RX8 31 "KerbSplash$Tape" "fault" "I") (List.mem_of_getElem? (i := 5) rfl)
  have lf15 := hts (.fieldLink RX8 15 "KerbSplash$Tape" "faultAt" "I") (List.mem_of_getElem? (i := 6) rfl)
  refine lv_aload_n hx hb dX8_begin_0 rfl (lv_at hlv 0 rfl) ?_
  refine lv_iload_n hx hb dX8_begin_1 rfl (lv_at hlv 1 rfl) ?_
  refine va_put (D := D) (ci := 8) (v := vI n) (ty := .int) (C := RX8) (T := TX8) (N := 7) hx hb hts hi8 tyX8 tyX8_ok nmX8 hown hG.1 hP hD hS 0 rfl rfl 2 (by decide) lf22 (fun _ h9 => h9) rfl (by decide +kernel) rfl rfl (Nat.le_of_ble_eq_true rfl) dX8_begin_2 (fun H locs hP hD hS => ?_)
  obtain ⟨hP, hD⟩ := pw9 [zO ta 8 [vR tb, vI fed, vI n, vI at_, vI we, vI fa, vI fp]] hP hD
  refine lv_aload_n hx hb dX8_begin_5 rfl (lv_at hlv 0 rfl) ?_
  refine lv_iconst (v := iI 0) hx hb dX8_begin_6 (by decide) ?_
  refine va_put (D := D) (ci := 8) (v := vI 0) (ty := .int) (C := RX8) (T := TX8) (N := 7) hx hb hts hi8 tyX8 tyX8_ok nmX8 hown hG.1 hP hD hS 0 rfl rfl 1 (by decide) lf19 (fun _ h9 => h9) rfl (by decide +kernel) rfl rfl (Nat.le_of_ble_eq_true rfl) dX8_begin_7 (fun H locs hP hD hS => ?_)
  obtain ⟨hP, hD⟩ := pw9 [zO ta 8 [vR tb, vI 0, vI n, vI at_, vI we, vI fa, vI fp]] hP hD
  refine lv_aload_n hx hb dX8_begin_10 rfl (lv_at hlv 0 rfl) ?_
  refine lv_iconst (v := iI 0) hx hb dX8_begin_11 (by decide) ?_
  refine va_put (D := D) (ci := 8) (v := vI 0) (ty := .int) (C := RX8) (T := TX8) (N := 7) hx hb hts hi8 tyX8 tyX8_ok nmX8 hown hG.1 hP hD hS 0 rfl rfl 3 (by decide) lf25 (fun _ h9 => h9) rfl (by decide +kernel) rfl rfl (Nat.le_of_ble_eq_true rfl) dX8_begin_12 (fun H locs hP hD hS => ?_)
  obtain ⟨hP, hD⟩ := pw9 [zO ta 8 [vR tb, vI 0, vI n, vI 0, vI we, vI fa, vI fp]] hP hD
  refine lv_aload_n hx hb dX8_begin_15 rfl (lv_at hlv 0 rfl) ?_
  refine lv_iconst (v := iI 0) hx hb dX8_begin_16 (by decide) ?_
  refine va_put (D := D) (ci := 8) (v := vI 0) (ty := .int) (C := RX8) (T := TX8) (N := 7) hx hb hts hi8 tyX8 tyX8_ok nmX8 hown hG.1 hP hD hS 0 rfl rfl 4 (by decide) lf28 (fun _ h9 => h9) rfl (by decide +kernel) rfl rfl (Nat.le_of_ble_eq_true rfl) dX8_begin_17 (fun H locs hP hD hS => ?_)
  obtain ⟨hP, hD⟩ := pw9 [zO ta 8 [vR tb, vI 0, vI n, vI 0, vI 0, vI fa, vI fp]] hP hD
  refine lv_aload_n hx hb dX8_begin_20 rfl (lv_at hlv 0 rfl) ?_
  refine lv_iconst (v := iI 0) hx hb dX8_begin_21 (by decide) ?_
  refine va_put (D := D) (ci := 8) (v := vI 0) (ty := .int) (C := RX8) (T := TX8) (N := 7) hx hb hts hi8 tyX8 tyX8_ok nmX8 hown hG.1 hP hD hS 0 rfl rfl 5 (by decide) lf31 (fun _ h9 => h9) rfl (by decide +kernel) rfl rfl (Nat.le_of_ble_eq_true rfl) dX8_begin_22 (fun H locs hP hD hS => ?_)
  obtain ⟨hP, hD⟩ := pw9 [zO ta 8 [vR tb, vI 0, vI n, vI 0, vI 0, vI 0, vI fp]] hP hD
  refine lv_aload_n hx hb dX8_begin_25 rfl (lv_at hlv 0 rfl) ?_
  refine lv_iconst (v := iI (-1)) hx hb dX8_begin_26 (by decide) ?_
  refine va_put (D := D) (ci := 8) (v := vI (-1)) (ty := .int) (C := RX8) (T := TX8) (N := 7) hx hb hts hi8 tyX8 tyX8_ok nmX8 hown hG.1 hP hD hS 0 rfl rfl 6 (by decide) lf15 (fun _ h9 => h9) rfl (by decide +kernel) rfl rfl (Nat.le_of_ble_eq_true rfl) dX8_begin_27 (fun H locs hP hD hS => ?_)
  obtain ⟨hP, hD⟩ := pw9 [zO ta 8 [vR tb, vI 0, vI n, vI 0, vI 0, vI 0, vI (-1)]] hP hD
  refine W.widen (k := 0) (n := 0) (Nat.le_of_ble_eq_true rfl) (Nat.le_of_ble_eq_true rfl) ?_
  exact W.vret hx hb hr (fun t ht hW => ⟨⟨((fun k => ([] : List Nat).getD k 0), (fun k => ([] : List Int).getD k 0), (fun k => ([] : List (Nat → Int32)).getD k (fun _ => 0))), rfl, trivial, at9 ht hP hD [0] (by decide +kernel) rfl⟩, hS.F ht⟩) hS.2.2 dX8_begin_30
def vs_s_refuse : List Cond := .code yX8_refuse cX8_refuse 2 none :: (([.fieldLink RX8 31 "KerbSplash$Tape" "fault" "I", .fieldLink RX8 25 "KerbSplash$Tape" "at" "I", .fieldLink RX8 15 "KerbSplash$Tape" "faultAt" "I"] : List Cond) ++ ((wsX80) ++ ([])))
theorem gd_s_refuse : vs_s_refuse.all goodWord = true := gd_C (by decide +kernel) (gd_A (by decide +kernel) (gd_A (by decide +kernel) rfl))
set_option maxHeartbeats 4000000 in
set_option maxRecDepth 100000 in
theorem s_refuse (l : Launch) (hl : l.stackTraces = false) (D : va_G) (cy : Nat → ClassId) (sa : Nat → Nat) (ta tb : Nat) (fed len at_ we fa fp : Int) (n : Int) (sz : Nat) (hr_fed : 0 ≤ fed ∧ fed ≤ 600) (hr_len : 0 ≤ len ∧ len ≤ 600) (hr_at_ : 0 ≤ at_ ∧ at_ ≤ 600) (hr_we : 0 ≤ we ∧ we ≤ 600) (hr_fa : 0 ≤ fa ∧ fa ≤ 4) (hr_fp : (-1) ≤ fp ∧ fp ≤ 600) (hr_n : 1 ≤ n ∧ n ≤ 4) : mV9 l yX8_refuse vs_s_refuse ({ frames := 0, cells := 0, slots := 0, locals := 0 }) D cy sa sz [vR ta, vI n] [zO ta 8 [vR tb, vI fed, vI len, vI at_, vI we, vI fa, vI fp]] (fun u : SV => (1 ≤ u.2.1 0 ∧ u.2.1 0 ≤ 4) ∧ ((-1) ≤ u.2.1 1 ∧ u.2.1 1 ≤ 600)) (fun u : SV => [zO ta 8 [vR tb, vI fed, vI len, vI at_, vI we, vI (u.2.1 0), vI (u.2.1 1)]]) 0 0 := by
  refine Met.ofW (cc := cX8_refuse) (maxL := 2) (ret := none) (by decide) rfl ?_
  intro p e s m args below meth c s₁ B hml hv
  obtain ⟨rfl, hsz, hP, hG, hD0, hT⟩ := hv
  have hx := B.exec
  have hb := B.bytes
  have hr := B.returns
  have hts := atoms_spec (ws := vs_s_refuse) B.pre
  have hown : s.vm.findClass RX8 = some m.cls := findClass_of_methodNamed B.named
  have hlocks := B.notSynchronized
  subst hsz
  have hD := hD0.self (sz := s.heap.size)
  generalize hAe : va_A [zO ta 8 [vR tb, vI fed, vI len, vI at_, vI we, vI fa, vI fp]] s.heap.size = A at hD hT ⊢
  have hA : ∀ q : Nat, s.heap.size ≤ q → A q := fun q h => by rw [← hAe]; exact Or.inr h
  have hS : va_S A s.heap s.heap [] := va_S.rf
  have hl0 := lv_entry ([vR ta, vI n]) (n := 2) (Nat.le_of_ble_eq_true rfl)
  rw [lg_entry_eq]
  generalize (lg_sl ([vR ta, vI n]) ++ List.replicate (2 - (lg_sl ([vR ta, vI n])).length) Slot.unset).toArray = ls at hl0 ⊢
  have hlv : lv_has ls 2 [(0, vR ta), (1, vI n)] := hl0
  have lf31 := hts (.fieldLink RX8 31 "KerbSplash$Tape" "fault" "I") (List.mem_of_getElem? (i := 1) rfl)
  have hi8 : ∀ w ∈ wsX80, w ∈ vs_s_refuse := fun w h => List.mem_cons_of_mem _ (List.mem_append_right _ (List.mem_append_left _ h))
  have lf25 := hts (.fieldLink RX8 25 "KerbSplash$Tape" "at" "I") (List.mem_of_getElem? (i := 2) rfl)
  have lf15 := hts (.fieldLink RX8 15 "KerbSplash$Tape" "faultAt" "I") (List.mem_of_getElem? (i := 3) rfl)
  refine lv_aload_n hx hb dX8_refuse_0 rfl (lv_at hlv 0 rfl) ?_
  refine va_get (D := D) (ci := 8) (v := vI fa) (C := RX8) (T := TX8) (N := 7) hx hb hts hi8 hown hG.1 hP 0 rfl rfl 5 (by decide) lf31 (fun _ h9 => h9) rfl dX8_refuse_1 ?_
  refine iz_ne (tgt := 20) hx hb dX8_refuse_4 (by decide) (by first | exact rgw hr_fa (by decide) (by decide) | omega) (fun c_1 => ?_) (fun c_1 => ?_)
  · refine W.widen (k := 0) (n := 0) (Nat.le_of_ble_eq_true rfl) (Nat.le_of_ble_eq_true rfl) ?_
    exact W.vret hx hb hr (fun t ht hW => ⟨⟨((fun k => ([] : List Nat).getD k 0), (fun k => ([fa, fp] : List Int).getD k 0), (fun k => ([] : List (Nat → Int32)).getD k (fun _ => 0))), rfl, ⟨(by show (1 ≤ fa ∧ fa ≤ 4); omega), (by show ((-1) ≤ fp ∧ fp ≤ 600); first | exact hr_fp | omega)⟩, at9 ht hP hD [0] (by decide +kernel) rfl⟩, hS.F ht⟩) hS.2.2 dX8_refuse_20
  · refine lv_aload_n hx hb dX8_refuse_7 rfl (lv_at hlv 0 rfl) ?_
    refine lv_iload_n hx hb dX8_refuse_8 rfl (lv_at hlv 1 rfl) ?_
    refine va_put (D := D) (ci := 8) (v := vI n) (ty := .int) (C := RX8) (T := TX8) (N := 7) hx hb hts hi8 tyX8 tyX8_ok nmX8 hown hG.1 hP hD hS 0 rfl rfl 5 (by decide) lf31 (fun _ h9 => h9) rfl (by decide +kernel) rfl rfl (Nat.le_of_ble_eq_true rfl) dX8_refuse_9 (fun H locs hP hD hS => ?_)
    obtain ⟨hP, hD⟩ := pw9 [zO ta 8 [vR tb, vI fed, vI len, vI at_, vI we, vI n, vI fp]] hP hD
    refine lv_aload_n hx hb dX8_refuse_12 rfl (lv_at hlv 0 rfl) ?_
    refine lv_aload_n hx hb dX8_refuse_13 rfl (lv_at hlv 0 rfl) ?_
    refine va_get (D := D) (ci := 8) (v := vI at_) (C := RX8) (T := TX8) (N := 7) hx hb hts hi8 hown hG.1 hP 0 rfl rfl 3 (by decide) lf25 (fun _ h9 => h9) rfl dX8_refuse_14 ?_
    refine va_put (D := D) (ci := 8) (v := vI at_) (ty := .int) (C := RX8) (T := TX8) (N := 7) hx hb hts hi8 tyX8 tyX8_ok nmX8 hown hG.1 hP hD hS 0 rfl rfl 6 (by decide) lf15 (fun _ h9 => h9) rfl (by decide +kernel) rfl rfl (Nat.le_of_ble_eq_true rfl) dX8_refuse_17 (fun H locs hP hD hS => ?_)
    obtain ⟨hP, hD⟩ := pw9 [zO ta 8 [vR tb, vI fed, vI len, vI at_, vI we, vI n, vI at_]] hP hD
    refine W.widen (k := 0) (n := 0) (Nat.le_of_ble_eq_true rfl) (Nat.le_of_ble_eq_true rfl) ?_
    exact W.vret hx hb hr (fun t ht hW => ⟨⟨((fun k => ([] : List Nat).getD k 0), (fun k => ([n, at_] : List Int).getD k 0), (fun k => ([] : List (Nat → Int32)).getD k (fun _ => 0))), rfl, ⟨(by show (1 ≤ n ∧ n ≤ 4); first | exact hr_n | omega), (by show ((-1) ≤ at_ ∧ at_ ≤ 600); first | exact rgw hr_at_ (by decide) (by decide) | omega)⟩, at9 ht hP hD [0] (by decide +kernel) rfl⟩, hS.F ht⟩) hS.2.2 dX8_refuse_20
def vs_s_isDigit : List Cond := .code yX8_isDigit cX8_isDigit 1 (some .boolean) :: (([] : List Cond) ++ ([]))
theorem gd_s_isDigit : vs_s_isDigit.all goodWord = true := gd_C (by decide +kernel) (gd_A (by decide +kernel) rfl)
set_option maxHeartbeats 4000000 in
set_option maxRecDepth 100000 in
theorem s_isDigit (l : Launch) (hl : l.stackTraces = false) (D : va_G) (cy : Nat → ClassId) (sa : Nat → Nat) (n : Int) (sz : Nat) (hr_n : (-2147483648) ≤ n ∧ n ≤ 2147483647) : mI9 l yX8_isDigit vs_s_isDigit ({ frames := 0, cells := 0, slots := 0, locals := 0 }) D cy sa sz [vI n] [] (fun (r : Int32) (u : SV) => r = iI (u.2.1 0) ∧ (0 ≤ u.2.1 0 ∧ u.2.1 0 ≤ 1) ∧ (u.2.1 0 = 1 → 48 ≤ n ∧ n ≤ 57) ∧ (u.2.1 0 = 0 → n < 48 ∨ 57 < n)) (fun u : SV => []) 0 0 := by
  refine Met.ofW (cc := cX8_isDigit) (maxL := 1) (ret := (some .boolean)) (by decide) rfl ?_
  intro p e s m args below meth c s₁ B hml hv
  obtain ⟨rfl, hsz, hP, hG, hD0, hT⟩ := hv
  have hx := B.exec
  have hb := B.bytes
  have hr := B.returns
  have hts := atoms_spec (ws := vs_s_isDigit) B.pre
  have hown : s.vm.findClass RX8 = some m.cls := findClass_of_methodNamed B.named
  have hlocks := B.notSynchronized
  subst hsz
  have hD := hD0.self (sz := s.heap.size)
  generalize hAe : va_A [] s.heap.size = A at hD hT ⊢
  have hA : ∀ q : Nat, s.heap.size ≤ q → A q := fun q h => by rw [← hAe]; exact Or.inr h
  have hS : va_S A s.heap s.heap [] := va_S.rf
  have hl0 := lv_entry ([vI n]) (n := 1) (Nat.le_of_ble_eq_true rfl)
  rw [lg_entry_eq]
  generalize (lg_sl ([vI n]) ++ List.replicate (1 - (lg_sl ([vI n])).length) Slot.unset).toArray = ls at hl0 ⊢
  have hlv : lv_has ls 1 [(0, vI n)] := hl0
  refine lv_iload_n hx hb dX8_isDigit_0 rfl (lv_at hlv 0 rfl) ?_
  refine lv_bipush (v := iI 48) hx hb dX8_isDigit_1 (by decide) ?_
  refine ir_lt (tgt := 16) hx hb dX8_isDigit_3 (by decide) (by first | exact hr_n | omega) (by show ((-2147483648) : Int) ≤ 48 ∧ (48 : Int) ≤ 2147483647; decide) (fun c_1 => ?_) (fun c_1 => ?_)
  · refine lv_iconst (v := iI 0) hx hb dX8_isDigit_16 (by decide) ?_
    refine W.widen (k := 0) (n := 0) (Nat.le_of_ble_eq_true rfl) (Nat.le_of_ble_eq_true rfl) ?_
    exact W.zret (v := iI 0) hx hb hr (by first | rfl | decide) (fun t ht hW => ⟨⟨iI 0, ((fun k => ([] : List Nat).getD k 0), (fun k => ([0] : List Int).getD k 0), (fun k => ([] : List (Nat → Int32)).getD k (fun _ => 0))), rfl, ⟨rfl, (by show (0 ≤ 0 ∧ 0 ≤ 1); show (0 : Int) ≤ 0 ∧ (0 : Int) ≤ 1; decide), (by show (0 = 1 → 48 ≤ n ∧ n ≤ 57); omega), (by show (0 = 0 → n < 48 ∨ 57 < n); omega)⟩, at9 ht hP hD [] (by decide +kernel) rfl⟩, hS.F ht⟩) hS.2.2 dX8_isDigit_17
  · refine lv_iload_n hx hb dX8_isDigit_6 rfl (lv_at hlv 0 rfl) ?_
    refine lv_bipush (v := iI 57) hx hb dX8_isDigit_7 (by decide) ?_
    refine ir_gt (tgt := 16) hx hb dX8_isDigit_9 (by decide) (by first | exact hr_n | omega) (by show ((-2147483648) : Int) ≤ 57 ∧ (57 : Int) ≤ 2147483647; decide) (fun c_2 => ?_) (fun c_2 => ?_)
    · refine lv_iconst (v := iI 0) hx hb dX8_isDigit_16 (by decide) ?_
      refine W.widen (k := 0) (n := 0) (Nat.le_of_ble_eq_true rfl) (Nat.le_of_ble_eq_true rfl) ?_
      exact W.zret (v := iI 0) hx hb hr (by first | rfl | decide) (fun t ht hW => ⟨⟨iI 0, ((fun k => ([] : List Nat).getD k 0), (fun k => ([0] : List Int).getD k 0), (fun k => ([] : List (Nat → Int32)).getD k (fun _ => 0))), rfl, ⟨rfl, (by show (0 ≤ 0 ∧ 0 ≤ 1); show (0 : Int) ≤ 0 ∧ (0 : Int) ≤ 1; decide), (by show (0 = 1 → 48 ≤ n ∧ n ≤ 57); omega), (by show (0 = 0 → n < 48 ∨ 57 < n); omega)⟩, at9 ht hP hD [] (by decide +kernel) rfl⟩, hS.F ht⟩) hS.2.2 dX8_isDigit_17
    · refine lv_iconst (v := iI 1) hx hb dX8_isDigit_12 (by decide) ?_
      refine lv_goto (tgt := 17) hx hb dX8_isDigit_13 (by decide) ?_
      refine W.widen (k := 0) (n := 0) (Nat.le_of_ble_eq_true rfl) (Nat.le_of_ble_eq_true rfl) ?_
      exact W.zret (v := iI 1) hx hb hr (by first | rfl | decide) (fun t ht hW => ⟨⟨iI 1, ((fun k => ([] : List Nat).getD k 0), (fun k => ([1] : List Int).getD k 0), (fun k => ([] : List (Nat → Int32)).getD k (fun _ => 0))), rfl, ⟨rfl, (by show (0 ≤ 1 ∧ 1 ≤ 1); show (0 : Int) ≤ 1 ∧ (1 : Int) ≤ 1; decide), (by show (1 = 1 → 48 ≤ n ∧ n ≤ 57); omega), (by show (1 = 0 → n < 48 ∨ 57 < n); omega)⟩, at9 ht hP hD [] (by decide +kernel) rfl⟩, hS.F ht⟩) hS.2.2 dX8_isDigit_17
end
section
theorem dX8_add_0 : decode cX8_add 0 = .ok (.bipush 24, 2) := by decide +kernel
theorem dX8_add_11 : decode cX8_add 11 = .ok (.sipush 600, 3) := by decide +kernel
theorem dX8_add_14 : decode cX8_add 14 = .ok (.if_icmp .ge 32, 3) := by decide +kernel
theorem dX8_add_17 : decode cX8_add 17 = .ok (.aload_n 0, 1) := by decide +kernel
theorem dX8_add_18 : decode cX8_add 18 = .ok (.getfield 11, 3) := by decide +kernel
theorem dX8_add_2 : decode cX8_add 2 = .ok (.istore_n 2, 1) := by decide +kernel
theorem dX8_add_21 : decode cX8_add 21 = .ok (.aload_n 0, 1) := by decide +kernel
theorem dX8_add_22 : decode cX8_add 22 = .ok (.getfield 19, 3) := by decide +kernel
theorem dX8_add_25 : decode cX8_add 25 = .ok (.iload_n 1, 1) := by decide +kernel
theorem dX8_add_26 : decode cX8_add 26 = .ok (.iload_n 2, 1) := by decide +kernel
theorem dX8_add_27 : decode cX8_add 27 = .ok (.ishr, 1) := by decide +kernel
theorem dX8_add_28 : decode cX8_add 28 = .ok (.i2b, 1) := by decide +kernel
theorem dX8_add_29 : decode cX8_add 29 = .ok (.bastore, 1) := by decide +kernel
theorem dX8_add_3 : decode cX8_add 3 = .ok (.iload_n 2, 1) := by decide +kernel
theorem dX8_add_30 : decode cX8_add 30 = .ok (.aload_n 0, 1) := by decide +kernel
theorem dX8_add_31 : decode cX8_add 31 = .ok (.dup, 1) := by decide +kernel
theorem dX8_add_32 : decode cX8_add 32 = .ok (.getfield 19, 3) := by decide +kernel
theorem dX8_add_35 : decode cX8_add 35 = .ok (.iconst 1, 1) := by decide +kernel
theorem dX8_add_36 : decode cX8_add 36 = .ok (.iadd, 1) := by decide +kernel
theorem dX8_add_37 : decode cX8_add 37 = .ok (.putfield 19, 3) := by decide +kernel
theorem dX8_add_4 : decode cX8_add 4 = .ok (.ifCond .lt 42, 3) := by decide +kernel
theorem dX8_add_40 : decode cX8_add 40 = .ok (.iinc 2 (-8), 3) := by decide +kernel
theorem dX8_add_43 : decode cX8_add 43 = .ok (.goto (-40), 3) := by decide +kernel
theorem dX8_add_46 : decode cX8_add 46 = .ok (.return_, 1) := by decide +kernel
theorem dX8_add_7 : decode cX8_add 7 = .ok (.aload_n 0, 1) := by decide +kernel
theorem dX8_add_8 : decode cX8_add 8 = .ok (.getfield 19, 3) := by decide +kernel
theorem dX8_hasMore_0 : decode cX8_hasMore 0 = .ok (.aload_n 0, 1) := by decide +kernel
theorem dX8_hasMore_1 : decode cX8_hasMore 1 = .ok (.invokevirtual 34, 3) := by decide +kernel
theorem dX8_hasMore_12 : decode cX8_hasMore 12 = .ok (.iconst 0, 1) := by decide +kernel
theorem dX8_hasMore_13 : decode cX8_hasMore 13 = .ok (.ireturn, 1) := by decide +kernel
theorem dX8_hasMore_4 : decode cX8_hasMore 4 = .ok (.iconst (-1), 1) := by decide +kernel
theorem dX8_hasMore_5 : decode cX8_hasMore 5 = .ok (.if_icmp .eq 7, 3) := by decide +kernel
theorem dX8_hasMore_8 : decode cX8_hasMore 8 = .ok (.iconst 1, 1) := by decide +kernel
theorem dX8_hasMore_9 : decode cX8_hasMore 9 = .ok (.goto 4, 3) := by decide +kernel
theorem dX8_sign_0 : decode cX8_sign 0 = .ok (.aload_n 0, 1) := by decide +kernel
theorem dX8_sign_1 : decode cX8_sign 1 = .ok (.getfield 31, 3) := by decide +kernel
theorem dX8_sign_10 : decode cX8_sign 10 = .ok (.getfield 25, 3) := by decide +kernel
theorem dX8_sign_13 : decode cX8_sign 13 = .ok (.aload_n 0, 1) := by decide +kernel
theorem dX8_sign_14 : decode cX8_sign 14 = .ok (.getfield 22, 3) := by decide +kernel
theorem dX8_sign_17 : decode cX8_sign 17 = .ok (.if_icmp .ge 30, 3) := by decide +kernel
theorem dX8_sign_20 : decode cX8_sign 20 = .ok (.aload_n 0, 1) := by decide +kernel
theorem dX8_sign_21 : decode cX8_sign 21 = .ok (.getfield 11, 3) := by decide +kernel
theorem dX8_sign_24 : decode cX8_sign 24 = .ok (.aload_n 0, 1) := by decide +kernel
theorem dX8_sign_25 : decode cX8_sign 25 = .ok (.getfield 25, 3) := by decide +kernel
theorem dX8_sign_28 : decode cX8_sign 28 = .ok (.baload, 1) := by decide +kernel
theorem dX8_sign_29 : decode cX8_sign 29 = .ok (.bipush 32, 2) := by decide +kernel
theorem dX8_sign_31 : decode cX8_sign 31 = .ok (.if_icmp .ne 16, 3) := by decide +kernel
theorem dX8_sign_34 : decode cX8_sign 34 = .ok (.aload_n 0, 1) := by decide +kernel
theorem dX8_sign_35 : decode cX8_sign 35 = .ok (.dup, 1) := by decide +kernel
theorem dX8_sign_36 : decode cX8_sign 36 = .ok (.getfield 25, 3) := by decide +kernel
theorem dX8_sign_39 : decode cX8_sign 39 = .ok (.iconst 1, 1) := by decide +kernel
theorem dX8_sign_4 : decode cX8_sign 4 = .ok (.ifCond .eq 5, 3) := by decide +kernel
theorem dX8_sign_40 : decode cX8_sign 40 = .ok (.iadd, 1) := by decide +kernel
theorem dX8_sign_41 : decode cX8_sign 41 = .ok (.putfield 25, 3) := by decide +kernel
theorem dX8_sign_44 : decode cX8_sign 44 = .ok (.goto (-35), 3) := by decide +kernel
theorem dX8_sign_47 : decode cX8_sign 47 = .ok (.aload_n 0, 1) := by decide +kernel
theorem dX8_sign_48 : decode cX8_sign 48 = .ok (.getfield 25, 3) := by decide +kernel
theorem dX8_sign_51 : decode cX8_sign 51 = .ok (.aload_n 0, 1) := by decide +kernel
theorem dX8_sign_52 : decode cX8_sign 52 = .ok (.getfield 22, 3) := by decide +kernel
theorem dX8_sign_55 : decode cX8_sign 55 = .ok (.if_icmp .ge 19, 3) := by decide +kernel
theorem dX8_sign_58 : decode cX8_sign 58 = .ok (.aload_n 0, 1) := by decide +kernel
theorem dX8_sign_59 : decode cX8_sign 59 = .ok (.getfield 11, 3) := by decide +kernel
theorem dX8_sign_62 : decode cX8_sign 62 = .ok (.aload_n 0, 1) := by decide +kernel
theorem dX8_sign_63 : decode cX8_sign 63 = .ok (.getfield 25, 3) := by decide +kernel
theorem dX8_sign_66 : decode cX8_sign 66 = .ok (.baload, 1) := by decide +kernel
theorem dX8_sign_67 : decode cX8_sign 67 = .ok (.sipush 255, 3) := by decide +kernel
theorem dX8_sign_7 : decode cX8_sign 7 = .ok (.iconst (-1), 1) := by decide +kernel
theorem dX8_sign_70 : decode cX8_sign 70 = .ok (.iand, 1) := by decide +kernel
theorem dX8_sign_71 : decode cX8_sign 71 = .ok (.goto 4, 3) := by decide +kernel
theorem dX8_sign_74 : decode cX8_sign 74 = .ok (.iconst (-1), 1) := by decide +kernel
theorem dX8_sign_75 : decode cX8_sign 75 = .ok (.ireturn, 1) := by decide +kernel
theorem dX8_sign_8 : decode cX8_sign 8 = .ok (.ireturn, 1) := by decide +kernel
theorem dX8_sign_9 : decode cX8_sign 9 = .ok (.aload_n 0, 1) := by decide +kernel
def vs_s_sign : List Cond := .code yX8_sign cX8_sign 1 (some .int) :: (([.fieldLink RX8 31 "KerbSplash$Tape" "fault" "I", .fieldLink RX8 25 "KerbSplash$Tape" "at" "I", .fieldLink RX8 22 "KerbSplash$Tape" "length" "I", .fieldLink RX8 11 "KerbSplash$Tape" "bytes" "[B"] : List Cond) ++ ((wsX80) ++ ([])))
theorem gd_s_sign : vs_s_sign.all goodWord = true := gd_C (by decide +kernel) (gd_A (by decide +kernel) (gd_A (by decide +kernel) rfl))
set_option maxHeartbeats 4000000 in
set_option maxRecDepth 100000 in
theorem s_sign (l : Launch) (hl : l.stackTraces = false) (D : va_G) (cy : Nat → ClassId) (sa : Nat → Nat) (ta tb : Nat) (fed len at_ we fa fp : Int) (bf : Nat → Int32) (sz : Nat) (hr_fed : 0 ≤ fed ∧ fed ≤ 600) (hr_len : 0 ≤ len ∧ len ≤ 600) (hr_at_ : 0 ≤ at_ ∧ at_ ≤ 600) (hr_we : 0 ≤ we ∧ we ≤ 600) (hr_fa : 0 ≤ fa ∧ fa ≤ 4) (hr_fp : (-1) ≤ fp ∧ fp ≤ 600) : mI9 l yX8_sign vs_s_sign ({ frames := 0, cells := 0, slots := 0, locals := 0 }) D cy sa sz [vR ta] [zO ta 8 [vR tb, vI fed, vI len, vI at_, vI we, vI fa, vI fp], zI tb (cy 1) 600 bf] (fun (r : Int32) (u : SV) => r = iI (u.2.1 0) ∧ ((-1) ≤ u.2.1 0 ∧ u.2.1 0 ≤ 255) ∧ (0 ≤ u.2.1 1 ∧ u.2.1 1 ≤ 600) ∧ (at_ ≤ u.2.1 1) ∧ (fa ≠ 0 → u.2.1 0 = -1) ∧ (u.2.1 0 ≠ -1 → u.2.1 1 < len)) (fun u : SV => [zO ta 8 [vR tb, vI fed, vI len, vI (u.2.1 1), vI we, vI fa, vI fp], zI tb (cy 1) 600 bf]) 0 0 := by
  refine Met.ofW (cc := cX8_sign) (maxL := 1) (ret := (some .int)) (by decide) rfl ?_
  intro p e s m args below meth c s₁ B hml hv
  obtain ⟨rfl, hsz, hP, hG, hD0, hT⟩ := hv
  have hx := B.exec
  have hb := B.bytes
  have hr := B.returns
  have hts := atoms_spec (ws := vs_s_sign) B.pre
  have hown : s.vm.findClass RX8 = some m.cls := findClass_of_methodNamed B.named
  have hlocks := B.notSynchronized
  subst hsz
  have hD := hD0.self (sz := s.heap.size)
  generalize hAe : va_A [zO ta 8 [vR tb, vI fed, vI len, vI at_, vI we, vI fa, vI fp], zI tb (cy 1) 600 bf] s.heap.size = A at hD hT ⊢
  have hA : ∀ q : Nat, s.heap.size ≤ q → A q := fun q h => by rw [← hAe]; exact Or.inr h
  have hS : va_S A s.heap s.heap [] := va_S.rf
  have hl0 := lv_entry ([vR ta]) (n := 1) (Nat.le_of_ble_eq_true rfl)
  rw [lg_entry_eq]
  generalize (lg_sl ([vR ta]) ++ List.replicate (1 - (lg_sl ([vR ta])).length) Slot.unset).toArray = ls at hl0 ⊢
  have hlv : lv_has ls 1 [(0, vR ta)] := hl0
  have lf31 := hts (.fieldLink RX8 31 "KerbSplash$Tape" "fault" "I") (List.mem_of_getElem? (i := 1) rfl)
  have hi8 : ∀ w ∈ wsX80, w ∈ vs_s_sign := fun w h => List.mem_cons_of_mem _ (List.mem_append_right _ (List.mem_append_left _ h))
  have lf25 := hts (.fieldLink RX8 25 "KerbSplash$Tape" "at" "I") (List.mem_of_getElem? (i := 2) rfl)
  have lf22 := hts (.fieldLink RX8 22 "KerbSplash$Tape" "length" "I") (List.mem_of_getElem? (i := 3) rfl)
  have lf11 := hts (.fieldLink RX8 11 "KerbSplash$Tape" "bytes" "[B") (List.mem_of_getElem? (i := 4) rfl)
  refine lv_aload_n hx hb dX8_sign_0 rfl (lv_at hlv 0 rfl) ?_
  refine va_get (D := D) (ci := 8) (v := vI fa) (C := RX8) (T := TX8) (N := 7) hx hb hts hi8 hown hG.1 hP 0 rfl rfl 5 (by decide) lf31 (fun _ h9 => h9) rfl dX8_sign_1 ?_
  refine iz_eq (tgt := 9) hx hb dX8_sign_4 (by decide) (by first | exact rgw hr_fa (by decide) (by decide) | omega) (fun c_1 => ?_) (fun c_1 => ?_)
  · refine (?_ : ∀ (fu : Nat) (x : Int) (H : Heap) (locs : List Loc) (ls : Array Slot), 600 - x < (fu : Int) → (0 ≤ x ∧ x ≤ 600) → (at_ ≤ x) → va_P D vwCl [zO ta 8 [vR tb, vI fed, vI len, vI x, vI we, vI fa, vI fp], zI tb (cy 1) 600 bf] H → va_D A [zO ta 8 [vR tb, vI fed, vI len, vI x, vI we, vI fa, vI fp], zI tb (cy 1) 600 bf] → va_S A s.heap H locs → lv_has ls 1 [(0, vR ta)] → W p l e _ s m _ below meth c H locs _ _ _ (F0 m 9 ls [])) (((600 - at_) + 1 : Int)).toNat at_ _ _ _ (by omega) (by first | exact hr_at_ | omega) (by omega)  hP hD hS hlv
    clear hP hD hS hlv
    intro fu
    induction fu with
    | zero => intro x H locs ls hm9 hl9_0 hl9_1  hP hD hS hlv; omega
    | succ fu ih9 =>
      intro x H locs ls hm9 hl9_0 hl9_1  hP hD hS hlv
      refine lv_aload_n hx hb dX8_sign_9 rfl (lv_at hlv 0 rfl) ?_
      refine va_get (D := D) (ci := 8) (v := vI x) (C := RX8) (T := TX8) (N := 7) hx hb hts hi8 hown hG.1 hP 0 rfl rfl 3 (by decide) lf25 (fun _ h9 => h9) rfl dX8_sign_10 ?_
      refine lv_aload_n hx hb dX8_sign_13 rfl (lv_at hlv 0 rfl) ?_
      refine va_get (D := D) (ci := 8) (v := vI len) (C := RX8) (T := TX8) (N := 7) hx hb hts hi8 hown hG.1 hP 0 rfl rfl 2 (by decide) lf22 (fun _ h9 => h9) rfl dX8_sign_14 ?_
      refine ir_ge (tgt := 47) hx hb dX8_sign_17 (by decide) (by first | exact rgw hl9_0 (by decide) (by decide) | omega) (by first | exact rgw hr_len (by decide) (by decide) | omega) (fun c_2 => ?_) (fun c_2 => ?_)
      · refine lv_aload_n hx hb dX8_sign_47 rfl (lv_at hlv 0 rfl) ?_
        refine va_get (D := D) (ci := 8) (v := vI x) (C := RX8) (T := TX8) (N := 7) hx hb hts hi8 hown hG.1 hP 0 rfl rfl 3 (by decide) lf25 (fun _ h9 => h9) rfl dX8_sign_48 ?_
        refine lv_aload_n hx hb dX8_sign_51 rfl (lv_at hlv 0 rfl) ?_
        refine va_get (D := D) (ci := 8) (v := vI len) (C := RX8) (T := TX8) (N := 7) hx hb hts hi8 hown hG.1 hP 0 rfl rfl 2 (by decide) lf22 (fun _ h9 => h9) rfl dX8_sign_52 ?_
        refine ir_ge (tgt := 74) hx hb dX8_sign_55 (by decide) (by first | exact rgw hl9_0 (by decide) (by decide) | omega) (by first | exact rgw hr_len (by decide) (by decide) | omega) (fun c_3 => ?_) (fun c_3 => ?_)
        · refine lv_iconst (v := iI (-1)) hx hb dX8_sign_74 (by decide) ?_
          refine W.widen (k := 0) (n := 0) (Nat.le_of_ble_eq_true rfl) (Nat.le_of_ble_eq_true rfl) ?_
          exact W.iret (v := iI (-1)) hx hb hr (fun t ht hW => ⟨⟨iI (-1), ((fun k => ([] : List Nat).getD k 0), (fun k => ([(-1), x] : List Int).getD k 0), (fun k => ([] : List (Nat → Int32)).getD k (fun _ => 0))), rfl, ⟨rfl, (by show ((-1) ≤ (-1) ∧ (-1) ≤ 255); show ((-1) : Int) ≤ (-1) ∧ ((-1) : Int) ≤ 255; decide), (by show (0 ≤ x ∧ x ≤ 600); first | exact hl9_0 | omega), (by show (at_ ≤ x); omega), (by show (fa ≠ 0 → (-1) = -1); omega), (by show ((-1) ≠ -1 → x < len); omega)⟩, at9 ht hP hD [0, 1] (by decide +kernel) rfl⟩, hS.F ht⟩) hS.2.2 dX8_sign_75
        · refine lv_aload_n hx hb dX8_sign_58 rfl (lv_at hlv 0 rfl) ?_
          refine va_get (D := D) (ci := 8) (v := vR tb) (C := RX8) (T := TX8) (N := 7) hx hb hts hi8 hown hG.1 hP 0 rfl rfl 0 (by decide) lf11 (fun _ h9 => h9) rfl dX8_sign_59 ?_
          refine lv_aload_n hx hb dX8_sign_62 rfl (lv_at hlv 0 rfl) ?_
          refine va_get (D := D) (ci := 8) (v := vI x) (C := RX8) (T := TX8) (N := 7) hx hb hts hi8 hown hG.1 hP 0 rfl rfl 3 (by decide) lf25 (fun _ h9 => h9) rfl dX8_sign_63 ?_
          refine va_bald hx hb hG.1 hP 1 1 rfl rfl (iI_in (by omega) (by decide)) dX8_sign_66 ?_
          refine lt_z (fun z_4 ez_4 lz_4 hz_4 => ?_)
          refine lv_sipush (v := iI 255) hx hb dX8_sign_67 (by decide) ?_
          refine lv_iand hx hb dX8_sign_70 ?_
          refine lt_aE 8 (by decide) (by decide) (hi := 255) (by decide) (fun z_5 ez_5 lz_5 hz_5 => ?_)
          refine lv_goto (tgt := 75) hx hb dX8_sign_71 (by decide) ?_
          refine W.widen (k := 0) (n := 0) (Nat.le_of_ble_eq_true rfl) (Nat.le_of_ble_eq_true rfl) ?_
          exact W.iret (v := iI z_5) hx hb hr (fun t ht hW => ⟨⟨iI z_5, ((fun k => ([] : List Nat).getD k 0), (fun k => ([z_5, x] : List Int).getD k 0), (fun k => ([] : List (Nat → Int32)).getD k (fun _ => 0))), rfl, ⟨rfl, (by show ((-1) ≤ z_5 ∧ z_5 ≤ 255); omega), (by show (0 ≤ x ∧ x ≤ 600); first | exact hl9_0 | omega), (by show (at_ ≤ x); omega), (by show (fa ≠ 0 → z_5 = -1); omega), (by show (z_5 ≠ -1 → x < len); omega)⟩, at9 ht hP hD [0, 1] (by decide +kernel) rfl⟩, hS.F ht⟩) hS.2.2 dX8_sign_75
      · refine lv_aload_n hx hb dX8_sign_20 rfl (lv_at hlv 0 rfl) ?_
        refine va_get (D := D) (ci := 8) (v := vR tb) (C := RX8) (T := TX8) (N := 7) hx hb hts hi8 hown hG.1 hP 0 rfl rfl 0 (by decide) lf11 (fun _ h9 => h9) rfl dX8_sign_21 ?_
        refine lv_aload_n hx hb dX8_sign_24 rfl (lv_at hlv 0 rfl) ?_
        refine va_get (D := D) (ci := 8) (v := vI x) (C := RX8) (T := TX8) (N := 7) hx hb hts hi8 hown hG.1 hP 0 rfl rfl 3 (by decide) lf25 (fun _ h9 => h9) rfl dX8_sign_25 ?_
        refine va_bald hx hb hG.1 hP 1 1 rfl rfl (iI_in (by omega) (by decide)) dX8_sign_28 ?_
        refine lt_z (fun z_6 ez_6 lz_6 hz_6 => ?_)
        refine lv_bipush (v := iI 32) hx hb dX8_sign_29 (by decide) ?_
        refine ir_ne (tgt := 47) hx hb dX8_sign_31 (by decide) (by omega) (by show ((-2147483648) : Int) ≤ 32 ∧ (32 : Int) ≤ 2147483647; decide) (fun c_7 => ?_) (fun c_7 => ?_)
        · refine lv_aload_n hx hb dX8_sign_47 rfl (lv_at hlv 0 rfl) ?_
          refine va_get (D := D) (ci := 8) (v := vI x) (C := RX8) (T := TX8) (N := 7) hx hb hts hi8 hown hG.1 hP 0 rfl rfl 3 (by decide) lf25 (fun _ h9 => h9) rfl dX8_sign_48 ?_
          refine lv_aload_n hx hb dX8_sign_51 rfl (lv_at hlv 0 rfl) ?_
          refine va_get (D := D) (ci := 8) (v := vI len) (C := RX8) (T := TX8) (N := 7) hx hb hts hi8 hown hG.1 hP 0 rfl rfl 2 (by decide) lf22 (fun _ h9 => h9) rfl dX8_sign_52 ?_
          refine ir_ge (tgt := 74) hx hb dX8_sign_55 (by decide) (by first | exact rgw hl9_0 (by decide) (by decide) | omega) (by first | exact rgw hr_len (by decide) (by decide) | omega) (fun c_8 => ?_) (fun c_8 => ?_)
          · refine lv_iconst (v := iI (-1)) hx hb dX8_sign_74 (by decide) ?_
            refine W.widen (k := 0) (n := 0) (Nat.le_of_ble_eq_true rfl) (Nat.le_of_ble_eq_true rfl) ?_
            exact W.iret (v := iI (-1)) hx hb hr (fun t ht hW => ⟨⟨iI (-1), ((fun k => ([] : List Nat).getD k 0), (fun k => ([(-1), x] : List Int).getD k 0), (fun k => ([] : List (Nat → Int32)).getD k (fun _ => 0))), rfl, ⟨rfl, (by show ((-1) ≤ (-1) ∧ (-1) ≤ 255); show ((-1) : Int) ≤ (-1) ∧ ((-1) : Int) ≤ 255; decide), (by show (0 ≤ x ∧ x ≤ 600); first | exact hl9_0 | omega), (by show (at_ ≤ x); omega), (by show (fa ≠ 0 → (-1) = -1); omega), (by show ((-1) ≠ -1 → x < len); omega)⟩, at9 ht hP hD [0, 1] (by decide +kernel) rfl⟩, hS.F ht⟩) hS.2.2 dX8_sign_75
          · refine lv_aload_n hx hb dX8_sign_58 rfl (lv_at hlv 0 rfl) ?_
            refine va_get (D := D) (ci := 8) (v := vR tb) (C := RX8) (T := TX8) (N := 7) hx hb hts hi8 hown hG.1 hP 0 rfl rfl 0 (by decide) lf11 (fun _ h9 => h9) rfl dX8_sign_59 ?_
            refine lv_aload_n hx hb dX8_sign_62 rfl (lv_at hlv 0 rfl) ?_
            refine va_get (D := D) (ci := 8) (v := vI x) (C := RX8) (T := TX8) (N := 7) hx hb hts hi8 hown hG.1 hP 0 rfl rfl 3 (by decide) lf25 (fun _ h9 => h9) rfl dX8_sign_63 ?_
            refine va_bald hx hb hG.1 hP 1 1 rfl rfl (iI_in (by omega) (by decide)) dX8_sign_66 ?_
            refine lt_i (y := iI z_6) ez_6 ?_
            refine lv_sipush (v := iI 255) hx hb dX8_sign_67 (by decide) ?_
            refine lv_iand hx hb dX8_sign_70 ?_
            refine lt_aE 8 (by decide) (by decide) (hi := 255) (by decide) (fun z_9 ez_9 lz_9 hz_9 => ?_)
            refine lv_goto (tgt := 75) hx hb dX8_sign_71 (by decide) ?_
            refine W.widen (k := 0) (n := 0) (Nat.le_of_ble_eq_true rfl) (Nat.le_of_ble_eq_true rfl) ?_
            exact W.iret (v := iI z_9) hx hb hr (fun t ht hW => ⟨⟨iI z_9, ((fun k => ([] : List Nat).getD k 0), (fun k => ([z_9, x] : List Int).getD k 0), (fun k => ([] : List (Nat → Int32)).getD k (fun _ => 0))), rfl, ⟨rfl, (by show ((-1) ≤ z_9 ∧ z_9 ≤ 255); omega), (by show (0 ≤ x ∧ x ≤ 600); first | exact hl9_0 | omega), (by show (at_ ≤ x); omega), (by show (fa ≠ 0 → z_9 = -1); omega), (by show (z_9 ≠ -1 → x < len); omega)⟩, at9 ht hP hD [0, 1] (by decide +kernel) rfl⟩, hS.F ht⟩) hS.2.2 dX8_sign_75
        · refine lv_aload_n hx hb dX8_sign_34 rfl (lv_at hlv 0 rfl) ?_
          refine lv_dup hx hb dX8_sign_35 rfl ?_
          refine va_get (D := D) (ci := 8) (v := vI x) (C := RX8) (T := TX8) (N := 7) hx hb hts hi8 hown hG.1 hP 0 rfl rfl 3 (by decide) lf25 (fun _ h9 => h9) rfl dX8_sign_36 ?_
          refine lv_iconst (v := iI 1) hx hb dX8_sign_39 (by decide) ?_
          refine lv_iadd hx hb dX8_sign_40 ?_
          refine lt_e (e0 := x + 1) (Int32.ofInt_add _ _).symm (fun z_10 hz_10 => ?_)
          refine va_put (D := D) (ci := 8) (v := vI z_10) (ty := .int) (C := RX8) (T := TX8) (N := 7) hx hb hts hi8 tyX8 tyX8_ok nmX8 hown hG.1 hP hD hS 0 rfl rfl 3 (by decide) lf25 (fun _ h9 => h9) rfl (by decide +kernel) rfl rfl (Nat.le_of_ble_eq_true rfl) dX8_sign_41 (fun H locs hP hD hS => ?_)
          obtain ⟨hP, hD⟩ := pw9 [zO ta 8 [vR tb, vI fed, vI len, vI z_10, vI we, vI fa, vI fp], zI tb (cy 1) 600 bf] hP hD
          refine lv_goto (tgt := 9) hx hb dX8_sign_44 (by decide) ?_
          exact ih9 z_10 H locs ls (by omega) (by omega) (by omega)  (hP.sub [0, 1] rfl) (hD.sub [0, 1] (by decide) rfl) hS (lv_sub hlv [0] rfl)
  · refine lv_iconst (v := iI (-1)) hx hb dX8_sign_7 (by decide) ?_
    refine W.widen (k := 0) (n := 0) (Nat.le_of_ble_eq_true rfl) (Nat.le_of_ble_eq_true rfl) ?_
    exact W.iret (v := iI (-1)) hx hb hr (fun t ht hW => ⟨⟨iI (-1), ((fun k => ([] : List Nat).getD k 0), (fun k => ([(-1), at_] : List Int).getD k 0), (fun k => ([] : List (Nat → Int32)).getD k (fun _ => 0))), rfl, ⟨rfl, (by show ((-1) ≤ (-1) ∧ (-1) ≤ 255); show ((-1) : Int) ≤ (-1) ∧ ((-1) : Int) ≤ 255; decide), (by show (0 ≤ at_ ∧ at_ ≤ 600); first | exact hr_at_ | omega), (by show (at_ ≤ at_); omega), (by show (fa ≠ 0 → (-1) = -1); omega), (by show ((-1) ≠ -1 → at_ < len); omega)⟩, at9 ht hP hD [0, 1] (by decide +kernel) rfl⟩, hS.F ht⟩) hS.2.2 dX8_sign_8
def vs_s_hasMore : List Cond := .code yX8_hasMore cX8_hasMore 1 (some .boolean) :: (([] : List Cond) ++ ((wsV RX8 34 RX8 yX8_sign vs_s_sign) ++ ([])))
theorem gd_s_hasMore : vs_s_hasMore.all goodWord = true := gd_C (by decide +kernel) (gd_A (by decide +kernel) (gd_A (gd_V gd_s_sign (by decide +kernel)) rfl))
set_option maxHeartbeats 4000000 in
set_option maxRecDepth 100000 in
theorem s_hasMore (l : Launch) (hl : l.stackTraces = false) (D : va_G) (cy : Nat → ClassId) (sa : Nat → Nat) (ta tb : Nat) (fed len at_ we fa fp : Int) (bf : Nat → Int32) (sz : Nat) (hr_fed : 0 ≤ fed ∧ fed ≤ 600) (hr_len : 0 ≤ len ∧ len ≤ 600) (hr_at_ : 0 ≤ at_ ∧ at_ ≤ 600) (hr_we : 0 ≤ we ∧ we ≤ 600) (hr_fa : 0 ≤ fa ∧ fa ≤ 4) (hr_fp : (-1) ≤ fp ∧ fp ≤ 600) : mI9 l yX8_hasMore vs_s_hasMore ({ frames := 1, cells := 0, slots := 0, locals := 20 }) D cy sa sz [vR ta] [zO ta 8 [vR tb, vI fed, vI len, vI at_, vI we, vI fa, vI fp], zI tb (cy 1) 600 bf] (fun (r : Int32) (u : SV) => r = iI (u.2.1 0) ∧ (0 ≤ u.2.1 0 ∧ u.2.1 0 ≤ 1) ∧ (0 ≤ u.2.1 1 ∧ u.2.1 1 ≤ 600) ∧ (at_ ≤ u.2.1 1) ∧ (fa ≠ 0 → u.2.1 0 = 0)) (fun u : SV => [zO ta 8 [vR tb, vI fed, vI len, vI (u.2.1 1), vI we, vI fa, vI fp], zI tb (cy 1) 600 bf]) 0 0 := by
  refine Met.ofW (cc := cX8_hasMore) (maxL := 1) (ret := (some .boolean)) (by decide) rfl ?_
  intro p e s m args below meth c s₁ B hml hv
  obtain ⟨rfl, hsz, hP, hG, hD0, hT⟩ := hv
  have hx := B.exec
  have hb := B.bytes
  have hr := B.returns
  have hts := atoms_spec (ws := vs_s_hasMore) B.pre
  have hown : s.vm.findClass RX8 = some m.cls := findClass_of_methodNamed B.named
  have hlocks := B.notSynchronized
  subst hsz
  have hD := hD0.self (sz := s.heap.size)
  generalize hAe : va_A [zO ta 8 [vR tb, vI fed, vI len, vI at_, vI we, vI fa, vI fp], zI tb (cy 1) 600 bf] s.heap.size = A at hD hT ⊢
  have hA : ∀ q : Nat, s.heap.size ≤ q → A q := fun q h => by rw [← hAe]; exact Or.inr h
  have hS : va_S A s.heap s.heap [] := va_S.rf
  have hl0 := lv_entry ([vR ta]) (n := 1) (Nat.le_of_ble_eq_true rfl)
  rw [lg_entry_eq]
  generalize (lg_sl ([vR ta]) ++ List.replicate (1 - (lg_sl ([vR ta])).length) Slot.unset).toArray = ls at hl0 ⊢
  have hlv : lv_has ls 1 [(0, vR ta)] := hl0
  have gg_0 : GoodIn vs_s_hasMore (wsV RX8 34 RX8 yX8_sign vs_s_sign) := goodIn_sub (fun w h => List.mem_cons_of_mem _ (List.mem_append_right _ (List.mem_append_left _ h))) (gd_V gd_s_sign (by decide +kernel))
  refine lv_aload_n hx hb dX8_hasMore_0 rfl (lv_at hlv 0 rfl) ?_
  refine cjr_i [false, false] (fun pre9 => (va_runV (As := []) (rest := []) ⟨hx, hb, hml, hown, hts⟩ (s_sign l hl D cy sa ta tb fed len at_ we fa fp bf s.heap.size (by first | exact hr_fed | omega) (by first | exact hr_len | omega) (by first | exact hr_at_ | omega) (by first | exact hr_we | omega) (by first | exact hr_fa | omega) (by first | exact hr_fp | omega)) (cwV 0 hts gg_0 rfl rfl rfl (by decide +kernel) ⟨Nat.le_of_ble_eq_true rfl, Nat.le_of_ble_eq_true rfl⟩) ⟨pcW.blind, (va_recv hG.1 hP (ci := 8) (q0 := 0) rfl rfl), pre9⟩ rfl rfl hlv.1 rfl (lv_room (Nat.le_of_ble_eq_true rfl)) dX8_hasMore_1 ⟨Nat.le_of_ble_eq_true rfl, Nat.le_of_ble_eq_true rfl⟩)) hP hD hS hA hG hT [0, 1] rfl (by decide +kernel) (fun r1 u1 H locs hw1 hq9 hS => ?_)
  obtain ⟨rfl, hq1_1, hq1_2, hq1_3, hq1_4, hq1_5⟩ := hw1
  obtain ⟨hP, hD⟩ := pd9 [zO ta 8 [vR tb, vI fed, vI len, vI (u1.2.1 1), vI we, vI fa, vI fp], zI tb (cy 1) 600 bf] hq9
  refine lv_iconst (v := iI (-1)) hx hb dX8_hasMore_4 (by decide) ?_
  refine ir_eq (tgt := 12) hx hb dX8_hasMore_5 (by decide) (by first | exact rgw hq1_1 (by decide) (by decide) | omega) (by show ((-2147483648) : Int) ≤ (-1) ∧ ((-1) : Int) ≤ 2147483647; decide) (fun c_1 => ?_) (fun c_1 => ?_)
  · refine lv_iconst (v := iI 0) hx hb dX8_hasMore_12 (by decide) ?_
    refine W.widen (k := 0) (n := 0) (Nat.le_of_ble_eq_true rfl) (Nat.le_of_ble_eq_true rfl) ?_
    exact W.zret (v := iI 0) hx hb hr (by first | rfl | decide) (fun t ht hW => ⟨⟨iI 0, ((fun k => ([] : List Nat).getD k 0), (fun k => ([0, (u1.2.1 1)] : List Int).getD k 0), (fun k => ([] : List (Nat → Int32)).getD k (fun _ => 0))), rfl, ⟨rfl, (by show (0 ≤ 0 ∧ 0 ≤ 1); show (0 : Int) ≤ 0 ∧ (0 : Int) ≤ 1; decide), (by show (0 ≤ (u1.2.1 1) ∧ (u1.2.1 1) ≤ 600); first | exact hq1_2 | omega), (by show (at_ ≤ (u1.2.1 1)); omega), (by show (fa ≠ 0 → 0 = 0); omega)⟩, at9 ht hP hD [0, 1] (by decide +kernel) rfl⟩, hS.F ht⟩) hS.2.2 dX8_hasMore_13
  · refine lv_iconst (v := iI 1) hx hb dX8_hasMore_8 (by decide) ?_
    refine lv_goto (tgt := 13) hx hb dX8_hasMore_9 (by decide) ?_
    refine W.widen (k := 0) (n := 0) (Nat.le_of_ble_eq_true rfl) (Nat.le_of_ble_eq_true rfl) ?_
    exact W.zret (v := iI 1) hx hb hr (by first | rfl | decide) (fun t ht hW => ⟨⟨iI 1, ((fun k => ([] : List Nat).getD k 0), (fun k => ([1, (u1.2.1 1)] : List Int).getD k 0), (fun k => ([] : List (Nat → Int32)).getD k (fun _ => 0))), rfl, ⟨rfl, (by show (0 ≤ 1 ∧ 1 ≤ 1); show (0 : Int) ≤ 1 ∧ (1 : Int) ≤ 1; decide), (by show (0 ≤ (u1.2.1 1) ∧ (u1.2.1 1) ≤ 600); first | exact hq1_2 | omega), (by show (at_ ≤ (u1.2.1 1)); omega), (by show (fa ≠ 0 → 1 = 0); omega)⟩, at9 ht hP hD [0, 1] (by decide +kernel) rfl⟩, hS.F ht⟩) hS.2.2 dX8_hasMore_13
end
