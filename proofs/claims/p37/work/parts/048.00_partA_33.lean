section
-- ===== PART A: goes FIRST, ahead of the names: the tables' words, and 'selects' of the private methods out of them =====
/-- a private method of a class that the tables say can be made, by its rows of tables_1 -/
def lw_okq (q : MethodName × Nat) : Prop := (q.1.cls ≠ "java/lang/invoke/MethodHandle" ∧ q.1.cls ≠ "java/lang/invoke/VarHandle") ∧ Cond.instantiable q.1.cls q.2 ∈ tables_1 ∧ Cond.privateMethod q.1 ∈ tables_1 ∧ Cond.instanceMethod q.1 ∈ tables_1
theorem tm_1 : ∀ w ∈ tables_1_1, w ∈ tables_1 := fun w h => List.mem_append_left _ h
theorem tm_2 : ∀ w ∈ tables_1_2, w ∈ tables_1 := fun w h => List.mem_append_right _ (List.mem_append_left _ h)
theorem tm_3 : ∀ w ∈ tables_1_3, w ∈ tables_1 := fun w h => List.mem_append_right _ (List.mem_append_right _ (List.mem_append_left _ h))
theorem tm_4 : ∀ w ∈ tables_1_4, w ∈ tables_1 := fun w h => List.mem_append_right _ (List.mem_append_right _ (List.mem_append_right _ (List.mem_append_left _ h)))
theorem tm_5 : ∀ w ∈ tables_1_5, w ∈ tables_1 := fun w h => List.mem_append_right _ (List.mem_append_right _ (List.mem_append_right _ (List.mem_append_right _ (List.mem_append_left _ h))))
theorem tm_6 : ∀ w ∈ tables_1_6, w ∈ tables_1 := fun w h => List.mem_append_right _ (List.mem_append_right _ (List.mem_append_right _ (List.mem_append_right _ (List.mem_append_right _ (List.mem_append_left _ h)))))
theorem tm_7 : ∀ w ∈ tables_1_7, w ∈ tables_1 := fun w h => List.mem_append_right _ (List.mem_append_right _ (List.mem_append_right _ (List.mem_append_right _ (List.mem_append_right _ (List.mem_append_right _ (List.mem_append_left _ h))))))
theorem tm_8 : ∀ w ∈ tables_1_8, w ∈ tables_1 := fun w h => List.mem_append_right _ (List.mem_append_right _ (List.mem_append_right _ (List.mem_append_right _ (List.mem_append_right _ (List.mem_append_right _ (List.mem_append_right _ (List.mem_append_left _ h)))))))
theorem tm_9 : ∀ w ∈ tables_1_9, w ∈ tables_1 := fun w h => List.mem_append_right _ (List.mem_append_right _ (List.mem_append_right _ (List.mem_append_right _ (List.mem_append_right _ (List.mem_append_right _ (List.mem_append_right _ (List.mem_append_right _ (h))))))))
set_option maxRecDepth 1000000 in
theorem lw_p0 : lw_okq (⟨"KerbSplash$Tape", "hasRoom", "()Z"⟩, 7) := ⟨⟨by decide +kernel, by decide +kernel⟩, tm_1 _ (List.mem_of_getElem? (i := 38) rfl), tm_2 _ (List.mem_of_getElem? (i := 135) rfl), tm_2 _ (List.mem_of_getElem? (i := 136) rfl)⟩
set_option maxRecDepth 1000000 in
theorem lw_p1 : lw_okq (⟨"KerbSplash$Tape", "add", "(I)V"⟩, 7) := ⟨⟨by decide +kernel, by decide +kernel⟩, tm_1 _ (List.mem_of_getElem? (i := 38) rfl), tm_2 _ (List.mem_of_getElem? (i := 139) rfl), tm_2 _ (List.mem_of_getElem? (i := 140) rfl)⟩
set_option maxRecDepth 1000000 in
theorem lw_p2 : lw_okq (⟨"KerbSplash$Street", "become", "(LKerbSplash$Street;)V"⟩, 19) := ⟨⟨by decide +kernel, by decide +kernel⟩, tm_1 _ (List.mem_of_getElem? (i := 74) rfl), tm_2 _ (List.mem_of_getElem? (i := 155) rfl), tm_2 _ (List.mem_of_getElem? (i := 156) rfl)⟩
set_option maxRecDepth 1000000 in
theorem lw_p3 : lw_okq (⟨"KerbSplash$Plan", "become", "(LKerbSplash$Plan;)V"⟩, 5) := ⟨⟨by decide +kernel, by decide +kernel⟩, tm_1 _ (List.mem_of_getElem? (i := 181) rfl), tm_2 _ (List.mem_of_getElem? (i := 162) rfl), tm_2 _ (List.mem_of_getElem? (i := 163) rfl)⟩
set_option maxRecDepth 1000000 in
theorem lw_p4 : lw_okq (⟨"KerbSplash", "beginText", "(I)V"⟩, 14) := ⟨⟨by decide +kernel, by decide +kernel⟩, tm_1 _ (List.mem_of_getElem? (i := 30) rfl), tm_2 _ (List.mem_of_getElem? (i := 190) rfl), tm_2 _ (List.mem_of_getElem? (i := 191) rfl)⟩
set_option maxRecDepth 1000000 in
theorem lw_p5 : lw_okq (⟨"KerbSplash", "needArgument", "(Z)V"⟩, 14) := ⟨⟨by decide +kernel, by decide +kernel⟩, tm_1 _ (List.mem_of_getElem? (i := 30) rfl), tm_2 _ (List.mem_of_getElem? (i := 194) rfl), tm_2 _ (List.mem_of_getElem? (i := 195) rfl)⟩
set_option maxRecDepth 1000000 in
theorem lw_p6 : lw_okq (⟨"java/lang/Throwable", "fillInStackTrace", "(I)Ljava/lang/Throwable;"⟩, 6) := ⟨⟨by decide +kernel, by decide +kernel⟩, tm_2 _ (List.mem_of_getElem? (i := 237) rfl), tm_2 _ (List.mem_of_getElem? (i := 235) rfl), tm_2 _ (List.mem_of_getElem? (i := 236) rfl)⟩
set_option maxRecDepth 1000000 in
theorem lw_p7 : lw_okq (⟨"KerbSplash$Tape", "begin", "(I)V"⟩, 7) := ⟨⟨by decide +kernel, by decide +kernel⟩, tm_1 _ (List.mem_of_getElem? (i := 38) rfl), tm_3 _ (List.mem_of_getElem? (i := 26) rfl), tm_3 _ (List.mem_of_getElem? (i := 27) rfl)⟩
set_option maxRecDepth 1000000 in
theorem lw_p8 : lw_okq (⟨"KerbSplash$StreetReader", "read", "()V"⟩, 2) := ⟨⟨by decide +kernel, by decide +kernel⟩, tm_3 _ (List.mem_of_getElem? (i := 30) rfl), tm_3 _ (List.mem_of_getElem? (i := 43) rfl), tm_3 _ (List.mem_of_getElem? (i := 44) rfl)⟩
set_option maxRecDepth 1000000 in
theorem lw_p9 : lw_okq (⟨"KerbSplash$Street", "reset", "()V"⟩, 19) := ⟨⟨by decide +kernel, by decide +kernel⟩, tm_1 _ (List.mem_of_getElem? (i := 74) rfl), tm_3 _ (List.mem_of_getElem? (i := 47) rfl), tm_3 _ (List.mem_of_getElem? (i := 48) rfl)⟩
set_option maxRecDepth 1000000 in
theorem lw_p10 : lw_okq (⟨"KerbSplash$Tape", "hasMore", "()Z"⟩, 7) := ⟨⟨by decide +kernel, by decide +kernel⟩, tm_1 _ (List.mem_of_getElem? (i := 38) rfl), tm_3 _ (List.mem_of_getElem? (i := 54) rfl), tm_3 _ (List.mem_of_getElem? (i := 55) rfl)⟩
set_option maxRecDepth 1000000 in
theorem lw_p11 : lw_okq (⟨"KerbSplash$Tape", "sign", "()I"⟩, 7) := ⟨⟨by decide +kernel, by decide +kernel⟩, tm_1 _ (List.mem_of_getElem? (i := 38) rfl), tm_3 _ (List.mem_of_getElem? (i := 58) rfl), tm_3 _ (List.mem_of_getElem? (i := 59) rfl)⟩
set_option maxRecDepth 1000000 in
theorem lw_p12 : lw_okq (⟨"KerbSplash$StreetReader", "readClause", "(I)V"⟩, 2) := ⟨⟨by decide +kernel, by decide +kernel⟩, tm_3 _ (List.mem_of_getElem? (i := 30) rfl), tm_3 _ (List.mem_of_getElem? (i := 62) rfl), tm_3 _ (List.mem_of_getElem? (i := 63) rfl)⟩
set_option maxRecDepth 1000000 in
theorem lw_p13 : lw_okq (⟨"KerbSplash$Tape", "word", "()LKerbSplash$Word;"⟩, 7) := ⟨⟨by decide +kernel, by decide +kernel⟩, tm_1 _ (List.mem_of_getElem? (i := 38) rfl), tm_3 _ (List.mem_of_getElem? (i := 66) rfl), tm_3 _ (List.mem_of_getElem? (i := 67) rfl)⟩
set_option maxRecDepth 1000000 in
theorem lw_p14 : lw_okq (⟨"KerbSplash$Word", "beginsClause", "()Z"⟩, 7) := ⟨⟨by decide +kernel, by decide +kernel⟩, tm_3 _ (List.mem_of_getElem? (i := 128) rfl), tm_3 _ (List.mem_of_getElem? (i := 126) rfl), tm_3 _ (List.mem_of_getElem? (i := 127) rfl)⟩
set_option maxRecDepth 1000000 in
theorem lw_p15 : lw_okq (⟨"KerbSplash$Tape", "refuse", "(I)V"⟩, 7) := ⟨⟨by decide +kernel, by decide +kernel⟩, tm_1 _ (List.mem_of_getElem? (i := 38) rfl), tm_3 _ (List.mem_of_getElem? (i := 141) rfl), tm_3 _ (List.mem_of_getElem? (i := 142) rfl)⟩
def lw_privs_1 : List (MethodName × Nat) := [(⟨"KerbSplash$Tape", "hasRoom", "()Z"⟩, 7), (⟨"KerbSplash$Tape", "add", "(I)V"⟩, 7), (⟨"KerbSplash$Street", "become", "(LKerbSplash$Street;)V"⟩, 19), (⟨"KerbSplash$Plan", "become", "(LKerbSplash$Plan;)V"⟩, 5), (⟨"KerbSplash", "beginText", "(I)V"⟩, 14), (⟨"KerbSplash", "needArgument", "(Z)V"⟩, 14), (⟨"java/lang/Throwable", "fillInStackTrace", "(I)Ljava/lang/Throwable;"⟩, 6), (⟨"KerbSplash$Tape", "begin", "(I)V"⟩, 7), (⟨"KerbSplash$StreetReader", "read", "()V"⟩, 2), (⟨"KerbSplash$Street", "reset", "()V"⟩, 19), (⟨"KerbSplash$Tape", "hasMore", "()Z"⟩, 7), (⟨"KerbSplash$Tape", "sign", "()I"⟩, 7), (⟨"KerbSplash$StreetReader", "readClause", "(I)V"⟩, 2), (⟨"KerbSplash$Tape", "word", "()LKerbSplash$Word;"⟩, 7), (⟨"KerbSplash$Word", "beginsClause", "()Z"⟩, 7), (⟨"KerbSplash$Tape", "refuse", "(I)V"⟩, 7)]
theorem lw_r1 : ∀ q ∈ lw_privs_1, lw_okq q := List.forall_mem_cons.mpr ⟨lw_p0, List.forall_mem_cons.mpr ⟨lw_p1, List.forall_mem_cons.mpr ⟨lw_p2, List.forall_mem_cons.mpr ⟨lw_p3, List.forall_mem_cons.mpr ⟨lw_p4, List.forall_mem_cons.mpr ⟨lw_p5, List.forall_mem_cons.mpr ⟨lw_p6, List.forall_mem_cons.mpr ⟨lw_p7, List.forall_mem_cons.mpr ⟨lw_p8, List.forall_mem_cons.mpr ⟨lw_p9, List.forall_mem_cons.mpr ⟨lw_p10, List.forall_mem_cons.mpr ⟨lw_p11, List.forall_mem_cons.mpr ⟨lw_p12, List.forall_mem_cons.mpr ⟨lw_p13, List.forall_mem_cons.mpr ⟨lw_p14, List.forall_mem_cons.mpr ⟨lw_p15, fun _ h => absurd h List.not_mem_nil⟩⟩⟩⟩⟩⟩⟩⟩⟩⟩⟩⟩⟩⟩⟩⟩
set_option maxRecDepth 1000000 in
theorem lw_p16 : lw_okq (⟨"KerbSplash$StreetReader", "isFull", "(LKerbSplash$Word;)Z"⟩, 2) := ⟨⟨by decide +kernel, by decide +kernel⟩, tm_3 _ (List.mem_of_getElem? (i := 30) rfl), tm_3 _ (List.mem_of_getElem? (i := 145) rfl), tm_3 _ (List.mem_of_getElem? (i := 146) rfl)⟩
set_option maxRecDepth 1000000 in
theorem lw_p17 : lw_okq (⟨"KerbSplash$Tape", "takeWord", "(LKerbSplash$Word;)Z"⟩, 7) := ⟨⟨by decide +kernel, by decide +kernel⟩, tm_1 _ (List.mem_of_getElem? (i := 38) rfl), tm_3 _ (List.mem_of_getElem? (i := 153) rfl), tm_3 _ (List.mem_of_getElem? (i := 154) rfl)⟩
set_option maxRecDepth 1000000 in
theorem lw_p18 : lw_okq (⟨"KerbSplash$StreetReader", "readNumbers", "(LKerbSplash$Word;)V"⟩, 2) := ⟨⟨by decide +kernel, by decide +kernel⟩, tm_3 _ (List.mem_of_getElem? (i := 30) rfl), tm_3 _ (List.mem_of_getElem? (i := 158) rfl), tm_3 _ (List.mem_of_getElem? (i := 159) rfl)⟩
set_option maxRecDepth 1000000 in
theorem lw_p19 : lw_okq (⟨"KerbSplash$StreetReader", "readWork", "(I)V"⟩, 2) := ⟨⟨by decide +kernel, by decide +kernel⟩, tm_3 _ (List.mem_of_getElem? (i := 30) rfl), tm_3 _ (List.mem_of_getElem? (i := 162) rfl), tm_3 _ (List.mem_of_getElem? (i := 163) rfl)⟩
set_option maxRecDepth 1000000 in
theorem lw_p20 : lw_okq (⟨"KerbSplash$Tape", "number", "(II)I"⟩, 7) := ⟨⟨by decide +kernel, by decide +kernel⟩, tm_1 _ (List.mem_of_getElem? (i := 38) rfl), tm_3 _ (List.mem_of_getElem? (i := 166) rfl), tm_3 _ (List.mem_of_getElem? (i := 167) rfl)⟩
set_option maxRecDepth 1000000 in
theorem lw_p21 : lw_okq (⟨"KerbSplash$Tape", "good", "()Z"⟩, 7) := ⟨⟨by decide +kernel, by decide +kernel⟩, tm_1 _ (List.mem_of_getElem? (i := 38) rfl), tm_3 _ (List.mem_of_getElem? (i := 178) rfl), tm_3 _ (List.mem_of_getElem? (i := 179) rfl)⟩
set_option maxRecDepth 1000000 in
theorem lw_p22 : lw_okq (⟨"KerbSplash$Street", "addWork", "(IIIII)V"⟩, 19) := ⟨⟨by decide +kernel, by decide +kernel⟩, tm_1 _ (List.mem_of_getElem? (i := 74) rfl), tm_3 _ (List.mem_of_getElem? (i := 182) rfl), tm_3 _ (List.mem_of_getElem? (i := 183) rfl)⟩
set_option maxRecDepth 1000000 in
theorem lw_p23 : lw_okq (⟨"KerbSplash$StreetReader", "readSize", "()V"⟩, 2) := ⟨⟨by decide +kernel, by decide +kernel⟩, tm_3 _ (List.mem_of_getElem? (i := 30) rfl), tm_3 _ (List.mem_of_getElem? (i := 186) rfl), tm_3 _ (List.mem_of_getElem? (i := 187) rfl)⟩
set_option maxRecDepth 1000000 in
theorem lw_p24 : lw_okq (⟨"KerbSplash$StreetReader", "readPerson", "()V"⟩, 2) := ⟨⟨by decide +kernel, by decide +kernel⟩, tm_3 _ (List.mem_of_getElem? (i := 30) rfl), tm_3 _ (List.mem_of_getElem? (i := 190) rfl), tm_3 _ (List.mem_of_getElem? (i := 191) rfl)⟩
set_option maxRecDepth 1000000 in
theorem lw_p25 : lw_okq (⟨"KerbSplash$Street", "addPerson", "(II)V"⟩, 19) := ⟨⟨by decide +kernel, by decide +kernel⟩, tm_1 _ (List.mem_of_getElem? (i := 74) rfl), tm_3 _ (List.mem_of_getElem? (i := 194) rfl), tm_3 _ (List.mem_of_getElem? (i := 195) rfl)⟩
set_option maxRecDepth 1000000 in
theorem lw_p26 : lw_okq (⟨"KerbSplash$Street", "putPerson", "(III)V"⟩, 19) := ⟨⟨by decide +kernel, by decide +kernel⟩, tm_1 _ (List.mem_of_getElem? (i := 74) rfl), tm_3 _ (List.mem_of_getElem? (i := 198) rfl), tm_3 _ (List.mem_of_getElem? (i := 199) rfl)⟩
set_option maxRecDepth 1000000 in
theorem lw_p27 : lw_okq (⟨"KerbSplash$StreetReader", "readShelter", "()V"⟩, 2) := ⟨⟨by decide +kernel, by decide +kernel⟩, tm_3 _ (List.mem_of_getElem? (i := 30) rfl), tm_3 _ (List.mem_of_getElem? (i := 202) rfl), tm_3 _ (List.mem_of_getElem? (i := 203) rfl)⟩
set_option maxRecDepth 1000000 in
theorem lw_p28 : lw_okq (⟨"KerbSplash$Street", "addShelter", "(II)V"⟩, 19) := ⟨⟨by decide +kernel, by decide +kernel⟩, tm_1 _ (List.mem_of_getElem? (i := 74) rfl), tm_3 _ (List.mem_of_getElem? (i := 206) rfl), tm_3 _ (List.mem_of_getElem? (i := 207) rfl)⟩
set_option maxRecDepth 1000000 in
theorem lw_p29 : lw_okq (⟨"KerbSplash$StreetReader", "readOfCell", "(LKerbSplash$Word;)V"⟩, 2) := ⟨⟨by decide +kernel, by decide +kernel⟩, tm_3 _ (List.mem_of_getElem? (i := 30) rfl), tm_3 _ (List.mem_of_getElem? (i := 210) rfl), tm_3 _ (List.mem_of_getElem? (i := 211) rfl)⟩
set_option maxRecDepth 1000000 in
theorem lw_p30 : lw_okq (⟨"KerbSplash$Street", "index", "(II)I"⟩, 19) := ⟨⟨by decide +kernel, by decide +kernel⟩, tm_1 _ (List.mem_of_getElem? (i := 74) rfl), tm_3 _ (List.mem_of_getElem? (i := 215) rfl), tm_3 _ (List.mem_of_getElem? (i := 216) rfl)⟩
set_option maxRecDepth 1000000 in
theorem lw_p31 : lw_okq (⟨"KerbSplash$Street", "addDrain", "(IIII)V"⟩, 19) := ⟨⟨by decide +kernel, by decide +kernel⟩, tm_1 _ (List.mem_of_getElem? (i := 74) rfl), tm_3 _ (List.mem_of_getElem? (i := 219) rfl), tm_3 _ (List.mem_of_getElem? (i := 220) rfl)⟩
def lw_privs_2 : List (MethodName × Nat) := [(⟨"KerbSplash$StreetReader", "isFull", "(LKerbSplash$Word;)Z"⟩, 2), (⟨"KerbSplash$Tape", "takeWord", "(LKerbSplash$Word;)Z"⟩, 7), (⟨"KerbSplash$StreetReader", "readNumbers", "(LKerbSplash$Word;)V"⟩, 2), (⟨"KerbSplash$StreetReader", "readWork", "(I)V"⟩, 2), (⟨"KerbSplash$Tape", "number", "(II)I"⟩, 7), (⟨"KerbSplash$Tape", "good", "()Z"⟩, 7), (⟨"KerbSplash$Street", "addWork", "(IIIII)V"⟩, 19), (⟨"KerbSplash$StreetReader", "readSize", "()V"⟩, 2), (⟨"KerbSplash$StreetReader", "readPerson", "()V"⟩, 2), (⟨"KerbSplash$Street", "addPerson", "(II)V"⟩, 19), (⟨"KerbSplash$Street", "putPerson", "(III)V"⟩, 19), (⟨"KerbSplash$StreetReader", "readShelter", "()V"⟩, 2), (⟨"KerbSplash$Street", "addShelter", "(II)V"⟩, 19), (⟨"KerbSplash$StreetReader", "readOfCell", "(LKerbSplash$Word;)V"⟩, 2), (⟨"KerbSplash$Street", "index", "(II)I"⟩, 19), (⟨"KerbSplash$Street", "addDrain", "(IIII)V"⟩, 19)]
theorem lw_r2 : ∀ q ∈ lw_privs_2, lw_okq q := List.forall_mem_cons.mpr ⟨lw_p16, List.forall_mem_cons.mpr ⟨lw_p17, List.forall_mem_cons.mpr ⟨lw_p18, List.forall_mem_cons.mpr ⟨lw_p19, List.forall_mem_cons.mpr ⟨lw_p20, List.forall_mem_cons.mpr ⟨lw_p21, List.forall_mem_cons.mpr ⟨lw_p22, List.forall_mem_cons.mpr ⟨lw_p23, List.forall_mem_cons.mpr ⟨lw_p24, List.forall_mem_cons.mpr ⟨lw_p25, List.forall_mem_cons.mpr ⟨lw_p26, List.forall_mem_cons.mpr ⟨lw_p27, List.forall_mem_cons.mpr ⟨lw_p28, List.forall_mem_cons.mpr ⟨lw_p29, List.forall_mem_cons.mpr ⟨lw_p30, List.forall_mem_cons.mpr ⟨lw_p31, fun _ h => absurd h List.not_mem_nil⟩⟩⟩⟩⟩⟩⟩⟩⟩⟩⟩⟩⟩⟩⟩⟩
set_option maxRecDepth 1000000 in
theorem lw_p32 : lw_okq (⟨"KerbSplash$Tape", "want", "(C)V"⟩, 7) := ⟨⟨by decide +kernel, by decide +kernel⟩, tm_1 _ (List.mem_of_getElem? (i := 38) rfl), tm_3 _ (List.mem_of_getElem? (i := 223) rfl), tm_3 _ (List.mem_of_getElem? (i := 224) rfl)⟩
set_option maxRecDepth 1000000 in
theorem lw_p33 : lw_okq (⟨"KerbSplash$Plan", "reset", "()V"⟩, 5) := ⟨⟨by decide +kernel, by decide +kernel⟩, tm_1 _ (List.mem_of_getElem? (i := 181) rfl), tm_3 _ (List.mem_of_getElem? (i := 228) rfl), tm_3 _ (List.mem_of_getElem? (i := 229) rfl)⟩
set_option maxRecDepth 1000000 in
theorem lw_p34 : lw_okq (⟨"KerbSplash$Street", "cells", "()I"⟩, 19) := ⟨⟨by decide +kernel, by decide +kernel⟩, tm_1 _ (List.mem_of_getElem? (i := 74) rfl), tm_3 _ (List.mem_of_getElem? (i := 233) rfl), tm_3 _ (List.mem_of_getElem? (i := 234) rfl)⟩
set_option maxRecDepth 1000000 in
theorem lw_p35 : lw_okq (⟨"KerbSplash$Rain", "read", "(LKerbSplash$Tape;)V"⟩, 2) := ⟨⟨by decide +kernel, by decide +kernel⟩, tm_2 _ (List.mem_of_getElem? (i := 51) rfl), tm_4 _ (List.mem_of_getElem? (i := 4) rfl), tm_4 _ (List.mem_of_getElem? (i := 5) rfl)⟩
set_option maxRecDepth 1000000 in
theorem lw_p36 : lw_okq (⟨"KerbSplash$Rain", "readPiece", "(LKerbSplash$Tape;I)V"⟩, 2) := ⟨⟨by decide +kernel, by decide +kernel⟩, tm_2 _ (List.mem_of_getElem? (i := 51) rfl), tm_4 _ (List.mem_of_getElem? (i := 10) rfl), tm_4 _ (List.mem_of_getElem? (i := 11) rfl)⟩
set_option maxRecDepth 1000000 in
theorem lw_p37 : lw_okq (⟨"KerbSplash$Tape", "wantWord", "(LKerbSplash$Word;)V"⟩, 7) := ⟨⟨by decide +kernel, by decide +kernel⟩, tm_1 _ (List.mem_of_getElem? (i := 38) rfl), tm_4 _ (List.mem_of_getElem? (i := 17) rfl), tm_4 _ (List.mem_of_getElem? (i := 18) rfl)⟩
set_option maxRecDepth 1000000 in
theorem lw_p38 : lw_okq (⟨"KerbSplash$Rain", "add", "(II)V"⟩, 2) := ⟨⟨by decide +kernel, by decide +kernel⟩, tm_2 _ (List.mem_of_getElem? (i := 51) rfl), tm_4 _ (List.mem_of_getElem? (i := 24) rfl), tm_4 _ (List.mem_of_getElem? (i := 25) rfl)⟩
set_option maxRecDepth 1000000 in
theorem lw_p39 : lw_okq (⟨"KerbSplash$LawReader", "read", "()V"⟩, 3) := ⟨⟨by decide +kernel, by decide +kernel⟩, tm_4 _ (List.mem_of_getElem? (i := 35) rfl), tm_4 _ (List.mem_of_getElem? (i := 51) rfl), tm_4 _ (List.mem_of_getElem? (i := 52) rfl)⟩
set_option maxRecDepth 1000000 in
theorem lw_p40 : lw_okq (⟨"KerbSplash$Law", "reset", "()V"⟩, 4) := ⟨⟨by decide +kernel, by decide +kernel⟩, tm_2 _ (List.mem_of_getElem? (i := 67) rfl), tm_4 _ (List.mem_of_getElem? (i := 55) rfl), tm_4 _ (List.mem_of_getElem? (i := 56) rfl)⟩
set_option maxRecDepth 1000000 in
theorem lw_p41 : lw_okq (⟨"KerbSplash$LawReader", "readSaying", "()V"⟩, 3) := ⟨⟨by decide +kernel, by decide +kernel⟩, tm_4 _ (List.mem_of_getElem? (i := 35) rfl), tm_4 _ (List.mem_of_getElem? (i := 61) rfl), tm_4 _ (List.mem_of_getElem? (i := 62) rfl)⟩
set_option maxRecDepth 1000000 in
theorem lw_p42 : lw_okq (⟨"KerbSplash$LawReader", "readValue", "()V"⟩, 3) := ⟨⟨by decide +kernel, by decide +kernel⟩, tm_4 _ (List.mem_of_getElem? (i := 35) rfl), tm_4 _ (List.mem_of_getElem? (i := 69) rfl), tm_4 _ (List.mem_of_getElem? (i := 70) rfl)⟩
set_option maxRecDepth 1000000 in
theorem lw_p43 : lw_okq (⟨"KerbSplash$LawReader", "readChoice", "()V"⟩, 3) := ⟨⟨by decide +kernel, by decide +kernel⟩, tm_4 _ (List.mem_of_getElem? (i := 35) rfl), tm_4 _ (List.mem_of_getElem? (i := 75) rfl), tm_4 _ (List.mem_of_getElem? (i := 76) rfl)⟩
set_option maxRecDepth 1000000 in
theorem lw_p44 : lw_okq (⟨"KerbSplash$LawReader", "open", "()Z"⟩, 3) := ⟨⟨by decide +kernel, by decide +kernel⟩, tm_4 _ (List.mem_of_getElem? (i := 35) rfl), tm_4 _ (List.mem_of_getElem? (i := 79) rfl), tm_4 _ (List.mem_of_getElem? (i := 80) rfl)⟩
set_option maxRecDepth 1000000 in
theorem lw_p45 : lw_okq (⟨"KerbSplash$LawReader", "readCondition", "()V"⟩, 3) := ⟨⟨by decide +kernel, by decide +kernel⟩, tm_4 _ (List.mem_of_getElem? (i := 35) rfl), tm_4 _ (List.mem_of_getElem? (i := 84) rfl), tm_4 _ (List.mem_of_getElem? (i := 85) rfl)⟩
set_option maxRecDepth 1000000 in
theorem lw_p46 : lw_okq (⟨"KerbSplash$LawReader", "readAlternative", "()V"⟩, 3) := ⟨⟨by decide +kernel, by decide +kernel⟩, tm_4 _ (List.mem_of_getElem? (i := 35) rfl), tm_4 _ (List.mem_of_getElem? (i := 88) rfl), tm_4 _ (List.mem_of_getElem? (i := 89) rfl)⟩
set_option maxRecDepth 1000000 in
theorem lw_p47 : lw_okq (⟨"KerbSplash$LawReader", "readTest", "()V"⟩, 3) := ⟨⟨by decide +kernel, by decide +kernel⟩, tm_4 _ (List.mem_of_getElem? (i := 35) rfl), tm_4 _ (List.mem_of_getElem? (i := 92) rfl), tm_4 _ (List.mem_of_getElem? (i := 93) rfl)⟩
def lw_privs_3 : List (MethodName × Nat) := [(⟨"KerbSplash$Tape", "want", "(C)V"⟩, 7), (⟨"KerbSplash$Plan", "reset", "()V"⟩, 5), (⟨"KerbSplash$Street", "cells", "()I"⟩, 19), (⟨"KerbSplash$Rain", "read", "(LKerbSplash$Tape;)V"⟩, 2), (⟨"KerbSplash$Rain", "readPiece", "(LKerbSplash$Tape;I)V"⟩, 2), (⟨"KerbSplash$Tape", "wantWord", "(LKerbSplash$Word;)V"⟩, 7), (⟨"KerbSplash$Rain", "add", "(II)V"⟩, 2), (⟨"KerbSplash$LawReader", "read", "()V"⟩, 3), (⟨"KerbSplash$Law", "reset", "()V"⟩, 4), (⟨"KerbSplash$LawReader", "readSaying", "()V"⟩, 3), (⟨"KerbSplash$LawReader", "readValue", "()V"⟩, 3), (⟨"KerbSplash$LawReader", "readChoice", "()V"⟩, 3), (⟨"KerbSplash$LawReader", "open", "()Z"⟩, 3), (⟨"KerbSplash$LawReader", "readCondition", "()V"⟩, 3), (⟨"KerbSplash$LawReader", "readAlternative", "()V"⟩, 3), (⟨"KerbSplash$LawReader", "readTest", "()V"⟩, 3)]
theorem lw_r3 : ∀ q ∈ lw_privs_3, lw_okq q := List.forall_mem_cons.mpr ⟨lw_p32, List.forall_mem_cons.mpr ⟨lw_p33, List.forall_mem_cons.mpr ⟨lw_p34, List.forall_mem_cons.mpr ⟨lw_p35, List.forall_mem_cons.mpr ⟨lw_p36, List.forall_mem_cons.mpr ⟨lw_p37, List.forall_mem_cons.mpr ⟨lw_p38, List.forall_mem_cons.mpr ⟨lw_p39, List.forall_mem_cons.mpr ⟨lw_p40, List.forall_mem_cons.mpr ⟨lw_p41, List.forall_mem_cons.mpr ⟨lw_p42, List.forall_mem_cons.mpr ⟨lw_p43, List.forall_mem_cons.mpr ⟨lw_p44, List.forall_mem_cons.mpr ⟨lw_p45, List.forall_mem_cons.mpr ⟨lw_p46, List.forall_mem_cons.mpr ⟨lw_p47, fun _ h => absurd h List.not_mem_nil⟩⟩⟩⟩⟩⟩⟩⟩⟩⟩⟩⟩⟩⟩⟩⟩
set_option maxRecDepth 1000000 in
theorem lw_p48 : lw_okq (⟨"KerbSplash$Law", "add", "(II)I"⟩, 4) := ⟨⟨by decide +kernel, by decide +kernel⟩, tm_2 _ (List.mem_of_getElem? (i := 67) rfl), tm_4 _ (List.mem_of_getElem? (i := 98) rfl), tm_4 _ (List.mem_of_getElem? (i := 99) rfl)⟩
set_option maxRecDepth 1000000 in
theorem lw_p49 : lw_okq (⟨"KerbSplash$LawReader", "readComparison", "()V"⟩, 3) := ⟨⟨by decide +kernel, by decide +kernel⟩, tm_4 _ (List.mem_of_getElem? (i := 35) rfl), tm_4 _ (List.mem_of_getElem? (i := 103) rfl), tm_4 _ (List.mem_of_getElem? (i := 104) rfl)⟩
set_option maxRecDepth 1000000 in
theorem lw_p50 : lw_okq (⟨"KerbSplash$Tape", "take", "(C)Z"⟩, 7) := ⟨⟨by decide +kernel, by decide +kernel⟩, tm_1 _ (List.mem_of_getElem? (i := 38) rfl), tm_4 _ (List.mem_of_getElem? (i := 107) rfl), tm_4 _ (List.mem_of_getElem? (i := 108) rfl)⟩
set_option maxRecDepth 1000000 in
theorem lw_p51 : lw_okq (⟨"KerbSplash$Law", "aim", "(I)V"⟩, 4) := ⟨⟨by decide +kernel, by decide +kernel⟩, tm_2 _ (List.mem_of_getElem? (i := 67) rfl), tm_4 _ (List.mem_of_getElem? (i := 119) rfl), tm_4 _ (List.mem_of_getElem? (i := 120) rfl)⟩
set_option maxRecDepth 1000000 in
theorem lw_p52 : lw_okq (⟨"KerbSplash$LawReader", "readProduct", "()V"⟩, 3) := ⟨⟨by decide +kernel, by decide +kernel⟩, tm_4 _ (List.mem_of_getElem? (i := 35) rfl), tm_4 _ (List.mem_of_getElem? (i := 123) rfl), tm_4 _ (List.mem_of_getElem? (i := 124) rfl)⟩
set_option maxRecDepth 1000000 in
theorem lw_p53 : lw_okq (⟨"KerbSplash$LawReader", "readUnit", "()V"⟩, 3) := ⟨⟨by decide +kernel, by decide +kernel⟩, tm_4 _ (List.mem_of_getElem? (i := 35) rfl), tm_4 _ (List.mem_of_getElem? (i := 127) rfl), tm_4 _ (List.mem_of_getElem? (i := 128) rfl)⟩
set_option maxRecDepth 1000000 in
theorem lw_p54 : lw_okq (⟨"KerbSplash", "needCell", "(II)V"⟩, 14) := ⟨⟨by decide +kernel, by decide +kernel⟩, tm_1 _ (List.mem_of_getElem? (i := 30) rfl), tm_4 _ (List.mem_of_getElem? (i := 148) rfl), tm_4 _ (List.mem_of_getElem? (i := 149) rfl)⟩
set_option maxRecDepth 1000000 in
theorem lw_p55 : lw_okq (⟨"KerbSplash$Street", "has", "(II)Z"⟩, 19) := ⟨⟨by decide +kernel, by decide +kernel⟩, tm_1 _ (List.mem_of_getElem? (i := 74) rfl), tm_4 _ (List.mem_of_getElem? (i := 152) rfl), tm_4 _ (List.mem_of_getElem? (i := 153) rfl)⟩
set_option maxRecDepth 1000000 in
theorem lw_p56 : lw_okq (⟨"KerbSplash$Street", "surface", "(I)I"⟩, 19) := ⟨⟨by decide +kernel, by decide +kernel⟩, tm_1 _ (List.mem_of_getElem? (i := 74) rfl), tm_4 _ (List.mem_of_getElem? (i := 173) rfl), tm_4 _ (List.mem_of_getElem? (i := 174) rfl)⟩
set_option maxRecDepth 1000000 in
theorem lw_p57 : lw_okq (⟨"KerbSplash", "needElement", "(Z)V"⟩, 14) := ⟨⟨by decide +kernel, by decide +kernel⟩, tm_1 _ (List.mem_of_getElem? (i := 30) rfl), tm_4 _ (List.mem_of_getElem? (i := 185) rfl), tm_4 _ (List.mem_of_getElem? (i := 186) rfl)⟩
set_option maxRecDepth 1000000 in
theorem lw_p58 : lw_okq (⟨"KerbSplash$Street", "doWork", "(I)Z"⟩, 19) := ⟨⟨by decide +kernel, by decide +kernel⟩, tm_1 _ (List.mem_of_getElem? (i := 74) rfl), tm_4 _ (List.mem_of_getElem? (i := 233) rfl), tm_4 _ (List.mem_of_getElem? (i := 234) rfl)⟩
set_option maxRecDepth 1000000 in
theorem lw_p59 : lw_okq (⟨"KerbSplash$Street", "changeHeight", "(II)V"⟩, 19) := ⟨⟨by decide +kernel, by decide +kernel⟩, tm_1 _ (List.mem_of_getElem? (i := 74) rfl), tm_4 _ (List.mem_of_getElem? (i := 238) rfl), tm_4 _ (List.mem_of_getElem? (i := 239) rfl)⟩
set_option maxRecDepth 1000000 in
theorem lw_p60 : lw_okq (⟨"KerbSplash$Street", "isTold", "()Z"⟩, 19) := ⟨⟨by decide +kernel, by decide +kernel⟩, tm_1 _ (List.mem_of_getElem? (i := 74) rfl), tm_5 _ (List.mem_of_getElem? (i := 14) rfl), tm_5 _ (List.mem_of_getElem? (i := 15) rfl)⟩
set_option maxRecDepth 1000000 in
theorem lw_p61 : lw_okq (⟨"KerbSplash$Street", "hasTime", "()Z"⟩, 19) := ⟨⟨by decide +kernel, by decide +kernel⟩, tm_1 _ (List.mem_of_getElem? (i := 74) rfl), tm_5 _ (List.mem_of_getElem? (i := 18) rfl), tm_5 _ (List.mem_of_getElem? (i := 19) rfl)⟩
set_option maxRecDepth 1000000 in
theorem lw_p62 : lw_okq (⟨"KerbSplash", "needState", "(Z)V"⟩, 14) := ⟨⟨by decide +kernel, by decide +kernel⟩, tm_1 _ (List.mem_of_getElem? (i := 30) rfl), tm_5 _ (List.mem_of_getElem? (i := 22) rfl), tm_5 _ (List.mem_of_getElem? (i := 23) rfl)⟩
set_option maxRecDepth 1000000 in
theorem lw_p63 : lw_okq (⟨"KerbSplash$Street", "passMinutes", "(II)I"⟩, 19) := ⟨⟨by decide +kernel, by decide +kernel⟩, tm_1 _ (List.mem_of_getElem? (i := 74) rfl), tm_5 _ (List.mem_of_getElem? (i := 42) rfl), tm_5 _ (List.mem_of_getElem? (i := 43) rfl)⟩
def lw_privs_4 : List (MethodName × Nat) := [(⟨"KerbSplash$Law", "add", "(II)I"⟩, 4), (⟨"KerbSplash$LawReader", "readComparison", "()V"⟩, 3), (⟨"KerbSplash$Tape", "take", "(C)Z"⟩, 7), (⟨"KerbSplash$Law", "aim", "(I)V"⟩, 4), (⟨"KerbSplash$LawReader", "readProduct", "()V"⟩, 3), (⟨"KerbSplash$LawReader", "readUnit", "()V"⟩, 3), (⟨"KerbSplash", "needCell", "(II)V"⟩, 14), (⟨"KerbSplash$Street", "has", "(II)Z"⟩, 19), (⟨"KerbSplash$Street", "surface", "(I)I"⟩, 19), (⟨"KerbSplash", "needElement", "(Z)V"⟩, 14), (⟨"KerbSplash$Street", "doWork", "(I)Z"⟩, 19), (⟨"KerbSplash$Street", "changeHeight", "(II)V"⟩, 19), (⟨"KerbSplash$Street", "isTold", "()Z"⟩, 19), (⟨"KerbSplash$Street", "hasTime", "()Z"⟩, 19), (⟨"KerbSplash", "needState", "(Z)V"⟩, 14), (⟨"KerbSplash$Street", "passMinutes", "(II)I"⟩, 19)]
theorem lw_r4 : ∀ q ∈ lw_privs_4, lw_okq q := List.forall_mem_cons.mpr ⟨lw_p48, List.forall_mem_cons.mpr ⟨lw_p49, List.forall_mem_cons.mpr ⟨lw_p50, List.forall_mem_cons.mpr ⟨lw_p51, List.forall_mem_cons.mpr ⟨lw_p52, List.forall_mem_cons.mpr ⟨lw_p53, List.forall_mem_cons.mpr ⟨lw_p54, List.forall_mem_cons.mpr ⟨lw_p55, List.forall_mem_cons.mpr ⟨lw_p56, List.forall_mem_cons.mpr ⟨lw_p57, List.forall_mem_cons.mpr ⟨lw_p58, List.forall_mem_cons.mpr ⟨lw_p59, List.forall_mem_cons.mpr ⟨lw_p60, List.forall_mem_cons.mpr ⟨lw_p61, List.forall_mem_cons.mpr ⟨lw_p62, List.forall_mem_cons.mpr ⟨lw_p63, fun _ h => absurd h List.not_mem_nil⟩⟩⟩⟩⟩⟩⟩⟩⟩⟩⟩⟩⟩⟩⟩⟩
set_option maxRecDepth 1000000 in
theorem lw_p64 : lw_okq (⟨"KerbSplash$Street", "passMinute", "(I)V"⟩, 19) := ⟨⟨by decide +kernel, by decide +kernel⟩, tm_1 _ (List.mem_of_getElem? (i := 74) rfl), tm_5 _ (List.mem_of_getElem? (i := 47) rfl), tm_5 _ (List.mem_of_getElem? (i := 48) rfl)⟩
set_option maxRecDepth 1000000 in
theorem lw_p65 : lw_okq (⟨"KerbSplash$Street", "runRounds", "(I)V"⟩, 19) := ⟨⟨by decide +kernel, by decide +kernel⟩, tm_1 _ (List.mem_of_getElem? (i := 74) rfl), tm_5 _ (List.mem_of_getElem? (i := 52) rfl), tm_5 _ (List.mem_of_getElem? (i := 53) rfl)⟩
set_option maxRecDepth 1000000 in
theorem lw_p66 : lw_okq (⟨"KerbSplash$Street", "runRound", "()Z"⟩, 19) := ⟨⟨by decide +kernel, by decide +kernel⟩, tm_1 _ (List.mem_of_getElem? (i := 74) rfl), tm_5 _ (List.mem_of_getElem? (i := 56) rfl), tm_5 _ (List.mem_of_getElem? (i := 57) rfl)⟩
set_option maxRecDepth 1000000 in
theorem lw_p67 : lw_okq (⟨"KerbSplash$Street", "runFrom", "(III)Z"⟩, 19) := ⟨⟨by decide +kernel, by decide +kernel⟩, tm_1 _ (List.mem_of_getElem? (i := 74) rfl), tm_5 _ (List.mem_of_getElem? (i := 60) rfl), tm_5 _ (List.mem_of_getElem? (i := 61) rfl)⟩
set_option maxRecDepth 1000000 in
theorem lw_p68 : lw_okq (⟨"KerbSplash$Street", "takeByDrain", "(I)V"⟩, 19) := ⟨⟨by decide +kernel, by decide +kernel⟩, tm_1 _ (List.mem_of_getElem? (i := 74) rfl), tm_5 _ (List.mem_of_getElem? (i := 64) rfl), tm_5 _ (List.mem_of_getElem? (i := 65) rfl)⟩
set_option maxRecDepth 1000000 in
theorem lw_p69 : lw_okq (⟨"KerbSplash", "needRain", "(I)V"⟩, 14) := ⟨⟨by decide +kernel, by decide +kernel⟩, tm_1 _ (List.mem_of_getElem? (i := 30) rfl), tm_5 _ (List.mem_of_getElem? (i := 75) rfl), tm_5 _ (List.mem_of_getElem? (i := 76) rfl)⟩
set_option maxRecDepth 1000000 in
theorem lw_p70 : lw_okq (⟨"KerbSplash$Street", "passRain", "(LKerbSplash$Rain;)I"⟩, 19) := ⟨⟨by decide +kernel, by decide +kernel⟩, tm_1 _ (List.mem_of_getElem? (i := 74) rfl), tm_5 _ (List.mem_of_getElem? (i := 79) rfl), tm_5 _ (List.mem_of_getElem? (i := 80) rfl)⟩
set_option maxRecDepth 1000000 in
theorem lw_p71 : lw_okq (⟨"KerbSplash$Street", "standing", "()I"⟩, 19) := ⟨⟨by decide +kernel, by decide +kernel⟩, tm_1 _ (List.mem_of_getElem? (i := 74) rfl), tm_5 _ (List.mem_of_getElem? (i := 90) rfl), tm_5 _ (List.mem_of_getElem? (i := 91) rfl)⟩
set_option maxRecDepth 1000000 in
theorem lw_p72 : lw_okq (⟨"KerbSplash", "needLaw", "(I)V"⟩, 14) := ⟨⟨by decide +kernel, by decide +kernel⟩, tm_1 _ (List.mem_of_getElem? (i := 30) rfl), tm_5 _ (List.mem_of_getElem? (i := 101) rfl), tm_5 _ (List.mem_of_getElem? (i := 102) rfl)⟩
set_option maxRecDepth 1000000 in
theorem lw_p73 : lw_okq (⟨"KerbSplash$Law", "value", "(I[I)I"⟩, 4) := ⟨⟨by decide +kernel, by decide +kernel⟩, tm_2 _ (List.mem_of_getElem? (i := 67) rfl), tm_5 _ (List.mem_of_getElem? (i := 105) rfl), tm_5 _ (List.mem_of_getElem? (i := 106) rfl)⟩
set_option maxRecDepth 1000000 in
theorem lw_p74 : lw_okq (⟨"KerbSplash", "isCar", "(IIII)Z"⟩, 14) := ⟨⟨by decide +kernel, by decide +kernel⟩, tm_1 _ (List.mem_of_getElem? (i := 30) rfl), tm_5 _ (List.mem_of_getElem? (i := 119) rfl), tm_5 _ (List.mem_of_getElem? (i := 120) rfl)⟩
set_option maxRecDepth 1000000 in
theorem lw_p75 : lw_okq (⟨"KerbSplash$Car", "become", "(IIII)V"⟩, 7) := ⟨⟨by decide +kernel, by decide +kernel⟩, tm_1 _ (List.mem_of_getElem? (i := 221) rfl), tm_5 _ (List.mem_of_getElem? (i := 123) rfl), tm_5 _ (List.mem_of_getElem? (i := 124) rfl)⟩
set_option maxRecDepth 1000000 in
theorem lw_p76 : lw_okq (⟨"KerbSplash$Car", "drive", "(LKerbSplash$Street;LKerbSplash$Law;)I"⟩, 7) := ⟨⟨by decide +kernel, by decide +kernel⟩, tm_1 _ (List.mem_of_getElem? (i := 221) rfl), tm_5 _ (List.mem_of_getElem? (i := 127) rfl), tm_5 _ (List.mem_of_getElem? (i := 128) rfl)⟩
set_option maxRecDepth 1000000 in
theorem lw_p77 : lw_okq (⟨"KerbSplash$Car", "come", "(LKerbSplash$Street;LKerbSplash$Law;I)V"⟩, 7) := ⟨⟨by decide +kernel, by decide +kernel⟩, tm_1 _ (List.mem_of_getElem? (i := 221) rfl), tm_5 _ (List.mem_of_getElem? (i := 131) rfl), tm_5 _ (List.mem_of_getElem? (i := 132) rfl)⟩
set_option maxRecDepth 1000000 in
theorem lw_p78 : lw_okq (⟨"KerbSplash$Street", "peopleAt", "(I)I"⟩, 19) := ⟨⟨by decide +kernel, by decide +kernel⟩, tm_1 _ (List.mem_of_getElem? (i := 74) rfl), tm_5 _ (List.mem_of_getElem? (i := 135) rfl), tm_5 _ (List.mem_of_getElem? (i := 136) rfl)⟩
set_option maxRecDepth 1000000 in
theorem lw_p79 : lw_okq (⟨"KerbSplash$Car", "see", "(LKerbSplash$Street;II)V"⟩, 7) := ⟨⟨by decide +kernel, by decide +kernel⟩, tm_1 _ (List.mem_of_getElem? (i := 221) rfl), tm_5 _ (List.mem_of_getElem? (i := 139) rfl), tm_5 _ (List.mem_of_getElem? (i := 140) rfl)⟩
def lw_privs_5 : List (MethodName × Nat) := [(⟨"KerbSplash$Street", "passMinute", "(I)V"⟩, 19), (⟨"KerbSplash$Street", "runRounds", "(I)V"⟩, 19), (⟨"KerbSplash$Street", "runRound", "()Z"⟩, 19), (⟨"KerbSplash$Street", "runFrom", "(III)Z"⟩, 19), (⟨"KerbSplash$Street", "takeByDrain", "(I)V"⟩, 19), (⟨"KerbSplash", "needRain", "(I)V"⟩, 14), (⟨"KerbSplash$Street", "passRain", "(LKerbSplash$Rain;)I"⟩, 19), (⟨"KerbSplash$Street", "standing", "()I"⟩, 19), (⟨"KerbSplash", "needLaw", "(I)V"⟩, 14), (⟨"KerbSplash$Law", "value", "(I[I)I"⟩, 4), (⟨"KerbSplash", "isCar", "(IIII)Z"⟩, 14), (⟨"KerbSplash$Car", "become", "(IIII)V"⟩, 7), (⟨"KerbSplash$Car", "drive", "(LKerbSplash$Street;LKerbSplash$Law;)I"⟩, 7), (⟨"KerbSplash$Car", "come", "(LKerbSplash$Street;LKerbSplash$Law;I)V"⟩, 7), (⟨"KerbSplash$Street", "peopleAt", "(I)I"⟩, 19), (⟨"KerbSplash$Car", "see", "(LKerbSplash$Street;II)V"⟩, 7)]
theorem lw_r5 : ∀ q ∈ lw_privs_5, lw_okq q := List.forall_mem_cons.mpr ⟨lw_p64, List.forall_mem_cons.mpr ⟨lw_p65, List.forall_mem_cons.mpr ⟨lw_p66, List.forall_mem_cons.mpr ⟨lw_p67, List.forall_mem_cons.mpr ⟨lw_p68, List.forall_mem_cons.mpr ⟨lw_p69, List.forall_mem_cons.mpr ⟨lw_p70, List.forall_mem_cons.mpr ⟨lw_p71, List.forall_mem_cons.mpr ⟨lw_p72, List.forall_mem_cons.mpr ⟨lw_p73, List.forall_mem_cons.mpr ⟨lw_p74, List.forall_mem_cons.mpr ⟨lw_p75, List.forall_mem_cons.mpr ⟨lw_p76, List.forall_mem_cons.mpr ⟨lw_p77, List.forall_mem_cons.mpr ⟨lw_p78, List.forall_mem_cons.mpr ⟨lw_p79, fun _ h => absurd h List.not_mem_nil⟩⟩⟩⟩⟩⟩⟩⟩⟩⟩⟩⟩⟩⟩⟩⟩
set_option maxRecDepth 1000000 in
theorem lw_p80 : lw_okq (⟨"KerbSplash$Street", "throwFrom", "(III)V"⟩, 19) := ⟨⟨by decide +kernel, by decide +kernel⟩, tm_1 _ (List.mem_of_getElem? (i := 74) rfl), tm_5 _ (List.mem_of_getElem? (i := 146) rfl), tm_5 _ (List.mem_of_getElem? (i := 147) rfl)⟩
set_option maxRecDepth 1000000 in
theorem lw_p81 : lw_okq (⟨"KerbSplash$Car", "hit", "(LKerbSplash$Street;LKerbSplash$Law;I)I"⟩, 7) := ⟨⟨by decide +kernel, by decide +kernel⟩, tm_1 _ (List.mem_of_getElem? (i := 221) rfl), tm_5 _ (List.mem_of_getElem? (i := 150) rfl), tm_5 _ (List.mem_of_getElem? (i := 151) rfl)⟩
set_option maxRecDepth 1000000 in
theorem lw_p82 : lw_okq (⟨"KerbSplash$Street", "isSheltered", "(I)Z"⟩, 19) := ⟨⟨by decide +kernel, by decide +kernel⟩, tm_1 _ (List.mem_of_getElem? (i := 74) rfl), tm_5 _ (List.mem_of_getElem? (i := 154) rfl), tm_5 _ (List.mem_of_getElem? (i := 155) rfl)⟩
set_option maxRecDepth 1000000 in
theorem lw_p83 : lw_okq (⟨"KerbSplash$Plan", "addCar", "(IIIII)I"⟩, 5) := ⟨⟨by decide +kernel, by decide +kernel⟩, tm_1 _ (List.mem_of_getElem? (i := 181) rfl), tm_5 _ (List.mem_of_getElem? (i := 166) rfl), tm_5 _ (List.mem_of_getElem? (i := 167) rfl)⟩
set_option maxRecDepth 1000000 in
theorem lw_p84 : lw_okq (⟨"KerbSplash$WhatIf", "passTraffic", "(LKerbSplash$Street;LKerbSplash$Plan;LKerbSplash$Law;)I"⟩, 5) := ⟨⟨by decide +kernel, by decide +kernel⟩, tm_1 _ (List.mem_of_getElem? (i := 213) rfl), tm_5 _ (List.mem_of_getElem? (i := 177) rfl), tm_5 _ (List.mem_of_getElem? (i := 178) rfl)⟩
set_option maxRecDepth 1000000 in
theorem lw_p85 : lw_okq (⟨"KerbSplash$WhatIf", "depthBehind", "(LKerbSplash$Street;LKerbSplash$Rain;I)I"⟩, 5) := ⟨⟨by decide +kernel, by decide +kernel⟩, tm_1 _ (List.mem_of_getElem? (i := 213) rfl), tm_5 _ (List.mem_of_getElem? (i := 191) rfl), tm_5 _ (List.mem_of_getElem? (i := 192) rfl)⟩
set_option maxRecDepth 1000000 in
theorem lw_p86 : lw_okq (⟨"KerbSplash$WhatIf", "minuteOf", "(LKerbSplash$Street;LKerbSplash$Rain;II)I"⟩, 5) := ⟨⟨by decide +kernel, by decide +kernel⟩, tm_1 _ (List.mem_of_getElem? (i := 213) rfl), tm_5 _ (List.mem_of_getElem? (i := 204) rfl), tm_5 _ (List.mem_of_getElem? (i := 205) rfl)⟩
set_option maxRecDepth 1000000 in
theorem lw_p87 : lw_okq (⟨"KerbSplash$WhatIf", "findBlame", "(LKerbSplash$Street;LKerbSplash$Rain;I)V"⟩, 5) := ⟨⟨by decide +kernel, by decide +kernel⟩, tm_1 _ (List.mem_of_getElem? (i := 213) rfl), tm_5 _ (List.mem_of_getElem? (i := 217) rfl), tm_5 _ (List.mem_of_getElem? (i := 218) rfl)⟩
set_option maxRecDepth 1000000 in
theorem lw_p88 : lw_okq (⟨"KerbSplash$WhatIf", "answer", "(I)I"⟩, 5) := ⟨⟨by decide +kernel, by decide +kernel⟩, tm_1 _ (List.mem_of_getElem? (i := 213) rfl), tm_5 _ (List.mem_of_getElem? (i := 221) rfl), tm_5 _ (List.mem_of_getElem? (i := 222) rfl)⟩
set_option maxRecDepth 1000000 in
theorem lw_p89 : lw_okq (⟨"KerbSplash$WhatIf", "findLook", "(LKerbSplash$Street;LKerbSplash$Rain;)V"⟩, 5) := ⟨⟨by decide +kernel, by decide +kernel⟩, tm_1 _ (List.mem_of_getElem? (i := 213) rfl), tm_5 _ (List.mem_of_getElem? (i := 232) rfl), tm_5 _ (List.mem_of_getElem? (i := 233) rfl)⟩
set_option maxRecDepth 1000000 in
theorem lw_p90 : lw_okq (⟨"KerbSplash$WhatIf", "kindsAt", "(III)I"⟩, 5) := ⟨⟨by decide +kernel, by decide +kernel⟩, tm_1 _ (List.mem_of_getElem? (i := 213) rfl), tm_5 _ (List.mem_of_getElem? (i := 239) rfl), tm_6 _ (List.mem_of_getElem? (i := 0) rfl)⟩
set_option maxRecDepth 1000000 in
theorem lw_p91 : lw_okq (⟨"KerbSplash$WhatIf", "findStand", "(LKerbSplash$Street;LKerbSplash$Plan;LKerbSplash$Law;I)V"⟩, 5) := ⟨⟨by decide +kernel, by decide +kernel⟩, tm_1 _ (List.mem_of_getElem? (i := 213) rfl), tm_6 _ (List.mem_of_getElem? (i := 10) rfl), tm_6 _ (List.mem_of_getElem? (i := 11) rfl)⟩
set_option maxRecDepth 1000000 in
theorem lw_p92 : lw_okq (⟨"KerbSplash$Street", "guessPerson", "(II)V"⟩, 19) := ⟨⟨by decide +kernel, by decide +kernel⟩, tm_1 _ (List.mem_of_getElem? (i := 74) rfl), tm_6 _ (List.mem_of_getElem? (i := 15) rfl), tm_6 _ (List.mem_of_getElem? (i := 16) rfl)⟩
set_option maxRecDepth 1000000 in
theorem lw_p93 : lw_okq (⟨"KerbSplash$WhatIf", "greatestPace", "(LKerbSplash$Street;LKerbSplash$Law;III)I"⟩, 5) := ⟨⟨by decide +kernel, by decide +kernel⟩, tm_1 _ (List.mem_of_getElem? (i := 213) rfl), tm_6 _ (List.mem_of_getElem? (i := 27) rfl), tm_6 _ (List.mem_of_getElem? (i := 28) rfl)⟩
set_option maxRecDepth 1000000 in
theorem lw_p94 : lw_okq (⟨"KerbSplash$WhatIf", "findStep", "(LKerbSplash$Street;LKerbSplash$Plan;LKerbSplash$Law;)V"⟩, 5) := ⟨⟨by decide +kernel, by decide +kernel⟩, tm_1 _ (List.mem_of_getElem? (i := 213) rfl), tm_6 _ (List.mem_of_getElem? (i := 38) rfl), tm_6 _ (List.mem_of_getElem? (i := 39) rfl)⟩
set_option maxRecDepth 1000000 in
theorem lw_p95 : lw_okq (⟨"KerbSplash$Street", "canStep", "(I)Z"⟩, 19) := ⟨⟨by decide +kernel, by decide +kernel⟩, tm_1 _ (List.mem_of_getElem? (i := 74) rfl), tm_6 _ (List.mem_of_getElem? (i := 42) rfl), tm_6 _ (List.mem_of_getElem? (i := 43) rfl)⟩
def lw_privs_6 : List (MethodName × Nat) := [(⟨"KerbSplash$Street", "throwFrom", "(III)V"⟩, 19), (⟨"KerbSplash$Car", "hit", "(LKerbSplash$Street;LKerbSplash$Law;I)I"⟩, 7), (⟨"KerbSplash$Street", "isSheltered", "(I)Z"⟩, 19), (⟨"KerbSplash$Plan", "addCar", "(IIIII)I"⟩, 5), (⟨"KerbSplash$WhatIf", "passTraffic", "(LKerbSplash$Street;LKerbSplash$Plan;LKerbSplash$Law;)I"⟩, 5), (⟨"KerbSplash$WhatIf", "depthBehind", "(LKerbSplash$Street;LKerbSplash$Rain;I)I"⟩, 5), (⟨"KerbSplash$WhatIf", "minuteOf", "(LKerbSplash$Street;LKerbSplash$Rain;II)I"⟩, 5), (⟨"KerbSplash$WhatIf", "findBlame", "(LKerbSplash$Street;LKerbSplash$Rain;I)V"⟩, 5), (⟨"KerbSplash$WhatIf", "answer", "(I)I"⟩, 5), (⟨"KerbSplash$WhatIf", "findLook", "(LKerbSplash$Street;LKerbSplash$Rain;)V"⟩, 5), (⟨"KerbSplash$WhatIf", "kindsAt", "(III)I"⟩, 5), (⟨"KerbSplash$WhatIf", "findStand", "(LKerbSplash$Street;LKerbSplash$Plan;LKerbSplash$Law;I)V"⟩, 5), (⟨"KerbSplash$Street", "guessPerson", "(II)V"⟩, 19), (⟨"KerbSplash$WhatIf", "greatestPace", "(LKerbSplash$Street;LKerbSplash$Law;III)I"⟩, 5), (⟨"KerbSplash$WhatIf", "findStep", "(LKerbSplash$Street;LKerbSplash$Plan;LKerbSplash$Law;)V"⟩, 5), (⟨"KerbSplash$Street", "canStep", "(I)Z"⟩, 19)]
theorem lw_r6 : ∀ q ∈ lw_privs_6, lw_okq q := List.forall_mem_cons.mpr ⟨lw_p80, List.forall_mem_cons.mpr ⟨lw_p81, List.forall_mem_cons.mpr ⟨lw_p82, List.forall_mem_cons.mpr ⟨lw_p83, List.forall_mem_cons.mpr ⟨lw_p84, List.forall_mem_cons.mpr ⟨lw_p85, List.forall_mem_cons.mpr ⟨lw_p86, List.forall_mem_cons.mpr ⟨lw_p87, List.forall_mem_cons.mpr ⟨lw_p88, List.forall_mem_cons.mpr ⟨lw_p89, List.forall_mem_cons.mpr ⟨lw_p90, List.forall_mem_cons.mpr ⟨lw_p91, List.forall_mem_cons.mpr ⟨lw_p92, List.forall_mem_cons.mpr ⟨lw_p93, List.forall_mem_cons.mpr ⟨lw_p94, List.forall_mem_cons.mpr ⟨lw_p95, fun _ h => absurd h List.not_mem_nil⟩⟩⟩⟩⟩⟩⟩⟩⟩⟩⟩⟩⟩⟩⟩⟩
set_option maxRecDepth 1000000 in
theorem lw_p96 : lw_okq (⟨"KerbSplash$Street", "stepAll", "(I)V"⟩, 19) := ⟨⟨by decide +kernel, by decide +kernel⟩, tm_1 _ (List.mem_of_getElem? (i := 74) rfl), tm_6 _ (List.mem_of_getElem? (i := 46) rfl), tm_6 _ (List.mem_of_getElem? (i := 47) rfl)⟩
set_option maxRecDepth 1000000 in
theorem lw_p97 : lw_okq (⟨"KerbSplash$WhatIf", "findMend", "(LKerbSplash$Street;LKerbSplash$Rain;II)V"⟩, 5) := ⟨⟨by decide +kernel, by decide +kernel⟩, tm_1 _ (List.mem_of_getElem? (i := 213) rfl), tm_6 _ (List.mem_of_getElem? (i := 57) rfl), tm_6 _ (List.mem_of_getElem? (i := 58) rfl)⟩
set_option maxRecDepth 1000000 in
theorem lw_p98 : lw_okq (⟨"KerbSplash$WhatIf", "nextRank", "(LKerbSplash$Street;I)I"⟩, 5) := ⟨⟨by decide +kernel, by decide +kernel⟩, tm_1 _ (List.mem_of_getElem? (i := 213) rfl), tm_6 _ (List.mem_of_getElem? (i := 61) rfl), tm_6 _ (List.mem_of_getElem? (i := 62) rfl)⟩
set_option maxRecDepth 1000000 in
theorem lw_p99 : lw_okq (⟨"KerbSplash$Street", "coinOf", "(I)I"⟩, 19) := ⟨⟨by decide +kernel, by decide +kernel⟩, tm_1 _ (List.mem_of_getElem? (i := 74) rfl), tm_6 _ (List.mem_of_getElem? (i := 65) rfl), tm_6 _ (List.mem_of_getElem? (i := 66) rfl)⟩
set_option maxRecDepth 1000000 in
theorem lw_p100 : lw_okq (⟨"KerbSplash$Street", "doWorks", "(I)V"⟩, 19) := ⟨⟨by decide +kernel, by decide +kernel⟩, tm_1 _ (List.mem_of_getElem? (i := 74) rfl), tm_6 _ (List.mem_of_getElem? (i := 69) rfl), tm_6 _ (List.mem_of_getElem? (i := 70) rfl)⟩
set_option maxRecDepth 1000000 in
theorem lw_p101 : lw_okq (⟨"KerbSplash$WhatIf", "shareMeant", "(LKerbSplash$Street;LKerbSplash$Plan;LKerbSplash$Law;III)I"⟩, 5) := ⟨⟨by decide +kernel, by decide +kernel⟩, tm_1 _ (List.mem_of_getElem? (i := 213) rfl), tm_6 _ (List.mem_of_getElem? (i := 88) rfl), tm_6 _ (List.mem_of_getElem? (i := 89) rfl)⟩
set_option maxRecDepth 1000000 in
theorem lw_p102 : lw_okq (⟨"KerbSplash$Plan", "addDip", "(III)I"⟩, 5) := ⟨⟨by decide +kernel, by decide +kernel⟩, tm_1 _ (List.mem_of_getElem? (i := 181) rfl), tm_6 _ (List.mem_of_getElem? (i := 100) rfl), tm_6 _ (List.mem_of_getElem? (i := 101) rfl)⟩
set_option maxRecDepth 1000000 in
theorem lw_p103 : lw_okq (⟨"KerbSplash$Orders", "findFirst", "(LKerbSplash$Plan;)V"⟩, 4) := ⟨⟨by decide +kernel, by decide +kernel⟩, tm_2 _ (List.mem_of_getElem? (i := 30) rfl), tm_6 _ (List.mem_of_getElem? (i := 111) rfl), tm_6 _ (List.mem_of_getElem? (i := 112) rfl)⟩
set_option maxRecDepth 1000000 in
theorem lw_p104 : lw_okq (⟨"KerbSplash$Orders", "bestNext", "(LKerbSplash$Plan;I)I"⟩, 4) := ⟨⟨by decide +kernel, by decide +kernel⟩, tm_2 _ (List.mem_of_getElem? (i := 30) rfl), tm_6 _ (List.mem_of_getElem? (i := 115) rfl), tm_6 _ (List.mem_of_getElem? (i := 116) rfl)⟩
set_option maxRecDepth 1000000 in
theorem lw_p105 : lw_okq (⟨"KerbSplash$Orders", "weigh", "(LKerbSplash$Plan;II)I"⟩, 4) := ⟨⟨by decide +kernel, by decide +kernel⟩, tm_2 _ (List.mem_of_getElem? (i := 30) rfl), tm_6 _ (List.mem_of_getElem? (i := 120) rfl), tm_6 _ (List.mem_of_getElem? (i := 121) rfl)⟩
set_option maxRecDepth 1000000 in
theorem lw_p106 : lw_okq (⟨"KerbSplash$Orders", "findSweeping", "(LKerbSplash$Street;)V"⟩, 4) := ⟨⟨by decide +kernel, by decide +kernel⟩, tm_2 _ (List.mem_of_getElem? (i := 30) rfl), tm_6 _ (List.mem_of_getElem? (i := 135) rfl), tm_6 _ (List.mem_of_getElem? (i := 136) rfl)⟩
set_option maxRecDepth 1000000 in
theorem lw_p107 : lw_okq (⟨"KerbSplash$Orders", "goOn", "(LKerbSplash$Street;IIII)V"⟩, 4) := ⟨⟨by decide +kernel, by decide +kernel⟩, tm_2 _ (List.mem_of_getElem? (i := 30) rfl), tm_6 _ (List.mem_of_getElem? (i := 139) rfl), tm_6 _ (List.mem_of_getElem? (i := 140) rfl)⟩
set_option maxRecDepth 1000000 in
theorem lw_p108 : lw_okq (⟨"KerbSplash$Street", "iceCells", "(I)I"⟩, 19) := ⟨⟨by decide +kernel, by decide +kernel⟩, tm_1 _ (List.mem_of_getElem? (i := 74) rfl), tm_6 _ (List.mem_of_getElem? (i := 159) rfl), tm_6 _ (List.mem_of_getElem? (i := 160) rfl)⟩
set_option maxRecDepth 1000000 in
theorem lw_p109 : lw_okq (⟨"KerbSplash$Street", "longestIce", "(I)I"⟩, 19) := ⟨⟨by decide +kernel, by decide +kernel⟩, tm_1 _ (List.mem_of_getElem? (i := 74) rfl), tm_6 _ (List.mem_of_getElem? (i := 163) rfl), tm_6 _ (List.mem_of_getElem? (i := 164) rfl)⟩
set_option maxRecDepth 1000000 in
theorem lw_p110 : lw_okq (⟨"KerbSplash$Street", "personsOnIce", "(I)I"⟩, 19) := ⟨⟨by decide +kernel, by decide +kernel⟩, tm_1 _ (List.mem_of_getElem? (i := 74) rfl), tm_6 _ (List.mem_of_getElem? (i := 168) rfl), tm_6 _ (List.mem_of_getElem? (i := 169) rfl)⟩
set_option maxRecDepth 1000000 in
theorem lw_p111 : lw_okq (⟨"KerbSplashModel", "may", "(ZII)Z"⟩, 38) := ⟨⟨by decide +kernel, by decide +kernel⟩, tm_6 _ (List.mem_of_getElem? (i := 172) rfl), tm_7 _ (List.mem_of_getElem? (i := 65) rfl), tm_7 _ (List.mem_of_getElem? (i := 66) rfl)⟩
def lw_privs_7 : List (MethodName × Nat) := [(⟨"KerbSplash$Street", "stepAll", "(I)V"⟩, 19), (⟨"KerbSplash$WhatIf", "findMend", "(LKerbSplash$Street;LKerbSplash$Rain;II)V"⟩, 5), (⟨"KerbSplash$WhatIf", "nextRank", "(LKerbSplash$Street;I)I"⟩, 5), (⟨"KerbSplash$Street", "coinOf", "(I)I"⟩, 19), (⟨"KerbSplash$Street", "doWorks", "(I)V"⟩, 19), (⟨"KerbSplash$WhatIf", "shareMeant", "(LKerbSplash$Street;LKerbSplash$Plan;LKerbSplash$Law;III)I"⟩, 5), (⟨"KerbSplash$Plan", "addDip", "(III)I"⟩, 5), (⟨"KerbSplash$Orders", "findFirst", "(LKerbSplash$Plan;)V"⟩, 4), (⟨"KerbSplash$Orders", "bestNext", "(LKerbSplash$Plan;I)I"⟩, 4), (⟨"KerbSplash$Orders", "weigh", "(LKerbSplash$Plan;II)I"⟩, 4), (⟨"KerbSplash$Orders", "findSweeping", "(LKerbSplash$Street;)V"⟩, 4), (⟨"KerbSplash$Orders", "goOn", "(LKerbSplash$Street;IIII)V"⟩, 4), (⟨"KerbSplash$Street", "iceCells", "(I)I"⟩, 19), (⟨"KerbSplash$Street", "longestIce", "(I)I"⟩, 19), (⟨"KerbSplash$Street", "personsOnIce", "(I)I"⟩, 19), (⟨"KerbSplashModel", "may", "(ZII)Z"⟩, 38)]
theorem lw_r7 : ∀ q ∈ lw_privs_7, lw_okq q := List.forall_mem_cons.mpr ⟨lw_p96, List.forall_mem_cons.mpr ⟨lw_p97, List.forall_mem_cons.mpr ⟨lw_p98, List.forall_mem_cons.mpr ⟨lw_p99, List.forall_mem_cons.mpr ⟨lw_p100, List.forall_mem_cons.mpr ⟨lw_p101, List.forall_mem_cons.mpr ⟨lw_p102, List.forall_mem_cons.mpr ⟨lw_p103, List.forall_mem_cons.mpr ⟨lw_p104, List.forall_mem_cons.mpr ⟨lw_p105, List.forall_mem_cons.mpr ⟨lw_p106, List.forall_mem_cons.mpr ⟨lw_p107, List.forall_mem_cons.mpr ⟨lw_p108, List.forall_mem_cons.mpr ⟨lw_p109, List.forall_mem_cons.mpr ⟨lw_p110, List.forall_mem_cons.mpr ⟨lw_p111, fun _ h => absurd h List.not_mem_nil⟩⟩⟩⟩⟩⟩⟩⟩⟩⟩⟩⟩⟩⟩⟩⟩
set_option maxRecDepth 1000000 in
theorem lw_p112 : lw_okq (⟨"KerbSplashModel", "begins", "(I)V"⟩, 38) := ⟨⟨by decide +kernel, by decide +kernel⟩, tm_6 _ (List.mem_of_getElem? (i := 172) rfl), tm_7 _ (List.mem_of_getElem? (i := 69) rfl), tm_7 _ (List.mem_of_getElem? (i := 70) rfl)⟩
set_option maxRecDepth 1000000 in
theorem lw_p113 : lw_okq (⟨"KerbSplashModel", "fine", "()Z"⟩, 38) := ⟨⟨by decide +kernel, by decide +kernel⟩, tm_6 _ (List.mem_of_getElem? (i := 172) rfl), tm_7 _ (List.mem_of_getElem? (i := 73) rfl), tm_7 _ (List.mem_of_getElem? (i := 74) rfl)⟩
set_option maxRecDepth 1000000 in
theorem lw_p114 : lw_okq (⟨"KerbSplashModel", "isMore", "()Z"⟩, 38) := ⟨⟨by decide +kernel, by decide +kernel⟩, tm_6 _ (List.mem_of_getElem? (i := 172) rfl), tm_7 _ (List.mem_of_getElem? (i := 77) rfl), tm_7 _ (List.mem_of_getElem? (i := 78) rfl)⟩
set_option maxRecDepth 1000000 in
theorem lw_p115 : lw_okq (⟨"KerbSplashModel", "here", "()I"⟩, 38) := ⟨⟨by decide +kernel, by decide +kernel⟩, tm_6 _ (List.mem_of_getElem? (i := 172) rfl), tm_7 _ (List.mem_of_getElem? (i := 81) rfl), tm_7 _ (List.mem_of_getElem? (i := 82) rfl)⟩
set_option maxRecDepth 1000000 in
theorem lw_p116 : lw_okq (⟨"KerbSplashModel", "word", "()I"⟩, 38) := ⟨⟨by decide +kernel, by decide +kernel⟩, tm_6 _ (List.mem_of_getElem? (i := 172) rfl), tm_7 _ (List.mem_of_getElem? (i := 85) rfl), tm_7 _ (List.mem_of_getElem? (i := 86) rfl)⟩
set_option maxRecDepth 1000000 in
theorem lw_p117 : lw_okq (⟨"KerbSplashModel", "isWord", "(Ljava/lang/String;)Z"⟩, 38) := ⟨⟨by decide +kernel, by decide +kernel⟩, tm_6 _ (List.mem_of_getElem? (i := 172) rfl), tm_7 _ (List.mem_of_getElem? (i := 93) rfl), tm_7 _ (List.mem_of_getElem? (i := 94) rfl)⟩
set_option maxRecDepth 1000000 in
theorem lw_p118 : lw_okq (⟨"KerbSplashModel", "wrong", "(II)V"⟩, 38) := ⟨⟨by decide +kernel, by decide +kernel⟩, tm_6 _ (List.mem_of_getElem? (i := 172) rfl), tm_7 _ (List.mem_of_getElem? (i := 113) rfl), tm_7 _ (List.mem_of_getElem? (i := 114) rfl)⟩
set_option maxRecDepth 1000000 in
theorem lw_p119 : lw_okq (⟨"KerbSplashModel", "readClause", "(Z)V"⟩, 38) := ⟨⟨by decide +kernel, by decide +kernel⟩, tm_6 _ (List.mem_of_getElem? (i := 172) rfl), tm_7 _ (List.mem_of_getElem? (i := 117) rfl), tm_7 _ (List.mem_of_getElem? (i := 118) rfl)⟩
set_option maxRecDepth 1000000 in
theorem lw_p120 : lw_okq (⟨"KerbSplashModel", "pass", "()V"⟩, 38) := ⟨⟨by decide +kernel, by decide +kernel⟩, tm_6 _ (List.mem_of_getElem? (i := 172) rfl), tm_7 _ (List.mem_of_getElem? (i := 121) rfl), tm_7 _ (List.mem_of_getElem? (i := 122) rfl)⟩
set_option maxRecDepth 1000000 in
theorem lw_p121 : lw_okq (⟨"KerbSplashModel", "readShelter", "()V"⟩, 38) := ⟨⟨by decide +kernel, by decide +kernel⟩, tm_6 _ (List.mem_of_getElem? (i := 172) rfl), tm_7 _ (List.mem_of_getElem? (i := 125) rfl), tm_7 _ (List.mem_of_getElem? (i := 126) rfl)⟩
set_option maxRecDepth 1000000 in
theorem lw_p122 : lw_okq (⟨"KerbSplashModel", "readX", "()I"⟩, 38) := ⟨⟨by decide +kernel, by decide +kernel⟩, tm_6 _ (List.mem_of_getElem? (i := 172) rfl), tm_7 _ (List.mem_of_getElem? (i := 129) rfl), tm_7 _ (List.mem_of_getElem? (i := 130) rfl)⟩
set_option maxRecDepth 1000000 in
theorem lw_p123 : lw_okq (⟨"KerbSplashModel", "readNumber", "(II)I"⟩, 38) := ⟨⟨by decide +kernel, by decide +kernel⟩, tm_6 _ (List.mem_of_getElem? (i := 172) rfl), tm_7 _ (List.mem_of_getElem? (i := 133) rfl), tm_7 _ (List.mem_of_getElem? (i := 134) rfl)⟩
set_option maxRecDepth 1000000 in
theorem lw_p124 : lw_okq (⟨"KerbSplashModel", "readY", "()I"⟩, 38) := ⟨⟨by decide +kernel, by decide +kernel⟩, tm_6 _ (List.mem_of_getElem? (i := 172) rfl), tm_7 _ (List.mem_of_getElem? (i := 140) rfl), tm_7 _ (List.mem_of_getElem? (i := 141) rfl)⟩
set_option maxRecDepth 1000000 in
theorem lw_p125 : lw_okq (⟨"KerbSplashModel", "readDrain", "()V"⟩, 38) := ⟨⟨by decide +kernel, by decide +kernel⟩, tm_6 _ (List.mem_of_getElem? (i := 172) rfl), tm_7 _ (List.mem_of_getElem? (i := 144) rfl), tm_7 _ (List.mem_of_getElem? (i := 145) rfl)⟩
set_option maxRecDepth 1000000 in
theorem lw_p126 : lw_okq (⟨"KerbSplashModel", "readPerson", "()V"⟩, 38) := ⟨⟨by decide +kernel, by decide +kernel⟩, tm_6 _ (List.mem_of_getElem? (i := 172) rfl), tm_7 _ (List.mem_of_getElem? (i := 148) rfl), tm_7 _ (List.mem_of_getElem? (i := 149) rfl)⟩
set_option maxRecDepth 1000000 in
theorem lw_p127 : lw_okq (⟨"KerbSplashModel", "readWork", "(I)V"⟩, 38) := ⟨⟨by decide +kernel, by decide +kernel⟩, tm_6 _ (List.mem_of_getElem? (i := 172) rfl), tm_7 _ (List.mem_of_getElem? (i := 152) rfl), tm_7 _ (List.mem_of_getElem? (i := 153) rfl)⟩
def lw_privs_8 : List (MethodName × Nat) := [(⟨"KerbSplashModel", "begins", "(I)V"⟩, 38), (⟨"KerbSplashModel", "fine", "()Z"⟩, 38), (⟨"KerbSplashModel", "isMore", "()Z"⟩, 38), (⟨"KerbSplashModel", "here", "()I"⟩, 38), (⟨"KerbSplashModel", "word", "()I"⟩, 38), (⟨"KerbSplashModel", "isWord", "(Ljava/lang/String;)Z"⟩, 38), (⟨"KerbSplashModel", "wrong", "(II)V"⟩, 38), (⟨"KerbSplashModel", "readClause", "(Z)V"⟩, 38), (⟨"KerbSplashModel", "pass", "()V"⟩, 38), (⟨"KerbSplashModel", "readShelter", "()V"⟩, 38), (⟨"KerbSplashModel", "readX", "()I"⟩, 38), (⟨"KerbSplashModel", "readNumber", "(II)I"⟩, 38), (⟨"KerbSplashModel", "readY", "()I"⟩, 38), (⟨"KerbSplashModel", "readDrain", "()V"⟩, 38), (⟨"KerbSplashModel", "readPerson", "()V"⟩, 38), (⟨"KerbSplashModel", "readWork", "(I)V"⟩, 38)]
theorem lw_r8 : ∀ q ∈ lw_privs_8, lw_okq q := List.forall_mem_cons.mpr ⟨lw_p112, List.forall_mem_cons.mpr ⟨lw_p113, List.forall_mem_cons.mpr ⟨lw_p114, List.forall_mem_cons.mpr ⟨lw_p115, List.forall_mem_cons.mpr ⟨lw_p116, List.forall_mem_cons.mpr ⟨lw_p117, List.forall_mem_cons.mpr ⟨lw_p118, List.forall_mem_cons.mpr ⟨lw_p119, List.forall_mem_cons.mpr ⟨lw_p120, List.forall_mem_cons.mpr ⟨lw_p121, List.forall_mem_cons.mpr ⟨lw_p122, List.forall_mem_cons.mpr ⟨lw_p123, List.forall_mem_cons.mpr ⟨lw_p124, List.forall_mem_cons.mpr ⟨lw_p125, List.forall_mem_cons.mpr ⟨lw_p126, List.forall_mem_cons.mpr ⟨lw_p127, fun _ h => absurd h List.not_mem_nil⟩⟩⟩⟩⟩⟩⟩⟩⟩⟩⟩⟩⟩⟩⟩⟩
set_option maxRecDepth 1000000 in
theorem lw_p128 : lw_okq (⟨"KerbSplashModel", "sign", "(I)V"⟩, 38) := ⟨⟨by decide +kernel, by decide +kernel⟩, tm_6 _ (List.mem_of_getElem? (i := 172) rfl), tm_7 _ (List.mem_of_getElem? (i := 156) rfl), tm_7 _ (List.mem_of_getElem? (i := 157) rfl)⟩
set_option maxRecDepth 1000000 in
theorem lw_p129 : lw_okq (⟨"KerbSplashModel", "result", "(I)I"⟩, 38) := ⟨⟨by decide +kernel, by decide +kernel⟩, tm_6 _ (List.mem_of_getElem? (i := 172) rfl), tm_7 _ (List.mem_of_getElem? (i := 160) rfl), tm_7 _ (List.mem_of_getElem? (i := 161) rfl)⟩
set_option maxRecDepth 1000000 in
theorem lw_p130 : lw_okq (⟨"KerbSplashModel", "whole", "()V"⟩, 38) := ⟨⟨by decide +kernel, by decide +kernel⟩, tm_6 _ (List.mem_of_getElem? (i := 172) rfl), tm_7 _ (List.mem_of_getElem? (i := 178) rfl), tm_7 _ (List.mem_of_getElem? (i := 179) rfl)⟩
set_option maxRecDepth 1000000 in
theorem lw_p131 : lw_okq (⟨"KerbSplashModel", "opensOne", "(I)V"⟩, 38) := ⟨⟨by decide +kernel, by decide +kernel⟩, tm_6 _ (List.mem_of_getElem? (i := 172) rfl), tm_7 _ (List.mem_of_getElem? (i := 183) rfl), tm_7 _ (List.mem_of_getElem? (i := 184) rfl)⟩
set_option maxRecDepth 1000000 in
theorem lw_p132 : lw_okq (⟨"KerbSplashModel", "anyOf", "()V"⟩, 38) := ⟨⟨by decide +kernel, by decide +kernel⟩, tm_6 _ (List.mem_of_getElem? (i := 172) rfl), tm_7 _ (List.mem_of_getElem? (i := 187) rfl), tm_7 _ (List.mem_of_getElem? (i := 188) rfl)⟩
set_option maxRecDepth 1000000 in
theorem lw_p133 : lw_okq (⟨"KerbSplashModel", "allOf", "()V"⟩, 38) := ⟨⟨by decide +kernel, by decide +kernel⟩, tm_6 _ (List.mem_of_getElem? (i := 172) rfl), tm_7 _ (List.mem_of_getElem? (i := 191) rfl), tm_7 _ (List.mem_of_getElem? (i := 192) rfl)⟩
set_option maxRecDepth 1000000 in
theorem lw_p134 : lw_okq (⟨"KerbSplashModel", "oneOf", "()V"⟩, 38) := ⟨⟨by decide +kernel, by decide +kernel⟩, tm_6 _ (List.mem_of_getElem? (i := 172) rfl), tm_7 _ (List.mem_of_getElem? (i := 195) rfl), tm_7 _ (List.mem_of_getElem? (i := 196) rfl)⟩
set_option maxRecDepth 1000000 in
theorem lw_p135 : lw_okq (⟨"KerbSplashModel", "emit", "(II)V"⟩, 38) := ⟨⟨by decide +kernel, by decide +kernel⟩, tm_6 _ (List.mem_of_getElem? (i := 172) rfl), tm_7 _ (List.mem_of_getElem? (i := 200) rfl), tm_7 _ (List.mem_of_getElem? (i := 201) rfl)⟩
set_option maxRecDepth 1000000 in
theorem lw_p136 : lw_okq (⟨"KerbSplashModel", "keyword", "(I)V"⟩, 38) := ⟨⟨by decide +kernel, by decide +kernel⟩, tm_6 _ (List.mem_of_getElem? (i := 172) rfl), tm_7 _ (List.mem_of_getElem? (i := 207) rfl), tm_7 _ (List.mem_of_getElem? (i := 208) rfl)⟩
set_option maxRecDepth 1000000 in
theorem lw_p137 : lw_okq (⟨"KerbSplashModel", "product", "()V"⟩, 38) := ⟨⟨by decide +kernel, by decide +kernel⟩, tm_6 _ (List.mem_of_getElem? (i := 172) rfl), tm_7 _ (List.mem_of_getElem? (i := 212) rfl), tm_7 _ (List.mem_of_getElem? (i := 213) rfl)⟩
set_option maxRecDepth 1000000 in
theorem lw_p138 : lw_okq (⟨"KerbSplashModel", "unit", "()V"⟩, 38) := ⟨⟨by decide +kernel, by decide +kernel⟩, tm_6 _ (List.mem_of_getElem? (i := 172) rfl), tm_7 _ (List.mem_of_getElem? (i := 216) rfl), tm_7 _ (List.mem_of_getElem? (i := 217) rfl)⟩
set_option maxRecDepth 1000000 in
theorem lw_p139 : lw_okq (⟨"KerbSplashModel", "nameHere", "()I"⟩, 38) := ⟨⟨by decide +kernel, by decide +kernel⟩, tm_6 _ (List.mem_of_getElem? (i := 172) rfl), tm_7 _ (List.mem_of_getElem? (i := 220) rfl), tm_7 _ (List.mem_of_getElem? (i := 221) rfl)⟩
set_option maxRecDepth 1000000 in
theorem lw_p140 : lw_okq (⟨"KerbSplashModel", "drains", "()I"⟩, 38) := ⟨⟨by decide +kernel, by decide +kernel⟩, tm_6 _ (List.mem_of_getElem? (i := 172) rfl), tm_7 _ (List.mem_of_getElem? (i := 237) rfl), tm_7 _ (List.mem_of_getElem? (i := 238) rfl)⟩
set_option maxRecDepth 1000000 in
theorem lw_p141 : lw_okq (⟨"KerbSplashModel", "isCell", "(III)Z"⟩, 38) := ⟨⟨by decide +kernel, by decide +kernel⟩, tm_6 _ (List.mem_of_getElem? (i := 172) rfl), tm_8 _ (List.mem_of_getElem? (i := 5) rfl), tm_8 _ (List.mem_of_getElem? (i := 6) rfl)⟩
set_option maxRecDepth 1000000 in
theorem lw_p142 : lw_okq (⟨"KerbSplashModel", "surface", "(I)I"⟩, 38) := ⟨⟨by decide +kernel, by decide +kernel⟩, tm_6 _ (List.mem_of_getElem? (i := 172) rfl), tm_8 _ (List.mem_of_getElem? (i := 12) rfl), tm_8 _ (List.mem_of_getElem? (i := 13) rfl)⟩
set_option maxRecDepth 1000000 in
theorem lw_p143 : lw_okq (⟨"KerbSplashModel", "leavesOf", "(I)I"⟩, 38) := ⟨⟨by decide +kernel, by decide +kernel⟩, tm_6 _ (List.mem_of_getElem? (i := 172) rfl), tm_8 _ (List.mem_of_getElem? (i := 20) rfl), tm_8 _ (List.mem_of_getElem? (i := 21) rfl)⟩
def lw_privs_9 : List (MethodName × Nat) := [(⟨"KerbSplashModel", "sign", "(I)V"⟩, 38), (⟨"KerbSplashModel", "result", "(I)I"⟩, 38), (⟨"KerbSplashModel", "whole", "()V"⟩, 38), (⟨"KerbSplashModel", "opensOne", "(I)V"⟩, 38), (⟨"KerbSplashModel", "anyOf", "()V"⟩, 38), (⟨"KerbSplashModel", "allOf", "()V"⟩, 38), (⟨"KerbSplashModel", "oneOf", "()V"⟩, 38), (⟨"KerbSplashModel", "emit", "(II)V"⟩, 38), (⟨"KerbSplashModel", "keyword", "(I)V"⟩, 38), (⟨"KerbSplashModel", "product", "()V"⟩, 38), (⟨"KerbSplashModel", "unit", "()V"⟩, 38), (⟨"KerbSplashModel", "nameHere", "()I"⟩, 38), (⟨"KerbSplashModel", "drains", "()I"⟩, 38), (⟨"KerbSplashModel", "isCell", "(III)Z"⟩, 38), (⟨"KerbSplashModel", "surface", "(I)I"⟩, 38), (⟨"KerbSplashModel", "leavesOf", "(I)I"⟩, 38)]
theorem lw_r9 : ∀ q ∈ lw_privs_9, lw_okq q := List.forall_mem_cons.mpr ⟨lw_p128, List.forall_mem_cons.mpr ⟨lw_p129, List.forall_mem_cons.mpr ⟨lw_p130, List.forall_mem_cons.mpr ⟨lw_p131, List.forall_mem_cons.mpr ⟨lw_p132, List.forall_mem_cons.mpr ⟨lw_p133, List.forall_mem_cons.mpr ⟨lw_p134, List.forall_mem_cons.mpr ⟨lw_p135, List.forall_mem_cons.mpr ⟨lw_p136, List.forall_mem_cons.mpr ⟨lw_p137, List.forall_mem_cons.mpr ⟨lw_p138, List.forall_mem_cons.mpr ⟨lw_p139, List.forall_mem_cons.mpr ⟨lw_p140, List.forall_mem_cons.mpr ⟨lw_p141, List.forall_mem_cons.mpr ⟨lw_p142, List.forall_mem_cons.mpr ⟨lw_p143, fun _ h => absurd h List.not_mem_nil⟩⟩⟩⟩⟩⟩⟩⟩⟩⟩⟩⟩⟩⟩⟩⟩
set_option maxRecDepth 1000000 in
theorem lw_p144 : lw_okq (⟨"KerbSplashModel", "drainTold", "(II)I"⟩, 38) := ⟨⟨by decide +kernel, by decide +kernel⟩, tm_6 _ (List.mem_of_getElem? (i := 172) rfl), tm_8 _ (List.mem_of_getElem? (i := 24) rfl), tm_8 _ (List.mem_of_getElem? (i := 25) rfl)⟩
set_option maxRecDepth 1000000 in
theorem lw_p145 : lw_okq (⟨"KerbSplashModel", "isWork", "(I)Z"⟩, 38) := ⟨⟨by decide +kernel, by decide +kernel⟩, tm_6 _ (List.mem_of_getElem? (i := 172) rfl), tm_8 _ (List.mem_of_getElem? (i := 40) rfl), tm_8 _ (List.mem_of_getElem? (i := 41) rfl)⟩
set_option maxRecDepth 1000000 in
theorem lw_p146 : lw_okq (⟨"KerbSplashModel", "works", "(I)V"⟩, 38) := ⟨⟨by decide +kernel, by decide +kernel⟩, tm_6 _ (List.mem_of_getElem? (i := 172) rfl), tm_8 _ (List.mem_of_getElem? (i := 48) rfl), tm_8 _ (List.mem_of_getElem? (i := 49) rfl)⟩
set_option maxRecDepth 1000000 in
theorem lw_p147 : lw_okq (⟨"KerbSplashModel", "isNow", "(I)Z"⟩, 38) := ⟨⟨by decide +kernel, by decide +kernel⟩, tm_6 _ (List.mem_of_getElem? (i := 172) rfl), tm_8 _ (List.mem_of_getElem? (i := 56) rfl), tm_8 _ (List.mem_of_getElem? (i := 57) rfl)⟩
set_option maxRecDepth 1000000 in
theorem lw_p148 : lw_okq (⟨"KerbSplashModel", "minute", "(I)V"⟩, 38) := ⟨⟨by decide +kernel, by decide +kernel⟩, tm_6 _ (List.mem_of_getElem? (i := 172) rfl), tm_8 _ (List.mem_of_getElem? (i := 60) rfl), tm_8 _ (List.mem_of_getElem? (i := 61) rfl)⟩
set_option maxRecDepth 1000000 in
theorem lw_p149 : lw_okq (⟨"KerbSplashModel", "round", "()V"⟩, 38) := ⟨⟨by decide +kernel, by decide +kernel⟩, tm_6 _ (List.mem_of_getElem? (i := 172) rfl), tm_8 _ (List.mem_of_getElem? (i := 64) rfl), tm_8 _ (List.mem_of_getElem? (i := 65) rfl)⟩
set_option maxRecDepth 1000000 in
theorem lw_p150 : lw_okq (⟨"KerbSplashModel", "runsTo", "(II)V"⟩, 38) := ⟨⟨by decide +kernel, by decide +kernel⟩, tm_6 _ (List.mem_of_getElem? (i := 172) rfl), tm_8 _ (List.mem_of_getElem? (i := 68) rfl), tm_8 _ (List.mem_of_getElem? (i := 69) rfl)⟩
set_option maxRecDepth 1000000 in
theorem lw_p151 : lw_okq (⟨"KerbSplashModel", "isRain", "(II)Z"⟩, 38) := ⟨⟨by decide +kernel, by decide +kernel⟩, tm_6 _ (List.mem_of_getElem? (i := 172) rfl), tm_8 _ (List.mem_of_getElem? (i := 76) rfl), tm_8 _ (List.mem_of_getElem? (i := 77) rfl)⟩
set_option maxRecDepth 1000000 in
theorem lw_p152 : lw_okq (⟨"KerbSplashModel", "showers", "(I)I"⟩, 38) := ⟨⟨by decide +kernel, by decide +kernel⟩, tm_6 _ (List.mem_of_getElem? (i := 172) rfl), tm_8 _ (List.mem_of_getElem? (i := 80) rfl), tm_8 _ (List.mem_of_getElem? (i := 81) rfl)⟩
set_option maxRecDepth 1000000 in
theorem lw_p153 : lw_okq (⟨"KerbSplashModel", "standing", "()I"⟩, 38) := ⟨⟨by decide +kernel, by decide +kernel⟩, tm_6 _ (List.mem_of_getElem? (i := 172) rfl), tm_8 _ (List.mem_of_getElem? (i := 88) rfl), tm_8 _ (List.mem_of_getElem? (i := 89) rfl)⟩
set_option maxRecDepth 1000000 in
theorem lw_p154 : lw_okq (⟨"KerbSplashModel", "isLaw", "(II)Z"⟩, 38) := ⟨⟨by decide +kernel, by decide +kernel⟩, tm_6 _ (List.mem_of_getElem? (i := 172) rfl), tm_8 _ (List.mem_of_getElem? (i := 96) rfl), tm_8 _ (List.mem_of_getElem? (i := 97) rfl)⟩
set_option maxRecDepth 1000000 in
theorem lw_p155 : lw_okq (⟨"KerbSplashModel", "name", "(IIIII)V"⟩, 38) := ⟨⟨by decide +kernel, by decide +kernel⟩, tm_6 _ (List.mem_of_getElem? (i := 172) rfl), tm_8 _ (List.mem_of_getElem? (i := 100) rfl), tm_8 _ (List.mem_of_getElem? (i := 101) rfl)⟩
set_option maxRecDepth 1000000 in
theorem lw_p156 : lw_okq (⟨"KerbSplashModel", "worked", "(I)I"⟩, 38) := ⟨⟨by decide +kernel, by decide +kernel⟩, tm_6 _ (List.mem_of_getElem? (i := 172) rfl), tm_8 _ (List.mem_of_getElem? (i := 104) rfl), tm_8 _ (List.mem_of_getElem? (i := 105) rfl)⟩
set_option maxRecDepth 1000000 in
theorem lw_p157 : lw_okq (⟨"KerbSplashModel", "isCar", "(IIII)Z"⟩, 38) := ⟨⟨by decide +kernel, by decide +kernel⟩, tm_6 _ (List.mem_of_getElem? (i := 172) rfl), tm_8 _ (List.mem_of_getElem? (i := 112) rfl), tm_8 _ (List.mem_of_getElem? (i := 113) rfl)⟩
set_option maxRecDepth 1000000 in
theorem lw_p158 : lw_okq (⟨"KerbSplashModel", "isStreet", "(I)Z"⟩, 38) := ⟨⟨by decide +kernel, by decide +kernel⟩, tm_6 _ (List.mem_of_getElem? (i := 172) rfl), tm_8 _ (List.mem_of_getElem? (i := 116) rfl), tm_8 _ (List.mem_of_getElem? (i := 117) rfl)⟩
set_option maxRecDepth 1000000 in
theorem lw_p159 : lw_okq (⟨"KerbSplashModel", "passes", "(IIIII)I"⟩, 38) := ⟨⟨by decide +kernel, by decide +kernel⟩, tm_6 _ (List.mem_of_getElem? (i := 172) rfl), tm_8 _ (List.mem_of_getElem? (i := 120) rfl), tm_8 _ (List.mem_of_getElem? (i := 121) rfl)⟩
def lw_privs_10 : List (MethodName × Nat) := [(⟨"KerbSplashModel", "drainTold", "(II)I"⟩, 38), (⟨"KerbSplashModel", "isWork", "(I)Z"⟩, 38), (⟨"KerbSplashModel", "works", "(I)V"⟩, 38), (⟨"KerbSplashModel", "isNow", "(I)Z"⟩, 38), (⟨"KerbSplashModel", "minute", "(I)V"⟩, 38), (⟨"KerbSplashModel", "round", "()V"⟩, 38), (⟨"KerbSplashModel", "runsTo", "(II)V"⟩, 38), (⟨"KerbSplashModel", "isRain", "(II)Z"⟩, 38), (⟨"KerbSplashModel", "showers", "(I)I"⟩, 38), (⟨"KerbSplashModel", "standing", "()I"⟩, 38), (⟨"KerbSplashModel", "isLaw", "(II)Z"⟩, 38), (⟨"KerbSplashModel", "name", "(IIIII)V"⟩, 38), (⟨"KerbSplashModel", "worked", "(I)I"⟩, 38), (⟨"KerbSplashModel", "isCar", "(IIII)Z"⟩, 38), (⟨"KerbSplashModel", "isStreet", "(I)Z"⟩, 38), (⟨"KerbSplashModel", "passes", "(IIIII)I"⟩, 38)]
theorem lw_r10 : ∀ q ∈ lw_privs_10, lw_okq q := List.forall_mem_cons.mpr ⟨lw_p144, List.forall_mem_cons.mpr ⟨lw_p145, List.forall_mem_cons.mpr ⟨lw_p146, List.forall_mem_cons.mpr ⟨lw_p147, List.forall_mem_cons.mpr ⟨lw_p148, List.forall_mem_cons.mpr ⟨lw_p149, List.forall_mem_cons.mpr ⟨lw_p150, List.forall_mem_cons.mpr ⟨lw_p151, List.forall_mem_cons.mpr ⟨lw_p152, List.forall_mem_cons.mpr ⟨lw_p153, List.forall_mem_cons.mpr ⟨lw_p154, List.forall_mem_cons.mpr ⟨lw_p155, List.forall_mem_cons.mpr ⟨lw_p156, List.forall_mem_cons.mpr ⟨lw_p157, List.forall_mem_cons.mpr ⟨lw_p158, List.forall_mem_cons.mpr ⟨lw_p159, fun _ h => absurd h List.not_mem_nil⟩⟩⟩⟩⟩⟩⟩⟩⟩⟩⟩⟩⟩⟩⟩⟩
set_option maxRecDepth 1000000 in
theorem lw_p160 : lw_okq (⟨"KerbSplashModel", "drives", "(IIIIII)V"⟩, 38) := ⟨⟨by decide +kernel, by decide +kernel⟩, tm_6 _ (List.mem_of_getElem? (i := 172) rfl), tm_8 _ (List.mem_of_getElem? (i := 124) rfl), tm_8 _ (List.mem_of_getElem? (i := 125) rfl)⟩
set_option maxRecDepth 1000000 in
theorem lw_p161 : lw_okq (⟨"KerbSplashModel", "peopleAt", "(I)I"⟩, 38) := ⟨⟨by decide +kernel, by decide +kernel⟩, tm_6 _ (List.mem_of_getElem? (i := 172) rfl), tm_8 _ (List.mem_of_getElem? (i := 128) rfl), tm_8 _ (List.mem_of_getElem? (i := 129) rfl)⟩
set_option maxRecDepth 1000000 in
theorem lw_p162 : lw_okq (⟨"KerbSplashModel", "heldSum", "(II)I"⟩, 38) := ⟨⟨by decide +kernel, by decide +kernel⟩, tm_6 _ (List.mem_of_getElem? (i := 172) rfl), tm_8 _ (List.mem_of_getElem? (i := 132) rfl), tm_8 _ (List.mem_of_getElem? (i := 133) rfl)⟩
set_option maxRecDepth 1000000 in
theorem lw_p163 : lw_okq (⟨"KerbSplashModel", "isSheltered", "(I)Z"⟩, 38) := ⟨⟨by decide +kernel, by decide +kernel⟩, tm_6 _ (List.mem_of_getElem? (i := 172) rfl), tm_8 _ (List.mem_of_getElem? (i := 139) rfl), tm_8 _ (List.mem_of_getElem? (i := 140) rfl)⟩
set_option maxRecDepth 1000000 in
theorem lw_p164 : lw_okq (⟨"KerbSplashModel", "allPass", "(I)I"⟩, 38) := ⟨⟨by decide +kernel, by decide +kernel⟩, tm_6 _ (List.mem_of_getElem? (i := 172) rfl), tm_8 _ (List.mem_of_getElem? (i := 151) rfl), tm_8 _ (List.mem_of_getElem? (i := 152) rfl)⟩
set_option maxRecDepth 1000000 in
theorem lw_p165 : lw_okq (⟨"KerbSplashModel", "keeps", "()V"⟩, 38) := ⟨⟨by decide +kernel, by decide +kernel⟩, tm_6 _ (List.mem_of_getElem? (i := 172) rfl), tm_8 _ (List.mem_of_getElem? (i := 163) rfl), tm_8 _ (List.mem_of_getElem? (i := 164) rfl)⟩
set_option maxRecDepth 1000000 in
theorem lw_p166 : lw_okq (⟨"KerbSplashModel", "deepBehind", "(II)I"⟩, 38) := ⟨⟨by decide +kernel, by decide +kernel⟩, tm_6 _ (List.mem_of_getElem? (i := 172) rfl), tm_8 _ (List.mem_of_getElem? (i := 167) rfl), tm_8 _ (List.mem_of_getElem? (i := 168) rfl)⟩
set_option maxRecDepth 1000000 in
theorem lw_p167 : lw_okq (⟨"KerbSplashModel", "comesBack", "()V"⟩, 38) := ⟨⟨by decide +kernel, by decide +kernel⟩, tm_6 _ (List.mem_of_getElem? (i := 172) rfl), tm_8 _ (List.mem_of_getElem? (i := 171) rfl), tm_8 _ (List.mem_of_getElem? (i := 172) rfl)⟩
set_option maxRecDepth 1000000 in
theorem lw_p168 : lw_okq (⟨"KerbSplashModel", "kindsOf", "(I)I"⟩, 38) := ⟨⟨by decide +kernel, by decide +kernel⟩, tm_6 _ (List.mem_of_getElem? (i := 172) rfl), tm_8 _ (List.mem_of_getElem? (i := 187) rfl), tm_8 _ (List.mem_of_getElem? (i := 188) rfl)⟩
set_option maxRecDepth 1000000 in
theorem lw_p169 : lw_okq (⟨"KerbSplashModel", "mayStep", "(I)Z"⟩, 38) := ⟨⟨by decide +kernel, by decide +kernel⟩, tm_6 _ (List.mem_of_getElem? (i := 172) rfl), tm_8 _ (List.mem_of_getElem? (i := 203) rfl), tm_8 _ (List.mem_of_getElem? (i := 204) rfl)⟩
set_option maxRecDepth 1000000 in
theorem lw_p170 : lw_okq (⟨"KerbSplashModel", "doing", "(II)I"⟩, 38) := ⟨⟨by decide +kernel, by decide +kernel⟩, tm_6 _ (List.mem_of_getElem? (i := 172) rfl), tm_8 _ (List.mem_of_getElem? (i := 227) rfl), tm_8 _ (List.mem_of_getElem? (i := 228) rfl)⟩
set_option maxRecDepth 1000000 in
theorem lw_p171 : lw_okq (⟨"KerbSplashModel", "daysOf", "(I)I"⟩, 38) := ⟨⟨by decide +kernel, by decide +kernel⟩, tm_6 _ (List.mem_of_getElem? (i := 172) rfl), tm_8 _ (List.mem_of_getElem? (i := 231) rfl), tm_8 _ (List.mem_of_getElem? (i := 232) rfl)⟩
set_option maxRecDepth 1000000 in
theorem lw_p172 : lw_okq (⟨"KerbSplashModel", "sweeps", "(IIIII)V"⟩, 38) := ⟨⟨by decide +kernel, by decide +kernel⟩, tm_6 _ (List.mem_of_getElem? (i := 172) rfl), tm_9 _ (List.mem_of_getElem? (i := 0) rfl), tm_9 _ (List.mem_of_getElem? (i := 1) rfl)⟩
def lw_privs_11 : List (MethodName × Nat) := [(⟨"KerbSplashModel", "drives", "(IIIIII)V"⟩, 38), (⟨"KerbSplashModel", "peopleAt", "(I)I"⟩, 38), (⟨"KerbSplashModel", "heldSum", "(II)I"⟩, 38), (⟨"KerbSplashModel", "isSheltered", "(I)Z"⟩, 38), (⟨"KerbSplashModel", "allPass", "(I)I"⟩, 38), (⟨"KerbSplashModel", "keeps", "()V"⟩, 38), (⟨"KerbSplashModel", "deepBehind", "(II)I"⟩, 38), (⟨"KerbSplashModel", "comesBack", "()V"⟩, 38), (⟨"KerbSplashModel", "kindsOf", "(I)I"⟩, 38), (⟨"KerbSplashModel", "mayStep", "(I)Z"⟩, 38), (⟨"KerbSplashModel", "doing", "(II)I"⟩, 38), (⟨"KerbSplashModel", "daysOf", "(I)I"⟩, 38), (⟨"KerbSplashModel", "sweeps", "(IIIII)V"⟩, 38)]
theorem lw_r11 : ∀ q ∈ lw_privs_11, lw_okq q := List.forall_mem_cons.mpr ⟨lw_p160, List.forall_mem_cons.mpr ⟨lw_p161, List.forall_mem_cons.mpr ⟨lw_p162, List.forall_mem_cons.mpr ⟨lw_p163, List.forall_mem_cons.mpr ⟨lw_p164, List.forall_mem_cons.mpr ⟨lw_p165, List.forall_mem_cons.mpr ⟨lw_p166, List.forall_mem_cons.mpr ⟨lw_p167, List.forall_mem_cons.mpr ⟨lw_p168, List.forall_mem_cons.mpr ⟨lw_p169, List.forall_mem_cons.mpr ⟨lw_p170, List.forall_mem_cons.mpr ⟨lw_p171, List.forall_mem_cons.mpr ⟨lw_p172, fun _ h => absurd h List.not_mem_nil⟩⟩⟩⟩⟩⟩⟩⟩⟩⟩⟩⟩⟩
def lw_privs : List (MethodName × Nat) := lw_privs_1 ++ (lw_privs_2 ++ (lw_privs_3 ++ (lw_privs_4 ++ (lw_privs_5 ++ (lw_privs_6 ++ (lw_privs_7 ++ (lw_privs_8 ++ (lw_privs_9 ++ (lw_privs_10 ++ (lw_privs_11))))))))))
def lw_tbl : List Cond := k2_sels lw_privs ++ tables_1
theorem lw_privs_ok : ∀ q ∈ lw_privs, lw_okq q := by
  show ∀ q ∈ lw_privs_1 ++ (lw_privs_2 ++ (lw_privs_3 ++ (lw_privs_4 ++ (lw_privs_5 ++ (lw_privs_6 ++ (lw_privs_7 ++ (lw_privs_8 ++ (lw_privs_9 ++ (lw_privs_10 ++ (lw_privs_11)))))))))), lw_okq q
  exact List.forall_mem_append.mpr ⟨lw_r1, List.forall_mem_append.mpr ⟨lw_r2, List.forall_mem_append.mpr ⟨lw_r3, List.forall_mem_append.mpr ⟨lw_r4, List.forall_mem_append.mpr ⟨lw_r5, List.forall_mem_append.mpr ⟨lw_r6, List.forall_mem_append.mpr ⟨lw_r7, List.forall_mem_append.mpr ⟨lw_r8, List.forall_mem_append.mpr ⟨lw_r9, List.forall_mem_append.mpr ⟨lw_r10, lw_r11⟩⟩⟩⟩⟩⟩⟩⟩⟩⟩

theorem mb_0 : ∀ w ∈ k2_sels lw_privs, w ∈ lw_tbl := fun w h => List.mem_append_left _ h
theorem mb_1 : ∀ w ∈ tables_1_1, w ∈ lw_tbl := fun w h => List.mem_append_right _ (tm_1 w h)
theorem mb_2 : ∀ w ∈ tables_1_2, w ∈ lw_tbl := fun w h => List.mem_append_right _ (tm_2 w h)
theorem mb_3 : ∀ w ∈ tables_1_3, w ∈ lw_tbl := fun w h => List.mem_append_right _ (tm_3 w h)
theorem mb_4 : ∀ w ∈ tables_1_4, w ∈ lw_tbl := fun w h => List.mem_append_right _ (tm_4 w h)
theorem mb_5 : ∀ w ∈ tables_1_5, w ∈ lw_tbl := fun w h => List.mem_append_right _ (tm_5 w h)
theorem mb_6 : ∀ w ∈ tables_1_6, w ∈ lw_tbl := fun w h => List.mem_append_right _ (tm_6 w h)
theorem mb_7 : ∀ w ∈ tables_1_7, w ∈ lw_tbl := fun w h => List.mem_append_right _ (tm_7 w h)
theorem mb_8 : ∀ w ∈ tables_1_8, w ∈ lw_tbl := fun w h => List.mem_append_right _ (tm_8 w h)
theorem mb_9 : ∀ w ∈ tables_1_9, w ∈ lw_tbl := fun w h => List.mem_append_right _ (tm_9 w h)
end
section
theorem dX9_findLook_0 : decode cX9_findLook 0 = .ok (.aload_n 0, 1) := by decide +kernel
theorem dX9_findLook_1 : decode cX9_findLook 1 = .ok (.iconst (-1), 1) := by decide +kernel
theorem dX9_findLook_10 : decode cX9_findLook 10 = .ok (.aload_n 1, 1) := by decide +kernel
theorem dX9_findLook_101 : decode cX9_findLook 101 = .ok (.iload_n 3, 1) := by decide +kernel
theorem dX9_findLook_102 : decode cX9_findLook 102 = .ok (.iload 4, 2) := by decide +kernel
theorem dX9_findLook_104 : decode cX9_findLook 104 = .ok (.imul, 1) := by decide +kernel
theorem dX9_findLook_105 : decode cX9_findLook 105 = .ok (.iload_n 3, 1) := by decide +kernel
theorem dX9_findLook_106 : decode cX9_findLook 106 = .ok (.invokestatic 76, 3) := by decide +kernel
theorem dX9_findLook_109 : decode cX9_findLook 109 = .ok (.iinc 4 1, 3) := by decide +kernel
theorem dX9_findLook_11 : decode cX9_findLook 11 = .ok (.invokevirtual 69, 3) := by decide +kernel
theorem dX9_findLook_112 : decode cX9_findLook 112 = .ok (.goto (-94), 3) := by decide +kernel
theorem dX9_findLook_115 : decode cX9_findLook 115 = .ok (.aload_n 1, 1) := by decide +kernel
theorem dX9_findLook_116 : decode cX9_findLook 116 = .ok (.getfield 73, 3) := by decide +kernel
theorem dX9_findLook_119 : decode cX9_findLook 119 = .ok (.ifCond .ne 4, 3) := by decide +kernel
theorem dX9_findLook_122 : decode cX9_findLook 122 = .ok (.return_, 1) := by decide +kernel
theorem dX9_findLook_123 : decode cX9_findLook 123 = .ok (.iconst 0, 1) := by decide +kernel
theorem dX9_findLook_124 : decode cX9_findLook 124 = .ok (.istore 4, 2) := by decide +kernel
theorem dX9_findLook_126 : decode cX9_findLook 126 = .ok (.iload 4, 2) := by decide +kernel
theorem dX9_findLook_128 : decode cX9_findLook 128 = .ok (.aload_n 1, 1) := by decide +kernel
theorem dX9_findLook_129 : decode cX9_findLook 129 = .ok (.getfield 82, 3) := by decide +kernel
theorem dX9_findLook_132 : decode cX9_findLook 132 = .ok (.if_icmp .ge 73, 3) := by decide +kernel
theorem dX9_findLook_135 : decode cX9_findLook 135 = .ok (.iconst 0, 1) := by decide +kernel
theorem dX9_findLook_136 : decode cX9_findLook 136 = .ok (.istore 5, 2) := by decide +kernel
theorem dX9_findLook_138 : decode cX9_findLook 138 = .ok (.iload 5, 2) := by decide +kernel
theorem dX9_findLook_14 : decode cX9_findLook 14 = .ok (.istore_n 3, 1) := by decide +kernel
theorem dX9_findLook_140 : decode cX9_findLook 140 = .ok (.aload_n 1, 1) := by decide +kernel
theorem dX9_findLook_141 : decode cX9_findLook 141 = .ok (.getfield 85, 3) := by decide +kernel
theorem dX9_findLook_144 : decode cX9_findLook 144 = .ok (.if_icmp .ge 55, 3) := by decide +kernel
theorem dX9_findLook_147 : decode cX9_findLook 147 = .ok (.aload_n 0, 1) := by decide +kernel
theorem dX9_findLook_148 : decode cX9_findLook 148 = .ok (.aload_n 1, 1) := by decide +kernel
theorem dX9_findLook_149 : decode cX9_findLook 149 = .ok (.iload 4, 2) := by decide +kernel
theorem dX9_findLook_15 : decode cX9_findLook 15 = .ok (.iconst 0, 1) := by decide +kernel
theorem dX9_findLook_151 : decode cX9_findLook 151 = .ok (.iload 5, 2) := by decide +kernel
theorem dX9_findLook_153 : decode cX9_findLook 153 = .ok (.invokevirtual 88, 3) := by decide +kernel
theorem dX9_findLook_156 : decode cX9_findLook 156 = .ok (.aload_n 1, 1) := by decide +kernel
theorem dX9_findLook_157 : decode cX9_findLook 157 = .ok (.getfield 73, 3) := by decide +kernel
theorem dX9_findLook_16 : decode cX9_findLook 16 = .ok (.istore 4, 2) := by decide +kernel
theorem dX9_findLook_160 : decode cX9_findLook 160 = .ok (.iload_n 3, 1) := by decide +kernel
theorem dX9_findLook_161 : decode cX9_findLook 161 = .ok (.invokevirtual 92, 3) := by decide +kernel
theorem dX9_findLook_164 : decode cX9_findLook 164 = .ok (.istore 6, 2) := by decide +kernel
theorem dX9_findLook_166 : decode cX9_findLook 166 = .ok (.iload 6, 2) := by decide +kernel
theorem dX9_findLook_168 : decode cX9_findLook 168 = .ok (.aload_n 0, 1) := by decide +kernel
theorem dX9_findLook_169 : decode cX9_findLook 169 = .ok (.getfield 33, 3) := by decide +kernel
theorem dX9_findLook_172 : decode cX9_findLook 172 = .ok (.if_icmp .le 21, 3) := by decide +kernel
theorem dX9_findLook_175 : decode cX9_findLook 175 = .ok (.aload_n 0, 1) := by decide +kernel
theorem dX9_findLook_176 : decode cX9_findLook 176 = .ok (.iload 6, 2) := by decide +kernel
theorem dX9_findLook_178 : decode cX9_findLook 178 = .ok (.putfield 33, 3) := by decide +kernel
theorem dX9_findLook_18 : decode cX9_findLook 18 = .ok (.iload 4, 2) := by decide +kernel
theorem dX9_findLook_181 : decode cX9_findLook 181 = .ok (.aload_n 0, 1) := by decide +kernel
theorem dX9_findLook_182 : decode cX9_findLook 182 = .ok (.bipush 100, 2) := by decide +kernel
theorem dX9_findLook_184 : decode cX9_findLook 184 = .ok (.iload 4, 2) := by decide +kernel
theorem dX9_findLook_186 : decode cX9_findLook 186 = .ok (.imul, 1) := by decide +kernel
theorem dX9_findLook_187 : decode cX9_findLook 187 = .ok (.iload 5, 2) := by decide +kernel
theorem dX9_findLook_189 : decode cX9_findLook 189 = .ok (.iadd, 1) := by decide +kernel
theorem dX9_findLook_190 : decode cX9_findLook 190 = .ok (.putfield 29, 3) := by decide +kernel
theorem dX9_findLook_193 : decode cX9_findLook 193 = .ok (.iinc 5 1, 3) := by decide +kernel
theorem dX9_findLook_196 : decode cX9_findLook 196 = .ok (.goto (-58), 3) := by decide +kernel
theorem dX9_findLook_199 : decode cX9_findLook 199 = .ok (.iinc 4 1, 3) := by decide +kernel
theorem dX9_findLook_2 : decode cX9_findLook 2 = .ok (.putfield 29, 3) := by decide +kernel
theorem dX9_findLook_20 : decode cX9_findLook 20 = .ok (.aload_n 1, 1) := by decide +kernel
theorem dX9_findLook_202 : decode cX9_findLook 202 = .ok (.goto (-76), 3) := by decide +kernel
theorem dX9_findLook_205 : decode cX9_findLook 205 = .ok (.return_, 1) := by decide +kernel
theorem dX9_findLook_21 : decode cX9_findLook 21 = .ok (.getfield 73, 3) := by decide +kernel
theorem dX9_findLook_24 : decode cX9_findLook 24 = .ok (.if_icmp .ge 91, 3) := by decide +kernel
theorem dX9_findLook_27 : decode cX9_findLook 27 = .ok (.aload_n 0, 1) := by decide +kernel
theorem dX9_findLook_28 : decode cX9_findLook 28 = .ok (.getfield 12, 3) := by decide +kernel
theorem dX9_findLook_31 : decode cX9_findLook 31 = .ok (.aload_n 1, 1) := by decide +kernel
theorem dX9_findLook_32 : decode cX9_findLook 32 = .ok (.invokevirtual 36, 3) := by decide +kernel
theorem dX9_findLook_35 : decode cX9_findLook 35 = .ok (.iconst 0, 1) := by decide +kernel
theorem dX9_findLook_36 : decode cX9_findLook 36 = .ok (.istore 5, 2) := by decide +kernel
theorem dX9_findLook_38 : decode cX9_findLook 38 = .ok (.iload 5, 2) := by decide +kernel
theorem dX9_findLook_40 : decode cX9_findLook 40 = .ok (.aload_n 1, 1) := by decide +kernel
theorem dX9_findLook_41 : decode cX9_findLook 41 = .ok (.getfield 73, 3) := by decide +kernel
theorem dX9_findLook_44 : decode cX9_findLook 44 = .ok (.if_icmp .ge 36, 3) := by decide +kernel
theorem dX9_findLook_47 : decode cX9_findLook 47 = .ok (.aload_n 0, 1) := by decide +kernel
theorem dX9_findLook_48 : decode cX9_findLook 48 = .ok (.getfield 12, 3) := by decide +kernel
theorem dX9_findLook_5 : decode cX9_findLook 5 = .ok (.aload_n 0, 1) := by decide +kernel
theorem dX9_findLook_51 : decode cX9_findLook 51 = .ok (.getfield 66, 3) := by decide +kernel
theorem dX9_findLook_54 : decode cX9_findLook 54 = .ok (.iconst 4, 1) := by decide +kernel
theorem dX9_findLook_55 : decode cX9_findLook 55 = .ok (.iload 5, 2) := by decide +kernel
theorem dX9_findLook_57 : decode cX9_findLook 57 = .ok (.imul, 1) := by decide +kernel
theorem dX9_findLook_58 : decode cX9_findLook 58 = .ok (.iconst 3, 1) := by decide +kernel
theorem dX9_findLook_59 : decode cX9_findLook 59 = .ok (.iadd, 1) := by decide +kernel
theorem dX9_findLook_6 : decode cX9_findLook 6 = .ok (.iconst (-1), 1) := by decide +kernel
theorem dX9_findLook_60 : decode cX9_findLook 60 = .ok (.iload 5, 2) := by decide +kernel
theorem dX9_findLook_62 : decode cX9_findLook 62 = .ok (.iload 4, 2) := by decide +kernel
theorem dX9_findLook_64 : decode cX9_findLook 64 = .ok (.if_icmp .ne 8, 3) := by decide +kernel
theorem dX9_findLook_67 : decode cX9_findLook 67 = .ok (.bipush 16, 2) := by decide +kernel
theorem dX9_findLook_69 : decode cX9_findLook 69 = .ok (.goto 4, 3) := by decide +kernel
theorem dX9_findLook_7 : decode cX9_findLook 7 = .ok (.putfield 33, 3) := by decide +kernel
theorem dX9_findLook_72 : decode cX9_findLook 72 = .ok (.iconst 0, 1) := by decide +kernel
theorem dX9_findLook_73 : decode cX9_findLook 73 = .ok (.iastore, 1) := by decide +kernel
theorem dX9_findLook_74 : decode cX9_findLook 74 = .ok (.iinc 5 1, 3) := by decide +kernel
theorem dX9_findLook_77 : decode cX9_findLook 77 = .ok (.goto (-39), 3) := by decide +kernel
theorem dX9_findLook_80 : decode cX9_findLook 80 = .ok (.aload_n 0, 1) := by decide +kernel
theorem dX9_findLook_81 : decode cX9_findLook 81 = .ok (.getfield 12, 3) := by decide +kernel
theorem dX9_findLook_84 : decode cX9_findLook 84 = .ok (.aload_n 2, 1) := by decide +kernel
theorem dX9_findLook_85 : decode cX9_findLook 85 = .ok (.invokevirtual 40, 3) := by decide +kernel
theorem dX9_findLook_88 : decode cX9_findLook 88 = .ok (.pop, 1) := by decide +kernel
theorem dX9_findLook_89 : decode cX9_findLook 89 = .ok (.aload_n 0, 1) := by decide +kernel
theorem dX9_findLook_90 : decode cX9_findLook 90 = .ok (.getfield 12, 3) := by decide +kernel
theorem dX9_findLook_93 : decode cX9_findLook 93 = .ok (.getfield 44, 3) := by decide +kernel
theorem dX9_findLook_96 : decode cX9_findLook 96 = .ok (.iconst 0, 1) := by decide +kernel
theorem dX9_findLook_97 : decode cX9_findLook 97 = .ok (.aload_n 0, 1) := by decide +kernel
theorem dX9_findLook_98 : decode cX9_findLook 98 = .ok (.getfield 25, 3) := by decide +kernel
theorem dX9_kindsAt_0 : decode cX9_kindsAt 0 = .ok (.iconst 0, 1) := by decide +kernel
theorem dX9_kindsAt_1 : decode cX9_kindsAt 1 = .ok (.istore 4, 2) := by decide +kernel
theorem dX9_kindsAt_12 : decode cX9_kindsAt 12 = .ok (.iconst 1, 1) := by decide +kernel
theorem dX9_kindsAt_13 : decode cX9_kindsAt 13 = .ok (.istore 6, 2) := by decide +kernel
theorem dX9_kindsAt_15 : decode cX9_kindsAt 15 = .ok (.iconst 0, 1) := by decide +kernel
theorem dX9_kindsAt_16 : decode cX9_kindsAt 16 = .ok (.istore 7, 2) := by decide +kernel
theorem dX9_kindsAt_18 : decode cX9_kindsAt 18 = .ok (.iload 7, 2) := by decide +kernel
theorem dX9_kindsAt_20 : decode cX9_kindsAt 20 = .ok (.iload 5, 2) := by decide +kernel
theorem dX9_kindsAt_22 : decode cX9_kindsAt 22 = .ok (.if_icmp .ge 46, 3) := by decide +kernel
theorem dX9_kindsAt_25 : decode cX9_kindsAt 25 = .ok (.iload 6, 2) := by decide +kernel
theorem dX9_kindsAt_27 : decode cX9_kindsAt 27 = .ok (.ifCond .eq 41, 3) := by decide +kernel
theorem dX9_kindsAt_3 : decode cX9_kindsAt 3 = .ok (.iconst 0, 1) := by decide +kernel
theorem dX9_kindsAt_30 : decode cX9_kindsAt 30 = .ok (.aload_n 0, 1) := by decide +kernel
theorem dX9_kindsAt_31 : decode cX9_kindsAt 31 = .ok (.getfield 25, 3) := by decide +kernel
theorem dX9_kindsAt_34 : decode cX9_kindsAt 34 = .ok (.iload_n 3, 1) := by decide +kernel
theorem dX9_kindsAt_35 : decode cX9_kindsAt 35 = .ok (.iload 7, 2) := by decide +kernel
theorem dX9_kindsAt_37 : decode cX9_kindsAt 37 = .ok (.imul, 1) := by decide +kernel
theorem dX9_kindsAt_38 : decode cX9_kindsAt 38 = .ok (.iload_n 1, 1) := by decide +kernel
theorem dX9_kindsAt_39 : decode cX9_kindsAt 39 = .ok (.iadd, 1) := by decide +kernel
theorem dX9_kindsAt_4 : decode cX9_kindsAt 4 = .ok (.istore 5, 2) := by decide +kernel
theorem dX9_kindsAt_40 : decode cX9_kindsAt 40 = .ok (.iaload, 1) := by decide +kernel
theorem dX9_kindsAt_41 : decode cX9_kindsAt 41 = .ok (.aload_n 0, 1) := by decide +kernel
theorem dX9_kindsAt_42 : decode cX9_kindsAt 42 = .ok (.getfield 25, 3) := by decide +kernel
theorem dX9_kindsAt_45 : decode cX9_kindsAt 45 = .ok (.iload_n 3, 1) := by decide +kernel
theorem dX9_kindsAt_46 : decode cX9_kindsAt 46 = .ok (.iload 5, 2) := by decide +kernel
theorem dX9_kindsAt_48 : decode cX9_kindsAt 48 = .ok (.imul, 1) := by decide +kernel
theorem dX9_kindsAt_49 : decode cX9_kindsAt 49 = .ok (.iload_n 1, 1) := by decide +kernel
theorem dX9_kindsAt_50 : decode cX9_kindsAt 50 = .ok (.iadd, 1) := by decide +kernel
theorem dX9_kindsAt_51 : decode cX9_kindsAt 51 = .ok (.iaload, 1) := by decide +kernel
theorem dX9_kindsAt_52 : decode cX9_kindsAt 52 = .ok (.if_icmp .eq 7, 3) := by decide +kernel
theorem dX9_kindsAt_55 : decode cX9_kindsAt 55 = .ok (.iconst 1, 1) := by decide +kernel
theorem dX9_kindsAt_56 : decode cX9_kindsAt 56 = .ok (.goto 4, 3) := by decide +kernel
theorem dX9_kindsAt_59 : decode cX9_kindsAt 59 = .ok (.iconst 0, 1) := by decide +kernel
theorem dX9_kindsAt_6 : decode cX9_kindsAt 6 = .ok (.iload 5, 2) := by decide +kernel
theorem dX9_kindsAt_60 : decode cX9_kindsAt 60 = .ok (.istore 6, 2) := by decide +kernel
theorem dX9_kindsAt_62 : decode cX9_kindsAt 62 = .ok (.iinc 7 1, 3) := by decide +kernel
theorem dX9_kindsAt_65 : decode cX9_kindsAt 65 = .ok (.goto (-47), 3) := by decide +kernel
theorem dX9_kindsAt_68 : decode cX9_kindsAt 68 = .ok (.iload 6, 2) := by decide +kernel
theorem dX9_kindsAt_70 : decode cX9_kindsAt 70 = .ok (.ifCond .eq 6, 3) := by decide +kernel
theorem dX9_kindsAt_73 : decode cX9_kindsAt 73 = .ok (.iinc 4 1, 3) := by decide +kernel
theorem dX9_kindsAt_76 : decode cX9_kindsAt 76 = .ok (.iinc 5 1, 3) := by decide +kernel
theorem dX9_kindsAt_79 : decode cX9_kindsAt 79 = .ok (.goto (-73), 3) := by decide +kernel
theorem dX9_kindsAt_8 : decode cX9_kindsAt 8 = .ok (.iload_n 2, 1) := by decide +kernel
theorem dX9_kindsAt_82 : decode cX9_kindsAt 82 = .ok (.iload 4, 2) := by decide +kernel
theorem dX9_kindsAt_84 : decode cX9_kindsAt 84 = .ok (.ireturn, 1) := by decide +kernel
theorem dX9_kindsAt_9 : decode cX9_kindsAt 9 = .ok (.if_icmp .ge 73, 3) := by decide +kernel
def vs_i_kinds : List Cond := .code yX9_kindsAt cX9_kindsAt 8 (some .int) :: (([.fieldLink RX9 25 "KerbSplash$WhatIf" "seen" "[I"] : List Cond) ++ ((wsX90) ++ ([])))
theorem gd_i_kinds : vs_i_kinds.all goodWord = true := gd_C (by decide +kernel) (gd_A (by decide +kernel) (gd_A (by decide +kernel) rfl))
set_option maxHeartbeats 4000000 in
set_option maxRecDepth 100000 in
theorem i_kinds (l : Launch) (hl : l.stackTraces = false) (D : va_G) (cy : Nat → ClassId) (sa : Nat → Nat) (wa tA ca se : Nat) (fo wth : Int) (sef : Nat → Int32) (n dn cn : Int) (sz : Nat) (hr_fo : (-2147483648) ≤ fo ∧ fo ≤ 2147483647) (hr_wth : (-2147483648) ≤ wth ∧ wth ≤ 2147483647) (hr_n : 0 ≤ n ∧ n ≤ 95) (hr_dn : 0 ≤ dn ∧ dn ≤ 14) (hr_cn : 0 ≤ cn ∧ cn ≤ 96) : mI9 l yX9_kindsAt vs_i_kinds ({ frames := 0, cells := 0, slots := 0, locals := 0 }) D cy sa sz [vR wa, vI n, vI dn, vI cn] [zO wa 9 [vR tA, vR ca, vR se, vI fo, vI wth], zI se (cy 0) 1344 sef] (fun (r : Int32) (u : SV) => r = iI (u.2.1 0) ∧ (0 ≤ u.2.1 0 ∧ u.2.1 0 ≤ 14)) (fun u : SV => [zO wa 9 [vR tA, vR ca, vR se, vI fo, vI wth], zI se (cy 0) 1344 sef]) 0 0 := by
  refine Met.ofW (cc := cX9_kindsAt) (maxL := 8) (ret := (some .int)) (by decide) rfl ?_
  intro p e s m args below meth c s₁ B hml hv
  obtain ⟨rfl, hsz, hP, hG, hD0, hT⟩ := hv
  have hx := B.exec
  have hb := B.bytes
  have hr := B.returns
  have hts := atoms_spec (ws := vs_i_kinds) B.pre
  have hown : s.vm.findClass RX9 = some m.cls := findClass_of_methodNamed B.named
  have hlocks := B.notSynchronized
  subst hsz
  have hD := hD0.self (sz := s.heap.size)
  generalize hAe : va_A [zO wa 9 [vR tA, vR ca, vR se, vI fo, vI wth], zI se (cy 0) 1344 sef] s.heap.size = A at hD hT ⊢
  have hA : ∀ q : Nat, s.heap.size ≤ q → A q := fun q h => by rw [← hAe]; exact Or.inr h
  have hS : va_S A s.heap s.heap [] := va_S.rf
  have hl0 := lv_entry ([vR wa, vI n, vI dn, vI cn]) (n := 8) (Nat.le_of_ble_eq_true rfl)
  rw [lg_entry_eq]
  generalize (lg_sl ([vR wa, vI n, vI dn, vI cn]) ++ List.replicate (8 - (lg_sl ([vR wa, vI n, vI dn, vI cn])).length) Slot.unset).toArray = ls at hl0 ⊢
  have hlv : lv_has ls 8 [(0, vR wa), (1, vI n), (2, vI dn), (3, vI cn)] := hl0
  have lf25 := hts (.fieldLink RX9 25 "KerbSplash$WhatIf" "seen" "[I") (List.mem_of_getElem? (i := 1) rfl)
  have hi9 : ∀ w ∈ wsX90, w ∈ vs_i_kinds := fun w h => List.mem_cons_of_mem _ (List.mem_append_right _ (List.mem_append_left _ h))
  refine lv_iconst (v := iI 0) hx hb dX9_kindsAt_0 (by decide) ?_
  refine lv_istore (lv' := [(4, vI 0), (0, vR wa), (1, vI n), (2, vI dn), (3, vI cn)]) hx hb dX9_kindsAt_1 hlv (by decide) rfl (fun ls hlv => ?_)
  refine lv_iconst (v := iI 0) hx hb dX9_kindsAt_3 (by decide) ?_
  refine lv_istore (lv' := [(5, vI 0), (4, vI 0), (0, vR wa), (1, vI n), (2, vI dn), (3, vI cn)]) hx hb dX9_kindsAt_4 hlv (by decide) rfl (fun ls hlv => ?_)
  refine (?_ : ∀ (fu : Nat) (q4 : Int) (q5 : Int) (H : Heap) (locs : List Loc) (ls : Array Slot), 14 - q5 < (fu : Int) → (0 ≤ q4 ∧ q4 ≤ 14) → (0 ≤ q5 ∧ q5 ≤ 14) → (q4 ≤ q5) → va_P D vwCl [zO wa 9 [vR tA, vR ca, vR se, vI fo, vI wth], zI se (cy 0) 1344 sef] H → va_D A [zO wa 9 [vR tA, vR ca, vR se, vI fo, vI wth], zI se (cy 0) 1344 sef] → va_S A s.heap H locs → lv_has ls 8 [(5, vI q5), (4, vI q4), (0, vR wa), (1, vI n), (2, vI dn), (3, vI cn)] → W p l e _ s m _ below meth c H locs _ _ _ (F0 m 6 ls [])) (((14 - 0) + 1 : Int)).toNat 0 0 _ _ _ (by omega) (by show (0 : Int) ≤ 0 ∧ (0 : Int) ≤ 14; decide) (by show (0 : Int) ≤ 0 ∧ (0 : Int) ≤ 14; decide) (by omega)  hP hD hS hlv
  clear hP hD hS hlv
  intro fu
  induction fu with
  | zero => intro q4 q5 H locs ls hm6 hl6_0 hl6_1 hl6_2  hP hD hS hlv; omega
  | succ fu ih6 =>
    intro q4 q5 H locs ls hm6 hl6_0 hl6_1 hl6_2  hP hD hS hlv
    refine lv_iload hx hb dX9_kindsAt_6 (lv_at hlv 0 rfl) ?_
    refine lv_iload_n hx hb dX9_kindsAt_8 rfl (lv_at hlv 4 rfl) ?_
    refine ir_ge (tgt := 82) hx hb dX9_kindsAt_9 (by decide) (by first | exact rgw hl6_1 (by decide) (by decide) | omega) (by first | exact rgw hr_dn (by decide) (by decide) | omega) (fun c_1 => ?_) (fun c_1 => ?_)
    · refine lv_iload hx hb dX9_kindsAt_82 (lv_at hlv 1 rfl) ?_
      refine W.widen (k := 0) (n := 0) (Nat.le_of_ble_eq_true rfl) (Nat.le_of_ble_eq_true rfl) ?_
      exact W.iret (v := iI q4) hx hb hr (fun t ht hW => ⟨⟨iI q4, ((fun k => ([] : List Nat).getD k 0), (fun k => ([q4] : List Int).getD k 0), (fun k => ([] : List (Nat → Int32)).getD k (fun _ => 0))), rfl, ⟨rfl, (by show (0 ≤ q4 ∧ q4 ≤ 14); first | exact hl6_0 | omega)⟩, at9 ht hP hD [0, 1] (by decide +kernel) rfl⟩, hS.F ht⟩) hS.2.2 dX9_kindsAt_84
    · refine lv_iconst (v := iI 1) hx hb dX9_kindsAt_12 (by decide) ?_
      refine lv_istore (lv' := [(6, vI 1), (5, vI q5), (4, vI q4), (0, vR wa), (1, vI n), (2, vI dn), (3, vI cn)]) hx hb dX9_kindsAt_13 hlv (by decide) rfl (fun ls hlv => ?_)
      refine lv_iconst (v := iI 0) hx hb dX9_kindsAt_15 (by decide) ?_
      refine lv_istore (lv' := [(7, vI 0), (6, vI 1), (5, vI q5), (4, vI q4), (0, vR wa), (1, vI n), (2, vI dn), (3, vI cn)]) hx hb dX9_kindsAt_16 hlv (by decide) rfl (fun ls hlv => ?_)
      refine (?_ : ∀ (fu : Nat) (q6 : Int) (q7 : Int) (H : Heap) (locs : List Loc) (ls : Array Slot), 14 - q7 < (fu : Int) → (0 ≤ q6 ∧ q6 ≤ 1) → (0 ≤ q7 ∧ q7 ≤ 14) → va_P D vwCl [zO wa 9 [vR tA, vR ca, vR se, vI fo, vI wth], zI se (cy 0) 1344 sef] H → va_D A [zO wa 9 [vR tA, vR ca, vR se, vI fo, vI wth], zI se (cy 0) 1344 sef] → va_S A s.heap H locs → lv_has ls 8 [(7, vI q7), (6, vI q6), (5, vI q5), (4, vI q4), (0, vR wa), (1, vI n), (2, vI dn), (3, vI cn)] → W p l e _ s m _ below meth c H locs _ _ _ (F0 m 18 ls [])) (((14 - 0) + 1 : Int)).toNat 1 0 _ _ _ (by omega) (by show (0 : Int) ≤ 1 ∧ (1 : Int) ≤ 1; decide) (by show (0 : Int) ≤ 0 ∧ (0 : Int) ≤ 14; decide)  hP hD hS hlv
      clear hP hD hS hlv
      intro fu
      induction fu with
      | zero => intro q6 q7 H locs ls hm18 hl18_0 hl18_1  hP hD hS hlv; omega
      | succ fu ih18 =>
        intro q6 q7 H locs ls hm18 hl18_0 hl18_1  hP hD hS hlv
        refine lv_iload hx hb dX9_kindsAt_18 (lv_at hlv 0 rfl) ?_
        refine lv_iload hx hb dX9_kindsAt_20 (lv_at hlv 2 rfl) ?_
        refine ir_ge (tgt := 68) hx hb dX9_kindsAt_22 (by decide) (by first | exact rgw hl18_1 (by decide) (by decide) | omega) (by first | exact rgw hl6_1 (by decide) (by decide) | omega) (fun c_2 => ?_) (fun c_2 => ?_)
        · refine lv_iload hx hb dX9_kindsAt_68 (lv_at hlv 1 rfl) ?_
          refine iz_eq (tgt := 76) hx hb dX9_kindsAt_70 (by decide) (by first | exact rgw hl18_0 (by decide) (by decide) | omega) (fun c_3 => ?_) (fun c_3 => ?_)
          · obtain ⟨z_4, hz_4⟩ : ∃ z : Int, z = q5 + 1 := ⟨_, rfl⟩
            refine lv_iinc (v := iI z_4) (lv' := [(5, vI z_4), (7, vI q7), (6, vI q6), (4, vI q4), (0, vR wa), (1, vI n), (2, vI dn), (3, vI cn)]) hx hb dX9_kindsAt_76 hlv (k := 2) rfl (by rw [hz_4]; exact (Int32.ofInt_add _ _).symm) (by decide) rfl (fun ls hlv => ?_)
            refine lv_goto (tgt := 6) hx hb dX9_kindsAt_79 (by decide) ?_
            exact ih6 q4 z_4 H locs ls (by omega) (by first | exact hl6_0 | omega) (by omega) (by omega)  (hP.sub [0, 1] rfl) (hD.sub [0, 1] (by decide) rfl) hS (lv_sub hlv [0, 3, 4, 5, 6, 7] rfl)
          · obtain ⟨z_5, hz_5⟩ : ∃ z : Int, z = q4 + 1 := ⟨_, rfl⟩
            refine lv_iinc (v := iI z_5) (lv' := [(4, vI z_5), (7, vI q7), (6, vI q6), (5, vI q5), (0, vR wa), (1, vI n), (2, vI dn), (3, vI cn)]) hx hb dX9_kindsAt_73 hlv (k := 3) rfl (by rw [hz_5]; exact (Int32.ofInt_add _ _).symm) (by decide) rfl (fun ls hlv => ?_)
            obtain ⟨z_6, hz_6⟩ : ∃ z : Int, z = q5 + 1 := ⟨_, rfl⟩
            refine lv_iinc (v := iI z_6) (lv' := [(5, vI z_6), (4, vI z_5), (7, vI q7), (6, vI q6), (0, vR wa), (1, vI n), (2, vI dn), (3, vI cn)]) hx hb dX9_kindsAt_76 hlv (k := 3) rfl (by rw [hz_6]; exact (Int32.ofInt_add _ _).symm) (by decide) rfl (fun ls hlv => ?_)
            refine lv_goto (tgt := 6) hx hb dX9_kindsAt_79 (by decide) ?_
            exact ih6 z_5 z_6 H locs ls (by omega) (by omega) (by omega) (by omega)  (hP.sub [0, 1] rfl) (hD.sub [0, 1] (by decide) rfl) hS (lv_sub hlv [0, 1, 4, 5, 6, 7] rfl)
        · refine lv_iload hx hb dX9_kindsAt_25 (lv_at hlv 1 rfl) ?_
          refine iz_eq (tgt := 68) hx hb dX9_kindsAt_27 (by decide) (by first | exact rgw hl18_0 (by decide) (by decide) | omega) (fun c_7 => ?_) (fun c_7 => ?_)
          · refine lv_iload hx hb dX9_kindsAt_68 (lv_at hlv 1 rfl) ?_
            refine iz_eq (tgt := 76) hx hb dX9_kindsAt_70 (by decide) (by first | exact rgw hl18_0 (by decide) (by decide) | omega) (fun c_8 => ?_) (fun c_8 => by exfalso; omega)
            obtain ⟨z_9, hz_9⟩ : ∃ z : Int, z = q5 + 1 := ⟨_, rfl⟩
            refine lv_iinc (v := iI z_9) (lv' := [(5, vI z_9), (7, vI q7), (6, vI q6), (4, vI q4), (0, vR wa), (1, vI n), (2, vI dn), (3, vI cn)]) hx hb dX9_kindsAt_76 hlv (k := 2) rfl (by rw [hz_9]; exact (Int32.ofInt_add _ _).symm) (by decide) rfl (fun ls hlv => ?_)
            refine lv_goto (tgt := 6) hx hb dX9_kindsAt_79 (by decide) ?_
            exact ih6 q4 z_9 H locs ls (by omega) (by first | exact hl6_0 | omega) (by omega) (by omega)  (hP.sub [0, 1] rfl) (hD.sub [0, 1] (by decide) rfl) hS (lv_sub hlv [0, 3, 4, 5, 6, 7] rfl)
          · refine lv_aload_n hx hb dX9_kindsAt_30 rfl (lv_at hlv 4 rfl) ?_
            refine va_get (D := D) (ci := 9) (v := vR se) (C := RX9) (T := TX9) (N := 5) hx hb hts hi9 hown hG.1 hP 0 rfl rfl 2 (by decide) lf25 (fun _ h9 => h9) rfl dX9_kindsAt_31 ?_
            refine lv_iload_n hx hb dX9_kindsAt_34 rfl (lv_at hlv 7 rfl) ?_
            refine lv_iload hx hb dX9_kindsAt_35 (lv_at hlv 0 rfl) ?_
            refine lv_imul hx hb dX9_kindsAt_37 ?_
            refine lt_e (e0 := cn * q7) (Int32.ofInt_mul _ _).symm (fun z_10 hz_10 => ?_)
            have bz_10 : 0 ≤ z_10 ∧ z_10 ≤ 1152 := by rw [hz_10]; exact mul_bd (x := 96) (y := 12) (by omega) (by omega) (by decide)
            refine lv_iload_n hx hb dX9_kindsAt_38 rfl (lv_at hlv 5 rfl) ?_
            refine lv_iadd hx hb dX9_kindsAt_39 ?_
            refine lt_e (e0 := z_10 + n) (Int32.ofInt_add _ _).symm (fun z_11 hz_11 => ?_)
            refine va_iald hx hb hG.1 hP 1 0 rfl rfl (iI_in (by omega) (by decide)) dX9_kindsAt_40 ?_
            refine lt_z (fun z_12 ez_12 lz_12 hz_12 => ?_)
            refine lv_aload_n hx hb dX9_kindsAt_41 rfl (lv_at hlv 4 rfl) ?_
            refine va_get (D := D) (ci := 9) (v := vR se) (C := RX9) (T := TX9) (N := 5) hx hb hts hi9 hown hG.1 hP 0 rfl rfl 2 (by decide) lf25 (fun _ h9 => h9) rfl dX9_kindsAt_42 ?_
            refine lv_iload_n hx hb dX9_kindsAt_45 rfl (lv_at hlv 7 rfl) ?_
            refine lv_iload hx hb dX9_kindsAt_46 (lv_at hlv 2 rfl) ?_
            refine lv_imul hx hb dX9_kindsAt_48 ?_
            refine lt_e (e0 := cn * q5) (Int32.ofInt_mul _ _).symm (fun z_13 hz_13 => ?_)
            have bz_13 : 0 ≤ z_13 ∧ z_13 ≤ 1248 := by rw [hz_13]; exact mul_bd (x := 96) (y := 13) (by omega) (by omega) (by decide)
            refine lv_iload_n hx hb dX9_kindsAt_49 rfl (lv_at hlv 5 rfl) ?_
            refine lv_iadd hx hb dX9_kindsAt_50 ?_
            refine lt_e (e0 := z_13 + n) (Int32.ofInt_add _ _).symm (fun z_14 hz_14 => ?_)
            refine va_iald hx hb hG.1 hP 1 0 rfl rfl (iI_in (by omega) (by decide)) dX9_kindsAt_51 ?_
            refine lt_z (fun z_15 ez_15 lz_15 hz_15 => ?_)
            refine ir_eq (tgt := 59) hx hb dX9_kindsAt_52 (by decide) (by omega) (by omega) (fun c_16 => ?_) (fun c_16 => ?_)
            · refine lv_iconst (v := iI 0) hx hb dX9_kindsAt_59 (by decide) ?_
              refine lv_istore (lv' := [(6, vI 0), (7, vI q7), (5, vI q5), (4, vI q4), (0, vR wa), (1, vI n), (2, vI dn), (3, vI cn)]) hx hb dX9_kindsAt_60 hlv (by decide) rfl (fun ls hlv => ?_)
              obtain ⟨z_17, hz_17⟩ : ∃ z : Int, z = q7 + 1 := ⟨_, rfl⟩
              refine lv_iinc (v := iI z_17) (lv' := [(7, vI z_17), (6, vI 0), (5, vI q5), (4, vI q4), (0, vR wa), (1, vI n), (2, vI dn), (3, vI cn)]) hx hb dX9_kindsAt_62 hlv (k := 1) rfl (by rw [hz_17]; exact (Int32.ofInt_add _ _).symm) (by decide) rfl (fun ls hlv => ?_)
              refine lv_goto (tgt := 18) hx hb dX9_kindsAt_65 (by decide) ?_
              exact ih18 0 z_17 H locs ls (by omega) (by show (0 : Int) ≤ 0 ∧ (0 : Int) ≤ 1; decide) (by omega)  (hP.sub [0, 1] rfl) (hD.sub [0, 1] (by decide) rfl) hS (lv_sub hlv [0, 1, 2, 3, 4, 5, 6, 7] rfl)
            · refine lv_iconst (v := iI 1) hx hb dX9_kindsAt_55 (by decide) ?_
              refine lv_goto (tgt := 60) hx hb dX9_kindsAt_56 (by decide) ?_
              refine lv_istore (lv' := [(6, vI 1), (7, vI q7), (5, vI q5), (4, vI q4), (0, vR wa), (1, vI n), (2, vI dn), (3, vI cn)]) hx hb dX9_kindsAt_60 hlv (by decide) rfl (fun ls hlv => ?_)
              obtain ⟨z_18, hz_18⟩ : ∃ z : Int, z = q7 + 1 := ⟨_, rfl⟩
              refine lv_iinc (v := iI z_18) (lv' := [(7, vI z_18), (6, vI 1), (5, vI q5), (4, vI q4), (0, vR wa), (1, vI n), (2, vI dn), (3, vI cn)]) hx hb dX9_kindsAt_62 hlv (k := 1) rfl (by rw [hz_18]; exact (Int32.ofInt_add _ _).symm) (by decide) rfl (fun ls hlv => ?_)
              refine lv_goto (tgt := 18) hx hb dX9_kindsAt_65 (by decide) ?_
              exact ih18 1 z_18 H locs ls (by omega) (by show (0 : Int) ≤ 1 ∧ (1 : Int) ≤ 1; decide) (by omega)  (hP.sub [0, 1] rfl) (hD.sub [0, 1] (by decide) rfl) hS (lv_sub hlv [0, 1, 2, 3, 4, 5, 6, 7] rfl)
def vs_i_look : List Cond := .code yX9_findLook cX9_findLook 7 none :: (([.fieldLink RX9 29 "KerbSplash$WhatIf" "found" "I", .fieldLink RX9 33 "KerbSplash$WhatIf" "worth" "I", .initialized RX6, .instanceMethod yX6_cells, .selects RX6 yX6_cells yX6_cells, .instanceMethod yX6_index, .selects RX6 yX6_index yX6_index, .fieldLink RX9 12 "KerbSplash$WhatIf" "trial" "LKerbSplash$Street;", .instanceMethod yX6_become, .selects RX6 yX6_become yX6_become, .instanceMethod yX6_passRain, .selects RX6 yX6_passRain yX6_passRain, .fieldLink RX9 25 "KerbSplash$WhatIf" "seen" "[I", .methodLink RX9 76 arraycopyName, .native arraycopyName, .static arraycopyName, .initialized "java/lang/System"] : List Cond) ++ ((wsX90) ++ ((vs_s_cells) ++ ((wsX60) ++ ((vs_s_index) ++ ((wsV RX9 92 RX9 yX9_kindsAt vs_i_kinds) ++ ((vs_s_sbecome) ++ ((vs_s_passRain) ++ ([])))))))))
theorem gd_i_look : vs_i_look.all goodWord = true := gd_C (by decide +kernel) (gd_A (by decide +kernel) (gd_A (by decide +kernel) (gd_A gd_s_cells (gd_A (by decide +kernel) (gd_A gd_s_index (gd_A (gd_V gd_i_kinds (by decide +kernel)) (gd_A gd_s_sbecome (gd_A gd_s_passRain rfl))))))))
set_option maxHeartbeats 4000000 in
set_option maxRecDepth 100000 in
theorem i_look (l : Launch) (hl : l.stackTraces = false) (D : va_G) (cy : Nat → ClassId) (sa : Nat → Nat) (wa ca se : Nat) (fo wth : Int) (tA t2 t3 t6 t8 t11 t13 : Nat) (twi tro tdr tdt tpe tgu tsh two tdn tmi tfl ttk tgo : Int) (thf twf tdf tpf tsf tkf : Nat → Int32) (sA s2 s3 s6 s8 s11 s13 : Nat) (swi sro sdr sdt spe sgu ssh swo sdn smi sfl stk sgo : Int) (shf swf sdf spf ssf skf : Nat → Int32) (ra rf : Nat) (rm : Int) (ff : Nat → Int32) (sef : Nat → Int32) (sz : Nat) (hr_fo : (-2147483648) ≤ fo ∧ fo ≤ 2147483647) (hr_wth : (-2147483648) ≤ wth ∧ wth ≤ 2147483647) (hr_twi : 0 ≤ twi ∧ twi ≤ 16) (hr_tro : 0 ≤ tro ∧ tro ≤ 6) (hr_tdr : 0 ≤ tdr ∧ tdr ≤ 14) (hr_tdt : 0 ≤ tdt ∧ tdt ≤ 6) (hr_tpe : 0 ≤ tpe ∧ tpe ≤ 8) (hr_tgu : 0 ≤ tgu ∧ tgu ≤ 20) (hr_tsh : 0 ≤ tsh ∧ tsh ≤ 2) (hr_two : 0 ≤ two ∧ two ≤ 8) (hr_tdn : (-2147483648) ≤ tdn ∧ tdn ≤ 2147483647) (hr_tmi : 0 ≤ tmi ∧ tmi ≤ 600) (hr_tfl : (-2147483648) ≤ tfl ∧ tfl ≤ 2147483647) (hr_ttk : (-2147483648) ≤ ttk ∧ ttk ≤ 2147483647) (hr_tgo : (-2147483648) ≤ tgo ∧ tgo ≤ 2147483647) (hr_swi : 0 ≤ swi ∧ swi ≤ 16) (hr_sro : 0 ≤ sro ∧ sro ≤ 6) (hr_sdr : 0 ≤ sdr ∧ sdr ≤ 14) (hr_sdt : 0 ≤ sdt ∧ sdt ≤ 6) (hr_spe : 0 ≤ spe ∧ spe ≤ 8) (hr_sgu : 0 ≤ sgu ∧ sgu ≤ 20) (hr_ssh : 0 ≤ ssh ∧ ssh ≤ 2) (hr_swo : 0 ≤ swo ∧ swo ≤ 8) (hr_sdn : (-2147483648) ≤ sdn ∧ sdn ≤ 2147483647) (hr_smi : 0 ≤ smi ∧ smi ≤ 600) (hr_sfl : (-2147483648) ≤ sfl ∧ sfl ≤ 2147483647) (hr_stk : (-2147483648) ≤ stk ∧ stk ≤ 2147483647) (hr_sgo : (-2147483648) ≤ sgo ∧ sgo ≤ 2147483647) (hr_rm : 0 ≤ rm ∧ rm ≤ 240) (hthf : inv_ 96 0 99 thf) (htdf : tab_ 4 14 [0, 0, 0, 0] [15, 5, 99, 16] tdf) (htpf : tab_ 4 28 [(-2147483648), 0, (-2147483648), (-2147483648)] [2147483647, 19, 2147483647, 2147483647] tpf) (htkf : tw_ tkf) (hshf : inv_ 96 0 99 shf) (hsdf : tab_ 4 14 [0, 0, 0, 0] [15, 5, 99, 16] sdf) (hspf : tab_ 4 28 [0, 0, (-2147483648), (-2147483648)] [15, 19, 2147483647, 2147483647] spf) (hskf : tw_ skf) (hff : inv_ 240 0 20 ff) : mV9 l yX9_findLook vs_i_look ({ frames := 5, cells := 0, slots := 0, locals := 121 }) D cy sa sz [vR wa, vR sA, vR ra] [zO wa 9 [vR tA, vR ca, vR se, vI fo, vI wth], zI se (cy 0) 1344 sef, zO tA 6 [vI twi, vI tro, vR t2, vR t3, vI tdr, vI tdt, vR t6, vI tpe, vR t8, vI tgu, vI tsh, vR t11, vI two, vR t13, vI tdn, vI tmi, vI tfl, vI ttk, vI tgo], zI t2 (cy 0) 96 thf, zI t3 (cy 0) 96 twf, zI t6 (cy 0) 56 tdf, zI t8 (cy 0) 112 tpf, zI t11 (cy 0) 4 tsf, zI t13 (cy 0) 40 tkf, zO sA 6 [vI swi, vI sro, vR s2, vR s3, vI sdr, vI sdt, vR s6, vI spe, vR s8, vI sgu, vI ssh, vR s11, vI swo, vR s13, vI sdn, vI smi, vI sfl, vI stk, vI sgo], zI s2 (cy 0) 96 shf, zI s3 (cy 0) 96 swf, zI s6 (cy 0) 56 sdf, zI s8 (cy 0) 112 spf, zI s11 (cy 0) 4 ssf, zI s13 (cy 0) 40 skf, zO ra 5 [vR rf, vI rm], zI rf (cy 0) 240 ff] (fun u : SV => ((-2147483648) ≤ u.2.1 14 ∧ u.2.1 14 ≤ 2147483647) ∧ ((-2147483648) ≤ u.2.1 15 ∧ u.2.1 15 ≤ 2147483647) ∧ (0 ≤ u.2.1 1 ∧ u.2.1 1 ≤ 16) ∧ (0 ≤ u.2.1 2 ∧ u.2.1 2 ≤ 6) ∧ (0 ≤ u.2.1 3 ∧ u.2.1 3 ≤ 14) ∧ (0 ≤ u.2.1 4 ∧ u.2.1 4 ≤ 6) ∧ (0 ≤ u.2.1 5 ∧ u.2.1 5 ≤ 8) ∧ (0 ≤ u.2.1 6 ∧ u.2.1 6 ≤ 20) ∧ (0 ≤ u.2.1 7 ∧ u.2.1 7 ≤ 2) ∧ (0 ≤ u.2.1 8 ∧ u.2.1 8 ≤ 8) ∧ ((-2147483648) ≤ u.2.1 9 ∧ u.2.1 9 ≤ 2147483647) ∧ (0 ≤ u.2.1 10 ∧ u.2.1 10 ≤ 600) ∧ ((-2147483648) ≤ u.2.1 11 ∧ u.2.1 11 ≤ 2147483647) ∧ ((-2147483648) ≤ u.2.1 12 ∧ u.2.1 12 ≤ 2147483647) ∧ ((-2147483648) ≤ u.2.1 13 ∧ u.2.1 13 ≤ 2147483647) ∧ inv_ 96 0 99 (u.2.2 0) ∧ tab_ 4 14 [0, 0, 0, 0] [15, 5, 99, 16] (u.2.2 2) ∧ tab_ 4 28 [(-2147483648), 0, (-2147483648), (-2147483648)] [2147483647, 19, 2147483647, 2147483647] (u.2.2 3) ∧ tw_ (u.2.2 5) ∧ inv_ 96 0 99 shf ∧ tab_ 4 14 [0, 0, 0, 0] [15, 5, 99, 16] sdf ∧ tab_ 4 28 [0, 0, (-2147483648), (-2147483648)] [15, 19, 2147483647, 2147483647] spf ∧ tw_ skf ∧ inv_ 240 0 20 ff) (fun u : SV => [zO wa 9 [vR tA, vR ca, vR se, vI (u.2.1 14), vI (u.2.1 15)], zI se (cy 0) 1344 (u.2.2 6), zO tA 6 [vI (u.2.1 1), vI (u.2.1 2), vR t2, vR t3, vI (u.2.1 3), vI (u.2.1 4), vR t6, vI (u.2.1 5), vR t8, vI (u.2.1 6), vI (u.2.1 7), vR t11, vI (u.2.1 8), vR t13, vI (u.2.1 9), vI (u.2.1 10), vI (u.2.1 11), vI (u.2.1 12), vI (u.2.1 13)], zI t2 (cy 0) 96 (u.2.2 0), zI t3 (cy 0) 96 (u.2.2 1), zI t6 (cy 0) 56 (u.2.2 2), zI t8 (cy 0) 112 (u.2.2 3), zI t11 (cy 0) 4 (u.2.2 4), zI t13 (cy 0) 40 (u.2.2 5), zO sA 6 [vI swi, vI sro, vR s2, vR s3, vI sdr, vI sdt, vR s6, vI spe, vR s8, vI sgu, vI ssh, vR s11, vI swo, vR s13, vI sdn, vI smi, vI sfl, vI stk, vI sgo], zI s2 (cy 0) 96 shf, zI s3 (cy 0) 96 swf, zI s6 (cy 0) 56 sdf, zI s8 (cy 0) 112 spf, zI s11 (cy 0) 4 ssf, zI s13 (cy 0) 40 skf, zO ra 5 [vR rf, vI rm], zI rf (cy 0) 240 ff]) 0 0 := by
  refine Met.ofW (cc := cX9_findLook) (maxL := 7) (ret := none) (by decide) rfl ?_
  intro p e s m args below meth c s₁ B hml hv
  obtain ⟨rfl, hsz, hP, hG, hD0, hT⟩ := hv
  have hx := B.exec
  have hb := B.bytes
  have hr := B.returns
  have hts := atoms_spec (ws := vs_i_look) B.pre
  have hown : s.vm.findClass RX9 = some m.cls := findClass_of_methodNamed B.named
  have hlocks := B.notSynchronized
  subst hsz
  have hD := hD0.self (sz := s.heap.size)
  generalize hAe : va_A [zO wa 9 [vR tA, vR ca, vR se, vI fo, vI wth], zI se (cy 0) 1344 sef, zO tA 6 [vI twi, vI tro, vR t2, vR t3, vI tdr, vI tdt, vR t6, vI tpe, vR t8, vI tgu, vI tsh, vR t11, vI two, vR t13, vI tdn, vI tmi, vI tfl, vI ttk, vI tgo], zI t2 (cy 0) 96 thf, zI t3 (cy 0) 96 twf, zI t6 (cy 0) 56 tdf, zI t8 (cy 0) 112 tpf, zI t11 (cy 0) 4 tsf, zI t13 (cy 0) 40 tkf, zO sA 6 [vI swi, vI sro, vR s2, vR s3, vI sdr, vI sdt, vR s6, vI spe, vR s8, vI sgu, vI ssh, vR s11, vI swo, vR s13, vI sdn, vI smi, vI sfl, vI stk, vI sgo], zI s2 (cy 0) 96 shf, zI s3 (cy 0) 96 swf, zI s6 (cy 0) 56 sdf, zI s8 (cy 0) 112 spf, zI s11 (cy 0) 4 ssf, zI s13 (cy 0) 40 skf, zO ra 5 [vR rf, vI rm], zI rf (cy 0) 240 ff] s.heap.size = A at hD hT ⊢
  have hA : ∀ q : Nat, s.heap.size ≤ q → A q := fun q h => by rw [← hAe]; exact Or.inr h
  have hS : va_S A s.heap s.heap [] := va_S.rf
  have hl0 := lv_entry ([vR wa, vR sA, vR ra]) (n := 7) (Nat.le_of_ble_eq_true rfl)
  rw [lg_entry_eq]
  generalize (lg_sl ([vR wa, vR sA, vR ra]) ++ List.replicate (7 - (lg_sl ([vR wa, vR sA, vR ra])).length) Slot.unset).toArray = ls at hl0 ⊢
  have hlv : lv_has ls 7 [(0, vR wa), (1, vR sA), (2, vR ra)] := hl0
  have lf29 := hts (.fieldLink RX9 29 "KerbSplash$WhatIf" "found" "I") (List.mem_of_getElem? (i := 1) rfl)
  have hi9 : ∀ w ∈ wsX90, w ∈ vs_i_look := fun w h => List.mem_cons_of_mem _ (List.mem_append_right _ (List.mem_append_left _ h))
  have lf33 := hts (.fieldLink RX9 33 "KerbSplash$WhatIf" "worth" "I") (List.mem_of_getElem? (i := 2) rfl)
  have gg_1 : GoodIn vs_i_look (vs_s_cells) := goodIn_sub (fun w h => List.mem_cons_of_mem _ (List.mem_append_right _ (List.mem_append_right _ (List.mem_append_left _ h)))) gd_s_cells
  have ini_RX6 := hts (.initialized RX6) (List.mem_of_getElem? (i := 3) rfl)
  have im_X6_cells := hts (.instanceMethod yX6_cells) (List.mem_of_getElem? (i := 4) rfl)
  have se_X6_cells := hts (.selects RX6 yX6_cells yX6_cells) (List.mem_of_getElem? (i := 5) rfl)
  have hi6 : ∀ w ∈ wsX60, w ∈ vs_i_look := fun w h => List.mem_cons_of_mem _ (List.mem_append_right _ (List.mem_append_right _ (List.mem_append_right _ (List.mem_append_left _ h))))
  have gg_3 : GoodIn vs_i_look (vs_s_index) := goodIn_sub (fun w h => List.mem_cons_of_mem _ (List.mem_append_right _ (List.mem_append_right _ (List.mem_append_right _ (List.mem_append_right _ (List.mem_append_left _ h)))))) gd_s_index
  have im_X6_index := hts (.instanceMethod yX6_index) (List.mem_of_getElem? (i := 6) rfl)
  have se_X6_index := hts (.selects RX6 yX6_index yX6_index) (List.mem_of_getElem? (i := 7) rfl)
  have gg_4 : GoodIn vs_i_look (wsV RX9 92 RX9 yX9_kindsAt vs_i_kinds) := goodIn_sub (fun w h => List.mem_cons_of_mem _ (List.mem_append_right _ (List.mem_append_right _ (List.mem_append_right _ (List.mem_append_right _ (List.mem_append_right _ (List.mem_append_left _ h))))))) (gd_V gd_i_kinds (by decide +kernel))
  have lf12 := hts (.fieldLink RX9 12 "KerbSplash$WhatIf" "trial" "LKerbSplash$Street;") (List.mem_of_getElem? (i := 8) rfl)
  have gg_5 : GoodIn vs_i_look (vs_s_sbecome) := goodIn_sub (fun w h => List.mem_cons_of_mem _ (List.mem_append_right _ (List.mem_append_right _ (List.mem_append_right _ (List.mem_append_right _ (List.mem_append_right _ (List.mem_append_right _ (List.mem_append_left _ h)))))))) gd_s_sbecome
  have im_X6_become := hts (.instanceMethod yX6_become) (List.mem_of_getElem? (i := 9) rfl)
  have se_X6_become := hts (.selects RX6 yX6_become yX6_become) (List.mem_of_getElem? (i := 10) rfl)
  have gg_6 : GoodIn vs_i_look (vs_s_passRain) := goodIn_sub (fun w h => List.mem_cons_of_mem _ (List.mem_append_right _ (List.mem_append_right _ (List.mem_append_right _ (List.mem_append_right _ (List.mem_append_right _ (List.mem_append_right _ (List.mem_append_right _ (List.mem_append_left _ h))))))))) gd_s_passRain
  have im_X6_passRain := hts (.instanceMethod yX6_passRain) (List.mem_of_getElem? (i := 11) rfl)
  have se_X6_passRain := hts (.selects RX6 yX6_passRain yX6_passRain) (List.mem_of_getElem? (i := 12) rfl)
  have lf25 := hts (.fieldLink RX9 25 "KerbSplash$WhatIf" "seen" "[I") (List.mem_of_getElem? (i := 13) rfl)
  have ay1_76 := hts (.methodLink RX9 76 arraycopyName) (List.mem_of_getElem? (i := 14) rfl)
  have ay2 := hts (.native arraycopyName) (List.mem_of_getElem? (i := 15) rfl)
  have ay3 := hts (.static arraycopyName) (List.mem_of_getElem? (i := 16) rfl)
  have ay4 := hts (.initialized "java/lang/System") (List.mem_of_getElem? (i := 17) rfl)
  refine lv_aload_n hx hb dX9_findLook_0 rfl (lv_at hlv 0 rfl) ?_
  refine lv_iconst (v := iI (-1)) hx hb dX9_findLook_1 (by decide) ?_
  refine va_put (D := D) (ci := 9) (v := vI (-1)) (ty := .int) (C := RX9) (T := TX9) (N := 5) hx hb hts hi9 tyX9 tyX9_ok nmX9 hown hG.1 hP hD hS 0 rfl rfl 3 (by decide) lf29 (fun _ h9 => h9) rfl (by decide +kernel) rfl rfl (Nat.le_of_ble_eq_true rfl) dX9_findLook_2 (fun H locs hP hD hS => ?_)
  obtain ⟨hP, hD⟩ := pw9 [zO wa 9 [vR tA, vR ca, vR se, vI (-1), vI wth], zI se (cy 0) 1344 sef, zO tA 6 [vI twi, vI tro, vR t2, vR t3, vI tdr, vI tdt, vR t6, vI tpe, vR t8, vI tgu, vI tsh, vR t11, vI two, vR t13, vI tdn, vI tmi, vI tfl, vI ttk, vI tgo], zI t2 (cy 0) 96 thf, zI t3 (cy 0) 96 twf, zI t6 (cy 0) 56 tdf, zI t8 (cy 0) 112 tpf, zI t11 (cy 0) 4 tsf, zI t13 (cy 0) 40 tkf, zO sA 6 [vI swi, vI sro, vR s2, vR s3, vI sdr, vI sdt, vR s6, vI spe, vR s8, vI sgu, vI ssh, vR s11, vI swo, vR s13, vI sdn, vI smi, vI sfl, vI stk, vI sgo], zI s2 (cy 0) 96 shf, zI s3 (cy 0) 96 swf, zI s6 (cy 0) 56 sdf, zI s8 (cy 0) 112 spf, zI s11 (cy 0) 4 ssf, zI s13 (cy 0) 40 skf, zO ra 5 [vR rf, vI rm], zI rf (cy 0) 240 ff] hP hD
  refine lv_aload_n hx hb dX9_findLook_5 rfl (lv_at hlv 0 rfl) ?_
  refine lv_iconst (v := iI (-1)) hx hb dX9_findLook_6 (by decide) ?_
  refine va_put (D := D) (ci := 9) (v := vI (-1)) (ty := .int) (C := RX9) (T := TX9) (N := 5) hx hb hts hi9 tyX9 tyX9_ok nmX9 hown hG.1 hP hD hS 0 rfl rfl 4 (by decide) lf33 (fun _ h9 => h9) rfl (by decide +kernel) rfl rfl (Nat.le_of_ble_eq_true rfl) dX9_findLook_7 (fun H locs hP hD hS => ?_)
  obtain ⟨hP, hD⟩ := pw9 [zO wa 9 [vR tA, vR ca, vR se, vI (-1), vI (-1)], zI se (cy 0) 1344 sef, zO tA 6 [vI twi, vI tro, vR t2, vR t3, vI tdr, vI tdt, vR t6, vI tpe, vR t8, vI tgu, vI tsh, vR t11, vI two, vR t13, vI tdn, vI tmi, vI tfl, vI ttk, vI tgo], zI t2 (cy 0) 96 thf, zI t3 (cy 0) 96 twf, zI t6 (cy 0) 56 tdf, zI t8 (cy 0) 112 tpf, zI t11 (cy 0) 4 tsf, zI t13 (cy 0) 40 tkf, zO sA 6 [vI swi, vI sro, vR s2, vR s3, vI sdr, vI sdt, vR s6, vI spe, vR s8, vI sgu, vI ssh, vR s11, vI swo, vR s13, vI sdn, vI smi, vI sfl, vI stk, vI sgo], zI s2 (cy 0) 96 shf, zI s3 (cy 0) 96 swf, zI s6 (cy 0) 56 sdf, zI s8 (cy 0) 112 spf, zI s11 (cy 0) 4 ssf, zI s13 (cy 0) 40 skf, zO ra 5 [vR rf, vI rm], zI rf (cy 0) 240 ff] hP hD
  refine lv_aload_n hx hb dX9_findLook_10 rfl (lv_at hlv 1 rfl) ?_
  refine cjr_i [true, true, true, true, true, true, true, true, true, false, true, true, true, true, true, true, true, true] (fun pre9 => (va_runVN (host := "KerbSplash") (As := []) (rest := []) ⟨hx, hb, hml, hown, hts⟩ (s_cells l hl D cy sa sA s2 s3 s6 s8 s11 s13 swi sro sdr sdt spe sgu ssh swo sdn smi sfl stk sgo H.size (by first | exact hr_swi | omega) (by first | exact hr_sro | omega) (by first | exact hr_sdr | omega) (by first | exact hr_sdt | omega) (by first | exact hr_spe | omega) (by first | exact hr_sgu | omega) (by first | exact hr_ssh | omega) (by first | exact hr_swo | omega) (by first | exact hr_sdn | omega) (by first | exact hr_smi | omega) (by first | exact hr_sfl | omega) (by first | exact hr_stk | omega) (by first | exact hr_sgo | omega)) ⟨va_cnB 0 hts gg_1 rfl rfl rfl (nM_WhatIf_69 hG.2.1) ini_RX6 (by decide +kernel) ⟨Nat.le_of_ble_eq_true rfl, Nat.le_of_ble_eq_true rfl⟩, im_X6_cells, se_X6_cells⟩ ⟨pcW.blind, (va_recv hG.1 hP (ci := 6) (q0 := 9) rfl rfl), pre9⟩ rfl rfl hlv.1 rfl (lv_room (Nat.le_of_ble_eq_true rfl)) dX9_findLook_11 ⟨Nat.le_of_ble_eq_true rfl, Nat.le_of_ble_eq_true rfl⟩)) hP hD hS hA hG hT [9] rfl (by decide +kernel) (fun r1 u1 H locs hw1 hq9 hS => ?_)
  obtain ⟨rfl, hq1_1⟩ := hw1
  obtain ⟨hP, hD⟩ := pd9 [zO wa 9 [vR tA, vR ca, vR se, vI (-1), vI (-1)], zI se (cy 0) 1344 sef, zO tA 6 [vI twi, vI tro, vR t2, vR t3, vI tdr, vI tdt, vR t6, vI tpe, vR t8, vI tgu, vI tsh, vR t11, vI two, vR t13, vI tdn, vI tmi, vI tfl, vI ttk, vI tgo], zI t2 (cy 0) 96 thf, zI t3 (cy 0) 96 twf, zI t6 (cy 0) 56 tdf, zI t8 (cy 0) 112 tpf, zI t11 (cy 0) 4 tsf, zI t13 (cy 0) 40 tkf, zI s2 (cy 0) 96 shf, zI s3 (cy 0) 96 swf, zI s6 (cy 0) 56 sdf, zI s8 (cy 0) 112 spf, zI s11 (cy 0) 4 ssf, zI s13 (cy 0) 40 skf, zO ra 5 [vR rf, vI rm], zI rf (cy 0) 240 ff, zO sA 6 [vI swi, vI sro, vR s2, vR s3, vI sdr, vI sdt, vR s6, vI spe, vR s8, vI sgu, vI ssh, vR s11, vI swo, vR s13, vI sdn, vI smi, vI sfl, vI stk, vI sgo]] hq9
  refine lv_istore_n (lv' := [(3, vI (u1.2.1 0)), (0, vR wa), (1, vR sA), (2, vR ra)]) hx hb dX9_findLook_14 rfl hlv (by decide) rfl (fun ls hlv => ?_)
  refine lv_iconst (v := iI 0) hx hb dX9_findLook_15 (by decide) ?_
  refine lv_istore (lv' := [(4, vI 0), (3, vI (u1.2.1 0)), (0, vR wa), (1, vR sA), (2, vR ra)]) hx hb dX9_findLook_16 hlv (by decide) rfl (fun ls hlv => ?_)
  refine (?_ : ∀ (fu : Nat) (q4 : Int) (sg : Nat → Int32) (ywi : Int) (yro : Int) (ydr : Int) (ydt : Int) (ype : Int) (ygu : Int) (ysh : Int) (ywo : Int) (ydn : Int) (ymi : Int) (yfl : Int) (ytk : Int) (ygo : Int) (yhf : Nat → Int32) (ywf : Nat → Int32) (ydf : Nat → Int32) (ypf : Nat → Int32) (ysf : Nat → Int32) (ykf : Nat → Int32) (H : Heap) (locs : List Loc) (ls : Array Slot), 14 - q4 < (fu : Int) → (0 ≤ q4 ∧ q4 ≤ 14) → (0 ≤ ywi ∧ ywi ≤ 16) → (0 ≤ yro ∧ yro ≤ 6) → (0 ≤ ydr ∧ ydr ≤ 14) → (0 ≤ ydt ∧ ydt ≤ 6) → (0 ≤ ype ∧ ype ≤ 8) → (0 ≤ ygu ∧ ygu ≤ 20) → (0 ≤ ysh ∧ ysh ≤ 2) → (0 ≤ ywo ∧ ywo ≤ 8) → ((-2147483648) ≤ ydn ∧ ydn ≤ 2147483647) → (0 ≤ ymi ∧ ymi ≤ 600) → ((-2147483648) ≤ yfl ∧ yfl ≤ 2147483647) → ((-2147483648) ≤ ytk ∧ ytk ≤ 2147483647) → ((-2147483648) ≤ ygo ∧ ygo ≤ 2147483647) → inv_ 96 0 99 yhf → tab_ 4 14 [0, 0, 0, 0] [15, 5, 99, 16] ydf → tab_ 4 28 [(-2147483648), 0, (-2147483648), (-2147483648)] [2147483647, 19, 2147483647, 2147483647] ypf → tw_ ykf → va_P D vwCl [zO wa 9 [vR tA, vR ca, vR se, vI (-1), vI (-1)], zI se (cy 0) 1344 sg, zO tA 6 [vI ywi, vI yro, vR t2, vR t3, vI ydr, vI ydt, vR t6, vI ype, vR t8, vI ygu, vI ysh, vR t11, vI ywo, vR t13, vI ydn, vI ymi, vI yfl, vI ytk, vI ygo], zI t2 (cy 0) 96 yhf, zI t3 (cy 0) 96 ywf, zI t6 (cy 0) 56 ydf, zI t8 (cy 0) 112 ypf, zI t11 (cy 0) 4 ysf, zI t13 (cy 0) 40 ykf, zI s2 (cy 0) 96 shf, zI s3 (cy 0) 96 swf, zI s6 (cy 0) 56 sdf, zI s8 (cy 0) 112 spf, zI s11 (cy 0) 4 ssf, zI s13 (cy 0) 40 skf, zO ra 5 [vR rf, vI rm], zI rf (cy 0) 240 ff, zO sA 6 [vI swi, vI sro, vR s2, vR s3, vI sdr, vI sdt, vR s6, vI spe, vR s8, vI sgu, vI ssh, vR s11, vI swo, vR s13, vI sdn, vI smi, vI sfl, vI stk, vI sgo]] H → va_D A [zO wa 9 [vR tA, vR ca, vR se, vI (-1), vI (-1)], zI se (cy 0) 1344 sg, zO tA 6 [vI ywi, vI yro, vR t2, vR t3, vI ydr, vI ydt, vR t6, vI ype, vR t8, vI ygu, vI ysh, vR t11, vI ywo, vR t13, vI ydn, vI ymi, vI yfl, vI ytk, vI ygo], zI t2 (cy 0) 96 yhf, zI t3 (cy 0) 96 ywf, zI t6 (cy 0) 56 ydf, zI t8 (cy 0) 112 ypf, zI t11 (cy 0) 4 ysf, zI t13 (cy 0) 40 ykf, zI s2 (cy 0) 96 shf, zI s3 (cy 0) 96 swf, zI s6 (cy 0) 56 sdf, zI s8 (cy 0) 112 spf, zI s11 (cy 0) 4 ssf, zI s13 (cy 0) 40 skf, zO ra 5 [vR rf, vI rm], zI rf (cy 0) 240 ff, zO sA 6 [vI swi, vI sro, vR s2, vR s3, vI sdr, vI sdt, vR s6, vI spe, vR s8, vI sgu, vI ssh, vR s11, vI swo, vR s13, vI sdn, vI smi, vI sfl, vI stk, vI sgo]] → va_S A s.heap H locs → lv_has ls 7 [(4, vI q4), (3, vI (u1.2.1 0)), (0, vR wa), (1, vR sA), (2, vR ra)] → W p l e _ s m _ below meth c H locs _ _ _ (F0 m 18 ls [])) (((14 - 0) + 1 : Int)).toNat 0 sef twi tro tdr tdt tpe tgu tsh two tdn tmi tfl ttk tgo thf twf tdf tpf tsf tkf _ _ _ (by omega) (by show (0 : Int) ≤ 0 ∧ (0 : Int) ≤ 14; decide) (by first | exact hr_twi | omega) (by first | exact hr_tro | omega) (by first | exact hr_tdr | omega) (by first | exact hr_tdt | omega) (by first | exact hr_tpe | omega) (by first | exact hr_tgu | omega) (by first | exact hr_tsh | omega) (by first | exact hr_two | omega) (by first | exact hr_tdn | omega) (by first | exact hr_tmi | omega) (by first | exact hr_tfl | omega) (by first | exact hr_ttk | omega) (by first | exact hr_tgo | omega) hthf htdf htpf htkf hP hD hS hlv
  clear hP hD hS hlv
  intro fu
  induction fu with
  | zero => intro q4 sg ywi yro ydr ydt ype ygu ysh ywo ydn ymi yfl ytk ygo yhf ywf ydf ypf ysf ykf H locs ls hm18 hl18_0 hl18_1 hl18_2 hl18_3 hl18_4 hl18_5 hl18_6 hl18_7 hl18_8 hl18_9 hl18_10 hl18_11 hl18_12 hl18_13 hiyhf hiydf hiypf hiykf hP hD hS hlv; omega
  | succ fu ih18 =>
    intro q4 sg ywi yro ydr ydt ype ygu ysh ywo ydn ymi yfl ytk ygo yhf ywf ydf ypf ysf ykf H locs ls hm18 hl18_0 hl18_1 hl18_2 hl18_3 hl18_4 hl18_5 hl18_6 hl18_7 hl18_8 hl18_9 hl18_10 hl18_11 hl18_12 hl18_13 hiyhf hiydf hiypf hiykf hP hD hS hlv
    refine lv_iload hx hb dX9_findLook_18 (lv_at hlv 0 rfl) ?_
    refine lv_aload_n hx hb dX9_findLook_20 rfl (lv_at hlv 3 rfl) ?_
    refine va_getN (D := D) (ci := 6) (v := vI sdr) (C := RX6) (T := TX6) (N := 19) hx hb hts hi6 hown hG.1 hP 17 rfl rfl 4 (by decide) (va_Nw.use rfl (nF_WhatIf_73 hG.2.1)) (fun _ h9 => h9) rfl dX9_findLook_21 ?_
    refine ir_ge (tgt := 115) hx hb dX9_findLook_24 (by decide) (by first | exact rgw hl18_0 (by decide) (by decide) | omega) (by first | exact rgw hr_sdr (by decide) (by decide) | omega) (fun c_1 => ?_) (fun c_1 => ?_)
    · refine lv_aload_n hx hb dX9_findLook_115 rfl (lv_at hlv 3 rfl) ?_
      refine va_getN (D := D) (ci := 6) (v := vI sdr) (C := RX6) (T := TX6) (N := 19) hx hb hts hi6 hown hG.1 hP 17 rfl rfl 4 (by decide) (va_Nw.use rfl (nF_WhatIf_73 hG.2.1)) (fun _ h9 => h9) rfl dX9_findLook_116 ?_
      refine iz_ne (tgt := 123) hx hb dX9_findLook_119 (by decide) (by first | exact rgw hr_sdr (by decide) (by decide) | omega) (fun c_2 => ?_) (fun c_2 => ?_)
      · refine lv_iconst (v := iI 0) hx hb dX9_findLook_123 (by decide) ?_
        refine lv_istore (lv' := [(4, vI 0), (3, vI (u1.2.1 0)), (0, vR wa), (1, vR sA), (2, vR ra)]) hx hb dX9_findLook_124 hlv (by decide) rfl (fun ls hlv => ?_)
        refine (?_ : ∀ (fu : Nat) (r4 : Int) (ro_ : Int) (rw_ : Int) (H : Heap) (locs : List Loc) (ls : Array Slot), 16 - r4 < (fu : Int) → (0 ≤ r4 ∧ r4 ≤ 16) → ((-2147483648) ≤ ro_ ∧ ro_ ≤ 2147483647) → ((-2147483648) ≤ rw_ ∧ rw_ ≤ 2147483647) → va_P D vwCl [zO wa 9 [vR tA, vR ca, vR se, vI ro_, vI rw_], zI se (cy 0) 1344 sg, zO tA 6 [vI ywi, vI yro, vR t2, vR t3, vI ydr, vI ydt, vR t6, vI ype, vR t8, vI ygu, vI ysh, vR t11, vI ywo, vR t13, vI ydn, vI ymi, vI yfl, vI ytk, vI ygo], zI t2 (cy 0) 96 yhf, zI t3 (cy 0) 96 ywf, zI t6 (cy 0) 56 ydf, zI t8 (cy 0) 112 ypf, zI t11 (cy 0) 4 ysf, zI t13 (cy 0) 40 ykf, zI s2 (cy 0) 96 shf, zI s3 (cy 0) 96 swf, zI s6 (cy 0) 56 sdf, zI s8 (cy 0) 112 spf, zI s11 (cy 0) 4 ssf, zI s13 (cy 0) 40 skf, zO ra 5 [vR rf, vI rm], zI rf (cy 0) 240 ff, zO sA 6 [vI swi, vI sro, vR s2, vR s3, vI sdr, vI sdt, vR s6, vI spe, vR s8, vI sgu, vI ssh, vR s11, vI swo, vR s13, vI sdn, vI smi, vI sfl, vI stk, vI sgo]] H → va_D A [zO wa 9 [vR tA, vR ca, vR se, vI ro_, vI rw_], zI se (cy 0) 1344 sg, zO tA 6 [vI ywi, vI yro, vR t2, vR t3, vI ydr, vI ydt, vR t6, vI ype, vR t8, vI ygu, vI ysh, vR t11, vI ywo, vR t13, vI ydn, vI ymi, vI yfl, vI ytk, vI ygo], zI t2 (cy 0) 96 yhf, zI t3 (cy 0) 96 ywf, zI t6 (cy 0) 56 ydf, zI t8 (cy 0) 112 ypf, zI t11 (cy 0) 4 ysf, zI t13 (cy 0) 40 ykf, zI s2 (cy 0) 96 shf, zI s3 (cy 0) 96 swf, zI s6 (cy 0) 56 sdf, zI s8 (cy 0) 112 spf, zI s11 (cy 0) 4 ssf, zI s13 (cy 0) 40 skf, zO ra 5 [vR rf, vI rm], zI rf (cy 0) 240 ff, zO sA 6 [vI swi, vI sro, vR s2, vR s3, vI sdr, vI sdt, vR s6, vI spe, vR s8, vI sgu, vI ssh, vR s11, vI swo, vR s13, vI sdn, vI smi, vI sfl, vI stk, vI sgo]] → va_S A s.heap H locs → lv_has ls 7 [(4, vI r4), (3, vI (u1.2.1 0)), (0, vR wa), (1, vR sA), (2, vR ra)] → W p l e _ s m _ below meth c H locs _ _ _ (F0 m 126 ls [])) (((16 - 0) + 1 : Int)).toNat 0 (-1) (-1) _ _ _ (by omega) (by show (0 : Int) ≤ 0 ∧ (0 : Int) ≤ 16; decide) (by show ((-2147483648) : Int) ≤ (-1) ∧ ((-1) : Int) ≤ 2147483647; decide) (by show ((-2147483648) : Int) ≤ (-1) ∧ ((-1) : Int) ≤ 2147483647; decide)  hP hD hS hlv
        clear hP hD hS hlv
        intro fu
        induction fu with
        | zero => intro r4 ro_ rw_ H locs ls hm126 hl126_0 hl126_1 hl126_2  hP hD hS hlv; omega
        | succ fu ih126 =>
          intro r4 ro_ rw_ H locs ls hm126 hl126_0 hl126_1 hl126_2  hP hD hS hlv
          refine lv_iload hx hb dX9_findLook_126 (lv_at hlv 0 rfl) ?_
          refine lv_aload_n hx hb dX9_findLook_128 rfl (lv_at hlv 3 rfl) ?_
          refine va_getN (D := D) (ci := 6) (v := vI swi) (C := RX6) (T := TX6) (N := 19) hx hb hts hi6 hown hG.1 hP 17 rfl rfl 0 (by decide) (va_Nw.use rfl (nF_WhatIf_82 hG.2.1)) (fun _ h9 => h9) rfl dX9_findLook_129 ?_
          refine ir_ge (tgt := 205) hx hb dX9_findLook_132 (by decide) (by first | exact rgw hl126_0 (by decide) (by decide) | omega) (by first | exact rgw hr_swi (by decide) (by decide) | omega) (fun c_3 => ?_) (fun c_3 => ?_)
          · refine W.widen (k := 0) (n := 0) (Nat.le_of_ble_eq_true rfl) (Nat.le_of_ble_eq_true rfl) ?_
            exact W.vret hx hb hr (fun t ht hW => ⟨⟨((fun k => ([] : List Nat).getD k 0), (fun k => ([0, ywi, yro, ydr, ydt, ype, ygu, ysh, ywo, ydn, ymi, yfl, ytk, ygo, ro_, rw_] : List Int).getD k 0), (fun k => ([yhf, ywf, ydf, ypf, ysf, ykf, sg] : List (Nat → Int32)).getD k (fun _ => 0))), rfl, ⟨(by show ((-2147483648) ≤ ro_ ∧ ro_ ≤ 2147483647); first | exact hl126_1 | omega), (by show ((-2147483648) ≤ rw_ ∧ rw_ ≤ 2147483647); first | exact hl126_2 | omega), (by show (0 ≤ ywi ∧ ywi ≤ 16); first | exact hl18_1 | omega), (by show (0 ≤ yro ∧ yro ≤ 6); first | exact hl18_2 | omega), (by show (0 ≤ ydr ∧ ydr ≤ 14); first | exact hl18_3 | omega), (by show (0 ≤ ydt ∧ ydt ≤ 6); first | exact hl18_4 | omega), (by show (0 ≤ ype ∧ ype ≤ 8); first | exact hl18_5 | omega), (by show (0 ≤ ygu ∧ ygu ≤ 20); first | exact hl18_6 | omega), (by show (0 ≤ ysh ∧ ysh ≤ 2); first | exact hl18_7 | omega), (by show (0 ≤ ywo ∧ ywo ≤ 8); first | exact hl18_8 | omega), (by show ((-2147483648) ≤ ydn ∧ ydn ≤ 2147483647); first | exact hl18_9 | omega), (by show (0 ≤ ymi ∧ ymi ≤ 600); first | exact hl18_10 | omega), (by show ((-2147483648) ≤ yfl ∧ yfl ≤ 2147483647); first | exact hl18_11 | omega), (by show ((-2147483648) ≤ ytk ∧ ytk ≤ 2147483647); first | exact hl18_12 | omega), (by show ((-2147483648) ≤ ygo ∧ ygo ≤ 2147483647); first | exact hl18_13 | omega), hiyhf, hiydf, hiypf, hiykf, hshf, hsdf, hspf, hskf, hff⟩, at9 ht hP hD [0, 1, 2, 3, 4, 5, 6, 7, 8, 17, 9, 10, 11, 12, 13, 14, 15, 16] (by decide +kernel) rfl⟩, hS.F ht⟩) hS.2.2 dX9_findLook_205
          · refine lv_iconst (v := iI 0) hx hb dX9_findLook_135 (by decide) ?_
            refine lv_istore (lv' := [(5, vI 0), (4, vI r4), (3, vI (u1.2.1 0)), (0, vR wa), (1, vR sA), (2, vR ra)]) hx hb dX9_findLook_136 hlv (by decide) rfl (fun ls hlv => ?_)
            refine (?_ : ∀ (fu : Nat) (r5 : Int) (ro2 : Int) (rw2 : Int) (H : Heap) (locs : List Loc) (ls : Array Slot), 6 - r5 < (fu : Int) → (0 ≤ r5 ∧ r5 ≤ 6) → ((-2147483648) ≤ ro2 ∧ ro2 ≤ 2147483647) → ((-2147483648) ≤ rw2 ∧ rw2 ≤ 2147483647) → va_P D vwCl [zO wa 9 [vR tA, vR ca, vR se, vI ro2, vI rw2], zI se (cy 0) 1344 sg, zO tA 6 [vI ywi, vI yro, vR t2, vR t3, vI ydr, vI ydt, vR t6, vI ype, vR t8, vI ygu, vI ysh, vR t11, vI ywo, vR t13, vI ydn, vI ymi, vI yfl, vI ytk, vI ygo], zI t2 (cy 0) 96 yhf, zI t3 (cy 0) 96 ywf, zI t6 (cy 0) 56 ydf, zI t8 (cy 0) 112 ypf, zI t11 (cy 0) 4 ysf, zI t13 (cy 0) 40 ykf, zI s2 (cy 0) 96 shf, zI s3 (cy 0) 96 swf, zI s6 (cy 0) 56 sdf, zI s8 (cy 0) 112 spf, zI s11 (cy 0) 4 ssf, zI s13 (cy 0) 40 skf, zO ra 5 [vR rf, vI rm], zI rf (cy 0) 240 ff, zO sA 6 [vI swi, vI sro, vR s2, vR s3, vI sdr, vI sdt, vR s6, vI spe, vR s8, vI sgu, vI ssh, vR s11, vI swo, vR s13, vI sdn, vI smi, vI sfl, vI stk, vI sgo]] H → va_D A [zO wa 9 [vR tA, vR ca, vR se, vI ro2, vI rw2], zI se (cy 0) 1344 sg, zO tA 6 [vI ywi, vI yro, vR t2, vR t3, vI ydr, vI ydt, vR t6, vI ype, vR t8, vI ygu, vI ysh, vR t11, vI ywo, vR t13, vI ydn, vI ymi, vI yfl, vI ytk, vI ygo], zI t2 (cy 0) 96 yhf, zI t3 (cy 0) 96 ywf, zI t6 (cy 0) 56 ydf, zI t8 (cy 0) 112 ypf, zI t11 (cy 0) 4 ysf, zI t13 (cy 0) 40 ykf, zI s2 (cy 0) 96 shf, zI s3 (cy 0) 96 swf, zI s6 (cy 0) 56 sdf, zI s8 (cy 0) 112 spf, zI s11 (cy 0) 4 ssf, zI s13 (cy 0) 40 skf, zO ra 5 [vR rf, vI rm], zI rf (cy 0) 240 ff, zO sA 6 [vI swi, vI sro, vR s2, vR s3, vI sdr, vI sdt, vR s6, vI spe, vR s8, vI sgu, vI ssh, vR s11, vI swo, vR s13, vI sdn, vI smi, vI sfl, vI stk, vI sgo]] → va_S A s.heap H locs → lv_has ls 7 [(5, vI r5), (4, vI r4), (3, vI (u1.2.1 0)), (0, vR wa), (1, vR sA), (2, vR ra)] → W p l e _ s m _ below meth c H locs _ _ _ (F0 m 138 ls [])) (((6 - 0) + 1 : Int)).toNat 0 ro_ rw_ _ _ _ (by omega) (by show (0 : Int) ≤ 0 ∧ (0 : Int) ≤ 6; decide) (by first | exact hl126_1 | omega) (by first | exact hl126_2 | omega)  hP hD hS hlv
            clear hP hD hS hlv
            intro fu
            induction fu with
            | zero => intro r5 ro2 rw2 H locs ls hm138 hl138_0 hl138_1 hl138_2  hP hD hS hlv; omega
            | succ fu ih138 =>
              intro r5 ro2 rw2 H locs ls hm138 hl138_0 hl138_1 hl138_2  hP hD hS hlv
              refine lv_iload hx hb dX9_findLook_138 (lv_at hlv 0 rfl) ?_
              refine lv_aload_n hx hb dX9_findLook_140 rfl (lv_at hlv 4 rfl) ?_
              refine va_getN (D := D) (ci := 6) (v := vI sro) (C := RX6) (T := TX6) (N := 19) hx hb hts hi6 hown hG.1 hP 17 rfl rfl 1 (by decide) (va_Nw.use rfl (nF_WhatIf_85 hG.2.1)) (fun _ h9 => h9) rfl dX9_findLook_141 ?_
              refine ir_ge (tgt := 199) hx hb dX9_findLook_144 (by decide) (by first | exact rgw hl138_0 (by decide) (by decide) | omega) (by first | exact rgw hr_sro (by decide) (by decide) | omega) (fun c_4 => ?_) (fun c_4 => ?_)
              · obtain ⟨z_5, hz_5⟩ : ∃ z : Int, z = r4 + 1 := ⟨_, rfl⟩
                refine lv_iinc (v := iI z_5) (lv' := [(4, vI z_5), (5, vI r5), (3, vI (u1.2.1 0)), (0, vR wa), (1, vR sA), (2, vR ra)]) hx hb dX9_findLook_199 hlv (k := 1) rfl (by rw [hz_5]; exact (Int32.ofInt_add _ _).symm) (by decide) rfl (fun ls hlv => ?_)
                refine lv_goto (tgt := 126) hx hb dX9_findLook_202 (by decide) ?_
                exact ih126 z_5 ro2 rw2 H locs ls (by omega) (by omega) (by first | exact hl138_1 | omega) (by first | exact hl138_2 | omega)  (hP.sub [0, 1, 2, 3, 4, 5, 6, 7, 8, 9, 10, 11, 12, 13, 14, 15, 16, 17] rfl) (hD.sub [0, 1, 2, 3, 4, 5, 6, 7, 8, 9, 10, 11, 12, 13, 14, 15, 16, 17] (by decide) rfl) hS (lv_sub hlv [0, 2, 3, 4, 5] rfl)
              · refine lv_aload_n hx hb dX9_findLook_147 rfl (lv_at hlv 3 rfl) ?_
                refine lv_aload_n hx hb dX9_findLook_148 rfl (lv_at hlv 4 rfl) ?_
                refine lv_iload hx hb dX9_findLook_149 (lv_at hlv 1 rfl) ?_
                refine lv_iload hx hb dX9_findLook_151 (lv_at hlv 0 rfl) ?_
                refine cjr_i [true, true, true, true, true, true, true, true, true, true, true, true, true, true, true, true, true, false] (fun pre9 => (va_runVN (host := "KerbSplash") (As := [vI r4, vI r5]) (rest := [vR wa]) ⟨hx, hb, hml, hown, hts⟩ (s_index l hl D cy sa sA s2 s3 s6 s8 s11 s13 swi sro sdr sdt spe sgu ssh swo sdn smi sfl stk sgo r4 r5 H.size (by first | exact hr_swi | omega) (by first | exact hr_sro | omega) (by first | exact hr_sdr | omega) (by first | exact hr_sdt | omega) (by first | exact hr_spe | omega) (by first | exact hr_sgu | omega) (by first | exact hr_ssh | omega) (by first | exact hr_swo | omega) (by first | exact hr_sdn | omega) (by first | exact hr_smi | omega) (by first | exact hr_sfl | omega) (by first | exact hr_stk | omega) (by first | exact hr_sgo | omega) (by omega) (by omega)) ⟨va_cnB 2 hts gg_3 rfl rfl rfl (nM_WhatIf_88 hG.2.1) ini_RX6 (by decide +kernel) ⟨Nat.le_of_ble_eq_true rfl, Nat.le_of_ble_eq_true rfl⟩, im_X6_index, se_X6_index⟩ ⟨pcW.blind, (va_recv hG.1 hP (ci := 6) (q0 := 17) rfl rfl), pre9⟩ rfl rfl hlv.1 rfl (lv_room (Nat.le_of_ble_eq_true rfl)) dX9_findLook_153 ⟨Nat.le_of_ble_eq_true rfl, Nat.le_of_ble_eq_true rfl⟩)) hP hD hS hA hG hT [17] rfl (by decide +kernel) (fun r2 u2 H locs hw2 hq9 hS => ?_)
                obtain ⟨rfl, hq2_1⟩ := hw2
                obtain ⟨hP, hD⟩ := pd9 [zO wa 9 [vR tA, vR ca, vR se, vI ro2, vI rw2], zI se (cy 0) 1344 sg, zO tA 6 [vI ywi, vI yro, vR t2, vR t3, vI ydr, vI ydt, vR t6, vI ype, vR t8, vI ygu, vI ysh, vR t11, vI ywo, vR t13, vI ydn, vI ymi, vI yfl, vI ytk, vI ygo], zI t2 (cy 0) 96 yhf, zI t3 (cy 0) 96 ywf, zI t6 (cy 0) 56 ydf, zI t8 (cy 0) 112 ypf, zI t11 (cy 0) 4 ysf, zI t13 (cy 0) 40 ykf, zI s2 (cy 0) 96 shf, zI s3 (cy 0) 96 swf, zI s6 (cy 0) 56 sdf, zI s8 (cy 0) 112 spf, zI s11 (cy 0) 4 ssf, zI s13 (cy 0) 40 skf, zO ra 5 [vR rf, vI rm], zI rf (cy 0) 240 ff, zO sA 6 [vI swi, vI sro, vR s2, vR s3, vI sdr, vI sdt, vR s6, vI spe, vR s8, vI sgu, vI ssh, vR s11, vI swo, vR s13, vI sdn, vI smi, vI sfl, vI stk, vI sgo]] hq9
                refine lv_aload_n hx hb dX9_findLook_156 rfl (lv_at hlv 4 rfl) ?_
                refine va_getN (D := D) (ci := 6) (v := vI sdr) (C := RX6) (T := TX6) (N := 19) hx hb hts hi6 hown hG.1 hP 17 rfl rfl 4 (by decide) (va_Nw.use rfl (nF_WhatIf_73 hG.2.1)) (fun _ h9 => h9) rfl dX9_findLook_157 ?_
                refine lv_iload_n hx hb dX9_findLook_160 rfl (lv_at hlv 2 rfl) ?_
                refine cjr_i [false, false, true, true, true, true, true, true, true, true, true, true, true, true, true, true, true, true] (fun pre9 => (va_runV (As := [vI (u2.2.1 0), vI sdr, vI (u1.2.1 0)]) (rest := []) ⟨hx, hb, hml, hown, hts⟩ (i_kinds l hl D cy sa wa tA ca se ro2 rw2 sg (u2.2.1 0) sdr (u1.2.1 0) H.size (by first | exact hl138_1 | omega) (by first | exact hl138_2 | omega) (by first | exact hq2_1 | omega) (by first | exact hr_sdr | omega) (by first | exact hq1_1 | omega)) (cwV 3 hts gg_4 rfl rfl rfl (by decide +kernel) ⟨Nat.le_of_ble_eq_true rfl, Nat.le_of_ble_eq_true rfl⟩) ⟨pcW.blind, (va_recv hG.1 hP (ci := 9) (q0 := 0) rfl rfl), pre9⟩ rfl rfl hlv.1 rfl (lv_room (Nat.le_of_ble_eq_true rfl)) dX9_findLook_161 ⟨Nat.le_of_ble_eq_true rfl, Nat.le_of_ble_eq_true rfl⟩)) hP hD hS hA hG hT [0, 1] rfl (by decide +kernel) (fun r3 u3 H locs hw3 hq9 hS => ?_)
                obtain ⟨rfl, hq3_1⟩ := hw3
                obtain ⟨hP, hD⟩ := pd9 [zO tA 6 [vI ywi, vI yro, vR t2, vR t3, vI ydr, vI ydt, vR t6, vI ype, vR t8, vI ygu, vI ysh, vR t11, vI ywo, vR t13, vI ydn, vI ymi, vI yfl, vI ytk, vI ygo], zI t2 (cy 0) 96 yhf, zI t3 (cy 0) 96 ywf, zI t6 (cy 0) 56 ydf, zI t8 (cy 0) 112 ypf, zI t11 (cy 0) 4 ysf, zI t13 (cy 0) 40 ykf, zI s2 (cy 0) 96 shf, zI s3 (cy 0) 96 swf, zI s6 (cy 0) 56 sdf, zI s8 (cy 0) 112 spf, zI s11 (cy 0) 4 ssf, zI s13 (cy 0) 40 skf, zO ra 5 [vR rf, vI rm], zI rf (cy 0) 240 ff, zO sA 6 [vI swi, vI sro, vR s2, vR s3, vI sdr, vI sdt, vR s6, vI spe, vR s8, vI sgu, vI ssh, vR s11, vI swo, vR s13, vI sdn, vI smi, vI sfl, vI stk, vI sgo], zO wa 9 [vR tA, vR ca, vR se, vI ro2, vI rw2], zI se (cy 0) 1344 sg] hq9
                refine lv_istore (lv' := [(6, vI (u3.2.1 0)), (5, vI r5), (4, vI r4), (3, vI (u1.2.1 0)), (0, vR wa), (1, vR sA), (2, vR ra)]) hx hb dX9_findLook_164 hlv (by decide) rfl (fun ls hlv => ?_)
                refine lv_iload hx hb dX9_findLook_166 (lv_at hlv 0 rfl) ?_
                refine lv_aload_n hx hb dX9_findLook_168 rfl (lv_at hlv 4 rfl) ?_
                refine va_get (D := D) (ci := 9) (v := vI rw2) (C := RX9) (T := TX9) (N := 5) hx hb hts hi9 hown hG.1 hP 16 rfl rfl 4 (by decide) lf33 (fun _ h9 => h9) rfl dX9_findLook_169 ?_
                refine ir_le (tgt := 193) hx hb dX9_findLook_172 (by decide) (by first | exact rgw hq3_1 (by decide) (by decide) | omega) (by first | exact hl138_2 | omega) (fun c_6 => ?_) (fun c_6 => ?_)
                · obtain ⟨z_7, hz_7⟩ : ∃ z : Int, z = r5 + 1 := ⟨_, rfl⟩
                  refine lv_iinc (v := iI z_7) (lv' := [(5, vI z_7), (6, vI (u3.2.1 0)), (4, vI r4), (3, vI (u1.2.1 0)), (0, vR wa), (1, vR sA), (2, vR ra)]) hx hb dX9_findLook_193 hlv (k := 1) rfl (by rw [hz_7]; exact (Int32.ofInt_add _ _).symm) (by decide) rfl (fun ls hlv => ?_)
                  refine lv_goto (tgt := 138) hx hb dX9_findLook_196 (by decide) ?_
                  exact ih138 z_7 ro2 rw2 H locs ls (by omega) (by omega) (by first | exact hl138_1 | omega) (by first | exact hl138_2 | omega)  (hP.sub [16, 17, 0, 1, 2, 3, 4, 5, 6, 7, 8, 9, 10, 11, 12, 13, 14, 15] rfl) (hD.sub [16, 17, 0, 1, 2, 3, 4, 5, 6, 7, 8, 9, 10, 11, 12, 13, 14, 15] (by decide) rfl) hS (lv_sub hlv [0, 2, 3, 4, 5, 6] rfl)
                · refine lv_aload_n hx hb dX9_findLook_175 rfl (lv_at hlv 4 rfl) ?_
                  refine lv_iload hx hb dX9_findLook_176 (lv_at hlv 0 rfl) ?_
                  refine va_put (D := D) (ci := 9) (v := vI (u3.2.1 0)) (ty := .int) (C := RX9) (T := TX9) (N := 5) hx hb hts hi9 tyX9 tyX9_ok nmX9 hown hG.1 hP hD hS 16 rfl rfl 4 (by decide) lf33 (fun _ h9 => h9) rfl (by decide +kernel) rfl rfl (Nat.le_of_ble_eq_true rfl) dX9_findLook_178 (fun H locs hP hD hS => ?_)
                  obtain ⟨hP, hD⟩ := pw9 [zO tA 6 [vI ywi, vI yro, vR t2, vR t3, vI ydr, vI ydt, vR t6, vI ype, vR t8, vI ygu, vI ysh, vR t11, vI ywo, vR t13, vI ydn, vI ymi, vI yfl, vI ytk, vI ygo], zI t2 (cy 0) 96 yhf, zI t3 (cy 0) 96 ywf, zI t6 (cy 0) 56 ydf, zI t8 (cy 0) 112 ypf, zI t11 (cy 0) 4 ysf, zI t13 (cy 0) 40 ykf, zI s2 (cy 0) 96 shf, zI s3 (cy 0) 96 swf, zI s6 (cy 0) 56 sdf, zI s8 (cy 0) 112 spf, zI s11 (cy 0) 4 ssf, zI s13 (cy 0) 40 skf, zO ra 5 [vR rf, vI rm], zI rf (cy 0) 240 ff, zO sA 6 [vI swi, vI sro, vR s2, vR s3, vI sdr, vI sdt, vR s6, vI spe, vR s8, vI sgu, vI ssh, vR s11, vI swo, vR s13, vI sdn, vI smi, vI sfl, vI stk, vI sgo], zO wa 9 [vR tA, vR ca, vR se, vI ro2, vI (u3.2.1 0)], zI se (cy 0) 1344 sg] hP hD
                  refine lv_aload_n hx hb dX9_findLook_181 rfl (lv_at hlv 4 rfl) ?_
                  refine lv_bipush (v := iI 100) hx hb dX9_findLook_182 (by decide) ?_
                  refine lv_iload hx hb dX9_findLook_184 (lv_at hlv 2 rfl) ?_
                  refine lv_imul hx hb dX9_findLook_186 ?_
                  refine lt_e (e0 := 100 * r4) (Int32.ofInt_mul _ _).symm (fun z_8 hz_8 => ?_)
                  refine lv_iload hx hb dX9_findLook_187 (lv_at hlv 1 rfl) ?_
                  refine lv_iadd hx hb dX9_findLook_189 ?_
                  refine lt_e (e0 := z_8 + r5) (Int32.ofInt_add _ _).symm (fun z_9 hz_9 => ?_)
                  refine va_put (D := D) (ci := 9) (v := vI z_9) (ty := .int) (C := RX9) (T := TX9) (N := 5) hx hb hts hi9 tyX9 tyX9_ok nmX9 hown hG.1 hP hD hS 16 rfl rfl 3 (by decide) lf29 (fun _ h9 => h9) rfl (by decide +kernel) rfl rfl (Nat.le_of_ble_eq_true rfl) dX9_findLook_190 (fun H locs hP hD hS => ?_)
                  obtain ⟨hP, hD⟩ := pw9 [zO tA 6 [vI ywi, vI yro, vR t2, vR t3, vI ydr, vI ydt, vR t6, vI ype, vR t8, vI ygu, vI ysh, vR t11, vI ywo, vR t13, vI ydn, vI ymi, vI yfl, vI ytk, vI ygo], zI t2 (cy 0) 96 yhf, zI t3 (cy 0) 96 ywf, zI t6 (cy 0) 56 ydf, zI t8 (cy 0) 112 ypf, zI t11 (cy 0) 4 ysf, zI t13 (cy 0) 40 ykf, zI s2 (cy 0) 96 shf, zI s3 (cy 0) 96 swf, zI s6 (cy 0) 56 sdf, zI s8 (cy 0) 112 spf, zI s11 (cy 0) 4 ssf, zI s13 (cy 0) 40 skf, zO ra 5 [vR rf, vI rm], zI rf (cy 0) 240 ff, zO sA 6 [vI swi, vI sro, vR s2, vR s3, vI sdr, vI sdt, vR s6, vI spe, vR s8, vI sgu, vI ssh, vR s11, vI swo, vR s13, vI sdn, vI smi, vI sfl, vI stk, vI sgo], zO wa 9 [vR tA, vR ca, vR se, vI z_9, vI (u3.2.1 0)], zI se (cy 0) 1344 sg] hP hD
                  obtain ⟨z_10, hz_10⟩ : ∃ z : Int, z = r5 + 1 := ⟨_, rfl⟩
                  refine lv_iinc (v := iI z_10) (lv' := [(5, vI z_10), (6, vI (u3.2.1 0)), (4, vI r4), (3, vI (u1.2.1 0)), (0, vR wa), (1, vR sA), (2, vR ra)]) hx hb dX9_findLook_193 hlv (k := 1) rfl (by rw [hz_10]; exact (Int32.ofInt_add _ _).symm) (by decide) rfl (fun ls hlv => ?_)
                  refine lv_goto (tgt := 138) hx hb dX9_findLook_196 (by decide) ?_
                  exact ih138 z_10 z_9 (u3.2.1 0) H locs ls (by omega) (by omega) (by omega) (by first | exact rgw hq3_1 (by decide) (by decide) | omega)  (hP.sub [16, 17, 0, 1, 2, 3, 4, 5, 6, 7, 8, 9, 10, 11, 12, 13, 14, 15] rfl) (hD.sub [16, 17, 0, 1, 2, 3, 4, 5, 6, 7, 8, 9, 10, 11, 12, 13, 14, 15] (by decide) rfl) hS (lv_sub hlv [0, 2, 3, 4, 5, 6] rfl)
      · refine W.widen (k := 0) (n := 0) (Nat.le_of_ble_eq_true rfl) (Nat.le_of_ble_eq_true rfl) ?_
        exact W.vret hx hb hr (fun t ht hW => ⟨⟨((fun k => ([] : List Nat).getD k 0), (fun k => ([0, ywi, yro, ydr, ydt, ype, ygu, ysh, ywo, ydn, ymi, yfl, ytk, ygo, (-1), (-1)] : List Int).getD k 0), (fun k => ([yhf, ywf, ydf, ypf, ysf, ykf, sg] : List (Nat → Int32)).getD k (fun _ => 0))), rfl, ⟨(by show ((-2147483648) ≤ (-1) ∧ (-1) ≤ 2147483647); show ((-2147483648) : Int) ≤ (-1) ∧ ((-1) : Int) ≤ 2147483647; decide), (by show ((-2147483648) ≤ (-1) ∧ (-1) ≤ 2147483647); show ((-2147483648) : Int) ≤ (-1) ∧ ((-1) : Int) ≤ 2147483647; decide), (by show (0 ≤ ywi ∧ ywi ≤ 16); first | exact hl18_1 | omega), (by show (0 ≤ yro ∧ yro ≤ 6); first | exact hl18_2 | omega), (by show (0 ≤ ydr ∧ ydr ≤ 14); first | exact hl18_3 | omega), (by show (0 ≤ ydt ∧ ydt ≤ 6); first | exact hl18_4 | omega), (by show (0 ≤ ype ∧ ype ≤ 8); first | exact hl18_5 | omega), (by show (0 ≤ ygu ∧ ygu ≤ 20); first | exact hl18_6 | omega), (by show (0 ≤ ysh ∧ ysh ≤ 2); first | exact hl18_7 | omega), (by show (0 ≤ ywo ∧ ywo ≤ 8); first | exact hl18_8 | omega), (by show ((-2147483648) ≤ ydn ∧ ydn ≤ 2147483647); first | exact hl18_9 | omega), (by show (0 ≤ ymi ∧ ymi ≤ 600); first | exact hl18_10 | omega), (by show ((-2147483648) ≤ yfl ∧ yfl ≤ 2147483647); first | exact hl18_11 | omega), (by show ((-2147483648) ≤ ytk ∧ ytk ≤ 2147483647); first | exact hl18_12 | omega), (by show ((-2147483648) ≤ ygo ∧ ygo ≤ 2147483647); first | exact hl18_13 | omega), hiyhf, hiydf, hiypf, hiykf, hshf, hsdf, hspf, hskf, hff⟩, at9 ht hP hD [0, 1, 2, 3, 4, 5, 6, 7, 8, 17, 9, 10, 11, 12, 13, 14, 15, 16] (by decide +kernel) rfl⟩, hS.F ht⟩) hS.2.2 dX9_findLook_122
    · refine lv_aload_n hx hb dX9_findLook_27 rfl (lv_at hlv 2 rfl) ?_
      refine va_get (D := D) (ci := 9) (v := vR tA) (C := RX9) (T := TX9) (N := 5) hx hb hts hi9 hown hG.1 hP 0 rfl rfl 0 (by decide) lf12 (fun _ h9 => h9) rfl dX9_findLook_28 ?_
      refine lv_aload_n hx hb dX9_findLook_31 rfl (lv_at hlv 3 rfl) ?_
      refine cjr_v [true, true, false, false, false, false, false, false, false, false, false, false, false, false, false, true, true, false] (fun pre9 => (va_runVN (host := "KerbSplash") (As := [vR sA]) (rest := []) ⟨hx, hb, hml, hown, hts⟩ (s_sbecome l hl D cy sa tA t2 t3 t6 t8 t11 t13 ywi yro ydr ydt ype ygu ysh ywo ydn ymi yfl ytk ygo yhf ywf ydf ypf ysf ykf sA s2 s3 s6 s8 s11 s13 swi sro sdr sdt spe sgu ssh swo sdn smi sfl stk sgo shf swf sdf spf ssf skf (-2147483648) 2147483647 0 15 H.size (by first | exact hl18_1 | omega) (by first | exact hl18_2 | omega) (by first | exact hl18_3 | omega) (by first | exact hl18_4 | omega) (by first | exact hl18_5 | omega) (by first | exact hl18_6 | omega) (by first | exact hl18_7 | omega) (by first | exact hl18_8 | omega) (by first | exact hl18_9 | omega) (by first | exact hl18_10 | omega) (by first | exact hl18_11 | omega) (by first | exact hl18_12 | omega) (by first | exact hl18_13 | omega) (by first | exact hr_swi | omega) (by first | exact hr_sro | omega) (by first | exact hr_sdr | omega) (by first | exact hr_sdt | omega) (by first | exact hr_spe | omega) (by first | exact hr_sgu | omega) (by first | exact hr_ssh | omega) (by first | exact hr_swo | omega) (by first | exact hr_sdn | omega) (by first | exact hr_smi | omega) (by first | exact hr_sfl | omega) (by first | exact hr_stk | omega) (by first | exact hr_sgo | omega) hiyhf hiydf hiypf hiykf hshf hsdf hspf hskf) ⟨va_cnB 1 hts gg_5 rfl rfl rfl (nM_WhatIf_36 hG.2.1) ini_RX6 (by decide +kernel) ⟨Nat.le_of_ble_eq_true rfl, Nat.le_of_ble_eq_true rfl⟩, im_X6_become, se_X6_become⟩ ⟨pcW.blind, (va_recv hG.1 hP (ci := 6) (q0 := 2) rfl rfl), pre9⟩ rfl rfl hlv.1 rfl (lv_room (Nat.le_of_ble_eq_true rfl)) dX9_findLook_32 ⟨Nat.le_of_ble_eq_true rfl, Nat.le_of_ble_eq_true rfl⟩)) hP hD hS hA hG hT [2, 3, 4, 5, 6, 7, 8, 17, 9, 10, 11, 12, 13, 14] rfl (by decide +kernel) (fun u4 H locs hw4 hq9 hS => ?_)
      obtain ⟨hq4_0, hq4_1, hq4_2, hq4_3, hq4_4, hq4_5, hq4_6, hq4_7⟩ := hw4
      obtain ⟨hP, hD⟩ := pd9 [zO wa 9 [vR tA, vR ca, vR se, vI (-1), vI (-1)], zI se (cy 0) 1344 sg, zO ra 5 [vR rf, vI rm], zI rf (cy 0) 240 ff, zO tA 6 [vI swi, vI sro, vR t2, vR t3, vI sdr, vI sdt, vR t6, vI spe, vR t8, vI sgu, vI ssh, vR t11, vI swo, vR t13, vI sdn, vI smi, vI sfl, vI stk, vI sgo], zI t2 (cy 0) 96 (u4.2.2 0), zI t3 (cy 0) 96 (u4.2.2 1), zI t6 (cy 0) 56 (u4.2.2 2), zI t8 (cy 0) 112 (u4.2.2 3), zI t11 (cy 0) 4 (u4.2.2 4), zI t13 (cy 0) 40 (u4.2.2 5), zO sA 6 [vI swi, vI sro, vR s2, vR s3, vI sdr, vI sdt, vR s6, vI spe, vR s8, vI sgu, vI ssh, vR s11, vI swo, vR s13, vI sdn, vI smi, vI sfl, vI stk, vI sgo], zI s2 (cy 0) 96 shf, zI s3 (cy 0) 96 swf, zI s6 (cy 0) 56 sdf, zI s8 (cy 0) 112 spf, zI s11 (cy 0) 4 ssf, zI s13 (cy 0) 40 skf] hq9
      refine lv_iconst (v := iI 0) hx hb dX9_findLook_35 (by decide) ?_
      refine lv_istore (lv' := [(5, vI 0), (4, vI q4), (3, vI (u1.2.1 0)), (0, vR wa), (1, vR sA), (2, vR ra)]) hx hb dX9_findLook_36 hlv (by decide) rfl (fun ls hlv => ?_)
      refine (?_ : ∀ (fu : Nat) (q5 : Int) (dg : Nat → Int32) (H : Heap) (locs : List Loc) (ls : Array Slot), 14 - q5 < (fu : Int) → (0 ≤ q5 ∧ q5 ≤ 14) → tab_ 4 14 [0, 0, 0, 0] [15, 5, 99, 16] dg → va_P D vwCl [zO wa 9 [vR tA, vR ca, vR se, vI (-1), vI (-1)], zI se (cy 0) 1344 sg, zO ra 5 [vR rf, vI rm], zI rf (cy 0) 240 ff, zO tA 6 [vI swi, vI sro, vR t2, vR t3, vI sdr, vI sdt, vR t6, vI spe, vR t8, vI sgu, vI ssh, vR t11, vI swo, vR t13, vI sdn, vI smi, vI sfl, vI stk, vI sgo], zI t2 (cy 0) 96 (u4.2.2 0), zI t3 (cy 0) 96 (u4.2.2 1), zI t6 (cy 0) 56 dg, zI t8 (cy 0) 112 (u4.2.2 3), zI t11 (cy 0) 4 (u4.2.2 4), zI t13 (cy 0) 40 (u4.2.2 5), zO sA 6 [vI swi, vI sro, vR s2, vR s3, vI sdr, vI sdt, vR s6, vI spe, vR s8, vI sgu, vI ssh, vR s11, vI swo, vR s13, vI sdn, vI smi, vI sfl, vI stk, vI sgo], zI s2 (cy 0) 96 shf, zI s3 (cy 0) 96 swf, zI s6 (cy 0) 56 sdf, zI s8 (cy 0) 112 spf, zI s11 (cy 0) 4 ssf, zI s13 (cy 0) 40 skf] H → va_D A [zO wa 9 [vR tA, vR ca, vR se, vI (-1), vI (-1)], zI se (cy 0) 1344 sg, zO ra 5 [vR rf, vI rm], zI rf (cy 0) 240 ff, zO tA 6 [vI swi, vI sro, vR t2, vR t3, vI sdr, vI sdt, vR t6, vI spe, vR t8, vI sgu, vI ssh, vR t11, vI swo, vR t13, vI sdn, vI smi, vI sfl, vI stk, vI sgo], zI t2 (cy 0) 96 (u4.2.2 0), zI t3 (cy 0) 96 (u4.2.2 1), zI t6 (cy 0) 56 dg, zI t8 (cy 0) 112 (u4.2.2 3), zI t11 (cy 0) 4 (u4.2.2 4), zI t13 (cy 0) 40 (u4.2.2 5), zO sA 6 [vI swi, vI sro, vR s2, vR s3, vI sdr, vI sdt, vR s6, vI spe, vR s8, vI sgu, vI ssh, vR s11, vI swo, vR s13, vI sdn, vI smi, vI sfl, vI stk, vI sgo], zI s2 (cy 0) 96 shf, zI s3 (cy 0) 96 swf, zI s6 (cy 0) 56 sdf, zI s8 (cy 0) 112 spf, zI s11 (cy 0) 4 ssf, zI s13 (cy 0) 40 skf] → va_S A s.heap H locs → lv_has ls 7 [(5, vI q5), (4, vI q4), (3, vI (u1.2.1 0)), (0, vR wa), (1, vR sA), (2, vR ra)] → W p l e _ s m _ below meth c H locs _ _ _ (F0 m 38 ls [])) (((14 - 0) + 1 : Int)).toNat 0 (u4.2.2 2) _ _ _ (by omega) (by show (0 : Int) ≤ 0 ∧ (0 : Int) ≤ 14; decide) hq4_1 hP hD hS hlv
      clear hP hD hS hlv
      intro fu
      induction fu with
      | zero => intro q5 dg H locs ls hm38 hl38_0 hidg hP hD hS hlv; omega
      | succ fu ih38 =>
        intro q5 dg H locs ls hm38 hl38_0 hidg hP hD hS hlv
        refine lv_iload hx hb dX9_findLook_38 (lv_at hlv 0 rfl) ?_
        refine lv_aload_n hx hb dX9_findLook_40 rfl (lv_at hlv 4 rfl) ?_
        refine va_getN (D := D) (ci := 6) (v := vI sdr) (C := RX6) (T := TX6) (N := 19) hx hb hts hi6 hown hG.1 hP 11 rfl rfl 4 (by decide) (va_Nw.use rfl (nF_WhatIf_73 hG.2.1)) (fun _ h9 => h9) rfl dX9_findLook_41 ?_
        refine ir_ge (tgt := 80) hx hb dX9_findLook_44 (by decide) (by first | exact rgw hl38_0 (by decide) (by decide) | omega) (by first | exact rgw hr_sdr (by decide) (by decide) | omega) (fun c_11 => ?_) (fun c_11 => ?_)
        · refine lv_aload_n hx hb dX9_findLook_80 rfl (lv_at hlv 3 rfl) ?_
          refine va_get (D := D) (ci := 9) (v := vR tA) (C := RX9) (T := TX9) (N := 5) hx hb hts hi9 hown hG.1 hP 0 rfl rfl 0 (by decide) lf12 (fun _ h9 => h9) rfl dX9_findLook_81 ?_
          refine lv_aload_n hx hb dX9_findLook_84 rfl (lv_at hlv 5 rfl) ?_
          refine cjr_i [true, true, false, false, false, false, false, false, true, true, true, true, true, true, true, true, true, true] (fun pre9 => (va_runVN (host := "KerbSplash") (As := [vR ra]) (rest := []) ⟨hx, hb, hml, hown, hts⟩ (s_passRain l hl D cy sa tA t2 t3 t6 t8 t11 t13 swi sro sdr sdt spe sgu ssh swo sdn smi sfl stk sgo (u4.2.2 0) (u4.2.2 1) dg ff ra rf rm H.size (by first | exact hr_swi | omega) (by first | exact hr_sro | omega) (by first | exact hr_sdr | omega) (by first | exact hr_sdt | omega) (by first | exact hr_spe | omega) (by first | exact hr_sgu | omega) (by first | exact hr_ssh | omega) (by first | exact hr_swo | omega) (by first | exact hr_sdn | omega) (by first | exact hr_smi | omega) (by first | exact hr_sfl | omega) (by first | exact hr_stk | omega) (by first | exact hr_sgo | omega) (by first | exact hr_rm | omega) hq4_0 hidg hff) ⟨va_cnB 1 hts gg_6 rfl rfl rfl (nM_WhatIf_40 hG.2.1) ini_RX6 (by decide +kernel) ⟨Nat.le_of_ble_eq_true rfl, Nat.le_of_ble_eq_true rfl⟩, im_X6_passRain, se_X6_passRain⟩ ⟨pcW.blind, (va_recv hG.1 hP (ci := 6) (q0 := 4) rfl rfl), pre9⟩ rfl rfl hlv.1 rfl (lv_room (Nat.le_of_ble_eq_true rfl)) dX9_findLook_85 ⟨Nat.le_of_ble_eq_true rfl, Nat.le_of_ble_eq_true rfl⟩)) hP hD hS hA hG hT [4, 5, 6, 7, 2, 3] rfl (by decide +kernel) (fun r5 u5 H locs hw5 hq9 hS => ?_)
          obtain ⟨rfl, hq5_1, hq5_2, hq5_3, hq5_4, hq5_5, hq5_6, hq5_7⟩ := hw5
          obtain ⟨hP, hD⟩ := pd9 [zO wa 9 [vR tA, vR ca, vR se, vI (-1), vI (-1)], zI se (cy 0) 1344 sg, zI t8 (cy 0) 112 (u4.2.2 3), zI t11 (cy 0) 4 (u4.2.2 4), zI t13 (cy 0) 40 (u4.2.2 5), zO sA 6 [vI swi, vI sro, vR s2, vR s3, vI sdr, vI sdt, vR s6, vI spe, vR s8, vI sgu, vI ssh, vR s11, vI swo, vR s13, vI sdn, vI smi, vI sfl, vI stk, vI sgo], zI s2 (cy 0) 96 shf, zI s3 (cy 0) 96 swf, zI s6 (cy 0) 56 sdf, zI s8 (cy 0) 112 spf, zI s11 (cy 0) 4 ssf, zI s13 (cy 0) 40 skf, zO tA 6 [vI swi, vI sro, vR t2, vR t3, vI sdr, vI sdt, vR t6, vI spe, vR t8, vI sgu, vI ssh, vR t11, vI swo, vR t13, vI sdn, vI (u5.2.1 0), vI (u5.2.1 1), vI (u5.2.1 2), vI sgo], zI t2 (cy 0) 96 (u4.2.2 0), zI t3 (cy 0) 96 (u5.2.2 0), zI t6 (cy 0) 56 dg, zO ra 5 [vR rf, vI rm], zI rf (cy 0) 240 ff] hq9
          refine lv_pop hx hb dX9_findLook_88 rfl ?_
          refine lv_aload_n hx hb dX9_findLook_89 rfl (lv_at hlv 3 rfl) ?_
          refine va_get (D := D) (ci := 9) (v := vR tA) (C := RX9) (T := TX9) (N := 5) hx hb hts hi9 hown hG.1 hP 0 rfl rfl 0 (by decide) lf12 (fun _ h9 => h9) rfl dX9_findLook_90 ?_
          refine va_getN (D := D) (ci := 6) (v := vR t3) (C := RX6) (T := TX6) (N := 19) hx hb hts hi6 hown hG.1 hP 12 rfl rfl 3 (by decide) (va_Nw.use rfl (nF_WhatIf_44 hG.2.1)) (fun _ h9 => h9) rfl dX9_findLook_93 ?_
          refine lv_iconst (v := iI 0) hx hb dX9_findLook_96 (by decide) ?_
          refine lv_aload_n hx hb dX9_findLook_97 rfl (lv_at hlv 3 rfl) ?_
          refine va_get (D := D) (ci := 9) (v := vR se) (C := RX9) (T := TX9) (N := 5) hx hb hts hi9 hown hG.1 hP 0 rfl rfl 2 (by decide) lf25 (fun _ h9 => h9) rfl dX9_findLook_98 ?_
          refine lv_iload_n hx hb dX9_findLook_101 rfl (lv_at hlv 2 rfl) ?_
          refine lv_iload hx hb dX9_findLook_102 (lv_at hlv 1 rfl) ?_
          refine lv_imul hx hb dX9_findLook_104 ?_
          refine lt_e (e0 := (u1.2.1 0) * q4) (Int32.ofInt_mul _ _).symm (fun z_12 hz_12 => ?_)
          have bz_12 : 0 ≤ z_12 ∧ z_12 ≤ 1248 := by rw [hz_12]; exact mul_bd (x := 96) (y := 13) (by omega) (by omega) (by decide)
          refine lv_iload_n hx hb dX9_findLook_105 rfl (lv_at hlv 2 rfl) ?_
          refine va_copyi (ty := .int) hx hb (hml.trans hlv.1.symm) hown ay1_76 ay2 ay3 ay4 hG.1 hP hD hS 14 1 0 0 rfl rfl rfl rfl rfl (fun q => absurd ((iI_lt (a := 0) (b := 0) (by omega) (by omega)).mp q) (by omega)) (fun q => absurd ((iI_lt (a := z_12) (b := 0) (by omega) (by omega)).mp q) (by omega)) (fun q => absurd ((iI_lt (a := (u1.2.1 0)) (b := 0) (by omega) (by omega)).mp q) (by omega)) (by have h1 := iI_cl (e := 0) (by omega) (by omega); have h2 := iI_cl (e := (u1.2.1 0)) (by omega) (by omega); omega) (by have h1 := iI_cl (e := z_12) (by omega) (by omega); have h2 := iI_cl (e := (u1.2.1 0)) (by omega) (by omega); omega) (fun i h => rfl) (Nat.le_of_ble_eq_true rfl) (Nat.le_of_ble_eq_true rfl) dX9_findLook_106 (fun H locs hP hD hS => ?_)
          obtain ⟨f_13, hP, hD⟩ := pe9 (fun f_13 => [zO wa 9 [vR tA, vR ca, vR se, vI (-1), vI (-1)], zI se (cy 0) 1344 f_13, zI t8 (cy 0) 112 (u4.2.2 3), zI t11 (cy 0) 4 (u4.2.2 4), zI t13 (cy 0) 40 (u4.2.2 5), zO sA 6 [vI swi, vI sro, vR s2, vR s3, vI sdr, vI sdt, vR s6, vI spe, vR s8, vI sgu, vI ssh, vR s11, vI swo, vR s13, vI sdn, vI smi, vI sfl, vI stk, vI sgo], zI s2 (cy 0) 96 shf, zI s3 (cy 0) 96 swf, zI s6 (cy 0) 56 sdf, zI s8 (cy 0) 112 spf, zI s11 (cy 0) 4 ssf, zI s13 (cy 0) 40 skf, zO tA 6 [vI swi, vI sro, vR t2, vR t3, vI sdr, vI sdt, vR t6, vI spe, vR t8, vI sgu, vI ssh, vR t11, vI swo, vR t13, vI sdn, vI (u5.2.1 0), vI (u5.2.1 1), vI (u5.2.1 2), vI sgo], zI t2 (cy 0) 96 (u4.2.2 0), zI t3 (cy 0) 96 (u5.2.2 0), zI t6 (cy 0) 56 dg, zO ra 5 [vR rf, vI rm], zI rf (cy 0) 240 ff]) _ hP hD
          obtain ⟨z_14, hz_14⟩ : ∃ z : Int, z = q4 + 1 := ⟨_, rfl⟩
          refine lv_iinc (v := iI z_14) (lv' := [(4, vI z_14), (5, vI q5), (3, vI (u1.2.1 0)), (0, vR wa), (1, vR sA), (2, vR ra)]) hx hb dX9_findLook_109 hlv (k := 1) rfl (by rw [hz_14]; exact (Int32.ofInt_add _ _).symm) (by decide) rfl (fun ls hlv => ?_)
          refine lv_goto (tgt := 18) hx hb dX9_findLook_112 (by decide) ?_
          exact ih18 z_14 f_13 swi sro sdr sdt spe sgu ssh swo sdn (u5.2.1 0) (u5.2.1 1) (u5.2.1 2) sgo (u4.2.2 0) (u5.2.2 0) dg (u4.2.2 3) (u4.2.2 4) (u4.2.2 5) H locs ls (by omega) (by omega) (by first | exact hr_swi | omega) (by first | exact hr_sro | omega) (by first | exact hr_sdr | omega) (by first | exact hr_sdt | omega) (by first | exact hr_spe | omega) (by first | exact hr_sgu | omega) (by first | exact hr_ssh | omega) (by first | exact hr_swo | omega) (by first | exact hr_sdn | omega) (by first | exact hq5_1 | omega) (by first | exact hq5_2 | omega) (by first | exact hq5_3 | omega) (by first | exact hr_sgo | omega) hq5_5 hq5_6 (tab_weak hq4_2 (by decide)) hq4_3 (hP.sub [0, 1, 12, 13, 14, 15, 2, 3, 4, 6, 7, 8, 9, 10, 11, 16, 17, 5] rfl) (hD.sub [0, 1, 12, 13, 14, 15, 2, 3, 4, 6, 7, 8, 9, 10, 11, 16, 17, 5] (by decide) rfl) hS (lv_sub hlv [0, 2, 3, 4, 5] rfl)
        · refine lv_aload_n hx hb dX9_findLook_47 rfl (lv_at hlv 3 rfl) ?_
          refine va_get (D := D) (ci := 9) (v := vR tA) (C := RX9) (T := TX9) (N := 5) hx hb hts hi9 hown hG.1 hP 0 rfl rfl 0 (by decide) lf12 (fun _ h9 => h9) rfl dX9_findLook_48 ?_
          refine va_getN (D := D) (ci := 6) (v := vR t6) (C := RX6) (T := TX6) (N := 19) hx hb hts hi6 hown hG.1 hP 4 rfl rfl 6 (by decide) (va_Nw.use rfl (nF_WhatIf_66 hG.2.1)) (fun _ h9 => h9) rfl dX9_findLook_51 ?_
          refine lv_iconst (v := iI 4) hx hb dX9_findLook_54 (by decide) ?_
          refine lv_iload hx hb dX9_findLook_55 (lv_at hlv 0 rfl) ?_
          refine lv_imul hx hb dX9_findLook_57 ?_
          refine lt_e (e0 := 4 * q5) (Int32.ofInt_mul _ _).symm (fun z_15 hz_15 => ?_)
          refine lv_iconst (v := iI 3) hx hb dX9_findLook_58 (by decide) ?_
          refine lv_iadd hx hb dX9_findLook_59 ?_
          refine lt_e (e0 := z_15 + 3) (Int32.ofInt_add _ _).symm (fun z_16 hz_16 => ?_)
          refine lv_iload hx hb dX9_findLook_60 (lv_at hlv 0 rfl) ?_
          refine lv_iload hx hb dX9_findLook_62 (lv_at hlv 1 rfl) ?_
          refine ir_ne (tgt := 72) hx hb dX9_findLook_64 (by decide) (by first | exact rgw hl38_0 (by decide) (by decide) | omega) (by first | exact rgw hl18_0 (by decide) (by decide) | omega) (fun c_17 => ?_) (fun c_17 => ?_)
          · refine lv_iconst (v := iI 0) hx hb dX9_findLook_72 (by decide) ?_
            refine va_iast hx hb hG.1 hP hD hS 7 0 rfl rfl (iI_in (by omega) (by decide)) dX9_findLook_73 (fun H locs hP hD hS => ?_)
            obtain ⟨f_18, hf_18, hP, hD⟩ := pe9i (fun f_18 => tab_ 4 14 [0, 0, 0, 0] [15, 5, 99, 16] f_18) (fun f_18 => [zO wa 9 [vR tA, vR ca, vR se, vI (-1), vI (-1)], zI se (cy 0) 1344 sg, zO ra 5 [vR rf, vI rm], zI rf (cy 0) 240 ff, zO tA 6 [vI swi, vI sro, vR t2, vR t3, vI sdr, vI sdt, vR t6, vI spe, vR t8, vI sgu, vI ssh, vR t11, vI swo, vR t13, vI sdn, vI smi, vI sfl, vI stk, vI sgo], zI t2 (cy 0) 96 (u4.2.2 0), zI t3 (cy 0) 96 (u4.2.2 1), zI t6 (cy 0) 56 f_18, zI t8 (cy 0) 112 (u4.2.2 3), zI t11 (cy 0) 4 (u4.2.2 4), zI t13 (cy 0) 40 (u4.2.2 5), zO sA 6 [vI swi, vI sro, vR s2, vR s3, vI sdr, vI sdt, vR s6, vI spe, vR s8, vI sgu, vI ssh, vR s11, vI swo, vR s13, vI sdn, vI smi, vI sfl, vI stk, vI sgo], zI s2 (cy 0) 96 shf, zI s3 (cy 0) 96 swf, zI s6 (cy 0) 56 sdf, zI s8 (cy 0) 112 spf, zI s11 (cy 0) 4 ssf, zI s13 (cy 0) 40 skf]) (tab_wr hidg (e := z_16) (k := q5) (c := 3) (a := 0) (b := 16) (by omega) (by omega) (by decide) (by omega) rfl rfl (by omega)) hP hD
            obtain ⟨z_19, hz_19⟩ : ∃ z : Int, z = q5 + 1 := ⟨_, rfl⟩
            refine lv_iinc (v := iI z_19) (lv' := [(5, vI z_19), (4, vI q4), (3, vI (u1.2.1 0)), (0, vR wa), (1, vR sA), (2, vR ra)]) hx hb dX9_findLook_74 hlv (k := 0) rfl (by rw [hz_19]; exact (Int32.ofInt_add _ _).symm) (by decide) rfl (fun ls hlv => ?_)
            refine lv_goto (tgt := 38) hx hb dX9_findLook_77 (by decide) ?_
            exact ih38 z_19 f_18 H locs ls (by omega) (by omega) hf_18 (hP.sub [0, 1, 2, 3, 4, 5, 6, 7, 8, 9, 10, 11, 12, 13, 14, 15, 16, 17] rfl) (hD.sub [0, 1, 2, 3, 4, 5, 6, 7, 8, 9, 10, 11, 12, 13, 14, 15, 16, 17] (by decide) rfl) hS (lv_sub hlv [0, 1, 2, 3, 4, 5] rfl)
          · refine lv_bipush (v := iI 16) hx hb dX9_findLook_67 (by decide) ?_
            refine lv_goto (tgt := 73) hx hb dX9_findLook_69 (by decide) ?_
            refine va_iast hx hb hG.1 hP hD hS 7 0 rfl rfl (iI_in (by omega) (by decide)) dX9_findLook_73 (fun H locs hP hD hS => ?_)
            obtain ⟨f_20, hf_20, hP, hD⟩ := pe9i (fun f_20 => tab_ 4 14 [0, 0, 0, 0] [15, 5, 99, 16] f_20) (fun f_20 => [zO wa 9 [vR tA, vR ca, vR se, vI (-1), vI (-1)], zI se (cy 0) 1344 sg, zO ra 5 [vR rf, vI rm], zI rf (cy 0) 240 ff, zO tA 6 [vI swi, vI sro, vR t2, vR t3, vI sdr, vI sdt, vR t6, vI spe, vR t8, vI sgu, vI ssh, vR t11, vI swo, vR t13, vI sdn, vI smi, vI sfl, vI stk, vI sgo], zI t2 (cy 0) 96 (u4.2.2 0), zI t3 (cy 0) 96 (u4.2.2 1), zI t6 (cy 0) 56 f_20, zI t8 (cy 0) 112 (u4.2.2 3), zI t11 (cy 0) 4 (u4.2.2 4), zI t13 (cy 0) 40 (u4.2.2 5), zO sA 6 [vI swi, vI sro, vR s2, vR s3, vI sdr, vI sdt, vR s6, vI spe, vR s8, vI sgu, vI ssh, vR s11, vI swo, vR s13, vI sdn, vI smi, vI sfl, vI stk, vI sgo], zI s2 (cy 0) 96 shf, zI s3 (cy 0) 96 swf, zI s6 (cy 0) 56 sdf, zI s8 (cy 0) 112 spf, zI s11 (cy 0) 4 ssf, zI s13 (cy 0) 40 skf]) (tab_wr hidg (e := z_16) (k := q5) (c := 3) (a := 0) (b := 16) (by omega) (by omega) (by decide) (by omega) rfl rfl (by omega)) hP hD
            obtain ⟨z_21, hz_21⟩ : ∃ z : Int, z = q5 + 1 := ⟨_, rfl⟩
            refine lv_iinc (v := iI z_21) (lv' := [(5, vI z_21), (4, vI q4), (3, vI (u1.2.1 0)), (0, vR wa), (1, vR sA), (2, vR ra)]) hx hb dX9_findLook_74 hlv (k := 0) rfl (by rw [hz_21]; exact (Int32.ofInt_add _ _).symm) (by decide) rfl (fun ls hlv => ?_)
            refine lv_goto (tgt := 38) hx hb dX9_findLook_77 (by decide) ?_
            exact ih38 z_21 f_20 H locs ls (by omega) (by omega) hf_20 (hP.sub [0, 1, 2, 3, 4, 5, 6, 7, 8, 9, 10, 11, 12, 13, 14, 15, 16, 17] rfl) (hD.sub [0, 1, 2, 3, 4, 5, 6, 7, 8, 9, 10, 11, 12, 13, 14, 15, 16, 17] (by decide) rfl) hS (lv_sub hlv [0, 1, 2, 3, 4, 5] rfl)
end
