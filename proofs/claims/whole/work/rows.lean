section
-- ===== PART A: goes FIRST, ahead of the names: the tables' words, and 'selects' of the private methods out of them =====
/-- a private method of a class that the tables say can be made, by its rows of tables_1 -/
def lw_okq (q : MethodName × Nat) : Prop := (q.1.cls ≠ "java/lang/invoke/MethodHandle" ∧ q.1.cls ≠ "java/lang/invoke/VarHandle") ∧ Cond.instantiable q.1.cls q.2 ∈ tables_1 ∧ Cond.privateMethod q.1 ∈ tables_1 ∧ Cond.instanceMethod q.1 ∈ tables_1
theorem lw_p0 : lw_okq (⟨"BlockMover", "isOfKind", "(II)Z"⟩, 5) := ⟨⟨by decide +kernel, by decide +kernel⟩, List.mem_of_getElem? (i := 7) (by decide +kernel), List.mem_of_getElem? (i := 92) (by decide +kernel), List.mem_of_getElem? (i := 93) (by decide +kernel)⟩
theorem lw_p1 : lw_okq (⟨"BlockMover", "kindOf", "(I)I"⟩, 5) := ⟨⟨by decide +kernel, by decide +kernel⟩, List.mem_of_getElem? (i := 7) (by decide +kernel), List.mem_of_getElem? (i := 96) (by decide +kernel), List.mem_of_getElem? (i := 97) (by decide +kernel)⟩
theorem lw_p2 : lw_okq (⟨"BlockMover", "placeOfName", "(II)I"⟩, 5) := ⟨⟨by decide +kernel, by decide +kernel⟩, List.mem_of_getElem? (i := 7) (by decide +kernel), List.mem_of_getElem? (i := 110) (by decide +kernel), List.mem_of_getElem? (i := 111) (by decide +kernel)⟩
theorem lw_p3 : lw_okq (⟨"BlockMover", "placeOf", "(II)I"⟩, 5) := ⟨⟨by decide +kernel, by decide +kernel⟩, List.mem_of_getElem? (i := 7) (by decide +kernel), List.mem_of_getElem? (i := 114) (by decide +kernel), List.mem_of_getElem? (i := 115) (by decide +kernel)⟩
theorem lw_p4 : lw_okq (⟨"BlockMover", "leastInodeOfNoKind", "()I"⟩, 5) := ⟨⟨by decide +kernel, by decide +kernel⟩, List.mem_of_getElem? (i := 7) (by decide +kernel), List.mem_of_getElem? (i := 124) (by decide +kernel), List.mem_of_getElem? (i := 125) (by decide +kernel)⟩
theorem lw_p5 : lw_okq (⟨"BlockMover", "leastPlaceWithoutEntry", "(I)I"⟩, 5) := ⟨⟨by decide +kernel, by decide +kernel⟩, List.mem_of_getElem? (i := 7) (by decide +kernel), List.mem_of_getElem? (i := 128) (by decide +kernel), List.mem_of_getElem? (i := 129) (by decide +kernel)⟩
theorem lw_p6 : lw_okq (⟨"BlockMover", "answerOfAct", "(I)I"⟩, 5) := ⟨⟨by decide +kernel, by decide +kernel⟩, List.mem_of_getElem? (i := 7) (by decide +kernel), List.mem_of_getElem? (i := 143) (by decide +kernel), List.mem_of_getElem? (i := 144) (by decide +kernel)⟩
theorem lw_p7 : lw_okq (⟨"BlockMover", "sizeOf", "(I)I"⟩, 5) := ⟨⟨by decide +kernel, by decide +kernel⟩, List.mem_of_getElem? (i := 7) (by decide +kernel), List.mem_of_getElem? (i := 151) (by decide +kernel), List.mem_of_getElem? (i := 152) (by decide +kernel)⟩
theorem lw_p8 : lw_okq (⟨"BlockMover", "leastFreeBlock", "()I"⟩, 5) := ⟨⟨by decide +kernel, by decide +kernel⟩, List.mem_of_getElem? (i := 7) (by decide +kernel), List.mem_of_getElem? (i := 155) (by decide +kernel), List.mem_of_getElem? (i := 156) (by decide +kernel)⟩
theorem lw_p9 : lw_okq (⟨"BlockMover", "usedBlocks", "()J"⟩, 5) := ⟨⟨by decide +kernel, by decide +kernel⟩, List.mem_of_getElem? (i := 7) (by decide +kernel), List.mem_of_getElem? (i := 159) (by decide +kernel), List.mem_of_getElem? (i := 160) (by decide +kernel)⟩
theorem lw_p10 : lw_okq (⟨"BlockMover", "blocksOf", "(I)I"⟩, 5) := ⟨⟨by decide +kernel, by decide +kernel⟩, List.mem_of_getElem? (i := 7) (by decide +kernel), List.mem_of_getElem? (i := 163) (by decide +kernel), List.mem_of_getElem? (i := 164) (by decide +kernel)⟩
theorem lw_p11 : lw_okq (⟨"BlockMover", "isDataOfFile", "(III)Z"⟩, 5) := ⟨⟨by decide +kernel, by decide +kernel⟩, List.mem_of_getElem? (i := 7) (by decide +kernel), List.mem_of_getElem? (i := 174) (by decide +kernel), List.mem_of_getElem? (i := 175) (by decide +kernel)⟩
theorem lw_p12 : lw_okq (⟨"BlockMover", "entriesOf", "(I)I"⟩, 5) := ⟨⟨by decide +kernel, by decide +kernel⟩, List.mem_of_getElem? (i := 7) (by decide +kernel), List.mem_of_getElem? (i := 185) (by decide +kernel), List.mem_of_getElem? (i := 186) (by decide +kernel)⟩
theorem lw_p13 : lw_okq (⟨"BlockMover", "isWithin", "(II)Z"⟩, 5) := ⟨⟨by decide +kernel, by decide +kernel⟩, List.mem_of_getElem? (i := 7) (by decide +kernel), List.mem_of_getElem? (i := 193) (by decide +kernel), List.mem_of_getElem? (i := 194) (by decide +kernel)⟩
theorem lw_p14 : lw_okq (⟨"BlockMover", "directoryAbove", "(I)I"⟩, 5) := ⟨⟨by decide +kernel, by decide +kernel⟩, List.mem_of_getElem? (i := 7) (by decide +kernel), List.mem_of_getElem? (i := 197) (by decide +kernel), List.mem_of_getElem? (i := 198) (by decide +kernel)⟩
theorem lw_p15 : lw_okq (⟨"BlockMover", "hasEntryOf", "(II)Z"⟩, 5) := ⟨⟨by decide +kernel, by decide +kernel⟩, List.mem_of_getElem? (i := 7) (by decide +kernel), List.mem_of_getElem? (i := 201) (by decide +kernel), List.mem_of_getElem? (i := 202) (by decide +kernel)⟩
def lw_privs_1 : List (MethodName × Nat) := [(⟨"BlockMover", "isOfKind", "(II)Z"⟩, 5), (⟨"BlockMover", "kindOf", "(I)I"⟩, 5), (⟨"BlockMover", "placeOfName", "(II)I"⟩, 5), (⟨"BlockMover", "placeOf", "(II)I"⟩, 5), (⟨"BlockMover", "leastInodeOfNoKind", "()I"⟩, 5), (⟨"BlockMover", "leastPlaceWithoutEntry", "(I)I"⟩, 5), (⟨"BlockMover", "answerOfAct", "(I)I"⟩, 5), (⟨"BlockMover", "sizeOf", "(I)I"⟩, 5), (⟨"BlockMover", "leastFreeBlock", "()I"⟩, 5), (⟨"BlockMover", "usedBlocks", "()J"⟩, 5), (⟨"BlockMover", "blocksOf", "(I)I"⟩, 5), (⟨"BlockMover", "isDataOfFile", "(III)Z"⟩, 5), (⟨"BlockMover", "entriesOf", "(I)I"⟩, 5), (⟨"BlockMover", "isWithin", "(II)Z"⟩, 5), (⟨"BlockMover", "directoryAbove", "(I)I"⟩, 5), (⟨"BlockMover", "hasEntryOf", "(II)Z"⟩, 5)]
theorem lw_r1 : ∀ q ∈ lw_privs_1, lw_okq q := List.forall_mem_cons.mpr ⟨lw_p0, List.forall_mem_cons.mpr ⟨lw_p1, List.forall_mem_cons.mpr ⟨lw_p2, List.forall_mem_cons.mpr ⟨lw_p3, List.forall_mem_cons.mpr ⟨lw_p4, List.forall_mem_cons.mpr ⟨lw_p5, List.forall_mem_cons.mpr ⟨lw_p6, List.forall_mem_cons.mpr ⟨lw_p7, List.forall_mem_cons.mpr ⟨lw_p8, List.forall_mem_cons.mpr ⟨lw_p9, List.forall_mem_cons.mpr ⟨lw_p10, List.forall_mem_cons.mpr ⟨lw_p11, List.forall_mem_cons.mpr ⟨lw_p12, List.forall_mem_cons.mpr ⟨lw_p13, List.forall_mem_cons.mpr ⟨lw_p14, List.forall_mem_cons.mpr ⟨lw_p15, fun _ h => absurd h List.not_mem_nil⟩⟩⟩⟩⟩⟩⟩⟩⟩⟩⟩⟩⟩⟩⟩⟩
theorem lw_p16 : lw_okq (⟨"BlockMover", "findNextMove", "()I"⟩, 5) := ⟨⟨by decide +kernel, by decide +kernel⟩, List.mem_of_getElem? (i := 7) (by decide +kernel), List.mem_of_getElem? (i := 209) (by decide +kernel), List.mem_of_getElem? (i := 210) (by decide +kernel)⟩
theorem lw_p17 : lw_okq (⟨"BlockMover", "chooseMove", "(III)I"⟩, 5) := ⟨⟨by decide +kernel, by decide +kernel⟩, List.mem_of_getElem? (i := 7) (by decide +kernel), List.mem_of_getElem? (i := 213) (by decide +kernel), List.mem_of_getElem? (i := 214) (by decide +kernel)⟩
theorem lw_p18 : lw_okq (⟨"BlockMover", "greatestFreeBlock", "()I"⟩, 5) := ⟨⟨by decide +kernel, by decide +kernel⟩, List.mem_of_getElem? (i := 7) (by decide +kernel), List.mem_of_getElem? (i := 221) (by decide +kernel), List.mem_of_getElem? (i := 222) (by decide +kernel)⟩
theorem lw_p19 : lw_okq (⟨"BlockMover", "chooseMoveAway", "(II)I"⟩, 5) := ⟨⟨by decide +kernel, by decide +kernel⟩, List.mem_of_getElem? (i := 7) (by decide +kernel), List.mem_of_getElem? (i := 225) (by decide +kernel), List.mem_of_getElem? (i := 226) (by decide +kernel)⟩
theorem lw_p20 : lw_okq (⟨"BlockMover", "copyMovedBlock", "()V"⟩, 5) := ⟨⟨by decide +kernel, by decide +kernel⟩, List.mem_of_getElem? (i := 7) (by decide +kernel), List.mem_of_getElem? (i := 232) (by decide +kernel), List.mem_of_getElem? (i := 233) (by decide +kernel)⟩
theorem lw_p21 : lw_okq (⟨"BlockMover", "recorded", "(I)I"⟩, 5) := ⟨⟨by decide +kernel, by decide +kernel⟩, List.mem_of_getElem? (i := 7) (by decide +kernel), List.mem_of_getElem? (i := 236) (by decide +kernel), List.mem_of_getElem? (i := 237) (by decide +kernel)⟩
theorem lw_p22 : lw_okq (⟨"BlockMover", "linkMovedBlock", "()V"⟩, 5) := ⟨⟨by decide +kernel, by decide +kernel⟩, List.mem_of_getElem? (i := 7) (by decide +kernel), List.mem_of_getElem? (i := 241) (by decide +kernel), List.mem_of_getElem? (i := 242) (by decide +kernel)⟩
theorem lw_p23 : lw_okq (⟨"BlockMover", "finishRecordedMove", "()V"⟩, 5) := ⟨⟨by decide +kernel, by decide +kernel⟩, List.mem_of_getElem? (i := 7) (by decide +kernel), List.mem_of_getElem? (i := 249) (by decide +kernel), List.mem_of_getElem? (i := 250) (by decide +kernel)⟩
theorem lw_p24 : lw_okq (⟨"BlockMover", "clearWrongEntries", "()V"⟩, 5) := ⟨⟨by decide +kernel, by decide +kernel⟩, List.mem_of_getElem? (i := 7) (by decide +kernel), List.mem_of_getElem? (i := 253) (by decide +kernel), List.mem_of_getElem? (i := 254) (by decide +kernel)⟩
theorem lw_p25 : lw_okq (⟨"BlockMover", "clearWrongEntriesOf", "(I)V"⟩, 5) := ⟨⟨by decide +kernel, by decide +kernel⟩, List.mem_of_getElem? (i := 7) (by decide +kernel), List.mem_of_getElem? (i := 257) (by decide +kernel), List.mem_of_getElem? (i := 258) (by decide +kernel)⟩
theorem lw_p26 : lw_okq (⟨"BlockMover", "meet", "(I)Z"⟩, 5) := ⟨⟨by decide +kernel, by decide +kernel⟩, List.mem_of_getElem? (i := 7) (by decide +kernel), List.mem_of_getElem? (i := 261) (by decide +kernel), List.mem_of_getElem? (i := 262) (by decide +kernel)⟩
theorem lw_p27 : lw_okq (⟨"BlockMover", "clearInodesWithoutEntry", "()V"⟩, 5) := ⟨⟨by decide +kernel, by decide +kernel⟩, List.mem_of_getElem? (i := 7) (by decide +kernel), List.mem_of_getElem? (i := 265) (by decide +kernel), List.mem_of_getElem? (i := 266) (by decide +kernel)⟩
theorem lw_p28 : lw_okq (⟨"BlockMover", "countInodes", "()I"⟩, 5) := ⟨⟨by decide +kernel, by decide +kernel⟩, List.mem_of_getElem? (i := 7) (by decide +kernel), List.mem_of_getElem? (i := 311) (by decide +kernel), List.mem_of_getElem? (i := 312) (by decide +kernel)⟩
theorem lw_p29 : lw_okq (⟨"BlockMover", "countMisplacedBlocks", "()I"⟩, 5) := ⟨⟨by decide +kernel, by decide +kernel⟩, List.mem_of_getElem? (i := 7) (by decide +kernel), List.mem_of_getElem? (i := 315) (by decide +kernel), List.mem_of_getElem? (i := 316) (by decide +kernel)⟩
theorem lw_p30 : lw_okq (⟨"BlockMover", "countEntries", "()I"⟩, 5) := ⟨⟨by decide +kernel, by decide +kernel⟩, List.mem_of_getElem? (i := 7) (by decide +kernel), List.mem_of_getElem? (i := 319) (by decide +kernel), List.mem_of_getElem? (i := 320) (by decide +kernel)⟩
theorem lw_p31 : lw_okq (⟨"BlockMover", "hashOfInode", "(JII)J"⟩, 5) := ⟨⟨by decide +kernel, by decide +kernel⟩, List.mem_of_getElem? (i := 7) (by decide +kernel), List.mem_of_getElem? (i := 328) (by decide +kernel), List.mem_of_getElem? (i := 329) (by decide +kernel)⟩
def lw_privs_2 : List (MethodName × Nat) := [(⟨"BlockMover", "findNextMove", "()I"⟩, 5), (⟨"BlockMover", "chooseMove", "(III)I"⟩, 5), (⟨"BlockMover", "greatestFreeBlock", "()I"⟩, 5), (⟨"BlockMover", "chooseMoveAway", "(II)I"⟩, 5), (⟨"BlockMover", "copyMovedBlock", "()V"⟩, 5), (⟨"BlockMover", "recorded", "(I)I"⟩, 5), (⟨"BlockMover", "linkMovedBlock", "()V"⟩, 5), (⟨"BlockMover", "finishRecordedMove", "()V"⟩, 5), (⟨"BlockMover", "clearWrongEntries", "()V"⟩, 5), (⟨"BlockMover", "clearWrongEntriesOf", "(I)V"⟩, 5), (⟨"BlockMover", "meet", "(I)Z"⟩, 5), (⟨"BlockMover", "clearInodesWithoutEntry", "()V"⟩, 5), (⟨"BlockMover", "countInodes", "()I"⟩, 5), (⟨"BlockMover", "countMisplacedBlocks", "()I"⟩, 5), (⟨"BlockMover", "countEntries", "()I"⟩, 5), (⟨"BlockMover", "hashOfInode", "(JII)J"⟩, 5)]
theorem lw_r2 : ∀ q ∈ lw_privs_2, lw_okq q := List.forall_mem_cons.mpr ⟨lw_p16, List.forall_mem_cons.mpr ⟨lw_p17, List.forall_mem_cons.mpr ⟨lw_p18, List.forall_mem_cons.mpr ⟨lw_p19, List.forall_mem_cons.mpr ⟨lw_p20, List.forall_mem_cons.mpr ⟨lw_p21, List.forall_mem_cons.mpr ⟨lw_p22, List.forall_mem_cons.mpr ⟨lw_p23, List.forall_mem_cons.mpr ⟨lw_p24, List.forall_mem_cons.mpr ⟨lw_p25, List.forall_mem_cons.mpr ⟨lw_p26, List.forall_mem_cons.mpr ⟨lw_p27, List.forall_mem_cons.mpr ⟨lw_p28, List.forall_mem_cons.mpr ⟨lw_p29, List.forall_mem_cons.mpr ⟨lw_p30, List.forall_mem_cons.mpr ⟨lw_p31, fun _ h => absurd h List.not_mem_nil⟩⟩⟩⟩⟩⟩⟩⟩⟩⟩⟩⟩⟩⟩⟩⟩
theorem lw_p32 : lw_okq (⟨"BlockMover", "hashOfDirectory", "(JII)J"⟩, 5) := ⟨⟨by decide +kernel, by decide +kernel⟩, List.mem_of_getElem? (i := 7) (by decide +kernel), List.mem_of_getElem? (i := 332) (by decide +kernel), List.mem_of_getElem? (i := 333) (by decide +kernel)⟩
theorem lw_p33 : lw_okq (⟨"BlockMover", "entryBehindName", "(II)I"⟩, 5) := ⟨⟨by decide +kernel, by decide +kernel⟩, List.mem_of_getElem? (i := 7) (by decide +kernel), List.mem_of_getElem? (i := 337) (by decide +kernel), List.mem_of_getElem? (i := 338) (by decide +kernel)⟩
theorem lw_p34 : lw_okq (⟨"BlockMover", "hashOfFile", "(JI)J"⟩, 5) := ⟨⟨by decide +kernel, by decide +kernel⟩, List.mem_of_getElem? (i := 7) (by decide +kernel), List.mem_of_getElem? (i := 342) (by decide +kernel), List.mem_of_getElem? (i := 343) (by decide +kernel)⟩
theorem lw_p35 : lw_okq (⟨"BlockMoverModel", "isInode", "(II)Z"⟩, 16) := ⟨⟨by decide +kernel, by decide +kernel⟩, List.mem_of_getElem? (i := 352) (by decide +kernel), List.mem_of_getElem? (i := 420) (by decide +kernel), List.mem_of_getElem? (i := 421) (by decide +kernel)⟩
theorem lw_p36 : lw_okq (⟨"BlockMoverModel", "entry", "(II)I"⟩, 16) := ⟨⟨by decide +kernel, by decide +kernel⟩, List.mem_of_getElem? (i := 352) (by decide +kernel), List.mem_of_getElem? (i := 430) (by decide +kernel), List.mem_of_getElem? (i := 431) (by decide +kernel)⟩
theorem lw_p37 : lw_okq (⟨"BlockMoverModel", "noEntry", "(I)I"⟩, 16) := ⟨⟨by decide +kernel, by decide +kernel⟩, List.mem_of_getElem? (i := 352) (by decide +kernel), List.mem_of_getElem? (i := 434) (by decide +kernel), List.mem_of_getElem? (i := 435) (by decide +kernel)⟩
theorem lw_p38 : lw_okq (⟨"BlockMoverModel", "setSize", "(II)V"⟩, 16) := ⟨⟨by decide +kernel, by decide +kernel⟩, List.mem_of_getElem? (i := 352) (by decide +kernel), List.mem_of_getElem? (i := 438) (by decide +kernel), List.mem_of_getElem? (i := 439) (by decide +kernel)⟩
theorem lw_p39 : lw_okq (⟨"BlockMoverModel", "power", "()Z"⟩, 16) := ⟨⟨by decide +kernel, by decide +kernel⟩, List.mem_of_getElem? (i := 352) (by decide +kernel), List.mem_of_getElem? (i := 442) (by decide +kernel), List.mem_of_getElem? (i := 443) (by decide +kernel)⟩
theorem lw_p40 : lw_okq (⟨"BlockMoverModel", "setPlace", "(III)V"⟩, 16) := ⟨⟨by decide +kernel, by decide +kernel⟩, List.mem_of_getElem? (i := 352) (by decide +kernel), List.mem_of_getElem? (i := 446) (by decide +kernel), List.mem_of_getElem? (i := 447) (by decide +kernel)⟩
theorem lw_p41 : lw_okq (⟨"BlockMoverModel", "setKind", "(II)V"⟩, 16) := ⟨⟨by decide +kernel, by decide +kernel⟩, List.mem_of_getElem? (i := 352) (by decide +kernel), List.mem_of_getElem? (i := 450) (by decide +kernel), List.mem_of_getElem? (i := 451) (by decide +kernel)⟩
theorem lw_p42 : lw_okq (⟨"BlockMoverModel", "leastFree", "()I"⟩, 16) := ⟨⟨by decide +kernel, by decide +kernel⟩, List.mem_of_getElem? (i := 352) (by decide +kernel), List.mem_of_getElem? (i := 458) (by decide +kernel), List.mem_of_getElem? (i := 459) (by decide +kernel)⟩
theorem lw_p43 : lw_okq (⟨"BlockMoverModel", "isUsed", "(I)Z"⟩, 16) := ⟨⟨by decide +kernel, by decide +kernel⟩, List.mem_of_getElem? (i := 352) (by decide +kernel), List.mem_of_getElem? (i := 462) (by decide +kernel), List.mem_of_getElem? (i := 463) (by decide +kernel)⟩
theorem lw_p44 : lw_okq (⟨"BlockMoverModel", "setData", "(IIJ)V"⟩, 16) := ⟨⟨by decide +kernel, by decide +kernel⟩, List.mem_of_getElem? (i := 352) (by decide +kernel), List.mem_of_getElem? (i := 466) (by decide +kernel), List.mem_of_getElem? (i := 467) (by decide +kernel)⟩
theorem lw_p45 : lw_okq (⟨"BlockMoverModel", "hasEntries", "(I)Z"⟩, 16) := ⟨⟨by decide +kernel, by decide +kernel⟩, List.mem_of_getElem? (i := 352) (by decide +kernel), List.mem_of_getElem? (i := 478) (by decide +kernel), List.mem_of_getElem? (i := 479) (by decide +kernel)⟩
theorem lw_p46 : lw_okq (⟨"BlockMoverModel", "isWithin", "(II)Z"⟩, 16) := ⟨⟨by decide +kernel, by decide +kernel⟩, List.mem_of_getElem? (i := 352) (by decide +kernel), List.mem_of_getElem? (i := 486) (by decide +kernel), List.mem_of_getElem? (i := 487) (by decide +kernel)⟩
theorem lw_p47 : lw_okq (⟨"BlockMoverModel", "look", "()I"⟩, 16) := ⟨⟨by decide +kernel, by decide +kernel⟩, List.mem_of_getElem? (i := 352) (by decide +kernel), List.mem_of_getElem? (i := 494) (by decide +kernel), List.mem_of_getElem? (i := 495) (by decide +kernel)⟩
def lw_privs_3 : List (MethodName × Nat) := [(⟨"BlockMover", "hashOfDirectory", "(JII)J"⟩, 5), (⟨"BlockMover", "entryBehindName", "(II)I"⟩, 5), (⟨"BlockMover", "hashOfFile", "(JI)J"⟩, 5), (⟨"BlockMoverModel", "isInode", "(II)Z"⟩, 16), (⟨"BlockMoverModel", "entry", "(II)I"⟩, 16), (⟨"BlockMoverModel", "noEntry", "(I)I"⟩, 16), (⟨"BlockMoverModel", "setSize", "(II)V"⟩, 16), (⟨"BlockMoverModel", "power", "()Z"⟩, 16), (⟨"BlockMoverModel", "setPlace", "(III)V"⟩, 16), (⟨"BlockMoverModel", "setKind", "(II)V"⟩, 16), (⟨"BlockMoverModel", "leastFree", "()I"⟩, 16), (⟨"BlockMoverModel", "isUsed", "(I)Z"⟩, 16), (⟨"BlockMoverModel", "setData", "(IIJ)V"⟩, 16), (⟨"BlockMoverModel", "hasEntries", "(I)Z"⟩, 16), (⟨"BlockMoverModel", "isWithin", "(II)Z"⟩, 16), (⟨"BlockMoverModel", "look", "()I"⟩, 16)]
theorem lw_r3 : ∀ q ∈ lw_privs_3, lw_okq q := List.forall_mem_cons.mpr ⟨lw_p32, List.forall_mem_cons.mpr ⟨lw_p33, List.forall_mem_cons.mpr ⟨lw_p34, List.forall_mem_cons.mpr ⟨lw_p35, List.forall_mem_cons.mpr ⟨lw_p36, List.forall_mem_cons.mpr ⟨lw_p37, List.forall_mem_cons.mpr ⟨lw_p38, List.forall_mem_cons.mpr ⟨lw_p39, List.forall_mem_cons.mpr ⟨lw_p40, List.forall_mem_cons.mpr ⟨lw_p41, List.forall_mem_cons.mpr ⟨lw_p42, List.forall_mem_cons.mpr ⟨lw_p43, List.forall_mem_cons.mpr ⟨lw_p44, List.forall_mem_cons.mpr ⟨lw_p45, List.forall_mem_cons.mpr ⟨lw_p46, List.forall_mem_cons.mpr ⟨lw_p47, fun _ h => absurd h List.not_mem_nil⟩⟩⟩⟩⟩⟩⟩⟩⟩⟩⟩⟩⟩⟩⟩⟩
theorem lw_p48 : lw_okq (⟨"BlockMoverModel", "lookAt", "(III)I"⟩, 16) := ⟨⟨by decide +kernel, by decide +kernel⟩, List.mem_of_getElem? (i := 352) (by decide +kernel), List.mem_of_getElem? (i := 498) (by decide +kernel), List.mem_of_getElem? (i := 499) (by decide +kernel)⟩
theorem lw_p49 : lw_okq (⟨"BlockMoverModel", "greatestFree", "()I"⟩, 16) := ⟨⟨by decide +kernel, by decide +kernel⟩, List.mem_of_getElem? (i := 352) (by decide +kernel), List.mem_of_getElem? (i := 502) (by decide +kernel), List.mem_of_getElem? (i := 503) (by decide +kernel)⟩
theorem lw_p50 : lw_okq (⟨"BlockMoverModel", "move", "(I)V"⟩, 16) := ⟨⟨by decide +kernel, by decide +kernel⟩, List.mem_of_getElem? (i := 352) (by decide +kernel), List.mem_of_getElem? (i := 506) (by decide +kernel), List.mem_of_getElem? (i := 507) (by decide +kernel)⟩
theorem lw_p51 : lw_okq (⟨"BlockMoverModel", "setRecord", "(II)V"⟩, 16) := ⟨⟨by decide +kernel, by decide +kernel⟩, List.mem_of_getElem? (i := 352) (by decide +kernel), List.mem_of_getElem? (i := 510) (by decide +kernel), List.mem_of_getElem? (i := 511) (by decide +kernel)⟩
theorem lw_p52 : lw_okq (⟨"BlockMoverModel", "stands", "(II)Z"⟩, 16) := ⟨⟨by decide +kernel, by decide +kernel⟩, List.mem_of_getElem? (i := 352) (by decide +kernel), List.mem_of_getElem? (i := 518) (by decide +kernel), List.mem_of_getElem? (i := 519) (by decide +kernel)⟩
theorem lw_p53 : lw_okq (⟨"BlockMoverModel", "inodeOf", "(II)I"⟩, 16) := ⟨⟨by decide +kernel, by decide +kernel⟩, List.mem_of_getElem? (i := 352) (by decide +kernel), List.mem_of_getElem? (i := 535) (by decide +kernel), List.mem_of_getElem? (i := 536) (by decide +kernel)⟩
theorem lw_p54 : lw_okq (⟨"BlockMoverModel", "nextEntry", "(II)I"⟩, 16) := ⟨⟨by decide +kernel, by decide +kernel⟩, List.mem_of_getElem? (i := 352) (by decide +kernel), List.mem_of_getElem? (i := 574) (by decide +kernel), List.mem_of_getElem? (i := 575) (by decide +kernel)⟩
def lw_privs_4 : List (MethodName × Nat) := [(⟨"BlockMoverModel", "lookAt", "(III)I"⟩, 16), (⟨"BlockMoverModel", "greatestFree", "()I"⟩, 16), (⟨"BlockMoverModel", "move", "(I)V"⟩, 16), (⟨"BlockMoverModel", "setRecord", "(II)V"⟩, 16), (⟨"BlockMoverModel", "stands", "(II)Z"⟩, 16), (⟨"BlockMoverModel", "inodeOf", "(II)I"⟩, 16), (⟨"BlockMoverModel", "nextEntry", "(II)I"⟩, 16)]
theorem lw_r4 : ∀ q ∈ lw_privs_4, lw_okq q := List.forall_mem_cons.mpr ⟨lw_p48, List.forall_mem_cons.mpr ⟨lw_p49, List.forall_mem_cons.mpr ⟨lw_p50, List.forall_mem_cons.mpr ⟨lw_p51, List.forall_mem_cons.mpr ⟨lw_p52, List.forall_mem_cons.mpr ⟨lw_p53, List.forall_mem_cons.mpr ⟨lw_p54, fun _ h => absurd h List.not_mem_nil⟩⟩⟩⟩⟩⟩⟩
def lw_privs : List (MethodName × Nat) := lw_privs_1 ++ (lw_privs_2 ++ (lw_privs_3 ++ (lw_privs_4)))
def lw_tbl : List Cond := k2_sels lw_privs ++ tables_1
theorem lw_privs_ok : ∀ q ∈ lw_privs, lw_okq q := by
  show ∀ q ∈ lw_privs_1 ++ (lw_privs_2 ++ (lw_privs_3 ++ (lw_privs_4))), lw_okq q
  exact List.forall_mem_append.mpr ⟨lw_r1, List.forall_mem_append.mpr ⟨lw_r2, List.forall_mem_append.mpr ⟨lw_r3, lw_r4⟩⟩⟩
end
section
/-! ===== BEGIN words of one list among another's, by their places ===== -/
theorem goodIn_r {big : List Cond} (ws : List Cond) (ps : List Nat) (hp : ws = ps.filterMap (fun i => big[i]?)) (h : ws.all goodWord = true) : GoodIn big ws := by
  intro w hw
  have h1 := List.all_eq_true.mp h w hw
  rw [hp] at hw
  obtain ⟨i, -, hi⟩ := List.mem_filterMap.mp hw
  have hm : w ∈ big := by first | exact List.mem_of_getElem? hi | exact List.getElem?_mem hi
  exact ⟨hm, good_of_word h1⟩
theorem goodIn_app {big a b : List Cond} (ha : GoodIn big a) (hb : GoodIn big b) : GoodIn big (a ++ b) := fun w h => (List.mem_append.mp h).elim (ha w) (hb w)
theorem goodIn_ca {big a b : List Cond} {c : Cond} (ha : GoodIn big (c :: a)) (hb : GoodIn big b) : GoodIn big (c :: (a ++ b)) := fun w h => (List.mem_cons.mp h).elim (fun e => ha w (List.mem_cons.mpr (Or.inl e))) (fun h => (List.mem_append.mp h).elim (fun h => ha w (List.mem_cons.mpr (Or.inr h))) (hb w))
theorem goodIn_sub {big ws : List Cond} (hm : ∀ w ∈ ws, w ∈ big) (h : ws.all goodWord = true) : GoodIn big ws := fun w hw => ⟨hm w hw, good_of_word (List.all_eq_true.mp h w hw)⟩
/-! ===== END ===== -/

/-! ===== BEGIN printed: names, fields, word lists, decode rows ===== -/
def RX0 : String := "BlockMover$Disk"
def TX0 : u_T := fun k => match k with
  | 0 => ("BlockMover$Disk", "words", "[J", true)
  | 1 => ("BlockMover$Disk", "left", "I", false)
  | 2 => ("BlockMover$Disk", "writes", "I", false)
  | 3 => ("BlockMover$Disk", "down", "Z", false)
  | _ => ("BlockMover$Disk", "failed", "Z", false)
def tyX0 : Nat → FieldType := fun k => match k with
  | 0 => .array .long
  | 1 => .int
  | 2 => .int
  | 3 => .boolean
  | _ => .boolean
abbrev wsX00 : List Cond := u_ws RX0 TX0 5
theorem nmX0 : ∀ a, a < 5 → ∀ b, b < 5 → a ≠ b → (TX0 a).2.1 ≠ (TX0 b).2.1 := by decide +kernel
theorem tyX0_ok : ∀ k, k < 5 → parseFieldDescriptor (TX0 k).2.2.1 = some (tyX0 k) := by decide +kernel
abbrev cX0_init : ByteArray := prog_2_method_1_code
def yX0_init : MethodName := ⟨RX0, "<init>", "()V"⟩
abbrev cX0_word : ByteArray := prog_2_method_2_code
def yX0_word : MethodName := ⟨RX0, "word", "(I)J"⟩
abbrev cX0_begin : ByteArray := prog_2_method_3_code
def yX0_begin : MethodName := ⟨RX0, "begin", "()V"⟩
abbrev cX0_write : ByteArray := prog_2_method_4_code
def yX0_write : MethodName := ⟨RX0, "write", "(IJ)V"⟩
def RX1 : String := "BlockMover$Plan"
def TX1 : u_T := fun k => match k with
  | 0 => ("BlockMover$Plan", "inode", "I", false)
  | 1 => ("BlockMover$Plan", "place", "I", false)
  | _ => ("BlockMover$Plan", "to", "I", false)
def tyX1 : Nat → FieldType := fun k => match k with
  | 0 => .int
  | 1 => .int
  | _ => .int
abbrev wsX10 : List Cond := u_ws RX1 TX1 3
theorem nmX1 : ∀ a, a < 3 → ∀ b, b < 3 → a ≠ b → (TX1 a).2.1 ≠ (TX1 b).2.1 := by decide +kernel
theorem tyX1_ok : ∀ k, k < 3 → parseFieldDescriptor (TX1 k).2.2.1 = some (tyX1 k) := by decide +kernel
abbrev cX1_init : ByteArray := prog_3_method_1_code
def yX1_init : MethodName := ⟨RX1, "<init>", "()V"⟩
abbrev cX1_set : ByteArray := prog_3_method_2_code
def yX1_set : MethodName := ⟨RX1, "set", "(III)V"⟩
def RX2 : String := "BlockMover"
def TX2 : u_T := fun k => match k with
  | 0 => ("BlockMover", "disk", "LBlockMover$Disk;", true)
  | 1 => ("BlockMover", "next", "LBlockMover$Plan;", true)
  | 2 => ("BlockMover", "lastAsked", "J", false)
  | 3 => ("BlockMover", "movesDone", "I", false)
  | _ => ("BlockMover", "inodesMet", "I", false)
def tyX2 : Nat → FieldType := fun k => match k with
  | 0 => .object "BlockMover$Disk"
  | 1 => .object "BlockMover$Plan"
  | 2 => .long
  | 3 => .int
  | _ => .int
abbrev wsX20 : List Cond := u_ws RX2 TX2 5
theorem nmX2 : ∀ a, a < 5 → ∀ b, b < 5 → a ≠ b → (TX2 a).2.1 ≠ (TX2 b).2.1 := by decide +kernel
theorem tyX2_ok : ∀ k, k < 5 → parseFieldDescriptor (TX2 k).2.2.1 = some (tyX2 k) := by decide +kernel
abbrev cX2_init : ByteArray := prog_1_method_1_code
def yX2_init : MethodName := ⟨RX2, "<init>", "()V"⟩
abbrev cX2_cut : ByteArray := prog_1_method_2_code
def yX2_cut : MethodName := ⟨RX2, "cut", "(I)I"⟩
abbrev cX2_isDown : ByteArray := prog_1_method_3_code
def yX2_isDown : MethodName := ⟨RX2, "isDown", "()I"⟩
abbrev cX2_make : ByteArray := prog_1_method_4_code
def yX2_make : MethodName := ⟨RX2, "make", "(III)I"⟩
abbrev cX2_append : ByteArray := prog_1_method_5_code
def yX2_append : MethodName := ⟨RX2, "append", "(IJJJ)I"⟩
abbrev cX2_put : ByteArray := prog_1_method_6_code
def yX2_put : MethodName := ⟨RX2, "put", "(IIIJ)I"⟩
abbrev cX2_remove : ByteArray := prog_1_method_7_code
def yX2_remove : MethodName := ⟨RX2, "remove", "(II)I"⟩
abbrev cX2_rename : ByteArray := prog_1_method_8_code
def yX2_rename : MethodName := ⟨RX2, "rename", "(IIII)I"⟩
abbrev cX2_step : ByteArray := prog_1_method_9_code
def yX2_step : MethodName := ⟨RX2, "step", "()I"⟩
abbrev cX2_restart : ByteArray := prog_1_method_10_code
def yX2_restart : MethodName := ⟨RX2, "restart", "()I"⟩
abbrev cX2_find : ByteArray := prog_1_method_11_code
def yX2_find : MethodName := ⟨RX2, "find", "(II)I"⟩
abbrev cX2_inode : ByteArray := prog_1_method_12_code
def yX2_inode : MethodName := ⟨RX2, "inode", "(II)I"⟩
abbrev cX2_data : ByteArray := prog_1_method_13_code
def yX2_data : MethodName := ⟨RX2, "data", "(II)I"⟩
abbrev cX2_read : ByteArray := prog_1_method_14_code
def yX2_read : MethodName := ⟨RX2, "read", "(III)I"⟩
abbrev cX2_asked : ByteArray := prog_1_method_15_code
def yX2_asked : MethodName := ⟨RX2, "asked", "()J"⟩
abbrev cX2_record : ByteArray := prog_1_method_16_code
def yX2_record : MethodName := ⟨RX2, "record", "(I)I"⟩
abbrev cX2_plan : ByteArray := prog_1_method_17_code
def yX2_plan : MethodName := ⟨RX2, "plan", "(I)I"⟩
abbrev cX2_runs : ByteArray := prog_1_method_18_code
def yX2_runs : MethodName := ⟨RX2, "runs", "(I)I"⟩
abbrev cX2_count : ByteArray := prog_1_method_19_code
def yX2_count : MethodName := ⟨RX2, "count", "(I)I"⟩
abbrev cX2_tree : ByteArray := prog_1_method_20_code
def yX2_tree : MethodName := ⟨RX2, "tree", "()J"⟩
abbrev cX2_digest : ByteArray := prog_1_method_21_code
def yX2_digest : MethodName := ⟨RX2, "digest", "()J"⟩
abbrev cX2_inodeAt : ByteArray := prog_1_method_22_code
def yX2_inodeAt : MethodName := ⟨RX2, "inodeAt", "(II)I"⟩
abbrev cX2_placeAt : ByteArray := prog_1_method_23_code
def yX2_placeAt : MethodName := ⟨RX2, "placeAt", "(II)I"⟩
abbrev cX2_dataAt : ByteArray := prog_1_method_24_code
def yX2_dataAt : MethodName := ⟨RX2, "dataAt", "(II)I"⟩
abbrev cX2_recordAt : ByteArray := prog_1_method_25_code
def yX2_recordAt : MethodName := ⟨RX2, "recordAt", "(I)I"⟩
abbrev cX2_kindOf : ByteArray := prog_1_method_26_code
def yX2_kindOf : MethodName := ⟨RX2, "kindOf", "(I)I"⟩
abbrev cX2_sizeOf : ByteArray := prog_1_method_27_code
def yX2_sizeOf : MethodName := ⟨RX2, "sizeOf", "(I)I"⟩
abbrev cX2_placeOf : ByteArray := prog_1_method_28_code
def yX2_placeOf : MethodName := ⟨RX2, "placeOf", "(II)I"⟩
abbrev cX2_recorded : ByteArray := prog_1_method_29_code
def yX2_recorded : MethodName := ⟨RX2, "recorded", "(I)I"⟩
abbrev cX2_isBelow : ByteArray := prog_1_method_30_code
def yX2_isBelow : MethodName := ⟨RX2, "isBelow", "(II)Z"⟩
abbrev cX2_isName : ByteArray := prog_1_method_31_code
def yX2_isName : MethodName := ⟨RX2, "isName", "(I)Z"⟩
abbrev cX2_isOfKind : ByteArray := prog_1_method_32_code
def yX2_isOfKind : MethodName := ⟨RX2, "isOfKind", "(II)Z"⟩
abbrev cX2_isDataOfFile : ByteArray := prog_1_method_33_code
def yX2_isDataOfFile : MethodName := ⟨RX2, "isDataOfFile", "(III)Z"⟩
abbrev cX2_answerOfAct : ByteArray := prog_1_method_34_code
def yX2_answerOfAct : MethodName := ⟨RX2, "answerOfAct", "(I)I"⟩
abbrev cX2_entryOf : ByteArray := prog_1_method_35_code
def yX2_entryOf : MethodName := ⟨RX2, "entryOf", "(II)I"⟩
abbrev cX2_inodeOfEntry : ByteArray := prog_1_method_36_code
def yX2_inodeOfEntry : MethodName := ⟨RX2, "inodeOfEntry", "(I)I"⟩
abbrev cX2_nameOfEntry : ByteArray := prog_1_method_37_code
def yX2_nameOfEntry : MethodName := ⟨RX2, "nameOfEntry", "(I)I"⟩
abbrev cX2_placeOfName : ByteArray := prog_1_method_38_code
def yX2_placeOfName : MethodName := ⟨RX2, "placeOfName", "(II)I"⟩
abbrev cX2_leastPlaceWithoutEntry : ByteArray := prog_1_method_39_code
def yX2_leastPlaceWithoutEntry : MethodName := ⟨RX2, "leastPlaceWithoutEntry", "(I)I"⟩
abbrev cX2_entriesOf : ByteArray := prog_1_method_40_code
def yX2_entriesOf : MethodName := ⟨RX2, "entriesOf", "(I)I"⟩
abbrev cX2_hasEntryOf : ByteArray := prog_1_method_41_code
def yX2_hasEntryOf : MethodName := ⟨RX2, "hasEntryOf", "(II)Z"⟩
abbrev cX2_directoryAbove : ByteArray := prog_1_method_42_code
def yX2_directoryAbove : MethodName := ⟨RX2, "directoryAbove", "(I)I"⟩
abbrev cX2_isWithin : ByteArray := prog_1_method_43_code
def yX2_isWithin : MethodName := ⟨RX2, "isWithin", "(II)Z"⟩
abbrev cX2_leastInodeOfNoKind : ByteArray := prog_1_method_44_code
def yX2_leastInodeOfNoKind : MethodName := ⟨RX2, "leastInodeOfNoKind", "()I"⟩
abbrev cX2_blocksOf : ByteArray := prog_1_method_45_code
def yX2_blocksOf : MethodName := ⟨RX2, "blocksOf", "(I)I"⟩
abbrev cX2_usedBlocks : ByteArray := prog_1_method_46_code
def yX2_usedBlocks : MethodName := ⟨RX2, "usedBlocks", "()J"⟩
abbrev cX2_leastFreeBlock : ByteArray := prog_1_method_47_code
def yX2_leastFreeBlock : MethodName := ⟨RX2, "leastFreeBlock", "()I"⟩
abbrev cX2_greatestFreeBlock : ByteArray := prog_1_method_48_code
def yX2_greatestFreeBlock : MethodName := ⟨RX2, "greatestFreeBlock", "()I"⟩
abbrev cX2_findNextMove : ByteArray := prog_1_method_49_code
def yX2_findNextMove : MethodName := ⟨RX2, "findNextMove", "()I"⟩
abbrev cX2_chooseMove : ByteArray := prog_1_method_50_code
def yX2_chooseMove : MethodName := ⟨RX2, "chooseMove", "(III)I"⟩
abbrev cX2_chooseMoveAway : ByteArray := prog_1_method_51_code
def yX2_chooseMoveAway : MethodName := ⟨RX2, "chooseMoveAway", "(II)I"⟩
abbrev cX2_copyMovedBlock : ByteArray := prog_1_method_52_code
def yX2_copyMovedBlock : MethodName := ⟨RX2, "copyMovedBlock", "()V"⟩
abbrev cX2_linkMovedBlock : ByteArray := prog_1_method_53_code
def yX2_linkMovedBlock : MethodName := ⟨RX2, "linkMovedBlock", "()V"⟩
abbrev cX2_finishRecordedMove : ByteArray := prog_1_method_54_code
def yX2_finishRecordedMove : MethodName := ⟨RX2, "finishRecordedMove", "()V"⟩
abbrev cX2_clearWrongEntries : ByteArray := prog_1_method_55_code
def yX2_clearWrongEntries : MethodName := ⟨RX2, "clearWrongEntries", "()V"⟩
abbrev cX2_clearWrongEntriesOf : ByteArray := prog_1_method_56_code
def yX2_clearWrongEntriesOf : MethodName := ⟨RX2, "clearWrongEntriesOf", "(I)V"⟩
abbrev cX2_clearInodesWithoutEntry : ByteArray := prog_1_method_57_code
def yX2_clearInodesWithoutEntry : MethodName := ⟨RX2, "clearInodesWithoutEntry", "()V"⟩
abbrev cX2_meet : ByteArray := prog_1_method_58_code
def yX2_meet : MethodName := ⟨RX2, "meet", "(I)Z"⟩
abbrev cX2_countInodes : ByteArray := prog_1_method_59_code
def yX2_countInodes : MethodName := ⟨RX2, "countInodes", "()I"⟩
abbrev cX2_countMisplacedBlocks : ByteArray := prog_1_method_60_code
def yX2_countMisplacedBlocks : MethodName := ⟨RX2, "countMisplacedBlocks", "()I"⟩
abbrev cX2_countEntries : ByteArray := prog_1_method_61_code
def yX2_countEntries : MethodName := ⟨RX2, "countEntries", "()I"⟩
abbrev cX2_hashOfInode : ByteArray := prog_1_method_62_code
def yX2_hashOfInode : MethodName := ⟨RX2, "hashOfInode", "(JII)J"⟩
abbrev cX2_hashOfDirectory : ByteArray := prog_1_method_63_code
def yX2_hashOfDirectory : MethodName := ⟨RX2, "hashOfDirectory", "(JII)J"⟩
abbrev cX2_entryBehindName : ByteArray := prog_1_method_64_code
def yX2_entryBehindName : MethodName := ⟨RX2, "entryBehindName", "(II)I"⟩
abbrev cX2_hashOfFile : ByteArray := prog_1_method_65_code
def yX2_hashOfFile : MethodName := ⟨RX2, "hashOfFile", "(JI)J"⟩
def RX3 : String := "BlockMoverModel"
def TX3 : u_T := fun k => match k with
  | 0 => ("BlockMoverModel", "kind", "[I", true)
  | 1 => ("BlockMoverModel", "size", "[I", true)
  | 2 => ("BlockMoverModel", "places", "[I", true)
  | 3 => ("BlockMoverModel", "words", "[J", true)
  | 4 => ("BlockMoverModel", "rec", "[I", true)
  | 5 => ("BlockMoverModel", "down", "Z", false)
  | 6 => ("BlockMoverModel", "left", "I", false)
  | 7 => ("BlockMoverModel", "writes", "I", false)
  | 8 => ("BlockMoverModel", "moves", "I", false)
  | 9 => ("BlockMoverModel", "planFrom", "I", false)
  | 10 => ("BlockMoverModel", "planTo", "I", false)
  | 11 => ("BlockMoverModel", "planInode", "I", false)
  | 12 => ("BlockMoverModel", "planPlace", "I", false)
  | 13 => ("BlockMoverModel", "latest", "J", false)
  | 14 => ("BlockMoverModel", "open", "[I", true)
  | _ => ("BlockMoverModel", "latestName", "[I", true)
def tyX3 : Nat → FieldType := fun k => match k with
  | 0 => .array .int
  | 1 => .array .int
  | 2 => .array .int
  | 3 => .array .long
  | 4 => .array .int
  | 5 => .boolean
  | 6 => .int
  | 7 => .int
  | 8 => .int
  | 9 => .int
  | 10 => .int
  | 11 => .int
  | 12 => .int
  | 13 => .long
  | 14 => .array .int
  | _ => .array .int
abbrev wsX30 : List Cond := u_ws RX3 TX3 16
theorem nmX3 : ∀ a, a < 16 → ∀ b, b < 16 → a ≠ b → (TX3 a).2.1 ≠ (TX3 b).2.1 := by decide +kernel
theorem tyX3_ok : ∀ k, k < 16 → parseFieldDescriptor (TX3 k).2.2.1 = some (tyX3 k) := by decide +kernel
abbrev cX3_init : ByteArray := prog_5_method_1_code
def yX3_init : MethodName := ⟨RX3, "<init>", "()V"⟩
abbrev cX3_in : ByteArray := prog_5_method_3_code
def yX3_in : MethodName := ⟨RX3, "in", "(JJJ)Z"⟩
abbrev cX3_power : ByteArray := prog_5_method_4_code
def yX3_power : MethodName := ⟨RX3, "power", "()Z"⟩
abbrev cX3_setKind : ByteArray := prog_5_method_5_code
def yX3_setKind : MethodName := ⟨RX3, "setKind", "(II)V"⟩
abbrev cX3_setSize : ByteArray := prog_5_method_6_code
def yX3_setSize : MethodName := ⟨RX3, "setSize", "(II)V"⟩
abbrev cX3_setPlace : ByteArray := prog_5_method_7_code
def yX3_setPlace : MethodName := ⟨RX3, "setPlace", "(III)V"⟩
abbrev cX3_setData : ByteArray := prog_5_method_8_code
def yX3_setData : MethodName := ⟨RX3, "setData", "(IIJ)V"⟩
abbrev cX3_setRecord : ByteArray := prog_5_method_9_code
def yX3_setRecord : MethodName := ⟨RX3, "setRecord", "(II)V"⟩
abbrev cX3_cut : ByteArray := prog_5_method_10_code
def yX3_cut : MethodName := ⟨RX3, "cut", "(I)I"⟩
abbrev cX3_isInode : ByteArray := prog_5_method_11_code
def yX3_isInode : MethodName := ⟨RX3, "isInode", "(II)Z"⟩
abbrev cX3_isName : ByteArray := prog_5_method_12_code
def yX3_isName : MethodName := ⟨RX3, "isName", "(I)Z"⟩
abbrev cX3_entry : ByteArray := prog_5_method_13_code
def yX3_entry : MethodName := ⟨RX3, "entry", "(II)I"⟩
abbrev cX3_noEntry : ByteArray := prog_5_method_14_code
def yX3_noEntry : MethodName := ⟨RX3, "noEntry", "(I)I"⟩
abbrev cX3_isUsed : ByteArray := prog_5_method_15_code
def yX3_isUsed : MethodName := ⟨RX3, "isUsed", "(I)Z"⟩
abbrev cX3_leastFree : ByteArray := prog_5_method_16_code
def yX3_leastFree : MethodName := ⟨RX3, "leastFree", "()I"⟩
abbrev cX3_greatestFree : ByteArray := prog_5_method_17_code
def yX3_greatestFree : MethodName := ⟨RX3, "greatestFree", "()I"⟩
abbrev cX3_make : ByteArray := prog_5_method_18_code
def yX3_make : MethodName := ⟨RX3, "make", "(III)I"⟩
abbrev cX3_append : ByteArray := prog_5_method_19_code
def yX3_append : MethodName := ⟨RX3, "append", "(IJJJ)I"⟩
abbrev cX3_put : ByteArray := prog_5_method_20_code
def yX3_put : MethodName := ⟨RX3, "put", "(IIIJ)I"⟩
abbrev cX3_hasEntries : ByteArray := prog_5_method_21_code
def yX3_hasEntries : MethodName := ⟨RX3, "hasEntries", "(I)Z"⟩
abbrev cX3_remove : ByteArray := prog_5_method_22_code
def yX3_remove : MethodName := ⟨RX3, "remove", "(II)I"⟩
abbrev cX3_isWithin : ByteArray := prog_5_method_23_code
def yX3_isWithin : MethodName := ⟨RX3, "isWithin", "(II)Z"⟩
abbrev cX3_rename : ByteArray := prog_5_method_24_code
def yX3_rename : MethodName := ⟨RX3, "rename", "(IIII)I"⟩
abbrev cX3_look : ByteArray := prog_5_method_25_code
def yX3_look : MethodName := ⟨RX3, "look", "()I"⟩
abbrev cX3_lookAt : ByteArray := prog_5_method_26_code
def yX3_lookAt : MethodName := ⟨RX3, "lookAt", "(III)I"⟩
abbrev cX3_move : ByteArray := prog_5_method_27_code
def yX3_move : MethodName := ⟨RX3, "move", "(I)V"⟩
abbrev cX3_step : ByteArray := prog_5_method_28_code
def yX3_step : MethodName := ⟨RX3, "step", "()I"⟩
abbrev cX3_stands : ByteArray := prog_5_method_29_code
def yX3_stands : MethodName := ⟨RX3, "stands", "(II)Z"⟩
abbrev cX3_restart : ByteArray := prog_5_method_30_code
def yX3_restart : MethodName := ⟨RX3, "restart", "()I"⟩
abbrev cX3_isDown : ByteArray := prog_5_method_31_code
def yX3_isDown : MethodName := ⟨RX3, "isDown", "()I"⟩
abbrev cX3_find : ByteArray := prog_5_method_32_code
def yX3_find : MethodName := ⟨RX3, "find", "(II)I"⟩
abbrev cX3_inodeOf : ByteArray := prog_5_method_33_code
def yX3_inodeOf : MethodName := ⟨RX3, "inodeOf", "(II)I"⟩
abbrev cX3_inode : ByteArray := prog_5_method_34_code
def yX3_inode : MethodName := ⟨RX3, "inode", "(II)I"⟩
abbrev cX3_data : ByteArray := prog_5_method_35_code
def yX3_data : MethodName := ⟨RX3, "data", "(II)I"⟩
abbrev cX3_read : ByteArray := prog_5_method_36_code
def yX3_read : MethodName := ⟨RX3, "read", "(III)I"⟩
abbrev cX3_asked : ByteArray := prog_5_method_37_code
def yX3_asked : MethodName := ⟨RX3, "asked", "()J"⟩
abbrev cX3_record : ByteArray := prog_5_method_38_code
def yX3_record : MethodName := ⟨RX3, "record", "(I)I"⟩
abbrev cX3_plan : ByteArray := prog_5_method_39_code
def yX3_plan : MethodName := ⟨RX3, "plan", "(I)I"⟩
abbrev cX3_runs : ByteArray := prog_5_method_40_code
def yX3_runs : MethodName := ⟨RX3, "runs", "(I)I"⟩
abbrev cX3_count : ByteArray := prog_5_method_41_code
def yX3_count : MethodName := ⟨RX3, "count", "(I)I"⟩
abbrev cX3_nextEntry : ByteArray := prog_5_method_42_code
def yX3_nextEntry : MethodName := ⟨RX3, "nextEntry", "(II)I"⟩
abbrev cX3_tree : ByteArray := prog_5_method_43_code
def yX3_tree : MethodName := ⟨RX3, "tree", "()J"⟩
abbrev cX3_digest : ByteArray := prog_5_method_44_code
def yX3_digest : MethodName := ⟨RX3, "digest", "()J"⟩
def RJ13 : String := "java/lang/Long"
def TJ13 : u_T := fun k => match k with
  | _ => ("", "", "", false)
def tyJ13 : Nat → FieldType := fun k => match k with
  | _ => .int
abbrev wsJ130 : List Cond := u_ws RJ13 TJ13 0
theorem nmJ13 : ∀ a, a < 0 → ∀ b, b < 0 → a ≠ b → (TJ13 a).2.1 ≠ (TJ13 b).2.1 := by decide +kernel
theorem tyJ13_ok : ∀ k, k < 0 → parseFieldDescriptor (TJ13 k).2.2.1 = some (tyJ13 k) := by decide +kernel
abbrev cJ13_bitCount_95d88 : ByteArray := prog_6_method_50_code
def yJ13_bitCount_95d88 : MethodName := ⟨RJ13, "bitCount", "(J)I"⟩
def RL : String := "BlockMoverLaw"
abbrev cL_law : ByteArray := code
def yL_law : MethodName := ⟨RL, "law", "([I)Z"⟩
def wsX0_init : List Cond := .code yX0_init cX0_init 1 none :: ([.methodLink RX0 3 objectInit, .instanceMethod objectInit, .code objectInit ⟨#[0xb1]⟩ 1 none, .arrayClass .long, .fieldLink RX0 9 "BlockMover$Disk" "words" "[J", .fieldLink RX0 15 "BlockMover$Disk" "left" "I"] ++ wsX00)
def wsX0_word : List Cond := .code yX0_word cX0_word 2 (some .long) :: ([.fieldLink RX0 9 "BlockMover$Disk" "words" "[J"] ++ wsX00)
def wsX0_begin : List Cond := .code yX0_begin cX0_begin 1 none :: ([.fieldLink RX0 19 "BlockMover$Disk" "failed" "Z"] ++ wsX00)
def wsX0_write : List Cond := .code yX0_write cX0_write 4 none :: ([.fieldLink RX0 19 "BlockMover$Disk" "failed" "Z", .fieldLink RX0 9 "BlockMover$Disk" "words" "[J", .fieldLink RX0 15 "BlockMover$Disk" "left" "I", .fieldLink RX0 23 "BlockMover$Disk" "down" "Z", .fieldLink RX0 26 "BlockMover$Disk" "writes" "I"] ++ wsX00)
def wsX1_init : List Cond := .code yX1_init cX1_init 1 none :: ([.methodLink RX1 1 objectInit, .instanceMethod objectInit, .code objectInit ⟨#[0xb1]⟩ 1 none])
def wsX1_set : List Cond := .code yX1_set cX1_set 4 none :: ([.fieldLink RX1 7 "BlockMover$Plan" "inode" "I", .fieldLink RX1 13 "BlockMover$Plan" "place" "I", .fieldLink RX1 16 "BlockMover$Plan" "to" "I"] ++ wsX10)
def wsX2_init : List Cond := .code yX2_init cX2_init 1 none :: ([.methodLink RX2 3 objectInit, .instanceMethod objectInit, .code objectInit ⟨#[0xb1]⟩ 1 none, .classLink RX2 9 RX0, .instantiable RX0 5, .initialized RX0, .fieldLink RX2 12 "BlockMover" "disk" "LBlockMover$Disk;", .classLink RX2 16 RX1, .instantiable RX1 3, .initialized RX1, .fieldLink RX2 19 "BlockMover" "next" "LBlockMover$Plan;", .methodLink RX2 11 yX0_init, .instanceMethod yX0_init, .code yX0_init cX0_init 1 none, .methodLink RX0 3 objectInit, .arrayClass .long, .fieldLink RX0 9 "BlockMover$Disk" "words" "[J", .fieldLink RX0 15 "BlockMover$Disk" "left" "I", .instanceMethod yX1_init, .code yX1_init cX1_init 1 none, .methodLink RX1 1 objectInit] ++ wsX00 ++ wsX20 ++ wsX10)
def wsX2_isBelow : List Cond := .code yX2_isBelow cX2_isBelow 2 (some .boolean) :: ([])
def wsX2_cut : List Cond := .code yX2_cut cX2_cut 3 (some .int) :: ([.fieldLink RX2 12 "BlockMover" "disk" "LBlockMover$Disk;", .fieldLink RX2 27 "BlockMover$Disk" "left" "I", .methodLink RX2 23 yX2_isBelow, .static yX2_isBelow, .initialized RX2, .code yX2_isBelow cX2_isBelow 2 (some .boolean)] ++ wsX20 ++ wsX00)
def wsX2_isDown : List Cond := .code yX2_isDown cX2_isDown 1 (some .int) :: ([.fieldLink RX2 12 "BlockMover" "disk" "LBlockMover$Disk;", .fieldLink RX2 31 "BlockMover$Disk" "down" "Z"] ++ wsX20 ++ wsX00)
def wsX2_inodeAt : List Cond := .code yX2_inodeAt cX2_inodeAt 2 (some .int) :: ([])
def wsX2_kindOf : List Cond := .code yX2_kindOf cX2_kindOf 2 (some .int) :: ([.fieldLink RX2 12 "BlockMover" "disk" "LBlockMover$Disk;", .methodLink RX2 57 yX2_inodeAt, .static yX2_inodeAt, .initialized RX2, .code yX2_inodeAt cX2_inodeAt 2 (some .int), .methodLink RX2 137 yX0_word, .instanceMethod yX0_word, .selects RX0 yX0_word yX0_word, .initialized RX0, .code yX0_word cX0_word 2 (some .long), .fieldLink RX0 9 "BlockMover$Disk" "words" "[J"] ++ wsX20 ++ wsX00)
def wsX2_isOfKind : List Cond := .code yX2_isOfKind cX2_isOfKind 3 (some .boolean) :: ([.methodLink RX2 23 yX2_isBelow, .static yX2_isBelow, .initialized RX2, .code yX2_isBelow cX2_isBelow 2 (some .boolean), .methodLink RX2 92 yX2_kindOf, .instanceMethod yX2_kindOf, .selects RX2 yX2_kindOf yX2_kindOf, .code yX2_kindOf cX2_kindOf 2 (some .int), .fieldLink RX2 12 "BlockMover" "disk" "LBlockMover$Disk;", .methodLink RX2 57 yX2_inodeAt, .static yX2_inodeAt, .code yX2_inodeAt cX2_inodeAt 2 (some .int), .methodLink RX2 137 yX0_word, .instanceMethod yX0_word, .selects RX0 yX0_word yX0_word, .initialized RX0, .code yX0_word cX0_word 2 (some .long), .fieldLink RX0 9 "BlockMover$Disk" "words" "[J"] ++ wsX20 ++ wsX00)
def wsX2_isName : List Cond := .code yX2_isName cX2_isName 1 (some .boolean) :: ([])
def wsX2_placeAt : List Cond := .code yX2_placeAt cX2_placeAt 2 (some .int) :: ([.methodLink RX2 57 yX2_inodeAt, .static yX2_inodeAt, .initialized RX2, .code yX2_inodeAt cX2_inodeAt 2 (some .int)])
def wsX2_placeOf : List Cond := .code yX2_placeOf cX2_placeOf 3 (some .int) :: ([.fieldLink RX2 12 "BlockMover" "disk" "LBlockMover$Disk;", .methodLink RX2 64 yX2_placeAt, .static yX2_placeAt, .initialized RX2, .code yX2_placeAt cX2_placeAt 2 (some .int), .methodLink RX2 57 yX2_inodeAt, .static yX2_inodeAt, .code yX2_inodeAt cX2_inodeAt 2 (some .int), .methodLink RX2 137 yX0_word, .instanceMethod yX0_word, .selects RX0 yX0_word yX0_word, .initialized RX0, .code yX0_word cX0_word 2 (some .long), .fieldLink RX0 9 "BlockMover$Disk" "words" "[J"] ++ wsX20 ++ wsX00)
def wsX2_nameOfEntry : List Cond := .code yX2_nameOfEntry cX2_nameOfEntry 1 (some .int) :: ([])
def wsX2_placeOfName : List Cond := .code yX2_placeOfName cX2_placeOfName 4 (some .int) :: ([.methodLink RX2 86 yX2_placeOf, .instanceMethod yX2_placeOf, .selects RX2 yX2_placeOf yX2_placeOf, .initialized RX2, .code yX2_placeOf cX2_placeOf 3 (some .int), .fieldLink RX2 12 "BlockMover" "disk" "LBlockMover$Disk;", .methodLink RX2 64 yX2_placeAt, .static yX2_placeAt, .code yX2_placeAt cX2_placeAt 2 (some .int), .methodLink RX2 57 yX2_inodeAt, .static yX2_inodeAt, .code yX2_inodeAt cX2_inodeAt 2 (some .int), .methodLink RX2 137 yX0_word, .instanceMethod yX0_word, .selects RX0 yX0_word yX0_word, .initialized RX0, .code yX0_word cX0_word 2 (some .long), .fieldLink RX0 9 "BlockMover$Disk" "words" "[J", .methodLink RX2 186 yX2_nameOfEntry, .static yX2_nameOfEntry, .code yX2_nameOfEntry cX2_nameOfEntry 1 (some .int)] ++ wsX20 ++ wsX00)
def wsX2_leastInodeOfNoKind : List Cond := .code yX2_leastInodeOfNoKind cX2_leastInodeOfNoKind 2 (some .int) :: ([.methodLink RX2 92 yX2_kindOf, .instanceMethod yX2_kindOf, .selects RX2 yX2_kindOf yX2_kindOf, .initialized RX2, .code yX2_kindOf cX2_kindOf 2 (some .int), .fieldLink RX2 12 "BlockMover" "disk" "LBlockMover$Disk;", .methodLink RX2 57 yX2_inodeAt, .static yX2_inodeAt, .code yX2_inodeAt cX2_inodeAt 2 (some .int), .methodLink RX2 137 yX0_word, .instanceMethod yX0_word, .selects RX0 yX0_word yX0_word, .initialized RX0, .code yX0_word cX0_word 2 (some .long), .fieldLink RX0 9 "BlockMover$Disk" "words" "[J"] ++ wsX20 ++ wsX00)
def wsX2_leastPlaceWithoutEntry : List Cond := .code yX2_leastPlaceWithoutEntry cX2_leastPlaceWithoutEntry 3 (some .int) :: ([.methodLink RX2 86 yX2_placeOf, .instanceMethod yX2_placeOf, .selects RX2 yX2_placeOf yX2_placeOf, .initialized RX2, .code yX2_placeOf cX2_placeOf 3 (some .int), .fieldLink RX2 12 "BlockMover" "disk" "LBlockMover$Disk;", .methodLink RX2 64 yX2_placeAt, .static yX2_placeAt, .code yX2_placeAt cX2_placeAt 2 (some .int), .methodLink RX2 57 yX2_inodeAt, .static yX2_inodeAt, .code yX2_inodeAt cX2_inodeAt 2 (some .int), .methodLink RX2 137 yX0_word, .instanceMethod yX0_word, .selects RX0 yX0_word yX0_word, .initialized RX0, .code yX0_word cX0_word 2 (some .long), .fieldLink RX0 9 "BlockMover$Disk" "words" "[J"] ++ wsX20 ++ wsX00)
def wsX2_entryOf : List Cond := .code yX2_entryOf cX2_entryOf 2 (some .int) :: ([])
def wsX2_answerOfAct : List Cond := .code yX2_answerOfAct cX2_answerOfAct 2 (some .int) :: ([.fieldLink RX2 12 "BlockMover" "disk" "LBlockMover$Disk;", .fieldLink RX2 134 "BlockMover$Disk" "failed" "Z"] ++ wsX20 ++ wsX00)
def wsX2_make_r1 : List Cond := [Cond.fieldLink RX2 12 "BlockMover" "disk" "LBlockMover$Disk;", Cond.fieldLink RX2 31 "BlockMover$Disk" "down" "Z", Cond.methodLink RX2 35 yX2_isOfKind, Cond.instanceMethod yX2_isOfKind, Cond.selects RX2 yX2_isOfKind yX2_isOfKind, Cond.initialized RX2, Cond.code yX2_isOfKind cX2_isOfKind 3 (some .boolean), Cond.methodLink RX2 23 yX2_isBelow, Cond.static yX2_isBelow, Cond.code yX2_isBelow cX2_isBelow 2 (some .boolean), Cond.methodLink RX2 92 yX2_kindOf, Cond.instanceMethod yX2_kindOf, Cond.selects RX2 yX2_kindOf yX2_kindOf, Cond.code yX2_kindOf cX2_kindOf 2 (some .int), Cond.methodLink RX2 57 yX2_inodeAt, Cond.static yX2_inodeAt, Cond.code yX2_inodeAt cX2_inodeAt 2 (some .int), Cond.methodLink RX2 137 yX0_word, Cond.instanceMethod yX0_word, Cond.selects RX0 yX0_word yX0_word, Cond.initialized RX0, Cond.code yX0_word cX0_word 2 (some .long), Cond.fieldLink RX0 9 "BlockMover$Disk" "words" "[J", Cond.methodLink RX2 38 yX2_isName]
def wsX2_make_r2 : List Cond := [Cond.static yX2_isName, Cond.code yX2_isName cX2_isName 1 (some .boolean), Cond.methodLink RX2 42 yX2_placeOfName, Cond.instanceMethod yX2_placeOfName, Cond.selects RX2 yX2_placeOfName yX2_placeOfName, Cond.code yX2_placeOfName cX2_placeOfName 4 (some .int), Cond.methodLink RX2 86 yX2_placeOf, Cond.instanceMethod yX2_placeOf, Cond.selects RX2 yX2_placeOf yX2_placeOf, Cond.code yX2_placeOf cX2_placeOf 3 (some .int), Cond.methodLink RX2 64 yX2_placeAt, Cond.static yX2_placeAt, Cond.code yX2_placeAt cX2_placeAt 2 (some .int), Cond.methodLink RX2 186 yX2_nameOfEntry, Cond.static yX2_nameOfEntry, Cond.code yX2_nameOfEntry cX2_nameOfEntry 1 (some .int), Cond.methodLink RX2 46 yX2_leastInodeOfNoKind, Cond.instanceMethod yX2_leastInodeOfNoKind, Cond.selects RX2 yX2_leastInodeOfNoKind yX2_leastInodeOfNoKind, Cond.code yX2_leastInodeOfNoKind cX2_leastInodeOfNoKind 2 (some .int), Cond.methodLink RX2 50 yX2_leastPlaceWithoutEntry, Cond.instanceMethod yX2_leastPlaceWithoutEntry, Cond.selects RX2 yX2_leastPlaceWithoutEntry yX2_leastPlaceWithoutEntry, Cond.code yX2_leastPlaceWithoutEntry cX2_leastPlaceWithoutEntry 3 (some .int)]
def wsX2_make_r3 : List Cond := [Cond.methodLink RX2 54 yX0_begin, Cond.instanceMethod yX0_begin, Cond.selects RX0 yX0_begin yX0_begin, Cond.code yX0_begin cX0_begin 1 none, Cond.fieldLink RX0 19 "BlockMover$Disk" "failed" "Z", Cond.methodLink RX2 60 yX0_write, Cond.instanceMethod yX0_write, Cond.selects RX0 yX0_write yX0_write, Cond.code yX0_write cX0_write 4 none, Cond.fieldLink RX0 15 "BlockMover$Disk" "left" "I", Cond.fieldLink RX0 23 "BlockMover$Disk" "down" "Z", Cond.fieldLink RX0 26 "BlockMover$Disk" "writes" "I", Cond.methodLink RX2 67 yX2_entryOf, Cond.static yX2_entryOf, Cond.code yX2_entryOf cX2_entryOf 2 (some .int), Cond.methodLink RX2 70 yX2_answerOfAct, Cond.instanceMethod yX2_answerOfAct, Cond.selects RX2 yX2_answerOfAct yX2_answerOfAct, Cond.code yX2_answerOfAct cX2_answerOfAct 2 (some .int), Cond.fieldLink RX2 134 "BlockMover$Disk" "failed" "Z"]
def wsX2_make : List Cond := .code yX2_make cX2_make 7 (some .int) :: ((wsX2_make_r1 ++ (wsX2_make_r2 ++ wsX2_make_r3)) ++ wsX20 ++ wsX00)
def wsX2_sizeOf : List Cond := .code yX2_sizeOf cX2_sizeOf 2 (some .int) :: ([.fieldLink RX2 12 "BlockMover" "disk" "LBlockMover$Disk;", .methodLink RX2 57 yX2_inodeAt, .static yX2_inodeAt, .initialized RX2, .code yX2_inodeAt cX2_inodeAt 2 (some .int), .methodLink RX2 137 yX0_word, .instanceMethod yX0_word, .selects RX0 yX0_word yX0_word, .initialized RX0, .code yX0_word cX0_word 2 (some .long), .fieldLink RX0 9 "BlockMover$Disk" "words" "[J"] ++ wsX20 ++ wsX00)
def wsX2_blocksOf : List Cond := .code yX2_blocksOf cX2_blocksOf 2 (some .int) :: ([.methodLink RX2 92 yX2_kindOf, .instanceMethod yX2_kindOf, .selects RX2 yX2_kindOf yX2_kindOf, .initialized RX2, .code yX2_kindOf cX2_kindOf 2 (some .int), .fieldLink RX2 12 "BlockMover" "disk" "LBlockMover$Disk;", .methodLink RX2 57 yX2_inodeAt, .static yX2_inodeAt, .code yX2_inodeAt cX2_inodeAt 2 (some .int), .methodLink RX2 137 yX0_word, .instanceMethod yX0_word, .selects RX0 yX0_word yX0_word, .initialized RX0, .code yX0_word cX0_word 2 (some .long), .fieldLink RX0 9 "BlockMover$Disk" "words" "[J", .methodLink RX2 73 yX2_sizeOf, .instanceMethod yX2_sizeOf, .selects RX2 yX2_sizeOf yX2_sizeOf, .code yX2_sizeOf cX2_sizeOf 2 (some .int)] ++ wsX20 ++ wsX00)
def wsX2_usedBlocks_r1 : List Cond := [Cond.methodLink RX2 195 yX2_blocksOf, Cond.instanceMethod yX2_blocksOf, Cond.selects RX2 yX2_blocksOf yX2_blocksOf, Cond.initialized RX2, Cond.code yX2_blocksOf cX2_blocksOf 2 (some .int), Cond.methodLink RX2 92 yX2_kindOf, Cond.instanceMethod yX2_kindOf, Cond.selects RX2 yX2_kindOf yX2_kindOf, Cond.code yX2_kindOf cX2_kindOf 2 (some .int), Cond.fieldLink RX2 12 "BlockMover" "disk" "LBlockMover$Disk;", Cond.methodLink RX2 57 yX2_inodeAt, Cond.static yX2_inodeAt, Cond.code yX2_inodeAt cX2_inodeAt 2 (some .int), Cond.methodLink RX2 137 yX0_word, Cond.instanceMethod yX0_word, Cond.selects RX0 yX0_word yX0_word, Cond.initialized RX0, Cond.code yX0_word cX0_word 2 (some .long), Cond.fieldLink RX0 9 "BlockMover$Disk" "words" "[J", Cond.methodLink RX2 73 yX2_sizeOf, Cond.instanceMethod yX2_sizeOf, Cond.selects RX2 yX2_sizeOf yX2_sizeOf, Cond.code yX2_sizeOf cX2_sizeOf 2 (some .int), Cond.methodLink RX2 86 yX2_placeOf]
def wsX2_usedBlocks_r2 : List Cond := [Cond.instanceMethod yX2_placeOf, Cond.selects RX2 yX2_placeOf yX2_placeOf, Cond.code yX2_placeOf cX2_placeOf 3 (some .int), Cond.methodLink RX2 64 yX2_placeAt, Cond.static yX2_placeAt, Cond.code yX2_placeAt cX2_placeAt 2 (some .int)]
def wsX2_usedBlocks : List Cond := .code yX2_usedBlocks cX2_usedBlocks 6 (some .long) :: ((wsX2_usedBlocks_r1 ++ wsX2_usedBlocks_r2) ++ wsX20 ++ wsX00)
def wsX2_leastFreeBlock_r1 : List Cond := [Cond.methodLink RX2 148 yX2_usedBlocks, Cond.instanceMethod yX2_usedBlocks, Cond.selects RX2 yX2_usedBlocks yX2_usedBlocks, Cond.initialized RX2, Cond.code yX2_usedBlocks cX2_usedBlocks 6 (some .long), Cond.methodLink RX2 195 yX2_blocksOf, Cond.instanceMethod yX2_blocksOf, Cond.selects RX2 yX2_blocksOf yX2_blocksOf, Cond.code yX2_blocksOf cX2_blocksOf 2 (some .int), Cond.methodLink RX2 92 yX2_kindOf, Cond.instanceMethod yX2_kindOf, Cond.selects RX2 yX2_kindOf yX2_kindOf, Cond.code yX2_kindOf cX2_kindOf 2 (some .int), Cond.fieldLink RX2 12 "BlockMover" "disk" "LBlockMover$Disk;", Cond.methodLink RX2 57 yX2_inodeAt, Cond.static yX2_inodeAt, Cond.code yX2_inodeAt cX2_inodeAt 2 (some .int), Cond.methodLink RX2 137 yX0_word, Cond.instanceMethod yX0_word, Cond.selects RX0 yX0_word yX0_word, Cond.initialized RX0, Cond.code yX0_word cX0_word 2 (some .long), Cond.fieldLink RX0 9 "BlockMover$Disk" "words" "[J", Cond.methodLink RX2 73 yX2_sizeOf]
def wsX2_leastFreeBlock_r2 : List Cond := [Cond.instanceMethod yX2_sizeOf, Cond.selects RX2 yX2_sizeOf yX2_sizeOf, Cond.code yX2_sizeOf cX2_sizeOf 2 (some .int), Cond.methodLink RX2 86 yX2_placeOf, Cond.instanceMethod yX2_placeOf, Cond.selects RX2 yX2_placeOf yX2_placeOf, Cond.code yX2_placeOf cX2_placeOf 3 (some .int), Cond.methodLink RX2 64 yX2_placeAt, Cond.static yX2_placeAt, Cond.code yX2_placeAt cX2_placeAt 2 (some .int)]
def wsX2_leastFreeBlock : List Cond := .code yX2_leastFreeBlock cX2_leastFreeBlock 4 (some .int) :: ((wsX2_leastFreeBlock_r1 ++ wsX2_leastFreeBlock_r2) ++ wsX20 ++ wsX00)
def wsX2_dataAt : List Cond := .code yX2_dataAt cX2_dataAt 2 (some .int) :: ([])
def wsX2_append_r1 : List Cond := [Cond.fieldLink RX2 12 "BlockMover" "disk" "LBlockMover$Disk;", Cond.fieldLink RX2 31 "BlockMover$Disk" "down" "Z", Cond.methodLink RX2 35 yX2_isOfKind, Cond.instanceMethod yX2_isOfKind, Cond.selects RX2 yX2_isOfKind yX2_isOfKind, Cond.initialized RX2, Cond.code yX2_isOfKind cX2_isOfKind 3 (some .boolean), Cond.methodLink RX2 23 yX2_isBelow, Cond.static yX2_isBelow, Cond.code yX2_isBelow cX2_isBelow 2 (some .boolean), Cond.methodLink RX2 92 yX2_kindOf, Cond.instanceMethod yX2_kindOf, Cond.selects RX2 yX2_kindOf yX2_kindOf, Cond.code yX2_kindOf cX2_kindOf 2 (some .int), Cond.methodLink RX2 57 yX2_inodeAt, Cond.static yX2_inodeAt, Cond.code yX2_inodeAt cX2_inodeAt 2 (some .int), Cond.methodLink RX2 137 yX0_word, Cond.instanceMethod yX0_word, Cond.selects RX0 yX0_word yX0_word, Cond.initialized RX0, Cond.code yX0_word cX0_word 2 (some .long), Cond.fieldLink RX0 9 "BlockMover$Disk" "words" "[J", Cond.methodLink RX2 73 yX2_sizeOf]
def wsX2_append_r2 : List Cond := [Cond.instanceMethod yX2_sizeOf, Cond.selects RX2 yX2_sizeOf yX2_sizeOf, Cond.code yX2_sizeOf cX2_sizeOf 2 (some .int), Cond.methodLink RX2 76 yX2_leastFreeBlock, Cond.instanceMethod yX2_leastFreeBlock, Cond.selects RX2 yX2_leastFreeBlock yX2_leastFreeBlock, Cond.code yX2_leastFreeBlock cX2_leastFreeBlock 4 (some .int), Cond.methodLink RX2 148 yX2_usedBlocks, Cond.instanceMethod yX2_usedBlocks, Cond.selects RX2 yX2_usedBlocks yX2_usedBlocks, Cond.code yX2_usedBlocks cX2_usedBlocks 6 (some .long), Cond.methodLink RX2 195 yX2_blocksOf, Cond.instanceMethod yX2_blocksOf, Cond.selects RX2 yX2_blocksOf yX2_blocksOf, Cond.code yX2_blocksOf cX2_blocksOf 2 (some .int), Cond.methodLink RX2 86 yX2_placeOf, Cond.instanceMethod yX2_placeOf, Cond.selects RX2 yX2_placeOf yX2_placeOf, Cond.code yX2_placeOf cX2_placeOf 3 (some .int), Cond.methodLink RX2 64 yX2_placeAt, Cond.static yX2_placeAt, Cond.code yX2_placeAt cX2_placeAt 2 (some .int), Cond.methodLink RX2 54 yX0_begin, Cond.instanceMethod yX0_begin]
def wsX2_append_r3 : List Cond := [Cond.selects RX0 yX0_begin yX0_begin, Cond.code yX0_begin cX0_begin 1 none, Cond.fieldLink RX0 19 "BlockMover$Disk" "failed" "Z", Cond.methodLink RX2 79 yX2_dataAt, Cond.static yX2_dataAt, Cond.code yX2_dataAt cX2_dataAt 2 (some .int), Cond.methodLink RX2 60 yX0_write, Cond.instanceMethod yX0_write, Cond.selects RX0 yX0_write yX0_write, Cond.code yX0_write cX0_write 4 none, Cond.fieldLink RX0 15 "BlockMover$Disk" "left" "I", Cond.fieldLink RX0 23 "BlockMover$Disk" "down" "Z", Cond.fieldLink RX0 26 "BlockMover$Disk" "writes" "I", Cond.methodLink RX2 70 yX2_answerOfAct, Cond.instanceMethod yX2_answerOfAct, Cond.selects RX2 yX2_answerOfAct yX2_answerOfAct, Cond.code yX2_answerOfAct cX2_answerOfAct 2 (some .int), Cond.fieldLink RX2 134 "BlockMover$Disk" "failed" "Z"]
def wsX2_append : List Cond := .code yX2_append cX2_append 10 (some .int) :: ((wsX2_append_r1 ++ (wsX2_append_r2 ++ wsX2_append_r3)) ++ wsX20 ++ wsX00)
def wsX2_isDataOfFile_r1 : List Cond := [Cond.methodLink RX2 35 yX2_isOfKind, Cond.instanceMethod yX2_isOfKind, Cond.selects RX2 yX2_isOfKind yX2_isOfKind, Cond.initialized RX2, Cond.code yX2_isOfKind cX2_isOfKind 3 (some .boolean), Cond.methodLink RX2 23 yX2_isBelow, Cond.static yX2_isBelow, Cond.code yX2_isBelow cX2_isBelow 2 (some .boolean), Cond.methodLink RX2 92 yX2_kindOf, Cond.instanceMethod yX2_kindOf, Cond.selects RX2 yX2_kindOf yX2_kindOf, Cond.code yX2_kindOf cX2_kindOf 2 (some .int), Cond.fieldLink RX2 12 "BlockMover" "disk" "LBlockMover$Disk;", Cond.methodLink RX2 57 yX2_inodeAt, Cond.static yX2_inodeAt, Cond.code yX2_inodeAt cX2_inodeAt 2 (some .int), Cond.methodLink RX2 137 yX0_word, Cond.instanceMethod yX0_word, Cond.selects RX0 yX0_word yX0_word, Cond.initialized RX0, Cond.code yX0_word cX0_word 2 (some .long), Cond.fieldLink RX0 9 "BlockMover$Disk" "words" "[J", Cond.methodLink RX2 73 yX2_sizeOf, Cond.instanceMethod yX2_sizeOf]
def wsX2_isDataOfFile_r2 : List Cond := [Cond.selects RX2 yX2_sizeOf yX2_sizeOf, Cond.code yX2_sizeOf cX2_sizeOf 2 (some .int)]
def wsX2_isDataOfFile : List Cond := .code yX2_isDataOfFile cX2_isDataOfFile 4 (some .boolean) :: ((wsX2_isDataOfFile_r1 ++ wsX2_isDataOfFile_r2) ++ wsX20 ++ wsX00)
def wsX2_put_r1 : List Cond := [Cond.fieldLink RX2 12 "BlockMover" "disk" "LBlockMover$Disk;", Cond.fieldLink RX2 31 "BlockMover$Disk" "down" "Z", Cond.methodLink RX2 82 yX2_isDataOfFile, Cond.instanceMethod yX2_isDataOfFile, Cond.selects RX2 yX2_isDataOfFile yX2_isDataOfFile, Cond.initialized RX2, Cond.code yX2_isDataOfFile cX2_isDataOfFile 4 (some .boolean), Cond.methodLink RX2 35 yX2_isOfKind, Cond.instanceMethod yX2_isOfKind, Cond.selects RX2 yX2_isOfKind yX2_isOfKind, Cond.code yX2_isOfKind cX2_isOfKind 3 (some .boolean), Cond.methodLink RX2 23 yX2_isBelow, Cond.static yX2_isBelow, Cond.code yX2_isBelow cX2_isBelow 2 (some .boolean), Cond.methodLink RX2 92 yX2_kindOf, Cond.instanceMethod yX2_kindOf, Cond.selects RX2 yX2_kindOf yX2_kindOf, Cond.code yX2_kindOf cX2_kindOf 2 (some .int), Cond.methodLink RX2 57 yX2_inodeAt, Cond.static yX2_inodeAt, Cond.code yX2_inodeAt cX2_inodeAt 2 (some .int), Cond.methodLink RX2 137 yX0_word, Cond.instanceMethod yX0_word, Cond.selects RX0 yX0_word yX0_word]
def wsX2_put_r2 : List Cond := [Cond.initialized RX0, Cond.code yX0_word cX0_word 2 (some .long), Cond.fieldLink RX0 9 "BlockMover$Disk" "words" "[J", Cond.methodLink RX2 73 yX2_sizeOf, Cond.instanceMethod yX2_sizeOf, Cond.selects RX2 yX2_sizeOf yX2_sizeOf, Cond.code yX2_sizeOf cX2_sizeOf 2 (some .int), Cond.methodLink RX2 54 yX0_begin, Cond.instanceMethod yX0_begin, Cond.selects RX0 yX0_begin yX0_begin, Cond.code yX0_begin cX0_begin 1 none, Cond.fieldLink RX0 19 "BlockMover$Disk" "failed" "Z", Cond.methodLink RX2 86 yX2_placeOf, Cond.instanceMethod yX2_placeOf, Cond.selects RX2 yX2_placeOf yX2_placeOf, Cond.code yX2_placeOf cX2_placeOf 3 (some .int), Cond.methodLink RX2 64 yX2_placeAt, Cond.static yX2_placeAt, Cond.code yX2_placeAt cX2_placeAt 2 (some .int), Cond.methodLink RX2 79 yX2_dataAt, Cond.static yX2_dataAt, Cond.code yX2_dataAt cX2_dataAt 2 (some .int), Cond.methodLink RX2 60 yX0_write, Cond.instanceMethod yX0_write]
def wsX2_put_r3 : List Cond := [Cond.selects RX0 yX0_write yX0_write, Cond.code yX0_write cX0_write 4 none, Cond.fieldLink RX0 15 "BlockMover$Disk" "left" "I", Cond.fieldLink RX0 23 "BlockMover$Disk" "down" "Z", Cond.fieldLink RX0 26 "BlockMover$Disk" "writes" "I", Cond.methodLink RX2 70 yX2_answerOfAct, Cond.instanceMethod yX2_answerOfAct, Cond.selects RX2 yX2_answerOfAct yX2_answerOfAct, Cond.code yX2_answerOfAct cX2_answerOfAct 2 (some .int), Cond.fieldLink RX2 134 "BlockMover$Disk" "failed" "Z"]
def wsX2_put : List Cond := .code yX2_put cX2_put 6 (some .int) :: ((wsX2_put_r1 ++ (wsX2_put_r2 ++ wsX2_put_r3)) ++ wsX20 ++ wsX00)
def wsX2_inodeOfEntry : List Cond := .code yX2_inodeOfEntry cX2_inodeOfEntry 1 (some .int) :: ([])
def wsX2_entriesOf : List Cond := .code yX2_entriesOf cX2_entriesOf 4 (some .int) :: ([.methodLink RX2 86 yX2_placeOf, .instanceMethod yX2_placeOf, .selects RX2 yX2_placeOf yX2_placeOf, .initialized RX2, .code yX2_placeOf cX2_placeOf 3 (some .int), .fieldLink RX2 12 "BlockMover" "disk" "LBlockMover$Disk;", .methodLink RX2 64 yX2_placeAt, .static yX2_placeAt, .code yX2_placeAt cX2_placeAt 2 (some .int), .methodLink RX2 57 yX2_inodeAt, .static yX2_inodeAt, .code yX2_inodeAt cX2_inodeAt 2 (some .int), .methodLink RX2 137 yX0_word, .instanceMethod yX0_word, .selects RX0 yX0_word yX0_word, .initialized RX0, .code yX0_word cX0_word 2 (some .long), .fieldLink RX0 9 "BlockMover$Disk" "words" "[J"] ++ wsX20 ++ wsX00)
def wsX2_remove_r1 : List Cond := [Cond.fieldLink RX2 12 "BlockMover" "disk" "LBlockMover$Disk;", Cond.fieldLink RX2 31 "BlockMover$Disk" "down" "Z", Cond.methodLink RX2 35 yX2_isOfKind, Cond.instanceMethod yX2_isOfKind, Cond.selects RX2 yX2_isOfKind yX2_isOfKind, Cond.initialized RX2, Cond.code yX2_isOfKind cX2_isOfKind 3 (some .boolean), Cond.methodLink RX2 23 yX2_isBelow, Cond.static yX2_isBelow, Cond.code yX2_isBelow cX2_isBelow 2 (some .boolean), Cond.methodLink RX2 92 yX2_kindOf, Cond.instanceMethod yX2_kindOf, Cond.selects RX2 yX2_kindOf yX2_kindOf, Cond.code yX2_kindOf cX2_kindOf 2 (some .int), Cond.methodLink RX2 57 yX2_inodeAt, Cond.static yX2_inodeAt, Cond.code yX2_inodeAt cX2_inodeAt 2 (some .int), Cond.methodLink RX2 137 yX0_word, Cond.instanceMethod yX0_word, Cond.selects RX0 yX0_word yX0_word, Cond.initialized RX0, Cond.code yX0_word cX0_word 2 (some .long), Cond.fieldLink RX0 9 "BlockMover$Disk" "words" "[J", Cond.methodLink RX2 38 yX2_isName]
def wsX2_remove_r2 : List Cond := [Cond.static yX2_isName, Cond.code yX2_isName cX2_isName 1 (some .boolean), Cond.methodLink RX2 42 yX2_placeOfName, Cond.instanceMethod yX2_placeOfName, Cond.selects RX2 yX2_placeOfName yX2_placeOfName, Cond.code yX2_placeOfName cX2_placeOfName 4 (some .int), Cond.methodLink RX2 86 yX2_placeOf, Cond.instanceMethod yX2_placeOf, Cond.selects RX2 yX2_placeOf yX2_placeOf, Cond.code yX2_placeOf cX2_placeOf 3 (some .int), Cond.methodLink RX2 64 yX2_placeAt, Cond.static yX2_placeAt, Cond.code yX2_placeAt cX2_placeAt 2 (some .int), Cond.methodLink RX2 186 yX2_nameOfEntry, Cond.static yX2_nameOfEntry, Cond.code yX2_nameOfEntry cX2_nameOfEntry 1 (some .int), Cond.methodLink RX2 89 yX2_inodeOfEntry, Cond.static yX2_inodeOfEntry, Cond.code yX2_inodeOfEntry cX2_inodeOfEntry 1 (some .int), Cond.methodLink RX2 95 yX2_entriesOf, Cond.instanceMethod yX2_entriesOf, Cond.selects RX2 yX2_entriesOf yX2_entriesOf, Cond.code yX2_entriesOf cX2_entriesOf 4 (some .int), Cond.methodLink RX2 54 yX0_begin]
def wsX2_remove_r3 : List Cond := [Cond.instanceMethod yX0_begin, Cond.selects RX0 yX0_begin yX0_begin, Cond.code yX0_begin cX0_begin 1 none, Cond.fieldLink RX0 19 "BlockMover$Disk" "failed" "Z", Cond.methodLink RX2 60 yX0_write, Cond.instanceMethod yX0_write, Cond.selects RX0 yX0_write yX0_write, Cond.code yX0_write cX0_write 4 none, Cond.fieldLink RX0 15 "BlockMover$Disk" "left" "I", Cond.fieldLink RX0 23 "BlockMover$Disk" "down" "Z", Cond.fieldLink RX0 26 "BlockMover$Disk" "writes" "I", Cond.methodLink RX2 70 yX2_answerOfAct, Cond.instanceMethod yX2_answerOfAct, Cond.selects RX2 yX2_answerOfAct yX2_answerOfAct, Cond.code yX2_answerOfAct cX2_answerOfAct 2 (some .int), Cond.fieldLink RX2 134 "BlockMover$Disk" "failed" "Z"]
def wsX2_remove : List Cond := .code yX2_remove cX2_remove 5 (some .int) :: ((wsX2_remove_r1 ++ (wsX2_remove_r2 ++ wsX2_remove_r3)) ++ wsX20 ++ wsX00)
def wsX2_hasEntryOf : List Cond := .code yX2_hasEntryOf cX2_hasEntryOf 5 (some .boolean) :: ([.methodLink RX2 86 yX2_placeOf, .instanceMethod yX2_placeOf, .selects RX2 yX2_placeOf yX2_placeOf, .initialized RX2, .code yX2_placeOf cX2_placeOf 3 (some .int), .fieldLink RX2 12 "BlockMover" "disk" "LBlockMover$Disk;", .methodLink RX2 64 yX2_placeAt, .static yX2_placeAt, .code yX2_placeAt cX2_placeAt 2 (some .int), .methodLink RX2 57 yX2_inodeAt, .static yX2_inodeAt, .code yX2_inodeAt cX2_inodeAt 2 (some .int), .methodLink RX2 137 yX0_word, .instanceMethod yX0_word, .selects RX0 yX0_word yX0_word, .initialized RX0, .code yX0_word cX0_word 2 (some .long), .fieldLink RX0 9 "BlockMover$Disk" "words" "[J", .methodLink RX2 89 yX2_inodeOfEntry, .static yX2_inodeOfEntry, .code yX2_inodeOfEntry cX2_inodeOfEntry 1 (some .int)] ++ wsX20 ++ wsX00)
def wsX2_directoryAbove_r1 : List Cond := [Cond.methodLink RX2 92 yX2_kindOf, Cond.instanceMethod yX2_kindOf, Cond.selects RX2 yX2_kindOf yX2_kindOf, Cond.initialized RX2, Cond.code yX2_kindOf cX2_kindOf 2 (some .int), Cond.fieldLink RX2 12 "BlockMover" "disk" "LBlockMover$Disk;", Cond.methodLink RX2 57 yX2_inodeAt, Cond.static yX2_inodeAt, Cond.code yX2_inodeAt cX2_inodeAt 2 (some .int), Cond.methodLink RX2 137 yX0_word, Cond.instanceMethod yX0_word, Cond.selects RX0 yX0_word yX0_word, Cond.initialized RX0, Cond.code yX0_word cX0_word 2 (some .long), Cond.fieldLink RX0 9 "BlockMover$Disk" "words" "[J", Cond.methodLink RX2 189 yX2_hasEntryOf, Cond.instanceMethod yX2_hasEntryOf, Cond.selects RX2 yX2_hasEntryOf yX2_hasEntryOf, Cond.code yX2_hasEntryOf cX2_hasEntryOf 5 (some .boolean), Cond.methodLink RX2 86 yX2_placeOf, Cond.instanceMethod yX2_placeOf, Cond.selects RX2 yX2_placeOf yX2_placeOf, Cond.code yX2_placeOf cX2_placeOf 3 (some .int), Cond.methodLink RX2 64 yX2_placeAt]
def wsX2_directoryAbove_r2 : List Cond := [Cond.static yX2_placeAt, Cond.code yX2_placeAt cX2_placeAt 2 (some .int), Cond.methodLink RX2 89 yX2_inodeOfEntry, Cond.static yX2_inodeOfEntry, Cond.code yX2_inodeOfEntry cX2_inodeOfEntry 1 (some .int)]
def wsX2_directoryAbove : List Cond := .code yX2_directoryAbove cX2_directoryAbove 3 (some .int) :: ((wsX2_directoryAbove_r1 ++ wsX2_directoryAbove_r2) ++ wsX20 ++ wsX00)
def wsX2_isWithin_r1 : List Cond := [Cond.methodLink RX2 192 yX2_directoryAbove, Cond.instanceMethod yX2_directoryAbove, Cond.selects RX2 yX2_directoryAbove yX2_directoryAbove, Cond.initialized RX2, Cond.code yX2_directoryAbove cX2_directoryAbove 3 (some .int), Cond.methodLink RX2 92 yX2_kindOf, Cond.instanceMethod yX2_kindOf, Cond.selects RX2 yX2_kindOf yX2_kindOf, Cond.code yX2_kindOf cX2_kindOf 2 (some .int), Cond.fieldLink RX2 12 "BlockMover" "disk" "LBlockMover$Disk;", Cond.methodLink RX2 57 yX2_inodeAt, Cond.static yX2_inodeAt, Cond.code yX2_inodeAt cX2_inodeAt 2 (some .int), Cond.methodLink RX2 137 yX0_word, Cond.instanceMethod yX0_word, Cond.selects RX0 yX0_word yX0_word, Cond.initialized RX0, Cond.code yX0_word cX0_word 2 (some .long), Cond.fieldLink RX0 9 "BlockMover$Disk" "words" "[J", Cond.methodLink RX2 189 yX2_hasEntryOf, Cond.instanceMethod yX2_hasEntryOf, Cond.selects RX2 yX2_hasEntryOf yX2_hasEntryOf, Cond.code yX2_hasEntryOf cX2_hasEntryOf 5 (some .boolean), Cond.methodLink RX2 86 yX2_placeOf]
def wsX2_isWithin_r2 : List Cond := [Cond.instanceMethod yX2_placeOf, Cond.selects RX2 yX2_placeOf yX2_placeOf, Cond.code yX2_placeOf cX2_placeOf 3 (some .int), Cond.methodLink RX2 64 yX2_placeAt, Cond.static yX2_placeAt, Cond.code yX2_placeAt cX2_placeAt 2 (some .int), Cond.methodLink RX2 89 yX2_inodeOfEntry, Cond.static yX2_inodeOfEntry, Cond.code yX2_inodeOfEntry cX2_inodeOfEntry 1 (some .int)]
def wsX2_isWithin : List Cond := .code yX2_isWithin cX2_isWithin 5 (some .boolean) :: ((wsX2_isWithin_r1 ++ wsX2_isWithin_r2) ++ wsX20 ++ wsX00)
def wsX2_rename_r1 : List Cond := [Cond.fieldLink RX2 12 "BlockMover" "disk" "LBlockMover$Disk;", Cond.fieldLink RX2 31 "BlockMover$Disk" "down" "Z", Cond.methodLink RX2 35 yX2_isOfKind, Cond.instanceMethod yX2_isOfKind, Cond.selects RX2 yX2_isOfKind yX2_isOfKind, Cond.initialized RX2, Cond.code yX2_isOfKind cX2_isOfKind 3 (some .boolean), Cond.methodLink RX2 23 yX2_isBelow, Cond.static yX2_isBelow, Cond.code yX2_isBelow cX2_isBelow 2 (some .boolean), Cond.methodLink RX2 92 yX2_kindOf, Cond.instanceMethod yX2_kindOf, Cond.selects RX2 yX2_kindOf yX2_kindOf, Cond.code yX2_kindOf cX2_kindOf 2 (some .int), Cond.methodLink RX2 57 yX2_inodeAt, Cond.static yX2_inodeAt, Cond.code yX2_inodeAt cX2_inodeAt 2 (some .int), Cond.methodLink RX2 137 yX0_word, Cond.instanceMethod yX0_word, Cond.selects RX0 yX0_word yX0_word, Cond.initialized RX0, Cond.code yX0_word cX0_word 2 (some .long), Cond.fieldLink RX0 9 "BlockMover$Disk" "words" "[J", Cond.methodLink RX2 38 yX2_isName]
def wsX2_rename_r2 : List Cond := [Cond.static yX2_isName, Cond.code yX2_isName cX2_isName 1 (some .boolean), Cond.methodLink RX2 42 yX2_placeOfName, Cond.instanceMethod yX2_placeOfName, Cond.selects RX2 yX2_placeOfName yX2_placeOfName, Cond.code yX2_placeOfName cX2_placeOfName 4 (some .int), Cond.methodLink RX2 86 yX2_placeOf, Cond.instanceMethod yX2_placeOf, Cond.selects RX2 yX2_placeOf yX2_placeOf, Cond.code yX2_placeOf cX2_placeOf 3 (some .int), Cond.methodLink RX2 64 yX2_placeAt, Cond.static yX2_placeAt, Cond.code yX2_placeAt cX2_placeAt 2 (some .int), Cond.methodLink RX2 186 yX2_nameOfEntry, Cond.static yX2_nameOfEntry, Cond.code yX2_nameOfEntry cX2_nameOfEntry 1 (some .int), Cond.methodLink RX2 50 yX2_leastPlaceWithoutEntry, Cond.instanceMethod yX2_leastPlaceWithoutEntry, Cond.selects RX2 yX2_leastPlaceWithoutEntry yX2_leastPlaceWithoutEntry, Cond.code yX2_leastPlaceWithoutEntry cX2_leastPlaceWithoutEntry 3 (some .int), Cond.methodLink RX2 89 yX2_inodeOfEntry, Cond.static yX2_inodeOfEntry, Cond.code yX2_inodeOfEntry cX2_inodeOfEntry 1 (some .int), Cond.methodLink RX2 98 yX2_isWithin]
def wsX2_rename_r3 : List Cond := [Cond.instanceMethod yX2_isWithin, Cond.selects RX2 yX2_isWithin yX2_isWithin, Cond.code yX2_isWithin cX2_isWithin 5 (some .boolean), Cond.methodLink RX2 192 yX2_directoryAbove, Cond.instanceMethod yX2_directoryAbove, Cond.selects RX2 yX2_directoryAbove yX2_directoryAbove, Cond.code yX2_directoryAbove cX2_directoryAbove 3 (some .int), Cond.methodLink RX2 189 yX2_hasEntryOf, Cond.instanceMethod yX2_hasEntryOf, Cond.selects RX2 yX2_hasEntryOf yX2_hasEntryOf, Cond.code yX2_hasEntryOf cX2_hasEntryOf 5 (some .boolean), Cond.methodLink RX2 54 yX0_begin, Cond.instanceMethod yX0_begin, Cond.selects RX0 yX0_begin yX0_begin, Cond.code yX0_begin cX0_begin 1 none, Cond.fieldLink RX0 19 "BlockMover$Disk" "failed" "Z", Cond.methodLink RX2 67 yX2_entryOf, Cond.static yX2_entryOf, Cond.code yX2_entryOf cX2_entryOf 2 (some .int), Cond.methodLink RX2 60 yX0_write, Cond.instanceMethod yX0_write, Cond.selects RX0 yX0_write yX0_write, Cond.code yX0_write cX0_write 4 none, Cond.fieldLink RX0 15 "BlockMover$Disk" "left" "I"]
def wsX2_rename_r4 : List Cond := [Cond.fieldLink RX0 23 "BlockMover$Disk" "down" "Z", Cond.fieldLink RX0 26 "BlockMover$Disk" "writes" "I", Cond.methodLink RX2 70 yX2_answerOfAct, Cond.instanceMethod yX2_answerOfAct, Cond.selects RX2 yX2_answerOfAct yX2_answerOfAct, Cond.code yX2_answerOfAct cX2_answerOfAct 2 (some .int), Cond.fieldLink RX2 134 "BlockMover$Disk" "failed" "Z"]
def wsX2_rename : List Cond := .code yX2_rename cX2_rename 8 (some .int) :: ((wsX2_rename_r1 ++ (wsX2_rename_r2 ++ (wsX2_rename_r3 ++ wsX2_rename_r4))) ++ wsX20 ++ wsX00)
def wsX2_greatestFreeBlock_r1 : List Cond := [Cond.methodLink RX2 148 yX2_usedBlocks, Cond.instanceMethod yX2_usedBlocks, Cond.selects RX2 yX2_usedBlocks yX2_usedBlocks, Cond.initialized RX2, Cond.code yX2_usedBlocks cX2_usedBlocks 6 (some .long), Cond.methodLink RX2 195 yX2_blocksOf, Cond.instanceMethod yX2_blocksOf, Cond.selects RX2 yX2_blocksOf yX2_blocksOf, Cond.code yX2_blocksOf cX2_blocksOf 2 (some .int), Cond.methodLink RX2 92 yX2_kindOf, Cond.instanceMethod yX2_kindOf, Cond.selects RX2 yX2_kindOf yX2_kindOf, Cond.code yX2_kindOf cX2_kindOf 2 (some .int), Cond.fieldLink RX2 12 "BlockMover" "disk" "LBlockMover$Disk;", Cond.methodLink RX2 57 yX2_inodeAt, Cond.static yX2_inodeAt, Cond.code yX2_inodeAt cX2_inodeAt 2 (some .int), Cond.methodLink RX2 137 yX0_word, Cond.instanceMethod yX0_word, Cond.selects RX0 yX0_word yX0_word, Cond.initialized RX0, Cond.code yX0_word cX0_word 2 (some .long), Cond.fieldLink RX0 9 "BlockMover$Disk" "words" "[J", Cond.methodLink RX2 73 yX2_sizeOf]
def wsX2_greatestFreeBlock_r2 : List Cond := [Cond.instanceMethod yX2_sizeOf, Cond.selects RX2 yX2_sizeOf yX2_sizeOf, Cond.code yX2_sizeOf cX2_sizeOf 2 (some .int), Cond.methodLink RX2 86 yX2_placeOf, Cond.instanceMethod yX2_placeOf, Cond.selects RX2 yX2_placeOf yX2_placeOf, Cond.code yX2_placeOf cX2_placeOf 3 (some .int), Cond.methodLink RX2 64 yX2_placeAt, Cond.static yX2_placeAt, Cond.code yX2_placeAt cX2_placeAt 2 (some .int)]
def wsX2_greatestFreeBlock : List Cond := .code yX2_greatestFreeBlock cX2_greatestFreeBlock 4 (some .int) :: ((wsX2_greatestFreeBlock_r1 ++ wsX2_greatestFreeBlock_r2) ++ wsX20 ++ wsX00)
def wsX2_chooseMoveAway_r1 : List Cond := [Cond.fieldLink RX2 19 "BlockMover" "next" "LBlockMover$Plan;", Cond.methodLink RX2 195 yX2_blocksOf, Cond.instanceMethod yX2_blocksOf, Cond.selects RX2 yX2_blocksOf yX2_blocksOf, Cond.initialized RX2, Cond.code yX2_blocksOf cX2_blocksOf 2 (some .int), Cond.methodLink RX2 92 yX2_kindOf, Cond.instanceMethod yX2_kindOf, Cond.selects RX2 yX2_kindOf yX2_kindOf, Cond.code yX2_kindOf cX2_kindOf 2 (some .int), Cond.fieldLink RX2 12 "BlockMover" "disk" "LBlockMover$Disk;", Cond.methodLink RX2 57 yX2_inodeAt, Cond.static yX2_inodeAt, Cond.code yX2_inodeAt cX2_inodeAt 2 (some .int), Cond.methodLink RX2 137 yX0_word, Cond.instanceMethod yX0_word, Cond.selects RX0 yX0_word yX0_word, Cond.initialized RX0, Cond.code yX0_word cX0_word 2 (some .long), Cond.fieldLink RX0 9 "BlockMover$Disk" "words" "[J", Cond.methodLink RX2 73 yX2_sizeOf, Cond.instanceMethod yX2_sizeOf, Cond.selects RX2 yX2_sizeOf yX2_sizeOf, Cond.code yX2_sizeOf cX2_sizeOf 2 (some .int)]
def wsX2_chooseMoveAway_r2 : List Cond := [Cond.methodLink RX2 86 yX2_placeOf, Cond.instanceMethod yX2_placeOf, Cond.selects RX2 yX2_placeOf yX2_placeOf, Cond.code yX2_placeOf cX2_placeOf 3 (some .int), Cond.methodLink RX2 64 yX2_placeAt, Cond.static yX2_placeAt, Cond.code yX2_placeAt cX2_placeAt 2 (some .int), Cond.methodLink RX2 202 yX1_set, Cond.instanceMethod yX1_set, Cond.selects RX1 yX1_set yX1_set, Cond.initialized RX1, Cond.code yX1_set cX1_set 4 none, Cond.fieldLink RX1 7 "BlockMover$Plan" "inode" "I", Cond.fieldLink RX1 13 "BlockMover$Plan" "place" "I", Cond.fieldLink RX1 16 "BlockMover$Plan" "to" "I"]
def wsX2_chooseMoveAway : List Cond := .code yX2_chooseMoveAway cX2_chooseMoveAway 6 (some .int) :: ((wsX2_chooseMoveAway_r1 ++ wsX2_chooseMoveAway_r2) ++ wsX20 ++ wsX00 ++ wsX10)
def wsX2_chooseMove_r1 : List Cond := [Cond.fieldLink RX2 19 "BlockMover" "next" "LBlockMover$Plan;", Cond.methodLink RX2 148 yX2_usedBlocks, Cond.instanceMethod yX2_usedBlocks, Cond.selects RX2 yX2_usedBlocks yX2_usedBlocks, Cond.initialized RX2, Cond.code yX2_usedBlocks cX2_usedBlocks 6 (some .long), Cond.methodLink RX2 195 yX2_blocksOf, Cond.instanceMethod yX2_blocksOf, Cond.selects RX2 yX2_blocksOf yX2_blocksOf, Cond.code yX2_blocksOf cX2_blocksOf 2 (some .int), Cond.methodLink RX2 92 yX2_kindOf, Cond.instanceMethod yX2_kindOf, Cond.selects RX2 yX2_kindOf yX2_kindOf, Cond.code yX2_kindOf cX2_kindOf 2 (some .int), Cond.fieldLink RX2 12 "BlockMover" "disk" "LBlockMover$Disk;", Cond.methodLink RX2 57 yX2_inodeAt, Cond.static yX2_inodeAt, Cond.code yX2_inodeAt cX2_inodeAt 2 (some .int), Cond.methodLink RX2 137 yX0_word, Cond.instanceMethod yX0_word, Cond.selects RX0 yX0_word yX0_word, Cond.initialized RX0, Cond.code yX0_word cX0_word 2 (some .long), Cond.fieldLink RX0 9 "BlockMover$Disk" "words" "[J"]
def wsX2_chooseMove_r2 : List Cond := [Cond.methodLink RX2 73 yX2_sizeOf, Cond.instanceMethod yX2_sizeOf, Cond.selects RX2 yX2_sizeOf yX2_sizeOf, Cond.code yX2_sizeOf cX2_sizeOf 2 (some .int), Cond.methodLink RX2 86 yX2_placeOf, Cond.instanceMethod yX2_placeOf, Cond.selects RX2 yX2_placeOf yX2_placeOf, Cond.code yX2_placeOf cX2_placeOf 3 (some .int), Cond.methodLink RX2 64 yX2_placeAt, Cond.static yX2_placeAt, Cond.code yX2_placeAt cX2_placeAt 2 (some .int), Cond.methodLink RX2 202 yX1_set, Cond.instanceMethod yX1_set, Cond.selects RX1 yX1_set yX1_set, Cond.initialized RX1, Cond.code yX1_set cX1_set 4 none, Cond.fieldLink RX1 7 "BlockMover$Plan" "inode" "I", Cond.fieldLink RX1 13 "BlockMover$Plan" "place" "I", Cond.fieldLink RX1 16 "BlockMover$Plan" "to" "I", Cond.methodLink RX2 206 yX2_greatestFreeBlock, Cond.instanceMethod yX2_greatestFreeBlock, Cond.selects RX2 yX2_greatestFreeBlock yX2_greatestFreeBlock, Cond.code yX2_greatestFreeBlock cX2_greatestFreeBlock 4 (some .int), Cond.methodLink RX2 209 yX2_chooseMoveAway]
def wsX2_chooseMove_r3 : List Cond := [Cond.instanceMethod yX2_chooseMoveAway, Cond.selects RX2 yX2_chooseMoveAway yX2_chooseMoveAway, Cond.code yX2_chooseMoveAway cX2_chooseMoveAway 6 (some .int)]
def wsX2_chooseMove : List Cond := .code yX2_chooseMove cX2_chooseMove 5 (some .int) :: ((wsX2_chooseMove_r1 ++ (wsX2_chooseMove_r2 ++ wsX2_chooseMove_r3)) ++ wsX20 ++ wsX00 ++ wsX10)
def wsX2_findNextMove_r1 : List Cond := [Cond.methodLink RX2 195 yX2_blocksOf, Cond.instanceMethod yX2_blocksOf, Cond.selects RX2 yX2_blocksOf yX2_blocksOf, Cond.initialized RX2, Cond.code yX2_blocksOf cX2_blocksOf 2 (some .int), Cond.methodLink RX2 92 yX2_kindOf, Cond.instanceMethod yX2_kindOf, Cond.selects RX2 yX2_kindOf yX2_kindOf, Cond.code yX2_kindOf cX2_kindOf 2 (some .int), Cond.fieldLink RX2 12 "BlockMover" "disk" "LBlockMover$Disk;", Cond.methodLink RX2 57 yX2_inodeAt, Cond.static yX2_inodeAt, Cond.code yX2_inodeAt cX2_inodeAt 2 (some .int), Cond.methodLink RX2 137 yX0_word, Cond.instanceMethod yX0_word, Cond.selects RX0 yX0_word yX0_word, Cond.initialized RX0, Cond.code yX0_word cX0_word 2 (some .long), Cond.fieldLink RX0 9 "BlockMover$Disk" "words" "[J", Cond.methodLink RX2 73 yX2_sizeOf, Cond.instanceMethod yX2_sizeOf, Cond.selects RX2 yX2_sizeOf yX2_sizeOf, Cond.code yX2_sizeOf cX2_sizeOf 2 (some .int), Cond.methodLink RX2 86 yX2_placeOf]
def wsX2_findNextMove_r2 : List Cond := [Cond.instanceMethod yX2_placeOf, Cond.selects RX2 yX2_placeOf yX2_placeOf, Cond.code yX2_placeOf cX2_placeOf 3 (some .int), Cond.methodLink RX2 64 yX2_placeAt, Cond.static yX2_placeAt, Cond.code yX2_placeAt cX2_placeAt 2 (some .int), Cond.methodLink RX2 198 yX2_chooseMove, Cond.instanceMethod yX2_chooseMove, Cond.selects RX2 yX2_chooseMove yX2_chooseMove, Cond.code yX2_chooseMove cX2_chooseMove 5 (some .int), Cond.fieldLink RX2 19 "BlockMover" "next" "LBlockMover$Plan;", Cond.methodLink RX2 148 yX2_usedBlocks, Cond.instanceMethod yX2_usedBlocks, Cond.selects RX2 yX2_usedBlocks yX2_usedBlocks, Cond.code yX2_usedBlocks cX2_usedBlocks 6 (some .long), Cond.methodLink RX2 202 yX1_set, Cond.instanceMethod yX1_set, Cond.selects RX1 yX1_set yX1_set, Cond.initialized RX1, Cond.code yX1_set cX1_set 4 none, Cond.fieldLink RX1 7 "BlockMover$Plan" "inode" "I", Cond.fieldLink RX1 13 "BlockMover$Plan" "place" "I", Cond.fieldLink RX1 16 "BlockMover$Plan" "to" "I", Cond.methodLink RX2 206 yX2_greatestFreeBlock]
def wsX2_findNextMove_r3 : List Cond := [Cond.instanceMethod yX2_greatestFreeBlock, Cond.selects RX2 yX2_greatestFreeBlock yX2_greatestFreeBlock, Cond.code yX2_greatestFreeBlock cX2_greatestFreeBlock 4 (some .int), Cond.methodLink RX2 209 yX2_chooseMoveAway, Cond.instanceMethod yX2_chooseMoveAway, Cond.selects RX2 yX2_chooseMoveAway yX2_chooseMoveAway, Cond.code yX2_chooseMoveAway cX2_chooseMoveAway 6 (some .int)]
def wsX2_findNextMove : List Cond := .code yX2_findNextMove cX2_findNextMove 5 (some .int) :: ((wsX2_findNextMove_r1 ++ (wsX2_findNextMove_r2 ++ wsX2_findNextMove_r3)) ++ wsX20 ++ wsX00 ++ wsX10)
def wsX2_recordAt : List Cond := .code yX2_recordAt cX2_recordAt 1 (some .int) :: ([])
def wsX2_recorded : List Cond := .code yX2_recorded cX2_recorded 2 (some .int) :: ([.fieldLink RX2 12 "BlockMover" "disk" "LBlockMover$Disk;", .methodLink RX2 104 yX2_recordAt, .static yX2_recordAt, .initialized RX2, .code yX2_recordAt cX2_recordAt 1 (some .int), .methodLink RX2 137 yX0_word, .instanceMethod yX0_word, .selects RX0 yX0_word yX0_word, .initialized RX0, .code yX0_word cX0_word 2 (some .long), .fieldLink RX0 9 "BlockMover$Disk" "words" "[J"] ++ wsX20 ++ wsX00)
def wsX2_copyMovedBlock_r1 : List Cond := [Cond.fieldLink RX2 12 "BlockMover" "disk" "LBlockMover$Disk;", Cond.constantLong RX2 212 (2), Cond.methodLink RX2 145 yX2_recorded, Cond.instanceMethod yX2_recorded, Cond.selects RX2 yX2_recorded yX2_recorded, Cond.initialized RX2, Cond.code yX2_recorded cX2_recorded 2 (some .int), Cond.methodLink RX2 104 yX2_recordAt, Cond.static yX2_recordAt, Cond.code yX2_recordAt cX2_recordAt 1 (some .int), Cond.methodLink RX2 137 yX0_word, Cond.instanceMethod yX0_word, Cond.selects RX0 yX0_word yX0_word, Cond.initialized RX0, Cond.code yX0_word cX0_word 2 (some .long), Cond.fieldLink RX0 9 "BlockMover$Disk" "words" "[J", Cond.methodLink RX2 86 yX2_placeOf, Cond.instanceMethod yX2_placeOf, Cond.selects RX2 yX2_placeOf yX2_placeOf, Cond.code yX2_placeOf cX2_placeOf 3 (some .int), Cond.methodLink RX2 64 yX2_placeAt, Cond.static yX2_placeAt, Cond.code yX2_placeAt cX2_placeAt 2 (some .int), Cond.methodLink RX2 57 yX2_inodeAt]
def wsX2_copyMovedBlock_r2 : List Cond := [Cond.static yX2_inodeAt, Cond.code yX2_inodeAt cX2_inodeAt 2 (some .int), Cond.methodLink RX2 79 yX2_dataAt, Cond.static yX2_dataAt, Cond.code yX2_dataAt cX2_dataAt 2 (some .int), Cond.methodLink RX2 60 yX0_write, Cond.instanceMethod yX0_write, Cond.selects RX0 yX0_write yX0_write, Cond.code yX0_write cX0_write 4 none, Cond.fieldLink RX0 19 "BlockMover$Disk" "failed" "Z", Cond.fieldLink RX0 15 "BlockMover$Disk" "left" "I", Cond.fieldLink RX0 23 "BlockMover$Disk" "down" "Z", Cond.fieldLink RX0 26 "BlockMover$Disk" "writes" "I"]
def wsX2_copyMovedBlock : List Cond := .code yX2_copyMovedBlock cX2_copyMovedBlock 4 none :: ((wsX2_copyMovedBlock_r1 ++ wsX2_copyMovedBlock_r2) ++ wsX20 ++ wsX00)
def wsX2_linkMovedBlock_r1 : List Cond := [Cond.fieldLink RX2 12 "BlockMover" "disk" "LBlockMover$Disk;", Cond.fieldLink RX2 134 "BlockMover$Disk" "failed" "Z", Cond.fieldLink RX2 161 "BlockMover" "movesDone" "I", Cond.methodLink RX2 145 yX2_recorded, Cond.instanceMethod yX2_recorded, Cond.selects RX2 yX2_recorded yX2_recorded, Cond.initialized RX2, Cond.code yX2_recorded cX2_recorded 2 (some .int), Cond.methodLink RX2 104 yX2_recordAt, Cond.static yX2_recordAt, Cond.code yX2_recordAt cX2_recordAt 1 (some .int), Cond.methodLink RX2 137 yX0_word, Cond.instanceMethod yX0_word, Cond.selects RX0 yX0_word yX0_word, Cond.initialized RX0, Cond.code yX0_word cX0_word 2 (some .long), Cond.fieldLink RX0 9 "BlockMover$Disk" "words" "[J", Cond.methodLink RX2 64 yX2_placeAt, Cond.static yX2_placeAt, Cond.code yX2_placeAt cX2_placeAt 2 (some .int), Cond.methodLink RX2 57 yX2_inodeAt, Cond.static yX2_inodeAt, Cond.code yX2_inodeAt cX2_inodeAt 2 (some .int), Cond.methodLink RX2 60 yX0_write]
def wsX2_linkMovedBlock_r2 : List Cond := [Cond.instanceMethod yX0_write, Cond.selects RX0 yX0_write yX0_write, Cond.code yX0_write cX0_write 4 none, Cond.fieldLink RX0 19 "BlockMover$Disk" "failed" "Z", Cond.fieldLink RX0 15 "BlockMover$Disk" "left" "I", Cond.fieldLink RX0 23 "BlockMover$Disk" "down" "Z", Cond.fieldLink RX0 26 "BlockMover$Disk" "writes" "I"]
def wsX2_linkMovedBlock : List Cond := .code yX2_linkMovedBlock cX2_linkMovedBlock 1 none :: ((wsX2_linkMovedBlock_r1 ++ wsX2_linkMovedBlock_r2) ++ wsX20 ++ wsX00)
def wsX2_step_r1 : List Cond := [Cond.fieldLink RX2 12 "BlockMover" "disk" "LBlockMover$Disk;", Cond.fieldLink RX2 31 "BlockMover$Disk" "down" "Z", Cond.fieldLink RX2 19 "BlockMover" "next" "LBlockMover$Plan;", Cond.fieldLink RX2 107 "BlockMover$Plan" "inode" "I", Cond.fieldLink RX2 110 "BlockMover$Plan" "place" "I", Cond.fieldLink RX2 113 "BlockMover$Plan" "to" "I", Cond.methodLink RX2 101 yX2_findNextMove, Cond.instanceMethod yX2_findNextMove, Cond.selects RX2 yX2_findNextMove yX2_findNextMove, Cond.initialized RX2, Cond.code yX2_findNextMove cX2_findNextMove 5 (some .int), Cond.methodLink RX2 195 yX2_blocksOf, Cond.instanceMethod yX2_blocksOf, Cond.selects RX2 yX2_blocksOf yX2_blocksOf, Cond.code yX2_blocksOf cX2_blocksOf 2 (some .int), Cond.methodLink RX2 92 yX2_kindOf, Cond.instanceMethod yX2_kindOf, Cond.selects RX2 yX2_kindOf yX2_kindOf, Cond.code yX2_kindOf cX2_kindOf 2 (some .int), Cond.methodLink RX2 57 yX2_inodeAt, Cond.static yX2_inodeAt, Cond.code yX2_inodeAt cX2_inodeAt 2 (some .int), Cond.methodLink RX2 137 yX0_word, Cond.instanceMethod yX0_word]
def wsX2_step_r2 : List Cond := [Cond.selects RX0 yX0_word yX0_word, Cond.initialized RX0, Cond.code yX0_word cX0_word 2 (some .long), Cond.fieldLink RX0 9 "BlockMover$Disk" "words" "[J", Cond.methodLink RX2 73 yX2_sizeOf, Cond.instanceMethod yX2_sizeOf, Cond.selects RX2 yX2_sizeOf yX2_sizeOf, Cond.code yX2_sizeOf cX2_sizeOf 2 (some .int), Cond.methodLink RX2 86 yX2_placeOf, Cond.instanceMethod yX2_placeOf, Cond.selects RX2 yX2_placeOf yX2_placeOf, Cond.code yX2_placeOf cX2_placeOf 3 (some .int), Cond.methodLink RX2 64 yX2_placeAt, Cond.static yX2_placeAt, Cond.code yX2_placeAt cX2_placeAt 2 (some .int), Cond.methodLink RX2 198 yX2_chooseMove, Cond.instanceMethod yX2_chooseMove, Cond.selects RX2 yX2_chooseMove yX2_chooseMove, Cond.code yX2_chooseMove cX2_chooseMove 5 (some .int), Cond.methodLink RX2 148 yX2_usedBlocks, Cond.instanceMethod yX2_usedBlocks, Cond.selects RX2 yX2_usedBlocks yX2_usedBlocks, Cond.code yX2_usedBlocks cX2_usedBlocks 6 (some .long), Cond.methodLink RX2 202 yX1_set]
def wsX2_step_r3 : List Cond := [Cond.instanceMethod yX1_set, Cond.selects RX1 yX1_set yX1_set, Cond.initialized RX1, Cond.code yX1_set cX1_set 4 none, Cond.fieldLink RX1 7 "BlockMover$Plan" "inode" "I", Cond.fieldLink RX1 13 "BlockMover$Plan" "place" "I", Cond.fieldLink RX1 16 "BlockMover$Plan" "to" "I", Cond.methodLink RX2 206 yX2_greatestFreeBlock, Cond.instanceMethod yX2_greatestFreeBlock, Cond.selects RX2 yX2_greatestFreeBlock yX2_greatestFreeBlock, Cond.code yX2_greatestFreeBlock cX2_greatestFreeBlock 4 (some .int), Cond.methodLink RX2 209 yX2_chooseMoveAway, Cond.instanceMethod yX2_chooseMoveAway, Cond.selects RX2 yX2_chooseMoveAway yX2_chooseMoveAway, Cond.code yX2_chooseMoveAway cX2_chooseMoveAway 6 (some .int), Cond.methodLink RX2 54 yX0_begin, Cond.instanceMethod yX0_begin, Cond.selects RX0 yX0_begin yX0_begin, Cond.code yX0_begin cX0_begin 1 none, Cond.fieldLink RX0 19 "BlockMover$Disk" "failed" "Z", Cond.methodLink RX2 104 yX2_recordAt, Cond.static yX2_recordAt, Cond.code yX2_recordAt cX2_recordAt 1 (some .int), Cond.methodLink RX2 60 yX0_write]
def wsX2_step_r4 : List Cond := [Cond.instanceMethod yX0_write, Cond.selects RX0 yX0_write yX0_write, Cond.code yX0_write cX0_write 4 none, Cond.fieldLink RX0 15 "BlockMover$Disk" "left" "I", Cond.fieldLink RX0 23 "BlockMover$Disk" "down" "Z", Cond.fieldLink RX0 26 "BlockMover$Disk" "writes" "I", Cond.methodLink RX2 116 yX2_copyMovedBlock, Cond.instanceMethod yX2_copyMovedBlock, Cond.selects RX2 yX2_copyMovedBlock yX2_copyMovedBlock, Cond.code yX2_copyMovedBlock cX2_copyMovedBlock 4 none, Cond.constantLong RX2 212 (2), Cond.methodLink RX2 145 yX2_recorded, Cond.instanceMethod yX2_recorded, Cond.selects RX2 yX2_recorded yX2_recorded, Cond.code yX2_recorded cX2_recorded 2 (some .int), Cond.methodLink RX2 79 yX2_dataAt, Cond.static yX2_dataAt, Cond.code yX2_dataAt cX2_dataAt 2 (some .int), Cond.methodLink RX2 119 yX2_linkMovedBlock, Cond.instanceMethod yX2_linkMovedBlock, Cond.selects RX2 yX2_linkMovedBlock yX2_linkMovedBlock, Cond.code yX2_linkMovedBlock cX2_linkMovedBlock 1 none, Cond.fieldLink RX2 134 "BlockMover$Disk" "failed" "Z", Cond.fieldLink RX2 161 "BlockMover" "movesDone" "I"]
def wsX2_step_r5 : List Cond := [Cond.methodLink RX2 70 yX2_answerOfAct, Cond.instanceMethod yX2_answerOfAct, Cond.selects RX2 yX2_answerOfAct yX2_answerOfAct, Cond.code yX2_answerOfAct cX2_answerOfAct 2 (some .int)]
def wsX2_step : List Cond := .code yX2_step cX2_step 2 (some .int) :: ((wsX2_step_r1 ++ (wsX2_step_r2 ++ (wsX2_step_r3 ++ (wsX2_step_r4 ++ wsX2_step_r5)))) ++ wsX20 ++ wsX00 ++ wsX10)
def wsX2_finishRecordedMove_r1 : List Cond := [Cond.methodLink RX2 145 yX2_recorded, Cond.instanceMethod yX2_recorded, Cond.selects RX2 yX2_recorded yX2_recorded, Cond.initialized RX2, Cond.code yX2_recorded cX2_recorded 2 (some .int), Cond.fieldLink RX2 12 "BlockMover" "disk" "LBlockMover$Disk;", Cond.methodLink RX2 104 yX2_recordAt, Cond.static yX2_recordAt, Cond.code yX2_recordAt cX2_recordAt 1 (some .int), Cond.methodLink RX2 137 yX0_word, Cond.instanceMethod yX0_word, Cond.selects RX0 yX0_word yX0_word, Cond.initialized RX0, Cond.code yX0_word cX0_word 2 (some .long), Cond.fieldLink RX0 9 "BlockMover$Disk" "words" "[J", Cond.methodLink RX2 116 yX2_copyMovedBlock, Cond.instanceMethod yX2_copyMovedBlock, Cond.selects RX2 yX2_copyMovedBlock yX2_copyMovedBlock, Cond.code yX2_copyMovedBlock cX2_copyMovedBlock 4 none, Cond.constantLong RX2 212 (2), Cond.methodLink RX2 86 yX2_placeOf, Cond.instanceMethod yX2_placeOf, Cond.selects RX2 yX2_placeOf yX2_placeOf, Cond.code yX2_placeOf cX2_placeOf 3 (some .int)]
def wsX2_finishRecordedMove_r2 : List Cond := [Cond.methodLink RX2 64 yX2_placeAt, Cond.static yX2_placeAt, Cond.code yX2_placeAt cX2_placeAt 2 (some .int), Cond.methodLink RX2 57 yX2_inodeAt, Cond.static yX2_inodeAt, Cond.code yX2_inodeAt cX2_inodeAt 2 (some .int), Cond.methodLink RX2 79 yX2_dataAt, Cond.static yX2_dataAt, Cond.code yX2_dataAt cX2_dataAt 2 (some .int), Cond.methodLink RX2 60 yX0_write, Cond.instanceMethod yX0_write, Cond.selects RX0 yX0_write yX0_write, Cond.code yX0_write cX0_write 4 none, Cond.fieldLink RX0 19 "BlockMover$Disk" "failed" "Z", Cond.fieldLink RX0 15 "BlockMover$Disk" "left" "I", Cond.fieldLink RX0 23 "BlockMover$Disk" "down" "Z", Cond.fieldLink RX0 26 "BlockMover$Disk" "writes" "I", Cond.methodLink RX2 119 yX2_linkMovedBlock, Cond.instanceMethod yX2_linkMovedBlock, Cond.selects RX2 yX2_linkMovedBlock yX2_linkMovedBlock, Cond.code yX2_linkMovedBlock cX2_linkMovedBlock 1 none, Cond.fieldLink RX2 134 "BlockMover$Disk" "failed" "Z", Cond.fieldLink RX2 161 "BlockMover" "movesDone" "I"]
def wsX2_finishRecordedMove : List Cond := .code yX2_finishRecordedMove cX2_finishRecordedMove 2 none :: ((wsX2_finishRecordedMove_r1 ++ wsX2_finishRecordedMove_r2) ++ wsX20 ++ wsX00)
def wsX2_meet : List Cond := .code yX2_meet cX2_meet 2 (some .boolean) :: ([.fieldLink RX2 170 "BlockMover" "inodesMet" "I", .methodLink RX2 92 yX2_kindOf, .instanceMethod yX2_kindOf, .selects RX2 yX2_kindOf yX2_kindOf, .initialized RX2, .code yX2_kindOf cX2_kindOf 2 (some .int), .fieldLink RX2 12 "BlockMover" "disk" "LBlockMover$Disk;", .methodLink RX2 57 yX2_inodeAt, .static yX2_inodeAt, .code yX2_inodeAt cX2_inodeAt 2 (some .int), .methodLink RX2 137 yX0_word, .instanceMethod yX0_word, .selects RX0 yX0_word yX0_word, .initialized RX0, .code yX0_word cX0_word 2 (some .long), .fieldLink RX0 9 "BlockMover$Disk" "words" "[J"] ++ wsX20 ++ wsX00)
def wsX2_clearWrongEntriesOf_r1 : List Cond := [Cond.fieldLink RX2 12 "BlockMover" "disk" "LBlockMover$Disk;", Cond.methodLink RX2 86 yX2_placeOf, Cond.instanceMethod yX2_placeOf, Cond.selects RX2 yX2_placeOf yX2_placeOf, Cond.initialized RX2, Cond.code yX2_placeOf cX2_placeOf 3 (some .int), Cond.methodLink RX2 64 yX2_placeAt, Cond.static yX2_placeAt, Cond.code yX2_placeAt cX2_placeAt 2 (some .int), Cond.methodLink RX2 57 yX2_inodeAt, Cond.static yX2_inodeAt, Cond.code yX2_inodeAt cX2_inodeAt 2 (some .int), Cond.methodLink RX2 137 yX0_word, Cond.instanceMethod yX0_word, Cond.selects RX0 yX0_word yX0_word, Cond.initialized RX0, Cond.code yX0_word cX0_word 2 (some .long), Cond.fieldLink RX0 9 "BlockMover$Disk" "words" "[J", Cond.methodLink RX2 89 yX2_inodeOfEntry, Cond.static yX2_inodeOfEntry, Cond.code yX2_inodeOfEntry cX2_inodeOfEntry 1 (some .int), Cond.methodLink RX2 218 yX2_meet, Cond.instanceMethod yX2_meet, Cond.selects RX2 yX2_meet yX2_meet]
def wsX2_clearWrongEntriesOf_r2 : List Cond := [Cond.code yX2_meet cX2_meet 2 (some .boolean), Cond.fieldLink RX2 170 "BlockMover" "inodesMet" "I", Cond.methodLink RX2 92 yX2_kindOf, Cond.instanceMethod yX2_kindOf, Cond.selects RX2 yX2_kindOf yX2_kindOf, Cond.code yX2_kindOf cX2_kindOf 2 (some .int), Cond.methodLink RX2 60 yX0_write, Cond.instanceMethod yX0_write, Cond.selects RX0 yX0_write yX0_write, Cond.code yX0_write cX0_write 4 none, Cond.fieldLink RX0 19 "BlockMover$Disk" "failed" "Z", Cond.fieldLink RX0 15 "BlockMover$Disk" "left" "I", Cond.fieldLink RX0 23 "BlockMover$Disk" "down" "Z", Cond.fieldLink RX0 26 "BlockMover$Disk" "writes" "I"]
def wsX2_clearWrongEntriesOf : List Cond := .code yX2_clearWrongEntriesOf cX2_clearWrongEntriesOf 4 none :: ((wsX2_clearWrongEntriesOf_r1 ++ wsX2_clearWrongEntriesOf_r2) ++ wsX20 ++ wsX00)
def wsX2_clearWrongEntries_r1 : List Cond := [Cond.fieldLink RX2 170 "BlockMover" "inodesMet" "I", Cond.methodLink RX2 92 yX2_kindOf, Cond.instanceMethod yX2_kindOf, Cond.selects RX2 yX2_kindOf yX2_kindOf, Cond.initialized RX2, Cond.code yX2_kindOf cX2_kindOf 2 (some .int), Cond.fieldLink RX2 12 "BlockMover" "disk" "LBlockMover$Disk;", Cond.methodLink RX2 57 yX2_inodeAt, Cond.static yX2_inodeAt, Cond.code yX2_inodeAt cX2_inodeAt 2 (some .int), Cond.methodLink RX2 137 yX0_word, Cond.instanceMethod yX0_word, Cond.selects RX0 yX0_word yX0_word, Cond.initialized RX0, Cond.code yX0_word cX0_word 2 (some .long), Cond.fieldLink RX0 9 "BlockMover$Disk" "words" "[J", Cond.methodLink RX2 214 yX2_clearWrongEntriesOf, Cond.instanceMethod yX2_clearWrongEntriesOf, Cond.selects RX2 yX2_clearWrongEntriesOf yX2_clearWrongEntriesOf, Cond.code yX2_clearWrongEntriesOf cX2_clearWrongEntriesOf 4 none, Cond.methodLink RX2 86 yX2_placeOf, Cond.instanceMethod yX2_placeOf, Cond.selects RX2 yX2_placeOf yX2_placeOf, Cond.code yX2_placeOf cX2_placeOf 3 (some .int)]
def wsX2_clearWrongEntries_r2 : List Cond := [Cond.methodLink RX2 64 yX2_placeAt, Cond.static yX2_placeAt, Cond.code yX2_placeAt cX2_placeAt 2 (some .int), Cond.methodLink RX2 89 yX2_inodeOfEntry, Cond.static yX2_inodeOfEntry, Cond.code yX2_inodeOfEntry cX2_inodeOfEntry 1 (some .int), Cond.methodLink RX2 218 yX2_meet, Cond.instanceMethod yX2_meet, Cond.selects RX2 yX2_meet yX2_meet, Cond.code yX2_meet cX2_meet 2 (some .boolean), Cond.methodLink RX2 60 yX0_write, Cond.instanceMethod yX0_write, Cond.selects RX0 yX0_write yX0_write, Cond.code yX0_write cX0_write 4 none, Cond.fieldLink RX0 19 "BlockMover$Disk" "failed" "Z", Cond.fieldLink RX0 15 "BlockMover$Disk" "left" "I", Cond.fieldLink RX0 23 "BlockMover$Disk" "down" "Z", Cond.fieldLink RX0 26 "BlockMover$Disk" "writes" "I"]
def wsX2_clearWrongEntries : List Cond := .code yX2_clearWrongEntries cX2_clearWrongEntries 2 none :: ((wsX2_clearWrongEntries_r1 ++ wsX2_clearWrongEntries_r2) ++ wsX20 ++ wsX00)
def wsX2_clearInodesWithoutEntry_r1 : List Cond := [Cond.fieldLink RX2 12 "BlockMover" "disk" "LBlockMover$Disk;", Cond.methodLink RX2 92 yX2_kindOf, Cond.instanceMethod yX2_kindOf, Cond.selects RX2 yX2_kindOf yX2_kindOf, Cond.initialized RX2, Cond.code yX2_kindOf cX2_kindOf 2 (some .int), Cond.methodLink RX2 57 yX2_inodeAt, Cond.static yX2_inodeAt, Cond.code yX2_inodeAt cX2_inodeAt 2 (some .int), Cond.methodLink RX2 137 yX0_word, Cond.instanceMethod yX0_word, Cond.selects RX0 yX0_word yX0_word, Cond.initialized RX0, Cond.code yX0_word cX0_word 2 (some .long), Cond.fieldLink RX0 9 "BlockMover$Disk" "words" "[J", Cond.methodLink RX2 192 yX2_directoryAbove, Cond.instanceMethod yX2_directoryAbove, Cond.selects RX2 yX2_directoryAbove yX2_directoryAbove, Cond.code yX2_directoryAbove cX2_directoryAbove 3 (some .int), Cond.methodLink RX2 189 yX2_hasEntryOf, Cond.instanceMethod yX2_hasEntryOf, Cond.selects RX2 yX2_hasEntryOf yX2_hasEntryOf, Cond.code yX2_hasEntryOf cX2_hasEntryOf 5 (some .boolean), Cond.methodLink RX2 86 yX2_placeOf]
def wsX2_clearInodesWithoutEntry_r2 : List Cond := [Cond.instanceMethod yX2_placeOf, Cond.selects RX2 yX2_placeOf yX2_placeOf, Cond.code yX2_placeOf cX2_placeOf 3 (some .int), Cond.methodLink RX2 64 yX2_placeAt, Cond.static yX2_placeAt, Cond.code yX2_placeAt cX2_placeAt 2 (some .int), Cond.methodLink RX2 89 yX2_inodeOfEntry, Cond.static yX2_inodeOfEntry, Cond.code yX2_inodeOfEntry cX2_inodeOfEntry 1 (some .int), Cond.methodLink RX2 60 yX0_write, Cond.instanceMethod yX0_write, Cond.selects RX0 yX0_write yX0_write, Cond.code yX0_write cX0_write 4 none, Cond.fieldLink RX0 19 "BlockMover$Disk" "failed" "Z", Cond.fieldLink RX0 15 "BlockMover$Disk" "left" "I", Cond.fieldLink RX0 23 "BlockMover$Disk" "down" "Z", Cond.fieldLink RX0 26 "BlockMover$Disk" "writes" "I"]
def wsX2_clearInodesWithoutEntry : List Cond := .code yX2_clearInodesWithoutEntry cX2_clearInodesWithoutEntry 2 none :: ((wsX2_clearInodesWithoutEntry_r1 ++ wsX2_clearInodesWithoutEntry_r2) ++ wsX20 ++ wsX00)
def wsX2_restart_r1 : List Cond := [Cond.fieldLink RX2 12 "BlockMover" "disk" "LBlockMover$Disk;", Cond.fieldLink RX2 122 "BlockMover$Disk" "writes" "I", Cond.fieldLink RX2 134 "BlockMover$Disk" "failed" "Z", Cond.fieldLink RX2 31 "BlockMover$Disk" "down" "Z", Cond.methodLink RX2 54 yX0_begin, Cond.instanceMethod yX0_begin, Cond.selects RX0 yX0_begin yX0_begin, Cond.initialized RX0, Cond.code yX0_begin cX0_begin 1 none, Cond.fieldLink RX0 19 "BlockMover$Disk" "failed" "Z", Cond.methodLink RX2 125 yX2_finishRecordedMove, Cond.instanceMethod yX2_finishRecordedMove, Cond.selects RX2 yX2_finishRecordedMove yX2_finishRecordedMove, Cond.initialized RX2, Cond.code yX2_finishRecordedMove cX2_finishRecordedMove 2 none, Cond.methodLink RX2 145 yX2_recorded, Cond.instanceMethod yX2_recorded, Cond.selects RX2 yX2_recorded yX2_recorded, Cond.code yX2_recorded cX2_recorded 2 (some .int), Cond.methodLink RX2 104 yX2_recordAt, Cond.static yX2_recordAt, Cond.code yX2_recordAt cX2_recordAt 1 (some .int), Cond.methodLink RX2 137 yX0_word, Cond.instanceMethod yX0_word]
def wsX2_restart_r2 : List Cond := [Cond.selects RX0 yX0_word yX0_word, Cond.code yX0_word cX0_word 2 (some .long), Cond.fieldLink RX0 9 "BlockMover$Disk" "words" "[J", Cond.methodLink RX2 116 yX2_copyMovedBlock, Cond.instanceMethod yX2_copyMovedBlock, Cond.selects RX2 yX2_copyMovedBlock yX2_copyMovedBlock, Cond.code yX2_copyMovedBlock cX2_copyMovedBlock 4 none, Cond.constantLong RX2 212 (2), Cond.methodLink RX2 86 yX2_placeOf, Cond.instanceMethod yX2_placeOf, Cond.selects RX2 yX2_placeOf yX2_placeOf, Cond.code yX2_placeOf cX2_placeOf 3 (some .int), Cond.methodLink RX2 64 yX2_placeAt, Cond.static yX2_placeAt, Cond.code yX2_placeAt cX2_placeAt 2 (some .int), Cond.methodLink RX2 57 yX2_inodeAt, Cond.static yX2_inodeAt, Cond.code yX2_inodeAt cX2_inodeAt 2 (some .int), Cond.methodLink RX2 79 yX2_dataAt, Cond.static yX2_dataAt, Cond.code yX2_dataAt cX2_dataAt 2 (some .int), Cond.methodLink RX2 60 yX0_write, Cond.instanceMethod yX0_write, Cond.selects RX0 yX0_write yX0_write]
def wsX2_restart_r3 : List Cond := [Cond.code yX0_write cX0_write 4 none, Cond.fieldLink RX0 15 "BlockMover$Disk" "left" "I", Cond.fieldLink RX0 23 "BlockMover$Disk" "down" "Z", Cond.fieldLink RX0 26 "BlockMover$Disk" "writes" "I", Cond.methodLink RX2 119 yX2_linkMovedBlock, Cond.instanceMethod yX2_linkMovedBlock, Cond.selects RX2 yX2_linkMovedBlock yX2_linkMovedBlock, Cond.code yX2_linkMovedBlock cX2_linkMovedBlock 1 none, Cond.fieldLink RX2 161 "BlockMover" "movesDone" "I", Cond.methodLink RX2 128 yX2_clearWrongEntries, Cond.instanceMethod yX2_clearWrongEntries, Cond.selects RX2 yX2_clearWrongEntries yX2_clearWrongEntries, Cond.code yX2_clearWrongEntries cX2_clearWrongEntries 2 none, Cond.fieldLink RX2 170 "BlockMover" "inodesMet" "I", Cond.methodLink RX2 92 yX2_kindOf, Cond.instanceMethod yX2_kindOf, Cond.selects RX2 yX2_kindOf yX2_kindOf, Cond.code yX2_kindOf cX2_kindOf 2 (some .int), Cond.methodLink RX2 214 yX2_clearWrongEntriesOf, Cond.instanceMethod yX2_clearWrongEntriesOf, Cond.selects RX2 yX2_clearWrongEntriesOf yX2_clearWrongEntriesOf, Cond.code yX2_clearWrongEntriesOf cX2_clearWrongEntriesOf 4 none, Cond.methodLink RX2 89 yX2_inodeOfEntry, Cond.static yX2_inodeOfEntry]
def wsX2_restart_r4 : List Cond := [Cond.code yX2_inodeOfEntry cX2_inodeOfEntry 1 (some .int), Cond.methodLink RX2 218 yX2_meet, Cond.instanceMethod yX2_meet, Cond.selects RX2 yX2_meet yX2_meet, Cond.code yX2_meet cX2_meet 2 (some .boolean), Cond.methodLink RX2 131 yX2_clearInodesWithoutEntry, Cond.instanceMethod yX2_clearInodesWithoutEntry, Cond.selects RX2 yX2_clearInodesWithoutEntry yX2_clearInodesWithoutEntry, Cond.code yX2_clearInodesWithoutEntry cX2_clearInodesWithoutEntry 2 none, Cond.methodLink RX2 192 yX2_directoryAbove, Cond.instanceMethod yX2_directoryAbove, Cond.selects RX2 yX2_directoryAbove yX2_directoryAbove, Cond.code yX2_directoryAbove cX2_directoryAbove 3 (some .int), Cond.methodLink RX2 189 yX2_hasEntryOf, Cond.instanceMethod yX2_hasEntryOf, Cond.selects RX2 yX2_hasEntryOf yX2_hasEntryOf, Cond.code yX2_hasEntryOf cX2_hasEntryOf 5 (some .boolean)]
def wsX2_restart : List Cond := .code yX2_restart cX2_restart 4 (some .int) :: ((wsX2_restart_r1 ++ (wsX2_restart_r2 ++ (wsX2_restart_r3 ++ wsX2_restart_r4))) ++ wsX20 ++ wsX00)
def wsX2_find_r1 : List Cond := [Cond.methodLink RX2 35 yX2_isOfKind, Cond.instanceMethod yX2_isOfKind, Cond.selects RX2 yX2_isOfKind yX2_isOfKind, Cond.initialized RX2, Cond.code yX2_isOfKind cX2_isOfKind 3 (some .boolean), Cond.methodLink RX2 23 yX2_isBelow, Cond.static yX2_isBelow, Cond.code yX2_isBelow cX2_isBelow 2 (some .boolean), Cond.methodLink RX2 92 yX2_kindOf, Cond.instanceMethod yX2_kindOf, Cond.selects RX2 yX2_kindOf yX2_kindOf, Cond.code yX2_kindOf cX2_kindOf 2 (some .int), Cond.fieldLink RX2 12 "BlockMover" "disk" "LBlockMover$Disk;", Cond.methodLink RX2 57 yX2_inodeAt, Cond.static yX2_inodeAt, Cond.code yX2_inodeAt cX2_inodeAt 2 (some .int), Cond.methodLink RX2 137 yX0_word, Cond.instanceMethod yX0_word, Cond.selects RX0 yX0_word yX0_word, Cond.initialized RX0, Cond.code yX0_word cX0_word 2 (some .long), Cond.fieldLink RX0 9 "BlockMover$Disk" "words" "[J", Cond.methodLink RX2 38 yX2_isName, Cond.static yX2_isName]
def wsX2_find_r2 : List Cond := [Cond.code yX2_isName cX2_isName 1 (some .boolean), Cond.methodLink RX2 42 yX2_placeOfName, Cond.instanceMethod yX2_placeOfName, Cond.selects RX2 yX2_placeOfName yX2_placeOfName, Cond.code yX2_placeOfName cX2_placeOfName 4 (some .int), Cond.methodLink RX2 86 yX2_placeOf, Cond.instanceMethod yX2_placeOf, Cond.selects RX2 yX2_placeOf yX2_placeOf, Cond.code yX2_placeOf cX2_placeOf 3 (some .int), Cond.methodLink RX2 64 yX2_placeAt, Cond.static yX2_placeAt, Cond.code yX2_placeAt cX2_placeAt 2 (some .int), Cond.methodLink RX2 186 yX2_nameOfEntry, Cond.static yX2_nameOfEntry, Cond.code yX2_nameOfEntry cX2_nameOfEntry 1 (some .int), Cond.methodLink RX2 89 yX2_inodeOfEntry, Cond.static yX2_inodeOfEntry, Cond.code yX2_inodeOfEntry cX2_inodeOfEntry 1 (some .int)]
def wsX2_find : List Cond := .code yX2_find cX2_find 4 (some .int) :: ((wsX2_find_r1 ++ wsX2_find_r2) ++ wsX20 ++ wsX00)
def wsX2_inode : List Cond := .code yX2_inode cX2_inode 3 (some .int) :: ([.fieldLink RX2 12 "BlockMover" "disk" "LBlockMover$Disk;", .methodLink RX2 23 yX2_isBelow, .static yX2_isBelow, .initialized RX2, .code yX2_isBelow cX2_isBelow 2 (some .boolean), .methodLink RX2 57 yX2_inodeAt, .static yX2_inodeAt, .code yX2_inodeAt cX2_inodeAt 2 (some .int), .methodLink RX2 137 yX0_word, .instanceMethod yX0_word, .selects RX0 yX0_word yX0_word, .initialized RX0, .code yX0_word cX0_word 2 (some .long), .fieldLink RX0 9 "BlockMover$Disk" "words" "[J"] ++ wsX20 ++ wsX00)
def wsX2_data : List Cond := .code yX2_data cX2_data 3 (some .int) :: ([.fieldLink RX2 12 "BlockMover" "disk" "LBlockMover$Disk;", .fieldLink RX2 141 "BlockMover" "lastAsked" "J", .methodLink RX2 23 yX2_isBelow, .static yX2_isBelow, .initialized RX2, .code yX2_isBelow cX2_isBelow 2 (some .boolean), .methodLink RX2 79 yX2_dataAt, .static yX2_dataAt, .code yX2_dataAt cX2_dataAt 2 (some .int), .methodLink RX2 137 yX0_word, .instanceMethod yX0_word, .selects RX0 yX0_word yX0_word, .initialized RX0, .code yX0_word cX0_word 2 (some .long), .fieldLink RX0 9 "BlockMover$Disk" "words" "[J"] ++ wsX20 ++ wsX00)
def wsX2_read_r1 : List Cond := [Cond.fieldLink RX2 12 "BlockMover" "disk" "LBlockMover$Disk;", Cond.fieldLink RX2 141 "BlockMover" "lastAsked" "J", Cond.methodLink RX2 82 yX2_isDataOfFile, Cond.instanceMethod yX2_isDataOfFile, Cond.selects RX2 yX2_isDataOfFile yX2_isDataOfFile, Cond.initialized RX2, Cond.code yX2_isDataOfFile cX2_isDataOfFile 4 (some .boolean), Cond.methodLink RX2 35 yX2_isOfKind, Cond.instanceMethod yX2_isOfKind, Cond.selects RX2 yX2_isOfKind yX2_isOfKind, Cond.code yX2_isOfKind cX2_isOfKind 3 (some .boolean), Cond.methodLink RX2 23 yX2_isBelow, Cond.static yX2_isBelow, Cond.code yX2_isBelow cX2_isBelow 2 (some .boolean), Cond.methodLink RX2 92 yX2_kindOf, Cond.instanceMethod yX2_kindOf, Cond.selects RX2 yX2_kindOf yX2_kindOf, Cond.code yX2_kindOf cX2_kindOf 2 (some .int), Cond.methodLink RX2 57 yX2_inodeAt, Cond.static yX2_inodeAt, Cond.code yX2_inodeAt cX2_inodeAt 2 (some .int), Cond.methodLink RX2 137 yX0_word, Cond.instanceMethod yX0_word, Cond.selects RX0 yX0_word yX0_word]
def wsX2_read_r2 : List Cond := [Cond.initialized RX0, Cond.code yX0_word cX0_word 2 (some .long), Cond.fieldLink RX0 9 "BlockMover$Disk" "words" "[J", Cond.methodLink RX2 73 yX2_sizeOf, Cond.instanceMethod yX2_sizeOf, Cond.selects RX2 yX2_sizeOf yX2_sizeOf, Cond.code yX2_sizeOf cX2_sizeOf 2 (some .int), Cond.methodLink RX2 86 yX2_placeOf, Cond.instanceMethod yX2_placeOf, Cond.selects RX2 yX2_placeOf yX2_placeOf, Cond.code yX2_placeOf cX2_placeOf 3 (some .int), Cond.methodLink RX2 64 yX2_placeAt, Cond.static yX2_placeAt, Cond.code yX2_placeAt cX2_placeAt 2 (some .int), Cond.methodLink RX2 79 yX2_dataAt, Cond.static yX2_dataAt, Cond.code yX2_dataAt cX2_dataAt 2 (some .int)]
def wsX2_read : List Cond := .code yX2_read cX2_read 4 (some .int) :: ((wsX2_read_r1 ++ wsX2_read_r2) ++ wsX20 ++ wsX00)
def wsX2_asked : List Cond := .code yX2_asked cX2_asked 1 (some .long) :: ([.fieldLink RX2 141 "BlockMover" "lastAsked" "J"] ++ wsX20)
def wsX2_record : List Cond := .code yX2_record cX2_record 2 (some .int) :: ([.methodLink RX2 23 yX2_isBelow, .static yX2_isBelow, .initialized RX2, .code yX2_isBelow cX2_isBelow 2 (some .boolean), .methodLink RX2 145 yX2_recorded, .instanceMethod yX2_recorded, .selects RX2 yX2_recorded yX2_recorded, .code yX2_recorded cX2_recorded 2 (some .int), .fieldLink RX2 12 "BlockMover" "disk" "LBlockMover$Disk;", .methodLink RX2 104 yX2_recordAt, .static yX2_recordAt, .code yX2_recordAt cX2_recordAt 1 (some .int), .methodLink RX2 137 yX0_word, .instanceMethod yX0_word, .selects RX0 yX0_word yX0_word, .initialized RX0, .code yX0_word cX0_word 2 (some .long), .fieldLink RX0 9 "BlockMover$Disk" "words" "[J"] ++ wsX20 ++ wsX00)
def wsX2_plan_r1 : List Cond := [Cond.fieldLink RX2 19 "BlockMover" "next" "LBlockMover$Plan;", Cond.fieldLink RX2 107 "BlockMover$Plan" "inode" "I", Cond.fieldLink RX2 110 "BlockMover$Plan" "place" "I", Cond.fieldLink RX2 113 "BlockMover$Plan" "to" "I", Cond.methodLink RX2 23 yX2_isBelow, Cond.static yX2_isBelow, Cond.initialized RX2, Cond.code yX2_isBelow cX2_isBelow 2 (some .boolean), Cond.methodLink RX2 101 yX2_findNextMove, Cond.instanceMethod yX2_findNextMove, Cond.selects RX2 yX2_findNextMove yX2_findNextMove, Cond.code yX2_findNextMove cX2_findNextMove 5 (some .int), Cond.methodLink RX2 195 yX2_blocksOf, Cond.instanceMethod yX2_blocksOf, Cond.selects RX2 yX2_blocksOf yX2_blocksOf, Cond.code yX2_blocksOf cX2_blocksOf 2 (some .int), Cond.methodLink RX2 92 yX2_kindOf, Cond.instanceMethod yX2_kindOf, Cond.selects RX2 yX2_kindOf yX2_kindOf, Cond.code yX2_kindOf cX2_kindOf 2 (some .int), Cond.fieldLink RX2 12 "BlockMover" "disk" "LBlockMover$Disk;", Cond.methodLink RX2 57 yX2_inodeAt, Cond.static yX2_inodeAt, Cond.code yX2_inodeAt cX2_inodeAt 2 (some .int)]
def wsX2_plan_r2 : List Cond := [Cond.methodLink RX2 137 yX0_word, Cond.instanceMethod yX0_word, Cond.selects RX0 yX0_word yX0_word, Cond.initialized RX0, Cond.code yX0_word cX0_word 2 (some .long), Cond.fieldLink RX0 9 "BlockMover$Disk" "words" "[J", Cond.methodLink RX2 73 yX2_sizeOf, Cond.instanceMethod yX2_sizeOf, Cond.selects RX2 yX2_sizeOf yX2_sizeOf, Cond.code yX2_sizeOf cX2_sizeOf 2 (some .int), Cond.methodLink RX2 86 yX2_placeOf, Cond.instanceMethod yX2_placeOf, Cond.selects RX2 yX2_placeOf yX2_placeOf, Cond.code yX2_placeOf cX2_placeOf 3 (some .int), Cond.methodLink RX2 64 yX2_placeAt, Cond.static yX2_placeAt, Cond.code yX2_placeAt cX2_placeAt 2 (some .int), Cond.methodLink RX2 198 yX2_chooseMove, Cond.instanceMethod yX2_chooseMove, Cond.selects RX2 yX2_chooseMove yX2_chooseMove, Cond.code yX2_chooseMove cX2_chooseMove 5 (some .int), Cond.methodLink RX2 148 yX2_usedBlocks, Cond.instanceMethod yX2_usedBlocks, Cond.selects RX2 yX2_usedBlocks yX2_usedBlocks]
def wsX2_plan_r3 : List Cond := [Cond.code yX2_usedBlocks cX2_usedBlocks 6 (some .long), Cond.methodLink RX2 202 yX1_set, Cond.instanceMethod yX1_set, Cond.selects RX1 yX1_set yX1_set, Cond.initialized RX1, Cond.code yX1_set cX1_set 4 none, Cond.fieldLink RX1 7 "BlockMover$Plan" "inode" "I", Cond.fieldLink RX1 13 "BlockMover$Plan" "place" "I", Cond.fieldLink RX1 16 "BlockMover$Plan" "to" "I", Cond.methodLink RX2 206 yX2_greatestFreeBlock, Cond.instanceMethod yX2_greatestFreeBlock, Cond.selects RX2 yX2_greatestFreeBlock yX2_greatestFreeBlock, Cond.code yX2_greatestFreeBlock cX2_greatestFreeBlock 4 (some .int), Cond.methodLink RX2 209 yX2_chooseMoveAway, Cond.instanceMethod yX2_chooseMoveAway, Cond.selects RX2 yX2_chooseMoveAway yX2_chooseMoveAway, Cond.code yX2_chooseMoveAway cX2_chooseMoveAway 6 (some .int)]
def wsX2_plan : List Cond := .code yX2_plan cX2_plan 3 (some .int) :: ((wsX2_plan_r1 ++ (wsX2_plan_r2 ++ wsX2_plan_r3)) ++ wsX20 ++ wsX10 ++ wsX00)
def wsX2_runs_r1 : List Cond := [Cond.methodLink RX2 35 yX2_isOfKind, Cond.instanceMethod yX2_isOfKind, Cond.selects RX2 yX2_isOfKind yX2_isOfKind, Cond.initialized RX2, Cond.code yX2_isOfKind cX2_isOfKind 3 (some .boolean), Cond.methodLink RX2 23 yX2_isBelow, Cond.static yX2_isBelow, Cond.code yX2_isBelow cX2_isBelow 2 (some .boolean), Cond.methodLink RX2 92 yX2_kindOf, Cond.instanceMethod yX2_kindOf, Cond.selects RX2 yX2_kindOf yX2_kindOf, Cond.code yX2_kindOf cX2_kindOf 2 (some .int), Cond.fieldLink RX2 12 "BlockMover" "disk" "LBlockMover$Disk;", Cond.methodLink RX2 57 yX2_inodeAt, Cond.static yX2_inodeAt, Cond.code yX2_inodeAt cX2_inodeAt 2 (some .int), Cond.methodLink RX2 137 yX0_word, Cond.instanceMethod yX0_word, Cond.selects RX0 yX0_word yX0_word, Cond.initialized RX0, Cond.code yX0_word cX0_word 2 (some .long), Cond.fieldLink RX0 9 "BlockMover$Disk" "words" "[J", Cond.methodLink RX2 73 yX2_sizeOf, Cond.instanceMethod yX2_sizeOf]
def wsX2_runs_r2 : List Cond := [Cond.selects RX2 yX2_sizeOf yX2_sizeOf, Cond.code yX2_sizeOf cX2_sizeOf 2 (some .int), Cond.methodLink RX2 86 yX2_placeOf, Cond.instanceMethod yX2_placeOf, Cond.selects RX2 yX2_placeOf yX2_placeOf, Cond.code yX2_placeOf cX2_placeOf 3 (some .int), Cond.methodLink RX2 64 yX2_placeAt, Cond.static yX2_placeAt, Cond.code yX2_placeAt cX2_placeAt 2 (some .int)]
def wsX2_runs : List Cond := .code yX2_runs cX2_runs 5 (some .int) :: ((wsX2_runs_r1 ++ wsX2_runs_r2) ++ wsX20 ++ wsX00)
def wsJ13_bitCount_95d88 : List Cond := .code yJ13_bitCount_95d88 cJ13_bitCount_95d88 2 (some .int) :: ([.constantLong RJ13 314 (6148914691236517205), .constantLong RJ13 316 (3689348814741910323), .constantLong RJ13 318 (1085102592571150095)])
def wsX2_countInodes : List Cond := .code yX2_countInodes cX2_countInodes 3 (some .int) :: ([.methodLink RX2 92 yX2_kindOf, .instanceMethod yX2_kindOf, .selects RX2 yX2_kindOf yX2_kindOf, .initialized RX2, .code yX2_kindOf cX2_kindOf 2 (some .int), .fieldLink RX2 12 "BlockMover" "disk" "LBlockMover$Disk;", .methodLink RX2 57 yX2_inodeAt, .static yX2_inodeAt, .code yX2_inodeAt cX2_inodeAt 2 (some .int), .methodLink RX2 137 yX0_word, .instanceMethod yX0_word, .selects RX0 yX0_word yX0_word, .initialized RX0, .code yX0_word cX0_word 2 (some .long), .fieldLink RX0 9 "BlockMover$Disk" "words" "[J"] ++ wsX20 ++ wsX00)
def wsX2_countMisplacedBlocks_r1 : List Cond := [Cond.methodLink RX2 195 yX2_blocksOf, Cond.instanceMethod yX2_blocksOf, Cond.selects RX2 yX2_blocksOf yX2_blocksOf, Cond.initialized RX2, Cond.code yX2_blocksOf cX2_blocksOf 2 (some .int), Cond.methodLink RX2 92 yX2_kindOf, Cond.instanceMethod yX2_kindOf, Cond.selects RX2 yX2_kindOf yX2_kindOf, Cond.code yX2_kindOf cX2_kindOf 2 (some .int), Cond.fieldLink RX2 12 "BlockMover" "disk" "LBlockMover$Disk;", Cond.methodLink RX2 57 yX2_inodeAt, Cond.static yX2_inodeAt, Cond.code yX2_inodeAt cX2_inodeAt 2 (some .int), Cond.methodLink RX2 137 yX0_word, Cond.instanceMethod yX0_word, Cond.selects RX0 yX0_word yX0_word, Cond.initialized RX0, Cond.code yX0_word cX0_word 2 (some .long), Cond.fieldLink RX0 9 "BlockMover$Disk" "words" "[J", Cond.methodLink RX2 73 yX2_sizeOf, Cond.instanceMethod yX2_sizeOf, Cond.selects RX2 yX2_sizeOf yX2_sizeOf, Cond.code yX2_sizeOf cX2_sizeOf 2 (some .int), Cond.methodLink RX2 86 yX2_placeOf]
def wsX2_countMisplacedBlocks_r2 : List Cond := [Cond.instanceMethod yX2_placeOf, Cond.selects RX2 yX2_placeOf yX2_placeOf, Cond.code yX2_placeOf cX2_placeOf 3 (some .int), Cond.methodLink RX2 64 yX2_placeAt, Cond.static yX2_placeAt, Cond.code yX2_placeAt cX2_placeAt 2 (some .int)]
def wsX2_countMisplacedBlocks : List Cond := .code yX2_countMisplacedBlocks cX2_countMisplacedBlocks 6 (some .int) :: ((wsX2_countMisplacedBlocks_r1 ++ wsX2_countMisplacedBlocks_r2) ++ wsX20 ++ wsX00)
def wsX2_countEntries_r1 : List Cond := [Cond.methodLink RX2 92 yX2_kindOf, Cond.instanceMethod yX2_kindOf, Cond.selects RX2 yX2_kindOf yX2_kindOf, Cond.initialized RX2, Cond.code yX2_kindOf cX2_kindOf 2 (some .int), Cond.fieldLink RX2 12 "BlockMover" "disk" "LBlockMover$Disk;", Cond.methodLink RX2 57 yX2_inodeAt, Cond.static yX2_inodeAt, Cond.code yX2_inodeAt cX2_inodeAt 2 (some .int), Cond.methodLink RX2 137 yX0_word, Cond.instanceMethod yX0_word, Cond.selects RX0 yX0_word yX0_word, Cond.initialized RX0, Cond.code yX0_word cX0_word 2 (some .long), Cond.fieldLink RX0 9 "BlockMover$Disk" "words" "[J", Cond.methodLink RX2 95 yX2_entriesOf, Cond.instanceMethod yX2_entriesOf, Cond.selects RX2 yX2_entriesOf yX2_entriesOf, Cond.code yX2_entriesOf cX2_entriesOf 4 (some .int), Cond.methodLink RX2 86 yX2_placeOf, Cond.instanceMethod yX2_placeOf, Cond.selects RX2 yX2_placeOf yX2_placeOf, Cond.code yX2_placeOf cX2_placeOf 3 (some .int), Cond.methodLink RX2 64 yX2_placeAt]
def wsX2_countEntries_r2 : List Cond := [Cond.static yX2_placeAt, Cond.code yX2_placeAt cX2_placeAt 2 (some .int)]
def wsX2_countEntries : List Cond := .code yX2_countEntries cX2_countEntries 3 (some .int) :: ((wsX2_countEntries_r1 ++ wsX2_countEntries_r2) ++ wsX20 ++ wsX00)
def wsX2_count_r1 : List Cond := [Cond.fieldLink RX2 12 "BlockMover" "disk" "LBlockMover$Disk;", Cond.fieldLink RX2 122 "BlockMover$Disk" "writes" "I", Cond.fieldLink RX2 161 "BlockMover" "movesDone" "I", Cond.methodLink RX2 148 yX2_usedBlocks, Cond.instanceMethod yX2_usedBlocks, Cond.selects RX2 yX2_usedBlocks yX2_usedBlocks, Cond.initialized RX2, Cond.code yX2_usedBlocks cX2_usedBlocks 6 (some .long), Cond.methodLink RX2 195 yX2_blocksOf, Cond.instanceMethod yX2_blocksOf, Cond.selects RX2 yX2_blocksOf yX2_blocksOf, Cond.code yX2_blocksOf cX2_blocksOf 2 (some .int), Cond.methodLink RX2 92 yX2_kindOf, Cond.instanceMethod yX2_kindOf, Cond.selects RX2 yX2_kindOf yX2_kindOf, Cond.code yX2_kindOf cX2_kindOf 2 (some .int), Cond.methodLink RX2 57 yX2_inodeAt, Cond.static yX2_inodeAt, Cond.code yX2_inodeAt cX2_inodeAt 2 (some .int), Cond.methodLink RX2 137 yX0_word, Cond.instanceMethod yX0_word, Cond.selects RX0 yX0_word yX0_word, Cond.initialized RX0, Cond.code yX0_word cX0_word 2 (some .long)]
def wsX2_count_r2 : List Cond := [Cond.fieldLink RX0 9 "BlockMover$Disk" "words" "[J", Cond.methodLink RX2 73 yX2_sizeOf, Cond.instanceMethod yX2_sizeOf, Cond.selects RX2 yX2_sizeOf yX2_sizeOf, Cond.code yX2_sizeOf cX2_sizeOf 2 (some .int), Cond.methodLink RX2 86 yX2_placeOf, Cond.instanceMethod yX2_placeOf, Cond.selects RX2 yX2_placeOf yX2_placeOf, Cond.code yX2_placeOf cX2_placeOf 3 (some .int), Cond.methodLink RX2 64 yX2_placeAt, Cond.static yX2_placeAt, Cond.code yX2_placeAt cX2_placeAt 2 (some .int), Cond.methodLink RX2 152 yJ13_bitCount_95d88, Cond.static yJ13_bitCount_95d88, Cond.initialized RJ13, Cond.code yJ13_bitCount_95d88 cJ13_bitCount_95d88 2 (some .int), Cond.constantLong RJ13 314 (6148914691236517205), Cond.constantLong RJ13 316 (3689348814741910323), Cond.constantLong RJ13 318 (1085102592571150095), Cond.methodLink RX2 158 yX2_countInodes, Cond.instanceMethod yX2_countInodes, Cond.selects RX2 yX2_countInodes yX2_countInodes, Cond.code yX2_countInodes cX2_countInodes 3 (some .int), Cond.methodLink RX2 164 yX2_countMisplacedBlocks]
def wsX2_count_r3 : List Cond := [Cond.instanceMethod yX2_countMisplacedBlocks, Cond.selects RX2 yX2_countMisplacedBlocks yX2_countMisplacedBlocks, Cond.code yX2_countMisplacedBlocks cX2_countMisplacedBlocks 6 (some .int), Cond.methodLink RX2 167 yX2_countEntries, Cond.instanceMethod yX2_countEntries, Cond.selects RX2 yX2_countEntries yX2_countEntries, Cond.code yX2_countEntries cX2_countEntries 3 (some .int), Cond.methodLink RX2 95 yX2_entriesOf, Cond.instanceMethod yX2_entriesOf, Cond.selects RX2 yX2_entriesOf yX2_entriesOf, Cond.code yX2_entriesOf cX2_entriesOf 4 (some .int)]
def wsX2_count : List Cond := .code yX2_count cX2_count 2 (some .int) :: ((wsX2_count_r1 ++ (wsX2_count_r2 ++ wsX2_count_r3)) ++ wsX20 ++ wsX00)
def wsX2_entryBehindName : List Cond := .code yX2_entryBehindName cX2_entryBehindName 6 (some .int) :: ([.methodLink RX2 86 yX2_placeOf, .instanceMethod yX2_placeOf, .selects RX2 yX2_placeOf yX2_placeOf, .initialized RX2, .code yX2_placeOf cX2_placeOf 3 (some .int), .fieldLink RX2 12 "BlockMover" "disk" "LBlockMover$Disk;", .methodLink RX2 64 yX2_placeAt, .static yX2_placeAt, .code yX2_placeAt cX2_placeAt 2 (some .int), .methodLink RX2 57 yX2_inodeAt, .static yX2_inodeAt, .code yX2_inodeAt cX2_inodeAt 2 (some .int), .methodLink RX2 137 yX0_word, .instanceMethod yX0_word, .selects RX0 yX0_word yX0_word, .initialized RX0, .code yX0_word cX0_word 2 (some .long), .fieldLink RX0 9 "BlockMover$Disk" "words" "[J", .methodLink RX2 186 yX2_nameOfEntry, .static yX2_nameOfEntry, .code yX2_nameOfEntry cX2_nameOfEntry 1 (some .int)] ++ wsX20 ++ wsX00)
def wsX2_hashOfFile_r1 : List Cond := [Cond.constantLong RX2 181 (31), Cond.constantLong RX2 212 (2), Cond.fieldLink RX2 12 "BlockMover" "disk" "LBlockMover$Disk;", Cond.methodLink RX2 73 yX2_sizeOf, Cond.instanceMethod yX2_sizeOf, Cond.selects RX2 yX2_sizeOf yX2_sizeOf, Cond.initialized RX2, Cond.code yX2_sizeOf cX2_sizeOf 2 (some .int), Cond.methodLink RX2 57 yX2_inodeAt, Cond.static yX2_inodeAt, Cond.code yX2_inodeAt cX2_inodeAt 2 (some .int), Cond.methodLink RX2 137 yX0_word, Cond.instanceMethod yX0_word, Cond.selects RX0 yX0_word yX0_word, Cond.initialized RX0, Cond.code yX0_word cX0_word 2 (some .long), Cond.fieldLink RX0 9 "BlockMover$Disk" "words" "[J", Cond.methodLink RX2 86 yX2_placeOf, Cond.instanceMethod yX2_placeOf, Cond.selects RX2 yX2_placeOf yX2_placeOf, Cond.code yX2_placeOf cX2_placeOf 3 (some .int), Cond.methodLink RX2 64 yX2_placeAt, Cond.static yX2_placeAt, Cond.code yX2_placeAt cX2_placeAt 2 (some .int)]
def wsX2_hashOfFile_r2 : List Cond := [Cond.methodLink RX2 79 yX2_dataAt, Cond.static yX2_dataAt, Cond.code yX2_dataAt cX2_dataAt 2 (some .int)]
def wsX2_hashOfFile : List Cond := .code yX2_hashOfFile cX2_hashOfFile 9 (some .long) :: ((wsX2_hashOfFile_r1 ++ wsX2_hashOfFile_r2) ++ wsX20 ++ wsX00)
def wsX2_hashOfDirectory_r1 : List Cond := [Cond.constantLong RX2 181 (31), Cond.constantLong RX2 231 (9), Cond.methodLink RX2 228 yX2_entryBehindName, Cond.instanceMethod yX2_entryBehindName, Cond.selects RX2 yX2_entryBehindName yX2_entryBehindName, Cond.initialized RX2, Cond.code yX2_entryBehindName cX2_entryBehindName 6 (some .int), Cond.methodLink RX2 86 yX2_placeOf, Cond.instanceMethod yX2_placeOf, Cond.selects RX2 yX2_placeOf yX2_placeOf, Cond.code yX2_placeOf cX2_placeOf 3 (some .int), Cond.fieldLink RX2 12 "BlockMover" "disk" "LBlockMover$Disk;", Cond.methodLink RX2 64 yX2_placeAt, Cond.static yX2_placeAt, Cond.code yX2_placeAt cX2_placeAt 2 (some .int), Cond.methodLink RX2 57 yX2_inodeAt, Cond.static yX2_inodeAt, Cond.code yX2_inodeAt cX2_inodeAt 2 (some .int), Cond.methodLink RX2 137 yX0_word, Cond.instanceMethod yX0_word, Cond.selects RX0 yX0_word yX0_word, Cond.initialized RX0, Cond.code yX0_word cX0_word 2 (some .long), Cond.fieldLink RX0 9 "BlockMover$Disk" "words" "[J"]
def wsX2_hashOfDirectory_r2 : List Cond := [Cond.methodLink RX2 186 yX2_nameOfEntry, Cond.static yX2_nameOfEntry, Cond.code yX2_nameOfEntry cX2_nameOfEntry 1 (some .int), Cond.methodLink RX2 89 yX2_inodeOfEntry, Cond.static yX2_inodeOfEntry, Cond.code yX2_inodeOfEntry cX2_inodeOfEntry 1 (some .int), Cond.methodLink RX2 218 yX2_meet, Cond.instanceMethod yX2_meet, Cond.selects RX2 yX2_meet yX2_meet, Cond.code yX2_meet cX2_meet 2 (some .boolean), Cond.fieldLink RX2 170 "BlockMover" "inodesMet" "I", Cond.methodLink RX2 92 yX2_kindOf, Cond.instanceMethod yX2_kindOf, Cond.selects RX2 yX2_kindOf yX2_kindOf, Cond.code yX2_kindOf cX2_kindOf 2 (some .int), Cond.methodLink RX2 175 yX2_hashOfInode, Cond.instanceMethod yX2_hashOfInode, Cond.selects RX2 yX2_hashOfInode yX2_hashOfInode, Cond.code yX2_hashOfInode cX2_hashOfInode 5 (some .long), Cond.methodLink RX2 221 yX2_hashOfDirectory, Cond.instanceMethod yX2_hashOfDirectory, Cond.selects RX2 yX2_hashOfDirectory yX2_hashOfDirectory, Cond.methodLink RX2 224 yX2_hashOfFile, Cond.instanceMethod yX2_hashOfFile]
def wsX2_hashOfDirectory_r3 : List Cond := [Cond.selects RX2 yX2_hashOfFile yX2_hashOfFile, Cond.code yX2_hashOfFile cX2_hashOfFile 9 (some .long), Cond.constantLong RX2 212 (2), Cond.methodLink RX2 73 yX2_sizeOf, Cond.instanceMethod yX2_sizeOf, Cond.selects RX2 yX2_sizeOf yX2_sizeOf, Cond.code yX2_sizeOf cX2_sizeOf 2 (some .int), Cond.methodLink RX2 79 yX2_dataAt, Cond.static yX2_dataAt, Cond.code yX2_dataAt cX2_dataAt 2 (some .int)]
def wsX2_hashOfDirectory : List Cond := .code yX2_hashOfDirectory cX2_hashOfDirectory 9 (some .long) :: ((wsX2_hashOfDirectory_r1 ++ (wsX2_hashOfDirectory_r2 ++ wsX2_hashOfDirectory_r3)) ++ wsX20 ++ wsX00)
def wsX2_hashOfInode_r1 : List Cond := [Cond.methodLink RX2 92 yX2_kindOf, Cond.instanceMethod yX2_kindOf, Cond.selects RX2 yX2_kindOf yX2_kindOf, Cond.initialized RX2, Cond.code yX2_kindOf cX2_kindOf 2 (some .int), Cond.fieldLink RX2 12 "BlockMover" "disk" "LBlockMover$Disk;", Cond.methodLink RX2 57 yX2_inodeAt, Cond.static yX2_inodeAt, Cond.code yX2_inodeAt cX2_inodeAt 2 (some .int), Cond.methodLink RX2 137 yX0_word, Cond.instanceMethod yX0_word, Cond.selects RX0 yX0_word yX0_word, Cond.initialized RX0, Cond.code yX0_word cX0_word 2 (some .long), Cond.fieldLink RX0 9 "BlockMover$Disk" "words" "[J", Cond.methodLink RX2 221 yX2_hashOfDirectory, Cond.instanceMethod yX2_hashOfDirectory, Cond.selects RX2 yX2_hashOfDirectory yX2_hashOfDirectory, Cond.methodLink RX2 224 yX2_hashOfFile, Cond.instanceMethod yX2_hashOfFile, Cond.selects RX2 yX2_hashOfFile yX2_hashOfFile, Cond.code yX2_hashOfFile cX2_hashOfFile 9 (some .long), Cond.constantLong RX2 181 (31), Cond.constantLong RX2 212 (2)]
def wsX2_hashOfInode_r2 : List Cond := [Cond.methodLink RX2 73 yX2_sizeOf, Cond.instanceMethod yX2_sizeOf, Cond.selects RX2 yX2_sizeOf yX2_sizeOf, Cond.code yX2_sizeOf cX2_sizeOf 2 (some .int), Cond.methodLink RX2 86 yX2_placeOf, Cond.instanceMethod yX2_placeOf, Cond.selects RX2 yX2_placeOf yX2_placeOf, Cond.code yX2_placeOf cX2_placeOf 3 (some .int), Cond.methodLink RX2 64 yX2_placeAt, Cond.static yX2_placeAt, Cond.code yX2_placeAt cX2_placeAt 2 (some .int), Cond.methodLink RX2 79 yX2_dataAt, Cond.static yX2_dataAt, Cond.code yX2_dataAt cX2_dataAt 2 (some .int), Cond.code yX2_hashOfDirectory cX2_hashOfDirectory 9 (some .long), Cond.constantLong RX2 231 (9), Cond.methodLink RX2 228 yX2_entryBehindName, Cond.instanceMethod yX2_entryBehindName, Cond.selects RX2 yX2_entryBehindName yX2_entryBehindName, Cond.code yX2_entryBehindName cX2_entryBehindName 6 (some .int), Cond.methodLink RX2 186 yX2_nameOfEntry, Cond.static yX2_nameOfEntry, Cond.code yX2_nameOfEntry cX2_nameOfEntry 1 (some .int), Cond.methodLink RX2 89 yX2_inodeOfEntry]
def wsX2_hashOfInode_r3 : List Cond := [Cond.static yX2_inodeOfEntry, Cond.code yX2_inodeOfEntry cX2_inodeOfEntry 1 (some .int), Cond.methodLink RX2 218 yX2_meet, Cond.instanceMethod yX2_meet, Cond.selects RX2 yX2_meet yX2_meet, Cond.code yX2_meet cX2_meet 2 (some .boolean), Cond.fieldLink RX2 170 "BlockMover" "inodesMet" "I", Cond.methodLink RX2 175 yX2_hashOfInode, Cond.instanceMethod yX2_hashOfInode, Cond.selects RX2 yX2_hashOfInode yX2_hashOfInode]
def wsX2_hashOfInode : List Cond := .code yX2_hashOfInode cX2_hashOfInode 5 (some .long) :: ((wsX2_hashOfInode_r1 ++ (wsX2_hashOfInode_r2 ++ wsX2_hashOfInode_r3)) ++ wsX20 ++ wsX00)
def wsX2_tree_r1 : List Cond := [Cond.fieldLink RX2 170 "BlockMover" "inodesMet" "I", Cond.constantLong RX2 173 (5), Cond.methodLink RX2 175 yX2_hashOfInode, Cond.instanceMethod yX2_hashOfInode, Cond.selects RX2 yX2_hashOfInode yX2_hashOfInode, Cond.initialized RX2, Cond.code yX2_hashOfInode cX2_hashOfInode 5 (some .long), Cond.methodLink RX2 92 yX2_kindOf, Cond.instanceMethod yX2_kindOf, Cond.selects RX2 yX2_kindOf yX2_kindOf, Cond.code yX2_kindOf cX2_kindOf 2 (some .int), Cond.fieldLink RX2 12 "BlockMover" "disk" "LBlockMover$Disk;", Cond.methodLink RX2 57 yX2_inodeAt, Cond.static yX2_inodeAt, Cond.code yX2_inodeAt cX2_inodeAt 2 (some .int), Cond.methodLink RX2 137 yX0_word, Cond.instanceMethod yX0_word, Cond.selects RX0 yX0_word yX0_word, Cond.initialized RX0, Cond.code yX0_word cX0_word 2 (some .long), Cond.fieldLink RX0 9 "BlockMover$Disk" "words" "[J", Cond.methodLink RX2 221 yX2_hashOfDirectory, Cond.instanceMethod yX2_hashOfDirectory, Cond.selects RX2 yX2_hashOfDirectory yX2_hashOfDirectory]
def wsX2_tree_r2 : List Cond := [Cond.methodLink RX2 224 yX2_hashOfFile, Cond.instanceMethod yX2_hashOfFile, Cond.selects RX2 yX2_hashOfFile yX2_hashOfFile, Cond.code yX2_hashOfFile cX2_hashOfFile 9 (some .long), Cond.constantLong RX2 181 (31), Cond.constantLong RX2 212 (2), Cond.methodLink RX2 73 yX2_sizeOf, Cond.instanceMethod yX2_sizeOf, Cond.selects RX2 yX2_sizeOf yX2_sizeOf, Cond.code yX2_sizeOf cX2_sizeOf 2 (some .int), Cond.methodLink RX2 86 yX2_placeOf, Cond.instanceMethod yX2_placeOf, Cond.selects RX2 yX2_placeOf yX2_placeOf, Cond.code yX2_placeOf cX2_placeOf 3 (some .int), Cond.methodLink RX2 64 yX2_placeAt, Cond.static yX2_placeAt, Cond.code yX2_placeAt cX2_placeAt 2 (some .int), Cond.methodLink RX2 79 yX2_dataAt, Cond.static yX2_dataAt, Cond.code yX2_dataAt cX2_dataAt 2 (some .int), Cond.code yX2_hashOfDirectory cX2_hashOfDirectory 9 (some .long), Cond.constantLong RX2 231 (9), Cond.methodLink RX2 228 yX2_entryBehindName, Cond.instanceMethod yX2_entryBehindName]
def wsX2_tree_r3 : List Cond := [Cond.selects RX2 yX2_entryBehindName yX2_entryBehindName, Cond.code yX2_entryBehindName cX2_entryBehindName 6 (some .int), Cond.methodLink RX2 186 yX2_nameOfEntry, Cond.static yX2_nameOfEntry, Cond.code yX2_nameOfEntry cX2_nameOfEntry 1 (some .int), Cond.methodLink RX2 89 yX2_inodeOfEntry, Cond.static yX2_inodeOfEntry, Cond.code yX2_inodeOfEntry cX2_inodeOfEntry 1 (some .int), Cond.methodLink RX2 218 yX2_meet, Cond.instanceMethod yX2_meet, Cond.selects RX2 yX2_meet yX2_meet, Cond.code yX2_meet cX2_meet 2 (some .boolean)]
def wsX2_tree : List Cond := .code yX2_tree cX2_tree 1 (some .long) :: ((wsX2_tree_r1 ++ (wsX2_tree_r2 ++ wsX2_tree_r3)) ++ wsX20 ++ wsX00)
def wsX2_digest : List Cond := .code yX2_digest cX2_digest 4 (some .long) :: ([.constantLong RX2 179 (3), .constantLong RX2 181 (31), .fieldLink RX2 12 "BlockMover" "disk" "LBlockMover$Disk;", .methodLink RX2 137 yX0_word, .instanceMethod yX0_word, .selects RX0 yX0_word yX0_word, .initialized RX0, .code yX0_word cX0_word 2 (some .long), .fieldLink RX0 9 "BlockMover$Disk" "words" "[J", .methodLink RX2 183 yX2_isDown, .instanceMethod yX2_isDown, .selects RX2 yX2_isDown yX2_isDown, .initialized RX2, .code yX2_isDown cX2_isDown 1 (some .int), .fieldLink RX2 31 "BlockMover$Disk" "down" "Z"] ++ wsX20 ++ wsX00)
def wsX3_init : List Cond := .code yX3_init cX3_init 1 none :: ([.methodLink RX3 1 objectInit, .instanceMethod objectInit, .code objectInit ⟨#[0xb1]⟩ 1 none, .arrayClass .int, .fieldLink RX3 7 "BlockMoverModel" "kind" "[I", .fieldLink RX3 13 "BlockMoverModel" "size" "[I", .fieldLink RX3 16 "BlockMoverModel" "places" "[I", .arrayClass .long, .fieldLink RX3 19 "BlockMoverModel" "words" "[J", .fieldLink RX3 23 "BlockMoverModel" "rec" "[I", .fieldLink RX3 26 "BlockMoverModel" "left" "I", .fieldLink RX3 30 "BlockMoverModel" "open" "[I", .fieldLink RX3 33 "BlockMoverModel" "latestName" "[I"] ++ wsX30)
def wsX3_in : List Cond := .code yX3_in cX3_in 6 (some .boolean) :: ([])
def wsX3_power : List Cond := .code yX3_power cX3_power 1 (some .boolean) :: ([.fieldLink RX3 36 "BlockMoverModel" "down" "Z", .fieldLink RX3 26 "BlockMoverModel" "left" "I", .fieldLink RX3 40 "BlockMoverModel" "writes" "I"] ++ wsX30)
def wsX3_setKind : List Cond := .code yX3_setKind cX3_setKind 3 none :: ([.fieldLink RX3 7 "BlockMoverModel" "kind" "[I", .methodLink RX3 43 yX3_power, .instanceMethod yX3_power, .selects RX3 yX3_power yX3_power, .initialized RX3, .code yX3_power cX3_power 1 (some .boolean), .fieldLink RX3 36 "BlockMoverModel" "down" "Z", .fieldLink RX3 26 "BlockMoverModel" "left" "I", .fieldLink RX3 40 "BlockMoverModel" "writes" "I"] ++ wsX30)
def wsX3_setSize : List Cond := .code yX3_setSize cX3_setSize 3 none :: ([.fieldLink RX3 13 "BlockMoverModel" "size" "[I", .methodLink RX3 43 yX3_power, .instanceMethod yX3_power, .selects RX3 yX3_power yX3_power, .initialized RX3, .code yX3_power cX3_power 1 (some .boolean), .fieldLink RX3 36 "BlockMoverModel" "down" "Z", .fieldLink RX3 26 "BlockMoverModel" "left" "I", .fieldLink RX3 40 "BlockMoverModel" "writes" "I"] ++ wsX30)
def wsX3_setPlace : List Cond := .code yX3_setPlace cX3_setPlace 4 none :: ([.fieldLink RX3 16 "BlockMoverModel" "places" "[I", .methodLink RX3 43 yX3_power, .instanceMethod yX3_power, .selects RX3 yX3_power yX3_power, .initialized RX3, .code yX3_power cX3_power 1 (some .boolean), .fieldLink RX3 36 "BlockMoverModel" "down" "Z", .fieldLink RX3 26 "BlockMoverModel" "left" "I", .fieldLink RX3 40 "BlockMoverModel" "writes" "I"] ++ wsX30)
def wsX3_setData : List Cond := .code yX3_setData cX3_setData 5 none :: ([.fieldLink RX3 19 "BlockMoverModel" "words" "[J", .methodLink RX3 43 yX3_power, .instanceMethod yX3_power, .selects RX3 yX3_power yX3_power, .initialized RX3, .code yX3_power cX3_power 1 (some .boolean), .fieldLink RX3 36 "BlockMoverModel" "down" "Z", .fieldLink RX3 26 "BlockMoverModel" "left" "I", .fieldLink RX3 40 "BlockMoverModel" "writes" "I"] ++ wsX30)
def wsX3_setRecord : List Cond := .code yX3_setRecord cX3_setRecord 3 none :: ([.fieldLink RX3 23 "BlockMoverModel" "rec" "[I", .methodLink RX3 43 yX3_power, .instanceMethod yX3_power, .selects RX3 yX3_power yX3_power, .initialized RX3, .code yX3_power cX3_power 1 (some .boolean), .fieldLink RX3 36 "BlockMoverModel" "down" "Z", .fieldLink RX3 26 "BlockMoverModel" "left" "I", .fieldLink RX3 40 "BlockMoverModel" "writes" "I"] ++ wsX30)
def wsX3_cut : List Cond := .code yX3_cut cX3_cut 3 (some .int) :: ([.constantLong RX3 47 (40), .fieldLink RX3 26 "BlockMoverModel" "left" "I", .methodLink RX3 49 yX3_in, .static yX3_in, .initialized RX3, .code yX3_in cX3_in 6 (some .boolean)] ++ wsX30)
def wsX3_isInode : List Cond := .code yX3_isInode cX3_isInode 3 (some .boolean) :: ([.constantLong RX3 53 (11), .fieldLink RX3 7 "BlockMoverModel" "kind" "[I", .methodLink RX3 49 yX3_in, .static yX3_in, .initialized RX3, .code yX3_in cX3_in 6 (some .boolean)] ++ wsX30)
def wsX3_isName : List Cond := .code yX3_isName cX3_isName 1 (some .boolean) :: ([.constantLong RX3 55 (99), .methodLink RX3 49 yX3_in, .static yX3_in, .initialized RX3, .code yX3_in cX3_in 6 (some .boolean)])
def wsX3_entry : List Cond := .code yX3_entry cX3_entry 4 (some .int) :: ([.fieldLink RX3 16 "BlockMoverModel" "places" "[I"] ++ wsX30)
def wsX3_noEntry : List Cond := .code yX3_noEntry cX3_noEntry 3 (some .int) :: ([.fieldLink RX3 16 "BlockMoverModel" "places" "[I"] ++ wsX30)
def wsX3_isUsed : List Cond := .code yX3_isUsed cX3_isUsed 4 (some .boolean) :: ([.fieldLink RX3 7 "BlockMoverModel" "kind" "[I", .fieldLink RX3 13 "BlockMoverModel" "size" "[I", .fieldLink RX3 16 "BlockMoverModel" "places" "[I"] ++ wsX30)
def wsX3_leastFree : List Cond := .code yX3_leastFree cX3_leastFree 2 (some .int) :: ([.methodLink RX3 57 yX3_isUsed, .instanceMethod yX3_isUsed, .selects RX3 yX3_isUsed yX3_isUsed, .initialized RX3, .code yX3_isUsed cX3_isUsed 4 (some .boolean), .fieldLink RX3 7 "BlockMoverModel" "kind" "[I", .fieldLink RX3 13 "BlockMoverModel" "size" "[I", .fieldLink RX3 16 "BlockMoverModel" "places" "[I"] ++ wsX30)
def wsX3_greatestFree : List Cond := .code yX3_greatestFree cX3_greatestFree 2 (some .int) :: ([.methodLink RX3 57 yX3_isUsed, .instanceMethod yX3_isUsed, .selects RX3 yX3_isUsed yX3_isUsed, .initialized RX3, .code yX3_isUsed cX3_isUsed 4 (some .boolean), .fieldLink RX3 7 "BlockMoverModel" "kind" "[I", .fieldLink RX3 13 "BlockMoverModel" "size" "[I", .fieldLink RX3 16 "BlockMoverModel" "places" "[I"] ++ wsX30)
def wsX3_make_r1 : List Cond := [Cond.constantLong RX3 68 (2), Cond.fieldLink RX3 36 "BlockMoverModel" "down" "Z", Cond.fieldLink RX3 7 "BlockMoverModel" "kind" "[I", Cond.methodLink RX3 61 yX3_isInode, Cond.instanceMethod yX3_isInode, Cond.selects RX3 yX3_isInode yX3_isInode, Cond.initialized RX3, Cond.code yX3_isInode cX3_isInode 3 (some .boolean), Cond.constantLong RX3 53 (11), Cond.methodLink RX3 49 yX3_in, Cond.static yX3_in, Cond.code yX3_in cX3_in 6 (some .boolean), Cond.methodLink RX3 65 yX3_isName, Cond.static yX3_isName, Cond.code yX3_isName cX3_isName 1 (some .boolean), Cond.constantLong RX3 55 (99), Cond.methodLink RX3 70 yX3_entry, Cond.instanceMethod yX3_entry, Cond.selects RX3 yX3_entry yX3_entry, Cond.code yX3_entry cX3_entry 4 (some .int), Cond.fieldLink RX3 16 "BlockMoverModel" "places" "[I", Cond.methodLink RX3 74 yX3_noEntry, Cond.instanceMethod yX3_noEntry, Cond.selects RX3 yX3_noEntry yX3_noEntry]
def wsX3_make_r2 : List Cond := [Cond.code yX3_noEntry cX3_noEntry 3 (some .int), Cond.methodLink RX3 78 yX3_setSize, Cond.instanceMethod yX3_setSize, Cond.selects RX3 yX3_setSize yX3_setSize, Cond.code yX3_setSize cX3_setSize 3 none, Cond.fieldLink RX3 13 "BlockMoverModel" "size" "[I", Cond.methodLink RX3 43 yX3_power, Cond.instanceMethod yX3_power, Cond.selects RX3 yX3_power yX3_power, Cond.code yX3_power cX3_power 1 (some .boolean), Cond.fieldLink RX3 26 "BlockMoverModel" "left" "I", Cond.fieldLink RX3 40 "BlockMoverModel" "writes" "I", Cond.methodLink RX3 82 yX3_setPlace, Cond.instanceMethod yX3_setPlace, Cond.selects RX3 yX3_setPlace yX3_setPlace, Cond.code yX3_setPlace cX3_setPlace 4 none, Cond.methodLink RX3 86 yX3_setKind, Cond.instanceMethod yX3_setKind, Cond.selects RX3 yX3_setKind yX3_setKind, Cond.code yX3_setKind cX3_setKind 3 none]
def wsX3_make : List Cond := .code yX3_make cX3_make 7 (some .int) :: ((wsX3_make_r1 ++ wsX3_make_r2) ++ wsX30)
def wsX3_append_r1 : List Cond := [Cond.fieldLink RX3 36 "BlockMoverModel" "down" "Z", Cond.fieldLink RX3 13 "BlockMoverModel" "size" "[I", Cond.methodLink RX3 61 yX3_isInode, Cond.instanceMethod yX3_isInode, Cond.selects RX3 yX3_isInode yX3_isInode, Cond.initialized RX3, Cond.code yX3_isInode cX3_isInode 3 (some .boolean), Cond.constantLong RX3 53 (11), Cond.fieldLink RX3 7 "BlockMoverModel" "kind" "[I", Cond.methodLink RX3 49 yX3_in, Cond.static yX3_in, Cond.code yX3_in cX3_in 6 (some .boolean), Cond.methodLink RX3 89 yX3_leastFree, Cond.instanceMethod yX3_leastFree, Cond.selects RX3 yX3_leastFree yX3_leastFree, Cond.code yX3_leastFree cX3_leastFree 2 (some .int), Cond.methodLink RX3 57 yX3_isUsed, Cond.instanceMethod yX3_isUsed, Cond.selects RX3 yX3_isUsed yX3_isUsed, Cond.code yX3_isUsed cX3_isUsed 4 (some .boolean), Cond.fieldLink RX3 16 "BlockMoverModel" "places" "[I", Cond.methodLink RX3 93 yX3_setData, Cond.instanceMethod yX3_setData, Cond.selects RX3 yX3_setData yX3_setData]
def wsX3_append_r2 : List Cond := [Cond.code yX3_setData cX3_setData 5 none, Cond.fieldLink RX3 19 "BlockMoverModel" "words" "[J", Cond.methodLink RX3 43 yX3_power, Cond.instanceMethod yX3_power, Cond.selects RX3 yX3_power yX3_power, Cond.code yX3_power cX3_power 1 (some .boolean), Cond.fieldLink RX3 26 "BlockMoverModel" "left" "I", Cond.fieldLink RX3 40 "BlockMoverModel" "writes" "I", Cond.methodLink RX3 82 yX3_setPlace, Cond.instanceMethod yX3_setPlace, Cond.selects RX3 yX3_setPlace yX3_setPlace, Cond.code yX3_setPlace cX3_setPlace 4 none, Cond.methodLink RX3 78 yX3_setSize, Cond.instanceMethod yX3_setSize, Cond.selects RX3 yX3_setSize yX3_setSize, Cond.code yX3_setSize cX3_setSize 3 none]
def wsX3_append : List Cond := .code yX3_append cX3_append 9 (some .int) :: ((wsX3_append_r1 ++ wsX3_append_r2) ++ wsX30)
def wsX3_put_r1 : List Cond := [Cond.fieldLink RX3 13 "BlockMoverModel" "size" "[I", Cond.constantLong RX3 68 (2), Cond.fieldLink RX3 36 "BlockMoverModel" "down" "Z", Cond.fieldLink RX3 16 "BlockMoverModel" "places" "[I", Cond.methodLink RX3 61 yX3_isInode, Cond.instanceMethod yX3_isInode, Cond.selects RX3 yX3_isInode yX3_isInode, Cond.initialized RX3, Cond.code yX3_isInode cX3_isInode 3 (some .boolean), Cond.constantLong RX3 53 (11), Cond.fieldLink RX3 7 "BlockMoverModel" "kind" "[I", Cond.methodLink RX3 49 yX3_in, Cond.static yX3_in, Cond.code yX3_in cX3_in 6 (some .boolean), Cond.methodLink RX3 93 yX3_setData, Cond.instanceMethod yX3_setData, Cond.selects RX3 yX3_setData yX3_setData, Cond.code yX3_setData cX3_setData 5 none, Cond.fieldLink RX3 19 "BlockMoverModel" "words" "[J", Cond.methodLink RX3 43 yX3_power, Cond.instanceMethod yX3_power, Cond.selects RX3 yX3_power yX3_power, Cond.code yX3_power cX3_power 1 (some .boolean), Cond.fieldLink RX3 26 "BlockMoverModel" "left" "I"]
def wsX3_put_r2 : List Cond := [Cond.fieldLink RX3 40 "BlockMoverModel" "writes" "I"]
def wsX3_put : List Cond := .code yX3_put cX3_put 6 (some .int) :: ((wsX3_put_r1 ++ wsX3_put_r2) ++ wsX30)
def wsX3_hasEntries : List Cond := .code yX3_hasEntries cX3_hasEntries 3 (some .boolean) :: ([.fieldLink RX3 16 "BlockMoverModel" "places" "[I"] ++ wsX30)
def wsX3_remove_r1 : List Cond := [Cond.fieldLink RX3 36 "BlockMoverModel" "down" "Z", Cond.fieldLink RX3 16 "BlockMoverModel" "places" "[I", Cond.fieldLink RX3 7 "BlockMoverModel" "kind" "[I", Cond.methodLink RX3 61 yX3_isInode, Cond.instanceMethod yX3_isInode, Cond.selects RX3 yX3_isInode yX3_isInode, Cond.initialized RX3, Cond.code yX3_isInode cX3_isInode 3 (some .boolean), Cond.constantLong RX3 53 (11), Cond.methodLink RX3 49 yX3_in, Cond.static yX3_in, Cond.code yX3_in cX3_in 6 (some .boolean), Cond.methodLink RX3 65 yX3_isName, Cond.static yX3_isName, Cond.code yX3_isName cX3_isName 1 (some .boolean), Cond.constantLong RX3 55 (99), Cond.methodLink RX3 70 yX3_entry, Cond.instanceMethod yX3_entry, Cond.selects RX3 yX3_entry yX3_entry, Cond.code yX3_entry cX3_entry 4 (some .int), Cond.methodLink RX3 97 yX3_hasEntries, Cond.instanceMethod yX3_hasEntries, Cond.selects RX3 yX3_hasEntries yX3_hasEntries, Cond.code yX3_hasEntries cX3_hasEntries 3 (some .boolean)]
def wsX3_remove_r2 : List Cond := [Cond.methodLink RX3 82 yX3_setPlace, Cond.instanceMethod yX3_setPlace, Cond.selects RX3 yX3_setPlace yX3_setPlace, Cond.code yX3_setPlace cX3_setPlace 4 none, Cond.methodLink RX3 43 yX3_power, Cond.instanceMethod yX3_power, Cond.selects RX3 yX3_power yX3_power, Cond.code yX3_power cX3_power 1 (some .boolean), Cond.fieldLink RX3 26 "BlockMoverModel" "left" "I", Cond.fieldLink RX3 40 "BlockMoverModel" "writes" "I", Cond.methodLink RX3 86 yX3_setKind, Cond.instanceMethod yX3_setKind, Cond.selects RX3 yX3_setKind yX3_setKind, Cond.code yX3_setKind cX3_setKind 3 none]
def wsX3_remove : List Cond := .code yX3_remove cX3_remove 5 (some .int) :: ((wsX3_remove_r1 ++ wsX3_remove_r2) ++ wsX30)
def wsX3_isWithin : List Cond := .code yX3_isWithin cX3_isWithin 8 (some .boolean) :: ([.fieldLink RX3 7 "BlockMoverModel" "kind" "[I", .fieldLink RX3 16 "BlockMoverModel" "places" "[I"] ++ wsX30)
def wsX3_rename_r1 : List Cond := [Cond.fieldLink RX3 36 "BlockMoverModel" "down" "Z", Cond.fieldLink RX3 16 "BlockMoverModel" "places" "[I", Cond.fieldLink RX3 7 "BlockMoverModel" "kind" "[I", Cond.methodLink RX3 61 yX3_isInode, Cond.instanceMethod yX3_isInode, Cond.selects RX3 yX3_isInode yX3_isInode, Cond.initialized RX3, Cond.code yX3_isInode cX3_isInode 3 (some .boolean), Cond.constantLong RX3 53 (11), Cond.methodLink RX3 49 yX3_in, Cond.static yX3_in, Cond.code yX3_in cX3_in 6 (some .boolean), Cond.methodLink RX3 65 yX3_isName, Cond.static yX3_isName, Cond.code yX3_isName cX3_isName 1 (some .boolean), Cond.constantLong RX3 55 (99), Cond.methodLink RX3 70 yX3_entry, Cond.instanceMethod yX3_entry, Cond.selects RX3 yX3_entry yX3_entry, Cond.code yX3_entry cX3_entry 4 (some .int), Cond.methodLink RX3 74 yX3_noEntry, Cond.instanceMethod yX3_noEntry, Cond.selects RX3 yX3_noEntry yX3_noEntry, Cond.code yX3_noEntry cX3_noEntry 3 (some .int)]
def wsX3_rename_r2 : List Cond := [Cond.methodLink RX3 100 yX3_isWithin, Cond.instanceMethod yX3_isWithin, Cond.selects RX3 yX3_isWithin yX3_isWithin, Cond.code yX3_isWithin cX3_isWithin 8 (some .boolean), Cond.methodLink RX3 82 yX3_setPlace, Cond.instanceMethod yX3_setPlace, Cond.selects RX3 yX3_setPlace yX3_setPlace, Cond.code yX3_setPlace cX3_setPlace 4 none, Cond.methodLink RX3 43 yX3_power, Cond.instanceMethod yX3_power, Cond.selects RX3 yX3_power yX3_power, Cond.code yX3_power cX3_power 1 (some .boolean), Cond.fieldLink RX3 26 "BlockMoverModel" "left" "I", Cond.fieldLink RX3 40 "BlockMoverModel" "writes" "I"]
def wsX3_rename : List Cond := .code yX3_rename cX3_rename 8 (some .int) :: ((wsX3_rename_r1 ++ wsX3_rename_r2) ++ wsX30)
def wsX3_lookAt : List Cond := .code yX3_lookAt cX3_lookAt 6 (some .int) :: ([.fieldLink RX3 107 "BlockMoverModel" "planInode" "I", .fieldLink RX3 110 "BlockMoverModel" "planPlace" "I", .fieldLink RX3 113 "BlockMoverModel" "planTo" "I", .fieldLink RX3 7 "BlockMoverModel" "kind" "[I", .fieldLink RX3 13 "BlockMoverModel" "size" "[I", .fieldLink RX3 16 "BlockMoverModel" "places" "[I", .fieldLink RX3 119 "BlockMoverModel" "planFrom" "I", .methodLink RX3 57 yX3_isUsed, .instanceMethod yX3_isUsed, .selects RX3 yX3_isUsed yX3_isUsed, .initialized RX3, .code yX3_isUsed cX3_isUsed 4 (some .boolean), .methodLink RX3 116 yX3_greatestFree, .instanceMethod yX3_greatestFree, .selects RX3 yX3_greatestFree yX3_greatestFree, .code yX3_greatestFree cX3_greatestFree 2 (some .int)] ++ wsX30)
def wsX3_look : List Cond := .code yX3_look cX3_look 4 (some .int) :: ([.fieldLink RX3 7 "BlockMoverModel" "kind" "[I", .fieldLink RX3 13 "BlockMoverModel" "size" "[I", .fieldLink RX3 16 "BlockMoverModel" "places" "[I", .methodLink RX3 103 yX3_lookAt, .instanceMethod yX3_lookAt, .selects RX3 yX3_lookAt yX3_lookAt, .initialized RX3, .code yX3_lookAt cX3_lookAt 6 (some .int), .fieldLink RX3 107 "BlockMoverModel" "planInode" "I", .fieldLink RX3 110 "BlockMoverModel" "planPlace" "I", .fieldLink RX3 113 "BlockMoverModel" "planTo" "I", .fieldLink RX3 119 "BlockMoverModel" "planFrom" "I", .methodLink RX3 57 yX3_isUsed, .instanceMethod yX3_isUsed, .selects RX3 yX3_isUsed yX3_isUsed, .code yX3_isUsed cX3_isUsed 4 (some .boolean), .methodLink RX3 116 yX3_greatestFree, .instanceMethod yX3_greatestFree, .selects RX3 yX3_greatestFree yX3_greatestFree, .code yX3_greatestFree cX3_greatestFree 2 (some .int)] ++ wsX30)
def wsX3_move_r1 : List Cond := [Cond.fieldLink RX3 107 "BlockMoverModel" "planInode" "I", Cond.fieldLink RX3 23 "BlockMoverModel" "rec" "[I", Cond.fieldLink RX3 110 "BlockMoverModel" "planPlace" "I", Cond.fieldLink RX3 113 "BlockMoverModel" "planTo" "I", Cond.fieldLink RX3 16 "BlockMoverModel" "places" "[I", Cond.fieldLink RX3 19 "BlockMoverModel" "words" "[J", Cond.fieldLink RX3 125 "BlockMoverModel" "moves" "I", Cond.fieldLink RX3 36 "BlockMoverModel" "down" "Z", Cond.methodLink RX3 122 yX3_setRecord, Cond.instanceMethod yX3_setRecord, Cond.selects RX3 yX3_setRecord yX3_setRecord, Cond.initialized RX3, Cond.code yX3_setRecord cX3_setRecord 3 none, Cond.methodLink RX3 43 yX3_power, Cond.instanceMethod yX3_power, Cond.selects RX3 yX3_power yX3_power, Cond.code yX3_power cX3_power 1 (some .boolean), Cond.fieldLink RX3 26 "BlockMoverModel" "left" "I", Cond.fieldLink RX3 40 "BlockMoverModel" "writes" "I", Cond.methodLink RX3 93 yX3_setData, Cond.instanceMethod yX3_setData, Cond.selects RX3 yX3_setData yX3_setData, Cond.code yX3_setData cX3_setData 5 none, Cond.methodLink RX3 82 yX3_setPlace]
def wsX3_move_r2 : List Cond := [Cond.instanceMethod yX3_setPlace, Cond.selects RX3 yX3_setPlace yX3_setPlace, Cond.code yX3_setPlace cX3_setPlace 4 none]
def wsX3_move : List Cond := .code yX3_move cX3_move 7 none :: ((wsX3_move_r1 ++ wsX3_move_r2) ++ wsX30)
def wsX3_step_r1 : List Cond := [Cond.fieldLink RX3 36 "BlockMoverModel" "down" "Z", Cond.methodLink RX3 128 yX3_look, Cond.instanceMethod yX3_look, Cond.selects RX3 yX3_look yX3_look, Cond.initialized RX3, Cond.code yX3_look cX3_look 4 (some .int), Cond.fieldLink RX3 7 "BlockMoverModel" "kind" "[I", Cond.fieldLink RX3 13 "BlockMoverModel" "size" "[I", Cond.fieldLink RX3 16 "BlockMoverModel" "places" "[I", Cond.methodLink RX3 103 yX3_lookAt, Cond.instanceMethod yX3_lookAt, Cond.selects RX3 yX3_lookAt yX3_lookAt, Cond.code yX3_lookAt cX3_lookAt 6 (some .int), Cond.fieldLink RX3 107 "BlockMoverModel" "planInode" "I", Cond.fieldLink RX3 110 "BlockMoverModel" "planPlace" "I", Cond.fieldLink RX3 113 "BlockMoverModel" "planTo" "I", Cond.fieldLink RX3 119 "BlockMoverModel" "planFrom" "I", Cond.methodLink RX3 57 yX3_isUsed, Cond.instanceMethod yX3_isUsed, Cond.selects RX3 yX3_isUsed yX3_isUsed, Cond.code yX3_isUsed cX3_isUsed 4 (some .boolean), Cond.methodLink RX3 116 yX3_greatestFree, Cond.instanceMethod yX3_greatestFree, Cond.selects RX3 yX3_greatestFree yX3_greatestFree]
def wsX3_step_r2 : List Cond := [Cond.code yX3_greatestFree cX3_greatestFree 2 (some .int), Cond.methodLink RX3 131 yX3_move, Cond.instanceMethod yX3_move, Cond.selects RX3 yX3_move yX3_move, Cond.code yX3_move cX3_move 7 none, Cond.fieldLink RX3 23 "BlockMoverModel" "rec" "[I", Cond.fieldLink RX3 19 "BlockMoverModel" "words" "[J", Cond.fieldLink RX3 125 "BlockMoverModel" "moves" "I", Cond.methodLink RX3 122 yX3_setRecord, Cond.instanceMethod yX3_setRecord, Cond.selects RX3 yX3_setRecord yX3_setRecord, Cond.code yX3_setRecord cX3_setRecord 3 none, Cond.methodLink RX3 43 yX3_power, Cond.instanceMethod yX3_power, Cond.selects RX3 yX3_power yX3_power, Cond.code yX3_power cX3_power 1 (some .boolean), Cond.fieldLink RX3 26 "BlockMoverModel" "left" "I", Cond.fieldLink RX3 40 "BlockMoverModel" "writes" "I", Cond.methodLink RX3 93 yX3_setData, Cond.instanceMethod yX3_setData, Cond.selects RX3 yX3_setData yX3_setData, Cond.code yX3_setData cX3_setData 5 none, Cond.methodLink RX3 82 yX3_setPlace, Cond.instanceMethod yX3_setPlace]
def wsX3_step_r3 : List Cond := [Cond.selects RX3 yX3_setPlace yX3_setPlace, Cond.code yX3_setPlace cX3_setPlace 4 none]
def wsX3_step : List Cond := .code yX3_step cX3_step 2 (some .int) :: ((wsX3_step_r1 ++ (wsX3_step_r2 ++ wsX3_step_r3)) ++ wsX30)
def wsX3_stands : List Cond := .code yX3_stands cX3_stands 4 (some .boolean) :: ([.fieldLink RX3 7 "BlockMoverModel" "kind" "[I", .fieldLink RX3 16 "BlockMoverModel" "places" "[I"] ++ wsX30)
def wsX3_restart_r1 : List Cond := [Cond.fieldLink RX3 40 "BlockMoverModel" "writes" "I", Cond.fieldLink RX3 36 "BlockMoverModel" "down" "Z", Cond.fieldLink RX3 23 "BlockMoverModel" "rec" "[I", Cond.fieldLink RX3 7 "BlockMoverModel" "kind" "[I", Cond.fieldLink RX3 16 "BlockMoverModel" "places" "[I", Cond.methodLink RX3 131 yX3_move, Cond.instanceMethod yX3_move, Cond.selects RX3 yX3_move yX3_move, Cond.initialized RX3, Cond.code yX3_move cX3_move 7 none, Cond.fieldLink RX3 107 "BlockMoverModel" "planInode" "I", Cond.fieldLink RX3 110 "BlockMoverModel" "planPlace" "I", Cond.fieldLink RX3 113 "BlockMoverModel" "planTo" "I", Cond.fieldLink RX3 19 "BlockMoverModel" "words" "[J", Cond.fieldLink RX3 125 "BlockMoverModel" "moves" "I", Cond.methodLink RX3 122 yX3_setRecord, Cond.instanceMethod yX3_setRecord, Cond.selects RX3 yX3_setRecord yX3_setRecord, Cond.code yX3_setRecord cX3_setRecord 3 none, Cond.methodLink RX3 43 yX3_power, Cond.instanceMethod yX3_power, Cond.selects RX3 yX3_power yX3_power, Cond.code yX3_power cX3_power 1 (some .boolean), Cond.fieldLink RX3 26 "BlockMoverModel" "left" "I"]
def wsX3_restart_r2 : List Cond := [Cond.methodLink RX3 93 yX3_setData, Cond.instanceMethod yX3_setData, Cond.selects RX3 yX3_setData yX3_setData, Cond.code yX3_setData cX3_setData 5 none, Cond.methodLink RX3 82 yX3_setPlace, Cond.instanceMethod yX3_setPlace, Cond.selects RX3 yX3_setPlace yX3_setPlace, Cond.code yX3_setPlace cX3_setPlace 4 none, Cond.methodLink RX3 135 yX3_stands, Cond.instanceMethod yX3_stands, Cond.selects RX3 yX3_stands yX3_stands, Cond.code yX3_stands cX3_stands 4 (some .boolean), Cond.methodLink RX3 86 yX3_setKind, Cond.instanceMethod yX3_setKind, Cond.selects RX3 yX3_setKind yX3_setKind, Cond.code yX3_setKind cX3_setKind 3 none]
def wsX3_restart : List Cond := .code yX3_restart cX3_restart 4 (some .int) :: ((wsX3_restart_r1 ++ wsX3_restart_r2) ++ wsX30)
def wsX3_isDown : List Cond := .code yX3_isDown cX3_isDown 1 (some .int) :: ([.fieldLink RX3 36 "BlockMoverModel" "down" "Z"] ++ wsX30)
def wsX3_find : List Cond := .code yX3_find cX3_find 4 (some .int) :: ([.fieldLink RX3 16 "BlockMoverModel" "places" "[I", .methodLink RX3 61 yX3_isInode, .instanceMethod yX3_isInode, .selects RX3 yX3_isInode yX3_isInode, .initialized RX3, .code yX3_isInode cX3_isInode 3 (some .boolean), .constantLong RX3 53 (11), .fieldLink RX3 7 "BlockMoverModel" "kind" "[I", .methodLink RX3 49 yX3_in, .static yX3_in, .code yX3_in cX3_in 6 (some .boolean), .methodLink RX3 65 yX3_isName, .static yX3_isName, .code yX3_isName cX3_isName 1 (some .boolean), .constantLong RX3 55 (99), .methodLink RX3 70 yX3_entry, .instanceMethod yX3_entry, .selects RX3 yX3_entry yX3_entry, .code yX3_entry cX3_entry 4 (some .int)] ++ wsX30)
def wsX3_inodeOf : List Cond := .code yX3_inodeOf cX3_inodeOf 3 (some .int) :: ([.fieldLink RX3 7 "BlockMoverModel" "kind" "[I", .fieldLink RX3 13 "BlockMoverModel" "size" "[I", .fieldLink RX3 16 "BlockMoverModel" "places" "[I"] ++ wsX30)
def wsX3_inode : List Cond := .code yX3_inode cX3_inode 3 (some .int) :: ([.constantLong RX3 53 (11), .constantLong RX3 138 (9), .methodLink RX3 49 yX3_in, .static yX3_in, .initialized RX3, .code yX3_in cX3_in 6 (some .boolean), .methodLink RX3 140 yX3_inodeOf, .instanceMethod yX3_inodeOf, .selects RX3 yX3_inodeOf yX3_inodeOf, .code yX3_inodeOf cX3_inodeOf 3 (some .int), .fieldLink RX3 7 "BlockMoverModel" "kind" "[I", .fieldLink RX3 13 "BlockMoverModel" "size" "[I", .fieldLink RX3 16 "BlockMoverModel" "places" "[I"] ++ wsX30)
def wsX3_data : List Cond := .code yX3_data cX3_data 3 (some .int) :: ([.constantLong RX3 143 (39), .constantLong RX3 68 (2), .fieldLink RX3 19 "BlockMoverModel" "words" "[J", .fieldLink RX3 145 "BlockMoverModel" "latest" "J", .methodLink RX3 49 yX3_in, .static yX3_in, .initialized RX3, .code yX3_in cX3_in 6 (some .boolean)] ++ wsX30)
def wsX3_read : List Cond := .code yX3_read cX3_read 4 (some .int) :: ([.fieldLink RX3 13 "BlockMoverModel" "size" "[I", .constantLong RX3 68 (2), .fieldLink RX3 19 "BlockMoverModel" "words" "[J", .fieldLink RX3 16 "BlockMoverModel" "places" "[I", .fieldLink RX3 145 "BlockMoverModel" "latest" "J", .methodLink RX3 61 yX3_isInode, .instanceMethod yX3_isInode, .selects RX3 yX3_isInode yX3_isInode, .initialized RX3, .code yX3_isInode cX3_isInode 3 (some .boolean), .constantLong RX3 53 (11), .fieldLink RX3 7 "BlockMoverModel" "kind" "[I", .methodLink RX3 49 yX3_in, .static yX3_in, .code yX3_in cX3_in 6 (some .boolean)] ++ wsX30)
def wsX3_asked : List Cond := .code yX3_asked cX3_asked 1 (some .long) :: ([.fieldLink RX3 145 "BlockMoverModel" "latest" "J"] ++ wsX30)
def wsX3_record : List Cond := .code yX3_record cX3_record 2 (some .int) :: ([.constantLong RX3 149 (3), .fieldLink RX3 23 "BlockMoverModel" "rec" "[I", .methodLink RX3 49 yX3_in, .static yX3_in, .initialized RX3, .code yX3_in cX3_in 6 (some .boolean)] ++ wsX30)
def wsX3_plan_r1 : List Cond := [Cond.constantLong RX3 149 (3), Cond.fieldLink RX3 119 "BlockMoverModel" "planFrom" "I", Cond.fieldLink RX3 113 "BlockMoverModel" "planTo" "I", Cond.fieldLink RX3 107 "BlockMoverModel" "planInode" "I", Cond.fieldLink RX3 110 "BlockMoverModel" "planPlace" "I", Cond.methodLink RX3 49 yX3_in, Cond.static yX3_in, Cond.initialized RX3, Cond.code yX3_in cX3_in 6 (some .boolean), Cond.methodLink RX3 128 yX3_look, Cond.instanceMethod yX3_look, Cond.selects RX3 yX3_look yX3_look, Cond.code yX3_look cX3_look 4 (some .int), Cond.fieldLink RX3 7 "BlockMoverModel" "kind" "[I", Cond.fieldLink RX3 13 "BlockMoverModel" "size" "[I", Cond.fieldLink RX3 16 "BlockMoverModel" "places" "[I", Cond.methodLink RX3 103 yX3_lookAt, Cond.instanceMethod yX3_lookAt, Cond.selects RX3 yX3_lookAt yX3_lookAt, Cond.code yX3_lookAt cX3_lookAt 6 (some .int), Cond.methodLink RX3 57 yX3_isUsed, Cond.instanceMethod yX3_isUsed, Cond.selects RX3 yX3_isUsed yX3_isUsed, Cond.code yX3_isUsed cX3_isUsed 4 (some .boolean)]
def wsX3_plan_r2 : List Cond := [Cond.methodLink RX3 116 yX3_greatestFree, Cond.instanceMethod yX3_greatestFree, Cond.selects RX3 yX3_greatestFree yX3_greatestFree, Cond.code yX3_greatestFree cX3_greatestFree 2 (some .int)]
def wsX3_plan : List Cond := .code yX3_plan cX3_plan 3 (some .int) :: ((wsX3_plan_r1 ++ wsX3_plan_r2) ++ wsX30)
def wsX3_runs : List Cond := .code yX3_runs cX3_runs 4 (some .int) :: ([.fieldLink RX3 13 "BlockMoverModel" "size" "[I", .fieldLink RX3 16 "BlockMoverModel" "places" "[I", .methodLink RX3 61 yX3_isInode, .instanceMethod yX3_isInode, .selects RX3 yX3_isInode yX3_isInode, .initialized RX3, .code yX3_isInode cX3_isInode 3 (some .boolean), .constantLong RX3 53 (11), .fieldLink RX3 7 "BlockMoverModel" "kind" "[I", .methodLink RX3 49 yX3_in, .static yX3_in, .code yX3_in cX3_in 6 (some .boolean)] ++ wsX30)
def wsX3_count : List Cond := .code yX3_count cX3_count 6 (some .int) :: ([.fieldLink RX3 7 "BlockMoverModel" "kind" "[I", .fieldLink RX3 40 "BlockMoverModel" "writes" "I", .fieldLink RX3 125 "BlockMoverModel" "moves" "I", .fieldLink RX3 13 "BlockMoverModel" "size" "[I", .fieldLink RX3 16 "BlockMoverModel" "places" "[I", .methodLink RX3 57 yX3_isUsed, .instanceMethod yX3_isUsed, .selects RX3 yX3_isUsed yX3_isUsed, .initialized RX3, .code yX3_isUsed cX3_isUsed 4 (some .boolean)] ++ wsX30)
def wsX3_nextEntry : List Cond := .code yX3_nextEntry cX3_nextEntry 7 (some .int) :: ([.fieldLink RX3 16 "BlockMoverModel" "places" "[I"] ++ wsX30)
def wsX3_tree : List Cond := .code yX3_tree cX3_tree 10 (some .long) :: ([.constantLong RX3 151 (156), .fieldLink RX3 30 "BlockMoverModel" "open" "[I", .fieldLink RX3 33 "BlockMoverModel" "latestName" "[I", .constantLong RX3 156 (31), .constantLong RX3 138 (9), .fieldLink RX3 16 "BlockMoverModel" "places" "[I", .fieldLink RX3 7 "BlockMoverModel" "kind" "[I", .constantLong RX3 68 (2), .fieldLink RX3 13 "BlockMoverModel" "size" "[I", .fieldLink RX3 19 "BlockMoverModel" "words" "[J", .methodLink RX3 153 yX3_nextEntry, .instanceMethod yX3_nextEntry, .selects RX3 yX3_nextEntry yX3_nextEntry, .initialized RX3, .code yX3_nextEntry cX3_nextEntry 7 (some .int)] ++ wsX30)
def wsX3_digest : List Cond := .code yX3_digest cX3_digest 5 (some .long) :: ([.constantLong RX3 149 (3), .constantLong RX3 156 (31), .fieldLink RX3 19 "BlockMoverModel" "words" "[J", .fieldLink RX3 23 "BlockMoverModel" "rec" "[I", .methodLink RX3 140 yX3_inodeOf, .instanceMethod yX3_inodeOf, .selects RX3 yX3_inodeOf yX3_inodeOf, .initialized RX3, .code yX3_inodeOf cX3_inodeOf 3 (some .int), .fieldLink RX3 7 "BlockMoverModel" "kind" "[I", .fieldLink RX3 13 "BlockMoverModel" "size" "[I", .fieldLink RX3 16 "BlockMoverModel" "places" "[I", .methodLink RX3 158 yX3_isDown, .instanceMethod yX3_isDown, .selects RX3 yX3_isDown yX3_isDown, .code yX3_isDown cX3_isDown 1 (some .int), .fieldLink RX3 36 "BlockMoverModel" "down" "Z"] ++ wsX30)
def wsL_law_r1 : List Cond := [Cond.classLink RL 7 RX2, Cond.instantiable RX2 5, Cond.initialized RX2, Cond.classLink RL 10 RX3, Cond.instantiable RX3 16, Cond.initialized RX3, Cond.constantLong RL 23 (4294967295), Cond.methodLink RL 9 yX2_init, Cond.instanceMethod yX2_init, Cond.code yX2_init cX2_init 1 none, Cond.methodLink RX2 3 objectInit, Cond.instanceMethod objectInit, Cond.code objectInit ⟨#[0xb1]⟩ 1 none, Cond.classLink RX2 9 RX0, Cond.instantiable RX0 5, Cond.initialized RX0, Cond.fieldLink RX2 12 "BlockMover" "disk" "LBlockMover$Disk;", Cond.classLink RX2 16 RX1, Cond.instantiable RX1 3, Cond.initialized RX1, Cond.fieldLink RX2 19 "BlockMover" "next" "LBlockMover$Plan;", Cond.methodLink RX2 11 yX0_init, Cond.instanceMethod yX0_init, Cond.code yX0_init cX0_init 1 none]
def wsL_law_r2 : List Cond := [Cond.methodLink RX0 3 objectInit, Cond.arrayClass .long, Cond.fieldLink RX0 9 "BlockMover$Disk" "words" "[J", Cond.fieldLink RX0 15 "BlockMover$Disk" "left" "I", Cond.instanceMethod yX1_init, Cond.code yX1_init cX1_init 1 none, Cond.methodLink RX1 1 objectInit, Cond.methodLink RL 12 yX3_init, Cond.instanceMethod yX3_init, Cond.code yX3_init cX3_init 1 none, Cond.methodLink RX3 1 objectInit, Cond.arrayClass .int, Cond.fieldLink RX3 7 "BlockMoverModel" "kind" "[I", Cond.fieldLink RX3 13 "BlockMoverModel" "size" "[I", Cond.fieldLink RX3 16 "BlockMoverModel" "places" "[I", Cond.fieldLink RX3 19 "BlockMoverModel" "words" "[J", Cond.fieldLink RX3 23 "BlockMoverModel" "rec" "[I", Cond.fieldLink RX3 26 "BlockMoverModel" "left" "I", Cond.fieldLink RX3 30 "BlockMoverModel" "open" "[I", Cond.fieldLink RX3 33 "BlockMoverModel" "latestName" "[I", Cond.methodLink RL 13 yX2_cut, Cond.instanceMethod yX2_cut, Cond.selects RX2 yX2_cut yX2_cut, Cond.code yX2_cut cX2_cut 3 (some .int)]
def wsL_law_r3 : List Cond := [Cond.fieldLink RX2 27 "BlockMover$Disk" "left" "I", Cond.methodLink RX2 23 yX2_isBelow, Cond.static yX2_isBelow, Cond.code yX2_isBelow cX2_isBelow 2 (some .boolean), Cond.methodLink RL 17 yX3_cut, Cond.instanceMethod yX3_cut, Cond.selects RX3 yX3_cut yX3_cut, Cond.code yX3_cut cX3_cut 3 (some .int), Cond.constantLong RX3 47 (40), Cond.methodLink RX3 49 yX3_in, Cond.static yX3_in, Cond.code yX3_in cX3_in 6 (some .boolean), Cond.methodLink RL 18 yX2_make, Cond.instanceMethod yX2_make, Cond.selects RX2 yX2_make yX2_make, Cond.code yX2_make cX2_make 7 (some .int), Cond.fieldLink RX2 31 "BlockMover$Disk" "down" "Z", Cond.methodLink RX2 35 yX2_isOfKind, Cond.instanceMethod yX2_isOfKind, Cond.selects RX2 yX2_isOfKind yX2_isOfKind, Cond.code yX2_isOfKind cX2_isOfKind 3 (some .boolean), Cond.methodLink RX2 92 yX2_kindOf, Cond.instanceMethod yX2_kindOf, Cond.selects RX2 yX2_kindOf yX2_kindOf]
def wsL_law_r4 : List Cond := [Cond.code yX2_kindOf cX2_kindOf 2 (some .int), Cond.methodLink RX2 57 yX2_inodeAt, Cond.static yX2_inodeAt, Cond.code yX2_inodeAt cX2_inodeAt 2 (some .int), Cond.methodLink RX2 137 yX0_word, Cond.instanceMethod yX0_word, Cond.selects RX0 yX0_word yX0_word, Cond.code yX0_word cX0_word 2 (some .long), Cond.methodLink RX2 38 yX2_isName, Cond.static yX2_isName, Cond.code yX2_isName cX2_isName 1 (some .boolean), Cond.methodLink RX2 42 yX2_placeOfName, Cond.instanceMethod yX2_placeOfName, Cond.selects RX2 yX2_placeOfName yX2_placeOfName, Cond.code yX2_placeOfName cX2_placeOfName 4 (some .int), Cond.methodLink RX2 86 yX2_placeOf, Cond.instanceMethod yX2_placeOf, Cond.selects RX2 yX2_placeOf yX2_placeOf, Cond.code yX2_placeOf cX2_placeOf 3 (some .int), Cond.methodLink RX2 64 yX2_placeAt, Cond.static yX2_placeAt, Cond.code yX2_placeAt cX2_placeAt 2 (some .int), Cond.methodLink RX2 186 yX2_nameOfEntry, Cond.static yX2_nameOfEntry]
def wsL_law_r5 : List Cond := [Cond.code yX2_nameOfEntry cX2_nameOfEntry 1 (some .int), Cond.methodLink RX2 46 yX2_leastInodeOfNoKind, Cond.instanceMethod yX2_leastInodeOfNoKind, Cond.selects RX2 yX2_leastInodeOfNoKind yX2_leastInodeOfNoKind, Cond.code yX2_leastInodeOfNoKind cX2_leastInodeOfNoKind 2 (some .int), Cond.methodLink RX2 50 yX2_leastPlaceWithoutEntry, Cond.instanceMethod yX2_leastPlaceWithoutEntry, Cond.selects RX2 yX2_leastPlaceWithoutEntry yX2_leastPlaceWithoutEntry, Cond.code yX2_leastPlaceWithoutEntry cX2_leastPlaceWithoutEntry 3 (some .int), Cond.methodLink RX2 54 yX0_begin, Cond.instanceMethod yX0_begin, Cond.selects RX0 yX0_begin yX0_begin, Cond.code yX0_begin cX0_begin 1 none, Cond.fieldLink RX0 19 "BlockMover$Disk" "failed" "Z", Cond.methodLink RX2 60 yX0_write, Cond.instanceMethod yX0_write, Cond.selects RX0 yX0_write yX0_write, Cond.code yX0_write cX0_write 4 none, Cond.fieldLink RX0 23 "BlockMover$Disk" "down" "Z", Cond.fieldLink RX0 26 "BlockMover$Disk" "writes" "I", Cond.methodLink RX2 67 yX2_entryOf, Cond.static yX2_entryOf, Cond.code yX2_entryOf cX2_entryOf 2 (some .int), Cond.methodLink RX2 70 yX2_answerOfAct]
def wsL_law_r6 : List Cond := [Cond.instanceMethod yX2_answerOfAct, Cond.selects RX2 yX2_answerOfAct yX2_answerOfAct, Cond.code yX2_answerOfAct cX2_answerOfAct 2 (some .int), Cond.fieldLink RX2 134 "BlockMover$Disk" "failed" "Z", Cond.methodLink RL 22 yX3_make, Cond.instanceMethod yX3_make, Cond.selects RX3 yX3_make yX3_make, Cond.code yX3_make cX3_make 7 (some .int), Cond.constantLong RX3 68 (2), Cond.fieldLink RX3 36 "BlockMoverModel" "down" "Z", Cond.methodLink RX3 61 yX3_isInode, Cond.instanceMethod yX3_isInode, Cond.selects RX3 yX3_isInode yX3_isInode, Cond.code yX3_isInode cX3_isInode 3 (some .boolean), Cond.constantLong RX3 53 (11), Cond.methodLink RX3 65 yX3_isName, Cond.static yX3_isName, Cond.code yX3_isName cX3_isName 1 (some .boolean), Cond.constantLong RX3 55 (99), Cond.methodLink RX3 70 yX3_entry, Cond.instanceMethod yX3_entry, Cond.selects RX3 yX3_entry yX3_entry, Cond.code yX3_entry cX3_entry 4 (some .int), Cond.methodLink RX3 74 yX3_noEntry]
def wsL_law_r7 : List Cond := [Cond.instanceMethod yX3_noEntry, Cond.selects RX3 yX3_noEntry yX3_noEntry, Cond.code yX3_noEntry cX3_noEntry 3 (some .int), Cond.methodLink RX3 78 yX3_setSize, Cond.instanceMethod yX3_setSize, Cond.selects RX3 yX3_setSize yX3_setSize, Cond.code yX3_setSize cX3_setSize 3 none, Cond.methodLink RX3 43 yX3_power, Cond.instanceMethod yX3_power, Cond.selects RX3 yX3_power yX3_power, Cond.code yX3_power cX3_power 1 (some .boolean), Cond.fieldLink RX3 40 "BlockMoverModel" "writes" "I", Cond.methodLink RX3 82 yX3_setPlace, Cond.instanceMethod yX3_setPlace, Cond.selects RX3 yX3_setPlace yX3_setPlace, Cond.code yX3_setPlace cX3_setPlace 4 none, Cond.methodLink RX3 86 yX3_setKind, Cond.instanceMethod yX3_setKind, Cond.selects RX3 yX3_setKind yX3_setKind, Cond.code yX3_setKind cX3_setKind 3 none, Cond.methodLink RL 25 yX2_append, Cond.instanceMethod yX2_append, Cond.selects RX2 yX2_append yX2_append, Cond.code yX2_append cX2_append 10 (some .int)]
def wsL_law_r8 : List Cond := [Cond.methodLink RX2 73 yX2_sizeOf, Cond.instanceMethod yX2_sizeOf, Cond.selects RX2 yX2_sizeOf yX2_sizeOf, Cond.code yX2_sizeOf cX2_sizeOf 2 (some .int), Cond.methodLink RX2 76 yX2_leastFreeBlock, Cond.instanceMethod yX2_leastFreeBlock, Cond.selects RX2 yX2_leastFreeBlock yX2_leastFreeBlock, Cond.code yX2_leastFreeBlock cX2_leastFreeBlock 4 (some .int), Cond.methodLink RX2 148 yX2_usedBlocks, Cond.instanceMethod yX2_usedBlocks, Cond.selects RX2 yX2_usedBlocks yX2_usedBlocks, Cond.code yX2_usedBlocks cX2_usedBlocks 6 (some .long), Cond.methodLink RX2 195 yX2_blocksOf, Cond.instanceMethod yX2_blocksOf, Cond.selects RX2 yX2_blocksOf yX2_blocksOf, Cond.code yX2_blocksOf cX2_blocksOf 2 (some .int), Cond.methodLink RX2 79 yX2_dataAt, Cond.static yX2_dataAt, Cond.code yX2_dataAt cX2_dataAt 2 (some .int), Cond.methodLink RL 29 yX3_append, Cond.instanceMethod yX3_append, Cond.selects RX3 yX3_append yX3_append, Cond.code yX3_append cX3_append 9 (some .int), Cond.methodLink RX3 89 yX3_leastFree]
def wsL_law_r9 : List Cond := [Cond.instanceMethod yX3_leastFree, Cond.selects RX3 yX3_leastFree yX3_leastFree, Cond.code yX3_leastFree cX3_leastFree 2 (some .int), Cond.methodLink RX3 57 yX3_isUsed, Cond.instanceMethod yX3_isUsed, Cond.selects RX3 yX3_isUsed yX3_isUsed, Cond.code yX3_isUsed cX3_isUsed 4 (some .boolean), Cond.methodLink RX3 93 yX3_setData, Cond.instanceMethod yX3_setData, Cond.selects RX3 yX3_setData yX3_setData, Cond.code yX3_setData cX3_setData 5 none, Cond.methodLink RL 30 yX2_put, Cond.instanceMethod yX2_put, Cond.selects RX2 yX2_put yX2_put, Cond.code yX2_put cX2_put 6 (some .int), Cond.methodLink RX2 82 yX2_isDataOfFile, Cond.instanceMethod yX2_isDataOfFile, Cond.selects RX2 yX2_isDataOfFile yX2_isDataOfFile, Cond.code yX2_isDataOfFile cX2_isDataOfFile 4 (some .boolean), Cond.methodLink RL 34 yX3_put, Cond.instanceMethod yX3_put, Cond.selects RX3 yX3_put yX3_put, Cond.code yX3_put cX3_put 6 (some .int), Cond.methodLink RL 35 yX2_remove]
def wsL_law_r10 : List Cond := [Cond.instanceMethod yX2_remove, Cond.selects RX2 yX2_remove yX2_remove, Cond.code yX2_remove cX2_remove 5 (some .int), Cond.methodLink RX2 89 yX2_inodeOfEntry, Cond.static yX2_inodeOfEntry, Cond.code yX2_inodeOfEntry cX2_inodeOfEntry 1 (some .int), Cond.methodLink RX2 95 yX2_entriesOf, Cond.instanceMethod yX2_entriesOf, Cond.selects RX2 yX2_entriesOf yX2_entriesOf, Cond.code yX2_entriesOf cX2_entriesOf 4 (some .int), Cond.methodLink RL 39 yX3_remove, Cond.instanceMethod yX3_remove, Cond.selects RX3 yX3_remove yX3_remove, Cond.code yX3_remove cX3_remove 5 (some .int), Cond.methodLink RX3 97 yX3_hasEntries, Cond.instanceMethod yX3_hasEntries, Cond.selects RX3 yX3_hasEntries yX3_hasEntries, Cond.code yX3_hasEntries cX3_hasEntries 3 (some .boolean), Cond.methodLink RL 40 yX2_rename, Cond.instanceMethod yX2_rename, Cond.selects RX2 yX2_rename yX2_rename, Cond.code yX2_rename cX2_rename 8 (some .int), Cond.methodLink RX2 98 yX2_isWithin, Cond.instanceMethod yX2_isWithin]
def wsL_law_r11 : List Cond := [Cond.selects RX2 yX2_isWithin yX2_isWithin, Cond.code yX2_isWithin cX2_isWithin 5 (some .boolean), Cond.methodLink RX2 192 yX2_directoryAbove, Cond.instanceMethod yX2_directoryAbove, Cond.selects RX2 yX2_directoryAbove yX2_directoryAbove, Cond.code yX2_directoryAbove cX2_directoryAbove 3 (some .int), Cond.methodLink RX2 189 yX2_hasEntryOf, Cond.instanceMethod yX2_hasEntryOf, Cond.selects RX2 yX2_hasEntryOf yX2_hasEntryOf, Cond.code yX2_hasEntryOf cX2_hasEntryOf 5 (some .boolean), Cond.methodLink RL 44 yX3_rename, Cond.instanceMethod yX3_rename, Cond.selects RX3 yX3_rename yX3_rename, Cond.code yX3_rename cX3_rename 8 (some .int), Cond.methodLink RX3 100 yX3_isWithin, Cond.instanceMethod yX3_isWithin, Cond.selects RX3 yX3_isWithin yX3_isWithin, Cond.code yX3_isWithin cX3_isWithin 8 (some .boolean), Cond.methodLink RL 45 yX2_step, Cond.instanceMethod yX2_step, Cond.selects RX2 yX2_step yX2_step, Cond.code yX2_step cX2_step 2 (some .int), Cond.fieldLink RX2 107 "BlockMover$Plan" "inode" "I", Cond.fieldLink RX2 110 "BlockMover$Plan" "place" "I"]
def wsL_law_r12 : List Cond := [Cond.fieldLink RX2 113 "BlockMover$Plan" "to" "I", Cond.methodLink RX2 101 yX2_findNextMove, Cond.instanceMethod yX2_findNextMove, Cond.selects RX2 yX2_findNextMove yX2_findNextMove, Cond.code yX2_findNextMove cX2_findNextMove 5 (some .int), Cond.methodLink RX2 198 yX2_chooseMove, Cond.instanceMethod yX2_chooseMove, Cond.selects RX2 yX2_chooseMove yX2_chooseMove, Cond.code yX2_chooseMove cX2_chooseMove 5 (some .int), Cond.methodLink RX2 202 yX1_set, Cond.instanceMethod yX1_set, Cond.selects RX1 yX1_set yX1_set, Cond.code yX1_set cX1_set 4 none, Cond.fieldLink RX1 7 "BlockMover$Plan" "inode" "I", Cond.fieldLink RX1 13 "BlockMover$Plan" "place" "I", Cond.fieldLink RX1 16 "BlockMover$Plan" "to" "I", Cond.methodLink RX2 206 yX2_greatestFreeBlock, Cond.instanceMethod yX2_greatestFreeBlock, Cond.selects RX2 yX2_greatestFreeBlock yX2_greatestFreeBlock, Cond.code yX2_greatestFreeBlock cX2_greatestFreeBlock 4 (some .int), Cond.methodLink RX2 209 yX2_chooseMoveAway, Cond.instanceMethod yX2_chooseMoveAway, Cond.selects RX2 yX2_chooseMoveAway yX2_chooseMoveAway, Cond.code yX2_chooseMoveAway cX2_chooseMoveAway 6 (some .int)]
def wsL_law_r13 : List Cond := [Cond.methodLink RX2 104 yX2_recordAt, Cond.static yX2_recordAt, Cond.code yX2_recordAt cX2_recordAt 1 (some .int), Cond.methodLink RX2 116 yX2_copyMovedBlock, Cond.instanceMethod yX2_copyMovedBlock, Cond.selects RX2 yX2_copyMovedBlock yX2_copyMovedBlock, Cond.code yX2_copyMovedBlock cX2_copyMovedBlock 4 none, Cond.constantLong RX2 212 (2), Cond.methodLink RX2 145 yX2_recorded, Cond.instanceMethod yX2_recorded, Cond.selects RX2 yX2_recorded yX2_recorded, Cond.code yX2_recorded cX2_recorded 2 (some .int), Cond.methodLink RX2 119 yX2_linkMovedBlock, Cond.instanceMethod yX2_linkMovedBlock, Cond.selects RX2 yX2_linkMovedBlock yX2_linkMovedBlock, Cond.code yX2_linkMovedBlock cX2_linkMovedBlock 1 none, Cond.fieldLink RX2 161 "BlockMover" "movesDone" "I", Cond.methodLink RL 49 yX3_step, Cond.instanceMethod yX3_step, Cond.selects RX3 yX3_step yX3_step, Cond.code yX3_step cX3_step 2 (some .int), Cond.methodLink RX3 128 yX3_look, Cond.instanceMethod yX3_look, Cond.selects RX3 yX3_look yX3_look]
def wsL_law_r14 : List Cond := [Cond.code yX3_look cX3_look 4 (some .int), Cond.methodLink RX3 103 yX3_lookAt, Cond.instanceMethod yX3_lookAt, Cond.selects RX3 yX3_lookAt yX3_lookAt, Cond.code yX3_lookAt cX3_lookAt 6 (some .int), Cond.fieldLink RX3 107 "BlockMoverModel" "planInode" "I", Cond.fieldLink RX3 110 "BlockMoverModel" "planPlace" "I", Cond.fieldLink RX3 113 "BlockMoverModel" "planTo" "I", Cond.fieldLink RX3 119 "BlockMoverModel" "planFrom" "I", Cond.methodLink RX3 116 yX3_greatestFree, Cond.instanceMethod yX3_greatestFree, Cond.selects RX3 yX3_greatestFree yX3_greatestFree, Cond.code yX3_greatestFree cX3_greatestFree 2 (some .int), Cond.methodLink RX3 131 yX3_move, Cond.instanceMethod yX3_move, Cond.selects RX3 yX3_move yX3_move, Cond.code yX3_move cX3_move 7 none, Cond.fieldLink RX3 125 "BlockMoverModel" "moves" "I", Cond.methodLink RX3 122 yX3_setRecord, Cond.instanceMethod yX3_setRecord, Cond.selects RX3 yX3_setRecord yX3_setRecord, Cond.code yX3_setRecord cX3_setRecord 3 none, Cond.methodLink RL 50 yX2_restart, Cond.instanceMethod yX2_restart]
def wsL_law_r15 : List Cond := [Cond.selects RX2 yX2_restart yX2_restart, Cond.code yX2_restart cX2_restart 4 (some .int), Cond.fieldLink RX2 122 "BlockMover$Disk" "writes" "I", Cond.methodLink RX2 125 yX2_finishRecordedMove, Cond.instanceMethod yX2_finishRecordedMove, Cond.selects RX2 yX2_finishRecordedMove yX2_finishRecordedMove, Cond.code yX2_finishRecordedMove cX2_finishRecordedMove 2 none, Cond.methodLink RX2 128 yX2_clearWrongEntries, Cond.instanceMethod yX2_clearWrongEntries, Cond.selects RX2 yX2_clearWrongEntries yX2_clearWrongEntries, Cond.code yX2_clearWrongEntries cX2_clearWrongEntries 2 none, Cond.fieldLink RX2 170 "BlockMover" "inodesMet" "I", Cond.methodLink RX2 214 yX2_clearWrongEntriesOf, Cond.instanceMethod yX2_clearWrongEntriesOf, Cond.selects RX2 yX2_clearWrongEntriesOf yX2_clearWrongEntriesOf, Cond.code yX2_clearWrongEntriesOf cX2_clearWrongEntriesOf 4 none, Cond.methodLink RX2 218 yX2_meet, Cond.instanceMethod yX2_meet, Cond.selects RX2 yX2_meet yX2_meet, Cond.code yX2_meet cX2_meet 2 (some .boolean), Cond.methodLink RX2 131 yX2_clearInodesWithoutEntry, Cond.instanceMethod yX2_clearInodesWithoutEntry, Cond.selects RX2 yX2_clearInodesWithoutEntry yX2_clearInodesWithoutEntry, Cond.code yX2_clearInodesWithoutEntry cX2_clearInodesWithoutEntry 2 none]
def wsL_law_r16 : List Cond := [Cond.methodLink RL 53 yX3_restart, Cond.instanceMethod yX3_restart, Cond.selects RX3 yX3_restart yX3_restart, Cond.code yX3_restart cX3_restart 4 (some .int), Cond.methodLink RX3 135 yX3_stands, Cond.instanceMethod yX3_stands, Cond.selects RX3 yX3_stands yX3_stands, Cond.code yX3_stands cX3_stands 4 (some .boolean), Cond.methodLink RL 54 yX2_isDown, Cond.instanceMethod yX2_isDown, Cond.selects RX2 yX2_isDown yX2_isDown, Cond.code yX2_isDown cX2_isDown 1 (some .int), Cond.methodLink RL 57 yX3_isDown, Cond.instanceMethod yX3_isDown, Cond.selects RX3 yX3_isDown yX3_isDown, Cond.code yX3_isDown cX3_isDown 1 (some .int), Cond.methodLink RL 58 yX2_find, Cond.instanceMethod yX2_find, Cond.selects RX2 yX2_find yX2_find, Cond.code yX2_find cX2_find 4 (some .int), Cond.methodLink RL 61 yX3_find, Cond.instanceMethod yX3_find, Cond.selects RX3 yX3_find yX3_find, Cond.code yX3_find cX3_find 4 (some .int)]
def wsL_law_r17 : List Cond := [Cond.methodLink RL 62 yX2_inode, Cond.instanceMethod yX2_inode, Cond.selects RX2 yX2_inode yX2_inode, Cond.code yX2_inode cX2_inode 3 (some .int), Cond.methodLink RL 65 yX3_inode, Cond.instanceMethod yX3_inode, Cond.selects RX3 yX3_inode yX3_inode, Cond.code yX3_inode cX3_inode 3 (some .int), Cond.constantLong RX3 138 (9), Cond.methodLink RX3 140 yX3_inodeOf, Cond.instanceMethod yX3_inodeOf, Cond.selects RX3 yX3_inodeOf yX3_inodeOf, Cond.code yX3_inodeOf cX3_inodeOf 3 (some .int), Cond.methodLink RL 66 yX2_data, Cond.instanceMethod yX2_data, Cond.selects RX2 yX2_data yX2_data, Cond.code yX2_data cX2_data 3 (some .int), Cond.fieldLink RX2 141 "BlockMover" "lastAsked" "J", Cond.methodLink RL 69 yX3_data, Cond.instanceMethod yX3_data, Cond.selects RX3 yX3_data yX3_data, Cond.code yX3_data cX3_data 3 (some .int), Cond.constantLong RX3 143 (39), Cond.fieldLink RX3 145 "BlockMoverModel" "latest" "J"]
def wsL_law_r18 : List Cond := [Cond.methodLink RL 70 yX2_read, Cond.instanceMethod yX2_read, Cond.selects RX2 yX2_read yX2_read, Cond.code yX2_read cX2_read 4 (some .int), Cond.methodLink RL 73 yX3_read, Cond.instanceMethod yX3_read, Cond.selects RX3 yX3_read yX3_read, Cond.code yX3_read cX3_read 4 (some .int), Cond.methodLink RL 74 yX2_asked, Cond.instanceMethod yX2_asked, Cond.selects RX2 yX2_asked yX2_asked, Cond.code yX2_asked cX2_asked 1 (some .long), Cond.methodLink RL 78 yX3_asked, Cond.instanceMethod yX3_asked, Cond.selects RX3 yX3_asked yX3_asked, Cond.code yX3_asked cX3_asked 1 (some .long), Cond.methodLink RL 79 yX2_record, Cond.instanceMethod yX2_record, Cond.selects RX2 yX2_record yX2_record, Cond.code yX2_record cX2_record 2 (some .int), Cond.methodLink RL 82 yX3_record, Cond.instanceMethod yX3_record, Cond.selects RX3 yX3_record yX3_record, Cond.code yX3_record cX3_record 2 (some .int)]
def wsL_law_r19 : List Cond := [Cond.constantLong RX3 149 (3), Cond.methodLink RL 83 yX2_plan, Cond.instanceMethod yX2_plan, Cond.selects RX2 yX2_plan yX2_plan, Cond.code yX2_plan cX2_plan 3 (some .int), Cond.methodLink RL 86 yX3_plan, Cond.instanceMethod yX3_plan, Cond.selects RX3 yX3_plan yX3_plan, Cond.code yX3_plan cX3_plan 3 (some .int), Cond.methodLink RL 87 yX2_runs, Cond.instanceMethod yX2_runs, Cond.selects RX2 yX2_runs yX2_runs, Cond.code yX2_runs cX2_runs 5 (some .int), Cond.methodLink RL 90 yX3_runs, Cond.instanceMethod yX3_runs, Cond.selects RX3 yX3_runs yX3_runs, Cond.code yX3_runs cX3_runs 4 (some .int), Cond.methodLink RL 91 yX2_count, Cond.instanceMethod yX2_count, Cond.selects RX2 yX2_count yX2_count, Cond.code yX2_count cX2_count 2 (some .int), Cond.methodLink RX2 152 yJ13_bitCount_95d88, Cond.static yJ13_bitCount_95d88, Cond.initialized RJ13]
def wsL_law_r20 : List Cond := [Cond.code yJ13_bitCount_95d88 cJ13_bitCount_95d88 2 (some .int), Cond.constantLong RJ13 314 (6148914691236517205), Cond.constantLong RJ13 316 (3689348814741910323), Cond.constantLong RJ13 318 (1085102592571150095), Cond.methodLink RX2 158 yX2_countInodes, Cond.instanceMethod yX2_countInodes, Cond.selects RX2 yX2_countInodes yX2_countInodes, Cond.code yX2_countInodes cX2_countInodes 3 (some .int), Cond.methodLink RX2 164 yX2_countMisplacedBlocks, Cond.instanceMethod yX2_countMisplacedBlocks, Cond.selects RX2 yX2_countMisplacedBlocks yX2_countMisplacedBlocks, Cond.code yX2_countMisplacedBlocks cX2_countMisplacedBlocks 6 (some .int), Cond.methodLink RX2 167 yX2_countEntries, Cond.instanceMethod yX2_countEntries, Cond.selects RX2 yX2_countEntries yX2_countEntries, Cond.code yX2_countEntries cX2_countEntries 3 (some .int), Cond.methodLink RL 94 yX3_count, Cond.instanceMethod yX3_count, Cond.selects RX3 yX3_count yX3_count, Cond.code yX3_count cX3_count 6 (some .int), Cond.methodLink RL 95 yX2_tree, Cond.instanceMethod yX2_tree, Cond.selects RX2 yX2_tree yX2_tree, Cond.code yX2_tree cX2_tree 1 (some .long)]
def wsL_law_r21 : List Cond := [Cond.constantLong RX2 173 (5), Cond.methodLink RX2 175 yX2_hashOfInode, Cond.instanceMethod yX2_hashOfInode, Cond.selects RX2 yX2_hashOfInode yX2_hashOfInode, Cond.code yX2_hashOfInode cX2_hashOfInode 5 (some .long), Cond.methodLink RX2 221 yX2_hashOfDirectory, Cond.instanceMethod yX2_hashOfDirectory, Cond.selects RX2 yX2_hashOfDirectory yX2_hashOfDirectory, Cond.methodLink RX2 224 yX2_hashOfFile, Cond.instanceMethod yX2_hashOfFile, Cond.selects RX2 yX2_hashOfFile yX2_hashOfFile, Cond.code yX2_hashOfFile cX2_hashOfFile 9 (some .long), Cond.constantLong RX2 181 (31), Cond.code yX2_hashOfDirectory cX2_hashOfDirectory 9 (some .long), Cond.constantLong RX2 231 (9), Cond.methodLink RX2 228 yX2_entryBehindName, Cond.instanceMethod yX2_entryBehindName, Cond.selects RX2 yX2_entryBehindName yX2_entryBehindName, Cond.code yX2_entryBehindName cX2_entryBehindName 6 (some .int), Cond.methodLink RL 98 yX3_tree, Cond.instanceMethod yX3_tree, Cond.selects RX3 yX3_tree yX3_tree, Cond.code yX3_tree cX3_tree 10 (some .long), Cond.constantLong RX3 151 (156)]
def wsL_law_r22 : List Cond := [Cond.constantLong RX3 156 (31), Cond.methodLink RX3 153 yX3_nextEntry, Cond.instanceMethod yX3_nextEntry, Cond.selects RX3 yX3_nextEntry yX3_nextEntry, Cond.code yX3_nextEntry cX3_nextEntry 7 (some .int), Cond.methodLink RL 99 yX2_digest, Cond.instanceMethod yX2_digest, Cond.selects RX2 yX2_digest yX2_digest, Cond.code yX2_digest cX2_digest 4 (some .long), Cond.constantLong RX2 179 (3), Cond.methodLink RX2 183 yX2_isDown, Cond.methodLink RL 102 yX3_digest, Cond.instanceMethod yX3_digest, Cond.selects RX3 yX3_digest yX3_digest, Cond.code yX3_digest cX3_digest 5 (some .long), Cond.methodLink RX3 158 yX3_isDown]
def wsL_law : List Cond := (wsL_law_r1 ++ (wsL_law_r2 ++ (wsL_law_r3 ++ (wsL_law_r4 ++ (wsL_law_r5 ++ (wsL_law_r6 ++ (wsL_law_r7 ++ (wsL_law_r8 ++ (wsL_law_r9 ++ (wsL_law_r10 ++ (wsL_law_r11 ++ (wsL_law_r12 ++ (wsL_law_r13 ++ (wsL_law_r14 ++ (wsL_law_r15 ++ (wsL_law_r16 ++ (wsL_law_r17 ++ (wsL_law_r18 ++ (wsL_law_r19 ++ (wsL_law_r20 ++ (wsL_law_r21 ++ wsL_law_r22))))))))))))))))))))) ++ wsX20 ++ wsX30 ++ wsX00 ++ wsX10 ++ ([] : List Cond)
end
section
theorem dX0_init_0 : decode cX0_init 0 = .ok (.aload_n 0, 1) := by decide +kernel
theorem dX0_init_1 : decode cX0_init 1 = .ok (.invokespecial 3, 3) := by decide +kernel
theorem dX0_init_4 : decode cX0_init 4 = .ok (.aload_n 0, 1) := by decide +kernel
theorem dX0_init_5 : decode cX0_init 5 = .ok (.sipush 244, 3) := by decide +kernel
theorem dX0_init_8 : decode cX0_init 8 = .ok (.newarray .long, 2) := by decide +kernel
theorem dX0_init_10 : decode cX0_init 10 = .ok (.putfield 9, 3) := by decide +kernel
theorem dX0_init_13 : decode cX0_init 13 = .ok (.aload_n 0, 1) := by decide +kernel
theorem dX0_init_14 : decode cX0_init 14 = .ok (.getfield 9, 3) := by decide +kernel
theorem dX0_init_17 : decode cX0_init 17 = .ok (.iconst 0, 1) := by decide +kernel
theorem dX0_init_18 : decode cX0_init 18 = .ok (.lconst 1, 1) := by decide +kernel
theorem dX0_init_19 : decode cX0_init 19 = .ok (.lastore, 1) := by decide +kernel
theorem dX0_init_20 : decode cX0_init 20 = .ok (.aload_n 0, 1) := by decide +kernel
theorem dX0_init_21 : decode cX0_init 21 = .ok (.bipush (-3), 2) := by decide +kernel
theorem dX0_init_23 : decode cX0_init 23 = .ok (.putfield 15, 3) := by decide +kernel
theorem dX0_init_26 : decode cX0_init 26 = .ok (.return_, 1) := by decide +kernel
theorem dX0_word_0 : decode cX0_word 0 = .ok (.iload_n 1, 1) := by decide +kernel
theorem dX0_word_1 : decode cX0_word 1 = .ok (.ifCond .lt 21, 3) := by decide +kernel
theorem dX0_word_4 : decode cX0_word 4 = .ok (.iload_n 1, 1) := by decide +kernel
theorem dX0_word_5 : decode cX0_word 5 = .ok (.aload_n 0, 1) := by decide +kernel
theorem dX0_word_6 : decode cX0_word 6 = .ok (.getfield 9, 3) := by decide +kernel
theorem dX0_word_9 : decode cX0_word 9 = .ok (.arraylength, 1) := by decide +kernel
theorem dX0_word_10 : decode cX0_word 10 = .ok (.if_icmp .ge 12, 3) := by decide +kernel
theorem dX0_word_13 : decode cX0_word 13 = .ok (.aload_n 0, 1) := by decide +kernel
theorem dX0_word_14 : decode cX0_word 14 = .ok (.getfield 9, 3) := by decide +kernel
theorem dX0_word_17 : decode cX0_word 17 = .ok (.iload_n 1, 1) := by decide +kernel
theorem dX0_word_18 : decode cX0_word 18 = .ok (.laload, 1) := by decide +kernel
theorem dX0_word_19 : decode cX0_word 19 = .ok (.goto 4, 3) := by decide +kernel
theorem dX0_word_22 : decode cX0_word 22 = .ok (.lconst 0, 1) := by decide +kernel
theorem dX0_word_23 : decode cX0_word 23 = .ok (.lreturn, 1) := by decide +kernel
theorem dX0_begin_0 : decode cX0_begin 0 = .ok (.aload_n 0, 1) := by decide +kernel
theorem dX0_begin_1 : decode cX0_begin 1 = .ok (.iconst 0, 1) := by decide +kernel
theorem dX0_begin_2 : decode cX0_begin 2 = .ok (.putfield 19, 3) := by decide +kernel
theorem dX0_begin_5 : decode cX0_begin 5 = .ok (.return_, 1) := by decide +kernel
theorem dX0_write_0 : decode cX0_write 0 = .ok (.aload_n 0, 1) := by decide +kernel
theorem dX0_write_1 : decode cX0_write 1 = .ok (.getfield 19, 3) := by decide +kernel
theorem dX0_write_4 : decode cX0_write 4 = .ok (.ifCond .ne 16, 3) := by decide +kernel
theorem dX0_write_7 : decode cX0_write 7 = .ok (.iload_n 1, 1) := by decide +kernel
theorem dX0_write_8 : decode cX0_write 8 = .ok (.ifCond .lt 12, 3) := by decide +kernel
theorem dX0_write_11 : decode cX0_write 11 = .ok (.iload_n 1, 1) := by decide +kernel
theorem dX0_write_12 : decode cX0_write 12 = .ok (.aload_n 0, 1) := by decide +kernel
theorem dX0_write_13 : decode cX0_write 13 = .ok (.getfield 9, 3) := by decide +kernel
theorem dX0_write_16 : decode cX0_write 16 = .ok (.arraylength, 1) := by decide +kernel
theorem dX0_write_17 : decode cX0_write 17 = .ok (.if_icmp .lt 4, 3) := by decide +kernel
theorem dX0_write_20 : decode cX0_write 20 = .ok (.return_, 1) := by decide +kernel
theorem dX0_write_21 : decode cX0_write 21 = .ok (.aload_n 0, 1) := by decide +kernel
theorem dX0_write_22 : decode cX0_write 22 = .ok (.getfield 15, 3) := by decide +kernel
theorem dX0_write_25 : decode cX0_write 25 = .ok (.ifCond .ne 20, 3) := by decide +kernel
theorem dX0_write_28 : decode cX0_write 28 = .ok (.aload_n 0, 1) := by decide +kernel
theorem dX0_write_29 : decode cX0_write 29 = .ok (.iconst 1, 1) := by decide +kernel
theorem dX0_write_30 : decode cX0_write 30 = .ok (.putfield 19, 3) := by decide +kernel
theorem dX0_write_33 : decode cX0_write 33 = .ok (.aload_n 0, 1) := by decide +kernel
theorem dX0_write_34 : decode cX0_write 34 = .ok (.iconst 1, 1) := by decide +kernel
theorem dX0_write_35 : decode cX0_write 35 = .ok (.putfield 23, 3) := by decide +kernel
theorem dX0_write_38 : decode cX0_write 38 = .ok (.aload_n 0, 1) := by decide +kernel
theorem dX0_write_39 : decode cX0_write 39 = .ok (.bipush (-3), 2) := by decide +kernel
theorem dX0_write_41 : decode cX0_write 41 = .ok (.putfield 15, 3) := by decide +kernel
theorem dX0_write_44 : decode cX0_write 44 = .ok (.return_, 1) := by decide +kernel
theorem dX0_write_45 : decode cX0_write 45 = .ok (.aload_n 0, 1) := by decide +kernel
theorem dX0_write_46 : decode cX0_write 46 = .ok (.getfield 15, 3) := by decide +kernel
theorem dX0_write_49 : decode cX0_write 49 = .ok (.bipush (-3), 2) := by decide +kernel
theorem dX0_write_51 : decode cX0_write 51 = .ok (.if_icmp .eq 13, 3) := by decide +kernel
theorem dX0_write_54 : decode cX0_write 54 = .ok (.aload_n 0, 1) := by decide +kernel
theorem dX0_write_55 : decode cX0_write 55 = .ok (.dup, 1) := by decide +kernel
theorem dX0_write_56 : decode cX0_write 56 = .ok (.getfield 15, 3) := by decide +kernel
theorem dX0_write_59 : decode cX0_write 59 = .ok (.iconst 1, 1) := by decide +kernel
theorem dX0_write_60 : decode cX0_write 60 = .ok (.isub, 1) := by decide +kernel
theorem dX0_write_61 : decode cX0_write 61 = .ok (.putfield 15, 3) := by decide +kernel
theorem dX0_write_64 : decode cX0_write 64 = .ok (.aload_n 0, 1) := by decide +kernel
theorem dX0_write_65 : decode cX0_write 65 = .ok (.getfield 9, 3) := by decide +kernel
theorem dX0_write_68 : decode cX0_write 68 = .ok (.iload_n 1, 1) := by decide +kernel
theorem dX0_write_69 : decode cX0_write 69 = .ok (.lload_n 2, 1) := by decide +kernel
theorem dX0_write_70 : decode cX0_write 70 = .ok (.lastore, 1) := by decide +kernel
theorem dX0_write_71 : decode cX0_write 71 = .ok (.aload_n 0, 1) := by decide +kernel
theorem dX0_write_72 : decode cX0_write 72 = .ok (.dup, 1) := by decide +kernel
theorem dX0_write_73 : decode cX0_write 73 = .ok (.getfield 26, 3) := by decide +kernel
theorem dX0_write_76 : decode cX0_write 76 = .ok (.iconst 1, 1) := by decide +kernel
theorem dX0_write_77 : decode cX0_write 77 = .ok (.iadd, 1) := by decide +kernel
theorem dX0_write_78 : decode cX0_write 78 = .ok (.putfield 26, 3) := by decide +kernel
theorem dX0_write_81 : decode cX0_write 81 = .ok (.return_, 1) := by decide +kernel
theorem dX1_init_0 : decode cX1_init 0 = .ok (.aload_n 0, 1) := by decide +kernel
theorem dX1_init_1 : decode cX1_init 1 = .ok (.invokespecial 1, 3) := by decide +kernel
theorem dX1_init_4 : decode cX1_init 4 = .ok (.return_, 1) := by decide +kernel
theorem dX1_set_0 : decode cX1_set 0 = .ok (.aload_n 0, 1) := by decide +kernel
theorem dX1_set_1 : decode cX1_set 1 = .ok (.iload_n 1, 1) := by decide +kernel
theorem dX1_set_2 : decode cX1_set 2 = .ok (.putfield 7, 3) := by decide +kernel
theorem dX1_set_5 : decode cX1_set 5 = .ok (.aload_n 0, 1) := by decide +kernel
theorem dX1_set_6 : decode cX1_set 6 = .ok (.iload_n 2, 1) := by decide +kernel
theorem dX1_set_7 : decode cX1_set 7 = .ok (.putfield 13, 3) := by decide +kernel
theorem dX1_set_10 : decode cX1_set 10 = .ok (.aload_n 0, 1) := by decide +kernel
theorem dX1_set_11 : decode cX1_set 11 = .ok (.iload_n 3, 1) := by decide +kernel
theorem dX1_set_12 : decode cX1_set 12 = .ok (.putfield 16, 3) := by decide +kernel
theorem dX1_set_15 : decode cX1_set 15 = .ok (.return_, 1) := by decide +kernel
set_option maxRecDepth 20000 in
theorem ggX2_init_X0_init : GoodIn wsX2_init wsX0_init := goodIn_r _ [14, 15, 2, 3, 16, 17, 18, 22, 23, 24, 25, 26] (by decide +kernel) (by decide +kernel)
set_option maxRecDepth 20000 in
theorem gX2_init_X0_init : GoodIn wsX2_init (wsX0_init) := ggX2_init_X0_init
set_option maxRecDepth 20000 in
theorem ggX2_init_X1_init : GoodIn wsX2_init wsX1_init := goodIn_r _ [20, 21, 2, 3] (by decide +kernel) (by decide +kernel)
set_option maxRecDepth 20000 in
theorem gX2_init_X1_init_n18 : GoodIn wsX2_init (wsX1_init) := ggX2_init_X1_init
theorem dX2_init_0 : decode cX2_init 0 = .ok (.aload_n 0, 1) := by decide +kernel
theorem dX2_init_1 : decode cX2_init 1 = .ok (.invokespecial 3, 3) := by decide +kernel
theorem dX2_init_4 : decode cX2_init 4 = .ok (.aload_n 0, 1) := by decide +kernel
theorem dX2_init_5 : decode cX2_init 5 = .ok (.new 9, 3) := by decide +kernel
theorem dX2_init_8 : decode cX2_init 8 = .ok (.dup, 1) := by decide +kernel
theorem dX2_init_9 : decode cX2_init 9 = .ok (.invokespecial 11, 3) := by decide +kernel
theorem dX2_init_12 : decode cX2_init 12 = .ok (.putfield 12, 3) := by decide +kernel
theorem dX2_init_15 : decode cX2_init 15 = .ok (.aload_n 0, 1) := by decide +kernel
theorem dX2_init_16 : decode cX2_init 16 = .ok (.new 16, 3) := by decide +kernel
theorem dX2_init_19 : decode cX2_init 19 = .ok (.dup, 1) := by decide +kernel
theorem dX2_init_20 : decode cX2_init 20 = .ok (.invokespecial 18, 3) := by decide +kernel
theorem dX2_init_23 : decode cX2_init 23 = .ok (.putfield 19, 3) := by decide +kernel
theorem dX2_init_26 : decode cX2_init 26 = .ok (.return_, 1) := by decide +kernel
set_option maxRecDepth 20000 in
theorem ggX2_cut_X2_isBelow : GoodIn wsX2_cut wsX2_isBelow := goodIn_r _ [6] (by decide +kernel) (by decide +kernel)
set_option maxRecDepth 20000 in
theorem gX2_cut_X2_isBelow : GoodIn wsX2_cut (va_wsS RX2 23 yX2_isBelow wsX2_isBelow) := goodIn_app (goodIn_of _ (by decide +kernel)) ggX2_cut_X2_isBelow
theorem dX2_cut_0 : decode cX2_cut 0 = .ok (.iload_n 1, 1) := by decide +kernel
theorem dX2_cut_1 : decode cX2_cut 1 = .ok (.bipush (-3), 2) := by decide +kernel
theorem dX2_cut_3 : decode cX2_cut 3 = .ok (.if_icmp .eq 14, 3) := by decide +kernel
theorem dX2_cut_6 : decode cX2_cut 6 = .ok (.iload_n 1, 1) := by decide +kernel
theorem dX2_cut_7 : decode cX2_cut 7 = .ok (.bipush 41, 2) := by decide +kernel
theorem dX2_cut_9 : decode cX2_cut 9 = .ok (.invokestatic 23, 3) := by decide +kernel
theorem dX2_cut_12 : decode cX2_cut 12 = .ok (.ifCond .ne 5, 3) := by decide +kernel
theorem dX2_cut_15 : decode cX2_cut 15 = .ok (.iconst (-1), 1) := by decide +kernel
theorem dX2_cut_16 : decode cX2_cut 16 = .ok (.ireturn, 1) := by decide +kernel
theorem dX2_cut_17 : decode cX2_cut 17 = .ok (.aload_n 0, 1) := by decide +kernel
theorem dX2_cut_18 : decode cX2_cut 18 = .ok (.getfield 12, 3) := by decide +kernel
theorem dX2_cut_21 : decode cX2_cut 21 = .ok (.getfield 27, 3) := by decide +kernel
theorem dX2_cut_24 : decode cX2_cut 24 = .ok (.istore_n 2, 1) := by decide +kernel
theorem dX2_cut_25 : decode cX2_cut 25 = .ok (.aload_n 0, 1) := by decide +kernel
theorem dX2_cut_26 : decode cX2_cut 26 = .ok (.getfield 12, 3) := by decide +kernel
theorem dX2_cut_29 : decode cX2_cut 29 = .ok (.iload_n 1, 1) := by decide +kernel
theorem dX2_cut_30 : decode cX2_cut 30 = .ok (.putfield 27, 3) := by decide +kernel
theorem dX2_cut_33 : decode cX2_cut 33 = .ok (.iload_n 2, 1) := by decide +kernel
theorem dX2_cut_34 : decode cX2_cut 34 = .ok (.ireturn, 1) := by decide +kernel
theorem dX2_isDown_0 : decode cX2_isDown 0 = .ok (.aload_n 0, 1) := by decide +kernel
theorem dX2_isDown_1 : decode cX2_isDown 1 = .ok (.getfield 12, 3) := by decide +kernel
theorem dX2_isDown_4 : decode cX2_isDown 4 = .ok (.getfield 31, 3) := by decide +kernel
theorem dX2_isDown_7 : decode cX2_isDown 7 = .ok (.ifCond .eq 7, 3) := by decide +kernel
theorem dX2_isDown_10 : decode cX2_isDown 10 = .ok (.iconst 1, 1) := by decide +kernel
theorem dX2_isDown_11 : decode cX2_isDown 11 = .ok (.goto 4, 3) := by decide +kernel
theorem dX2_isDown_14 : decode cX2_isDown 14 = .ok (.iconst 0, 1) := by decide +kernel
theorem dX2_isDown_15 : decode cX2_isDown 15 = .ok (.ireturn, 1) := by decide +kernel
set_option maxRecDepth 20000 in
theorem ggX2_make_X2_isOfKind : GoodIn wsX2_make wsX2_isOfKind := goodIn_r _ [7, 8, 9, 6, 10, 11, 12, 13, 14, 1, 15, 16, 17, 18, 19, 20, 21, 22, 23, 69, 70, 71, 72, 73, 74, 75, 76, 77, 78] (by decide +kernel) (by decide +kernel)
set_option maxRecDepth 20000 in
theorem gX2_make_X2_isOfKind : GoodIn wsX2_make (wsV RX2 35 RX2 yX2_isOfKind wsX2_isOfKind) := goodIn_app (goodIn_of _ (by decide +kernel)) ggX2_make_X2_isOfKind
set_option maxRecDepth 20000 in
theorem ggX2_make_X2_isName : GoodIn wsX2_make wsX2_isName := goodIn_r _ [26] (by decide +kernel) (by decide +kernel)
set_option maxRecDepth 20000 in
theorem gX2_make_X2_isName : GoodIn wsX2_make (va_wsS RX2 38 yX2_isName wsX2_isName) := goodIn_app (goodIn_of _ (by decide +kernel)) ggX2_make_X2_isName
set_option maxRecDepth 20000 in
theorem ggX2_make_X2_placeOfName : GoodIn wsX2_make wsX2_placeOfName := goodIn_r _ [30, 31, 32, 33, 6, 34, 1, 35, 36, 37, 15, 16, 17, 18, 19, 20, 21, 22, 23, 38, 39, 40, 69, 70, 71, 72, 73, 74, 75, 76, 77, 78] (by decide +kernel) (by decide +kernel)
set_option maxRecDepth 20000 in
theorem gX2_make_X2_placeOfName : GoodIn wsX2_make (wsV RX2 42 RX2 yX2_placeOfName wsX2_placeOfName) := goodIn_app (goodIn_of _ (by decide +kernel)) ggX2_make_X2_placeOfName
set_option maxRecDepth 20000 in
theorem ggX2_make_X2_leastInodeOfNoKind : GoodIn wsX2_make wsX2_leastInodeOfNoKind := goodIn_r _ [44, 11, 12, 13, 6, 14, 1, 15, 16, 17, 18, 19, 20, 21, 22, 23, 69, 70, 71, 72, 73, 74, 75, 76, 77, 78] (by decide +kernel) (by decide +kernel)
set_option maxRecDepth 20000 in
theorem gX2_make_X2_leastInodeOfNoKind : GoodIn wsX2_make (wsV RX2 46 RX2 yX2_leastInodeOfNoKind wsX2_leastInodeOfNoKind) := goodIn_app (goodIn_of _ (by decide +kernel)) ggX2_make_X2_leastInodeOfNoKind
set_option maxRecDepth 20000 in
theorem ggX2_make_X2_leastPlaceWithoutEntry : GoodIn wsX2_make wsX2_leastPlaceWithoutEntry := goodIn_r _ [48, 31, 32, 33, 6, 34, 1, 35, 36, 37, 15, 16, 17, 18, 19, 20, 21, 22, 23, 69, 70, 71, 72, 73, 74, 75, 76, 77, 78] (by decide +kernel) (by decide +kernel)
set_option maxRecDepth 20000 in
theorem gX2_make_X2_leastPlaceWithoutEntry : GoodIn wsX2_make (wsV RX2 50 RX2 yX2_leastPlaceWithoutEntry wsX2_leastPlaceWithoutEntry) := goodIn_app (goodIn_of _ (by decide +kernel)) ggX2_make_X2_leastPlaceWithoutEntry
set_option maxRecDepth 20000 in
theorem ggX2_make_X0_begin : GoodIn wsX2_make wsX0_begin := goodIn_r _ [52, 53, 74, 75, 76, 77, 78] (by decide +kernel) (by decide +kernel)
set_option maxRecDepth 20000 in
theorem gX2_make_X0_begin : GoodIn wsX2_make (wsV RX2 54 RX0 yX0_begin wsX0_begin) := goodIn_app (goodIn_of _ (by decide +kernel)) ggX2_make_X0_begin
set_option maxRecDepth 20000 in
theorem ggX2_make_X2_inodeAt : GoodIn wsX2_make wsX2_inodeAt := goodIn_r _ [17] (by decide +kernel) (by decide +kernel)
set_option maxRecDepth 20000 in
theorem gX2_make_X2_inodeAt : GoodIn wsX2_make (va_wsS RX2 57 yX2_inodeAt wsX2_inodeAt) := goodIn_app (goodIn_of _ (by decide +kernel)) ggX2_make_X2_inodeAt
set_option maxRecDepth 20000 in
theorem ggX2_make_X0_write : GoodIn wsX2_make wsX0_write := goodIn_r _ [57, 53, 23, 58, 59, 60, 74, 75, 76, 77, 78] (by decide +kernel) (by decide +kernel)
set_option maxRecDepth 20000 in
theorem gX2_make_X0_write : GoodIn wsX2_make (wsV RX2 60 RX0 yX0_write wsX0_write) := goodIn_app (goodIn_of _ (by decide +kernel)) ggX2_make_X0_write
set_option maxRecDepth 20000 in
theorem ggX2_make_X2_placeAt : GoodIn wsX2_make wsX2_placeAt := goodIn_r _ [37, 15, 16, 6, 17] (by decide +kernel) (by decide +kernel)
set_option maxRecDepth 20000 in
theorem gX2_make_X2_placeAt : GoodIn wsX2_make (va_wsS RX2 64 yX2_placeAt wsX2_placeAt) := goodIn_app (goodIn_of _ (by decide +kernel)) ggX2_make_X2_placeAt
set_option maxRecDepth 20000 in
theorem ggX2_make_X2_entryOf : GoodIn wsX2_make wsX2_entryOf := goodIn_r _ [63] (by decide +kernel) (by decide +kernel)
set_option maxRecDepth 20000 in
theorem gX2_make_X2_entryOf : GoodIn wsX2_make (va_wsS RX2 67 yX2_entryOf wsX2_entryOf) := goodIn_app (goodIn_of _ (by decide +kernel)) ggX2_make_X2_entryOf
set_option maxRecDepth 20000 in
theorem ggX2_make_X2_answerOfAct : GoodIn wsX2_make wsX2_answerOfAct := goodIn_r _ [67, 1, 68, 69, 70, 71, 72, 73, 74, 75, 76, 77, 78] (by decide +kernel) (by decide +kernel)
set_option maxRecDepth 20000 in
theorem gX2_make_X2_answerOfAct : GoodIn wsX2_make (wsV RX2 70 RX2 yX2_answerOfAct wsX2_answerOfAct) := goodIn_app (goodIn_of _ (by decide +kernel)) ggX2_make_X2_answerOfAct
theorem dX2_make_0 : decode cX2_make 0 = .ok (.aload_n 0, 1) := by decide +kernel
theorem dX2_make_1 : decode cX2_make 1 = .ok (.iload_n 1, 1) := by decide +kernel
theorem dX2_make_2 : decode cX2_make 2 = .ok (.iconst 1, 1) := by decide +kernel
theorem dX2_make_3 : decode cX2_make 3 = .ok (.invokevirtual 35, 3) := by decide +kernel
theorem dX2_make_6 : decode cX2_make 6 = .ok (.ifCond .eq 20, 3) := by decide +kernel
theorem dX2_make_9 : decode cX2_make 9 = .ok (.iload_n 2, 1) := by decide +kernel
theorem dX2_make_10 : decode cX2_make 10 = .ok (.invokestatic 38, 3) := by decide +kernel
theorem dX2_make_13 : decode cX2_make 13 = .ok (.ifCond .eq 13, 3) := by decide +kernel
theorem dX2_make_16 : decode cX2_make 16 = .ok (.iload_n 3, 1) := by decide +kernel
theorem dX2_make_17 : decode cX2_make 17 = .ok (.iconst 1, 1) := by decide +kernel
theorem dX2_make_18 : decode cX2_make 18 = .ok (.if_icmp .eq 10, 3) := by decide +kernel
theorem dX2_make_21 : decode cX2_make 21 = .ok (.iload_n 3, 1) := by decide +kernel
theorem dX2_make_22 : decode cX2_make 22 = .ok (.iconst 2, 1) := by decide +kernel
theorem dX2_make_23 : decode cX2_make 23 = .ok (.if_icmp .eq 5, 3) := by decide +kernel
theorem dX2_make_26 : decode cX2_make 26 = .ok (.iconst (-1), 1) := by decide +kernel
theorem dX2_make_27 : decode cX2_make 27 = .ok (.ireturn, 1) := by decide +kernel
theorem dX2_make_28 : decode cX2_make 28 = .ok (.aload_n 0, 1) := by decide +kernel
theorem dX2_make_29 : decode cX2_make 29 = .ok (.getfield 12, 3) := by decide +kernel
theorem dX2_make_32 : decode cX2_make 32 = .ok (.getfield 31, 3) := by decide +kernel
theorem dX2_make_35 : decode cX2_make 35 = .ok (.ifCond .eq 6, 3) := by decide +kernel
theorem dX2_make_38 : decode cX2_make 38 = .ok (.bipush (-2), 2) := by decide +kernel
theorem dX2_make_40 : decode cX2_make 40 = .ok (.ireturn, 1) := by decide +kernel
theorem dX2_make_41 : decode cX2_make 41 = .ok (.aload_n 0, 1) := by decide +kernel
theorem dX2_make_42 : decode cX2_make 42 = .ok (.iload_n 1, 1) := by decide +kernel
theorem dX2_make_43 : decode cX2_make 43 = .ok (.iload_n 2, 1) := by decide +kernel
theorem dX2_make_44 : decode cX2_make 44 = .ok (.invokevirtual 42, 3) := by decide +kernel
theorem dX2_make_47 : decode cX2_make 47 = .ok (.bipush (-3), 2) := by decide +kernel
theorem dX2_make_49 : decode cX2_make 49 = .ok (.if_icmp .eq 6, 3) := by decide +kernel
theorem dX2_make_52 : decode cX2_make 52 = .ok (.bipush (-4), 2) := by decide +kernel
theorem dX2_make_54 : decode cX2_make 54 = .ok (.ireturn, 1) := by decide +kernel
theorem dX2_make_55 : decode cX2_make 55 = .ok (.aload_n 0, 1) := by decide +kernel
theorem dX2_make_56 : decode cX2_make 56 = .ok (.invokevirtual 46, 3) := by decide +kernel
theorem dX2_make_59 : decode cX2_make 59 = .ok (.istore 4, 2) := by decide +kernel
theorem dX2_make_61 : decode cX2_make 61 = .ok (.aload_n 0, 1) := by decide +kernel
theorem dX2_make_62 : decode cX2_make 62 = .ok (.iload_n 1, 1) := by decide +kernel
theorem dX2_make_63 : decode cX2_make 63 = .ok (.invokevirtual 50, 3) := by decide +kernel
theorem dX2_make_66 : decode cX2_make 66 = .ok (.istore 5, 2) := by decide +kernel
theorem dX2_make_68 : decode cX2_make 68 = .ok (.iload 4, 2) := by decide +kernel
theorem dX2_make_70 : decode cX2_make 70 = .ok (.bipush (-3), 2) := by decide +kernel
theorem dX2_make_72 : decode cX2_make 72 = .ok (.if_icmp .eq 10, 3) := by decide +kernel
theorem dX2_make_75 : decode cX2_make 75 = .ok (.iload 5, 2) := by decide +kernel
theorem dX2_make_77 : decode cX2_make 77 = .ok (.bipush (-3), 2) := by decide +kernel
theorem dX2_make_79 : decode cX2_make 79 = .ok (.if_icmp .ne 6, 3) := by decide +kernel
theorem dX2_make_82 : decode cX2_make 82 = .ok (.bipush (-5), 2) := by decide +kernel
theorem dX2_make_84 : decode cX2_make 84 = .ok (.ireturn, 1) := by decide +kernel
theorem dX2_make_85 : decode cX2_make 85 = .ok (.aload_n 0, 1) := by decide +kernel
theorem dX2_make_86 : decode cX2_make 86 = .ok (.getfield 12, 3) := by decide +kernel
theorem dX2_make_89 : decode cX2_make 89 = .ok (.invokevirtual 54, 3) := by decide +kernel
theorem dX2_make_92 : decode cX2_make 92 = .ok (.aload_n 0, 1) := by decide +kernel
theorem dX2_make_93 : decode cX2_make 93 = .ok (.getfield 12, 3) := by decide +kernel
theorem dX2_make_96 : decode cX2_make 96 = .ok (.iload 4, 2) := by decide +kernel
theorem dX2_make_98 : decode cX2_make 98 = .ok (.iconst 1, 1) := by decide +kernel
theorem dX2_make_99 : decode cX2_make 99 = .ok (.invokestatic 57, 3) := by decide +kernel
theorem dX2_make_102 : decode cX2_make 102 = .ok (.lconst 0, 1) := by decide +kernel
theorem dX2_make_103 : decode cX2_make 103 = .ok (.invokevirtual 60, 3) := by decide +kernel
theorem dX2_make_106 : decode cX2_make 106 = .ok (.iconst 0, 1) := by decide +kernel
theorem dX2_make_107 : decode cX2_make 107 = .ok (.istore 6, 2) := by decide +kernel
theorem dX2_make_109 : decode cX2_make 109 = .ok (.iload 6, 2) := by decide +kernel
theorem dX2_make_111 : decode cX2_make 111 = .ok (.bipush 8, 2) := by decide +kernel
theorem dX2_make_113 : decode cX2_make 113 = .ok (.if_icmp .ge 24, 3) := by decide +kernel
theorem dX2_make_116 : decode cX2_make 116 = .ok (.aload_n 0, 1) := by decide +kernel
theorem dX2_make_117 : decode cX2_make 117 = .ok (.getfield 12, 3) := by decide +kernel
theorem dX2_make_120 : decode cX2_make 120 = .ok (.iload 4, 2) := by decide +kernel
theorem dX2_make_122 : decode cX2_make 122 = .ok (.iload 6, 2) := by decide +kernel
theorem dX2_make_124 : decode cX2_make 124 = .ok (.invokestatic 64, 3) := by decide +kernel
theorem dX2_make_127 : decode cX2_make 127 = .ok (.lconst 0, 1) := by decide +kernel
theorem dX2_make_128 : decode cX2_make 128 = .ok (.invokevirtual 60, 3) := by decide +kernel
theorem dX2_make_131 : decode cX2_make 131 = .ok (.iinc 6 1, 3) := by decide +kernel
theorem dX2_make_134 : decode cX2_make 134 = .ok (.goto (-25), 3) := by decide +kernel
theorem dX2_make_137 : decode cX2_make 137 = .ok (.aload_n 0, 1) := by decide +kernel
theorem dX2_make_138 : decode cX2_make 138 = .ok (.getfield 12, 3) := by decide +kernel
theorem dX2_make_141 : decode cX2_make 141 = .ok (.iload 4, 2) := by decide +kernel
theorem dX2_make_143 : decode cX2_make 143 = .ok (.iconst 0, 1) := by decide +kernel
theorem dX2_make_144 : decode cX2_make 144 = .ok (.invokestatic 57, 3) := by decide +kernel
theorem dX2_make_147 : decode cX2_make 147 = .ok (.iload_n 3, 1) := by decide +kernel
theorem dX2_make_148 : decode cX2_make 148 = .ok (.i2l, 1) := by decide +kernel
theorem dX2_make_149 : decode cX2_make 149 = .ok (.invokevirtual 60, 3) := by decide +kernel
theorem dX2_make_152 : decode cX2_make 152 = .ok (.aload_n 0, 1) := by decide +kernel
theorem dX2_make_153 : decode cX2_make 153 = .ok (.getfield 12, 3) := by decide +kernel
theorem dX2_make_156 : decode cX2_make 156 = .ok (.iload_n 1, 1) := by decide +kernel
theorem dX2_make_157 : decode cX2_make 157 = .ok (.iload 5, 2) := by decide +kernel
theorem dX2_make_159 : decode cX2_make 159 = .ok (.invokestatic 64, 3) := by decide +kernel
theorem dX2_make_162 : decode cX2_make 162 = .ok (.iload 4, 2) := by decide +kernel
theorem dX2_make_164 : decode cX2_make 164 = .ok (.iload_n 2, 1) := by decide +kernel
theorem dX2_make_165 : decode cX2_make 165 = .ok (.invokestatic 67, 3) := by decide +kernel
theorem dX2_make_168 : decode cX2_make 168 = .ok (.i2l, 1) := by decide +kernel
theorem dX2_make_169 : decode cX2_make 169 = .ok (.invokevirtual 60, 3) := by decide +kernel
theorem dX2_make_172 : decode cX2_make 172 = .ok (.aload_n 0, 1) := by decide +kernel
theorem dX2_make_173 : decode cX2_make 173 = .ok (.iload 4, 2) := by decide +kernel
theorem dX2_make_175 : decode cX2_make 175 = .ok (.invokevirtual 70, 3) := by decide +kernel
theorem dX2_make_178 : decode cX2_make 178 = .ok (.ireturn, 1) := by decide +kernel
set_option maxRecDepth 20000 in
theorem ggX2_append_X2_isOfKind : GoodIn wsX2_append wsX2_isOfKind := goodIn_r _ [7, 8, 9, 6, 10, 11, 12, 13, 14, 1, 15, 16, 17, 18, 19, 20, 21, 22, 23, 67, 68, 69, 70, 71, 72, 73, 74, 75, 76] (by decide +kernel) (by decide +kernel)
set_option maxRecDepth 20000 in
theorem gX2_append_X2_isOfKind : GoodIn wsX2_append (wsV RX2 35 RX2 yX2_isOfKind wsX2_isOfKind) := goodIn_app (goodIn_of _ (by decide +kernel)) ggX2_append_X2_isOfKind
set_option maxRecDepth 20000 in
theorem ggX2_append_X2_sizeOf : GoodIn wsX2_append wsX2_sizeOf := goodIn_r _ [27, 1, 15, 16, 6, 17, 18, 19, 20, 21, 22, 23, 67, 68, 69, 70, 71, 72, 73, 74, 75, 76] (by decide +kernel) (by decide +kernel)
set_option maxRecDepth 20000 in
theorem gX2_append_X2_sizeOf : GoodIn wsX2_append (wsV RX2 73 RX2 yX2_sizeOf wsX2_sizeOf) := goodIn_app (goodIn_of _ (by decide +kernel)) ggX2_append_X2_sizeOf
set_option maxRecDepth 20000 in
theorem ggX2_append_X2_leastFreeBlock : GoodIn wsX2_append wsX2_leastFreeBlock := goodIn_r _ [31, 32, 33, 34, 6, 35, 36, 37, 38, 39, 11, 12, 13, 14, 1, 15, 16, 17, 18, 19, 20, 21, 22, 23, 24, 25, 26, 27, 40, 41, 42, 43, 44, 45, 46, 67, 68, 69, 70, 71, 72, 73, 74, 75, 76] (by decide +kernel) (by decide +kernel)
set_option maxRecDepth 20000 in
theorem gX2_append_X2_leastFreeBlock : GoodIn wsX2_append (wsV RX2 76 RX2 yX2_leastFreeBlock wsX2_leastFreeBlock) := goodIn_app (goodIn_of _ (by decide +kernel)) ggX2_append_X2_leastFreeBlock
set_option maxRecDepth 20000 in
theorem ggX2_append_X0_begin : GoodIn wsX2_append wsX0_begin := goodIn_r _ [50, 51, 72, 73, 74, 75, 76] (by decide +kernel) (by decide +kernel)
set_option maxRecDepth 20000 in
theorem gX2_append_X0_begin : GoodIn wsX2_append (wsV RX2 54 RX0 yX0_begin wsX0_begin) := goodIn_app (goodIn_of _ (by decide +kernel)) ggX2_append_X0_begin
set_option maxRecDepth 20000 in
theorem ggX2_append_X2_dataAt : GoodIn wsX2_append wsX2_dataAt := goodIn_r _ [54] (by decide +kernel) (by decide +kernel)
set_option maxRecDepth 20000 in
theorem gX2_append_X2_dataAt : GoodIn wsX2_append (va_wsS RX2 79 yX2_dataAt wsX2_dataAt) := goodIn_app (goodIn_of _ (by decide +kernel)) ggX2_append_X2_dataAt
set_option maxRecDepth 20000 in
theorem ggX2_append_X0_write : GoodIn wsX2_append wsX0_write := goodIn_r _ [58, 51, 23, 59, 60, 61, 72, 73, 74, 75, 76] (by decide +kernel) (by decide +kernel)
set_option maxRecDepth 20000 in
theorem gX2_append_X0_write : GoodIn wsX2_append (wsV RX2 60 RX0 yX0_write wsX0_write) := goodIn_app (goodIn_of _ (by decide +kernel)) ggX2_append_X0_write
set_option maxRecDepth 20000 in
theorem ggX2_append_X2_placeAt : GoodIn wsX2_append wsX2_placeAt := goodIn_r _ [46, 15, 16, 6, 17] (by decide +kernel) (by decide +kernel)
set_option maxRecDepth 20000 in
theorem gX2_append_X2_placeAt : GoodIn wsX2_append (va_wsS RX2 64 yX2_placeAt wsX2_placeAt) := goodIn_app (goodIn_of _ (by decide +kernel)) ggX2_append_X2_placeAt
set_option maxRecDepth 20000 in
theorem ggX2_append_X2_inodeAt : GoodIn wsX2_append wsX2_inodeAt := goodIn_r _ [17] (by decide +kernel) (by decide +kernel)
set_option maxRecDepth 20000 in
theorem gX2_append_X2_inodeAt : GoodIn wsX2_append (va_wsS RX2 57 yX2_inodeAt wsX2_inodeAt) := goodIn_app (goodIn_of _ (by decide +kernel)) ggX2_append_X2_inodeAt
set_option maxRecDepth 20000 in
theorem ggX2_append_X2_answerOfAct : GoodIn wsX2_append wsX2_answerOfAct := goodIn_r _ [65, 1, 66, 67, 68, 69, 70, 71, 72, 73, 74, 75, 76] (by decide +kernel) (by decide +kernel)
set_option maxRecDepth 20000 in
theorem gX2_append_X2_answerOfAct : GoodIn wsX2_append (wsV RX2 70 RX2 yX2_answerOfAct wsX2_answerOfAct) := goodIn_app (goodIn_of _ (by decide +kernel)) ggX2_append_X2_answerOfAct
theorem dX2_append_0 : decode cX2_append 0 = .ok (.aload_n 0, 1) := by decide +kernel
theorem dX2_append_1 : decode cX2_append 1 = .ok (.iload_n 1, 1) := by decide +kernel
theorem dX2_append_2 : decode cX2_append 2 = .ok (.iconst 2, 1) := by decide +kernel
theorem dX2_append_3 : decode cX2_append 3 = .ok (.invokevirtual 35, 3) := by decide +kernel
theorem dX2_append_6 : decode cX2_append 6 = .ok (.ifCond .ne 5, 3) := by decide +kernel
theorem dX2_append_9 : decode cX2_append 9 = .ok (.iconst (-1), 1) := by decide +kernel
theorem dX2_append_10 : decode cX2_append 10 = .ok (.ireturn, 1) := by decide +kernel
theorem dX2_append_11 : decode cX2_append 11 = .ok (.aload_n 0, 1) := by decide +kernel
theorem dX2_append_12 : decode cX2_append 12 = .ok (.getfield 12, 3) := by decide +kernel
theorem dX2_append_15 : decode cX2_append 15 = .ok (.getfield 31, 3) := by decide +kernel
theorem dX2_append_18 : decode cX2_append 18 = .ok (.ifCond .eq 6, 3) := by decide +kernel
theorem dX2_append_21 : decode cX2_append 21 = .ok (.bipush (-2), 2) := by decide +kernel
theorem dX2_append_23 : decode cX2_append 23 = .ok (.ireturn, 1) := by decide +kernel
theorem dX2_append_24 : decode cX2_append 24 = .ok (.aload_n 0, 1) := by decide +kernel
theorem dX2_append_25 : decode cX2_append 25 = .ok (.iload_n 1, 1) := by decide +kernel
theorem dX2_append_26 : decode cX2_append 26 = .ok (.invokevirtual 73, 3) := by decide +kernel
theorem dX2_append_29 : decode cX2_append 29 = .ok (.istore 8, 2) := by decide +kernel
theorem dX2_append_31 : decode cX2_append 31 = .ok (.aload_n 0, 1) := by decide +kernel
theorem dX2_append_32 : decode cX2_append 32 = .ok (.invokevirtual 76, 3) := by decide +kernel
theorem dX2_append_35 : decode cX2_append 35 = .ok (.istore 9, 2) := by decide +kernel
theorem dX2_append_37 : decode cX2_append 37 = .ok (.iload 8, 2) := by decide +kernel
theorem dX2_append_39 : decode cX2_append 39 = .ok (.bipush 8, 2) := by decide +kernel
theorem dX2_append_41 : decode cX2_append 41 = .ok (.if_icmp .ge 10, 3) := by decide +kernel
theorem dX2_append_44 : decode cX2_append 44 = .ok (.iload 9, 2) := by decide +kernel
theorem dX2_append_46 : decode cX2_append 46 = .ok (.bipush (-3), 2) := by decide +kernel
theorem dX2_append_48 : decode cX2_append 48 = .ok (.if_icmp .ne 6, 3) := by decide +kernel
theorem dX2_append_51 : decode cX2_append 51 = .ok (.bipush (-5), 2) := by decide +kernel
theorem dX2_append_53 : decode cX2_append 53 = .ok (.ireturn, 1) := by decide +kernel
theorem dX2_append_54 : decode cX2_append 54 = .ok (.aload_n 0, 1) := by decide +kernel
theorem dX2_append_55 : decode cX2_append 55 = .ok (.getfield 12, 3) := by decide +kernel
theorem dX2_append_58 : decode cX2_append 58 = .ok (.invokevirtual 54, 3) := by decide +kernel
theorem dX2_append_61 : decode cX2_append 61 = .ok (.aload_n 0, 1) := by decide +kernel
theorem dX2_append_62 : decode cX2_append 62 = .ok (.getfield 12, 3) := by decide +kernel
theorem dX2_append_65 : decode cX2_append 65 = .ok (.iload 9, 2) := by decide +kernel
theorem dX2_append_67 : decode cX2_append 67 = .ok (.iconst 0, 1) := by decide +kernel
theorem dX2_append_68 : decode cX2_append 68 = .ok (.invokestatic 79, 3) := by decide +kernel
theorem dX2_append_71 : decode cX2_append 71 = .ok (.lload_n 2, 1) := by decide +kernel
theorem dX2_append_72 : decode cX2_append 72 = .ok (.invokevirtual 60, 3) := by decide +kernel
theorem dX2_append_75 : decode cX2_append 75 = .ok (.aload_n 0, 1) := by decide +kernel
theorem dX2_append_76 : decode cX2_append 76 = .ok (.getfield 12, 3) := by decide +kernel
theorem dX2_append_79 : decode cX2_append 79 = .ok (.iload 9, 2) := by decide +kernel
theorem dX2_append_81 : decode cX2_append 81 = .ok (.iconst 1, 1) := by decide +kernel
theorem dX2_append_82 : decode cX2_append 82 = .ok (.invokestatic 79, 3) := by decide +kernel
theorem dX2_append_85 : decode cX2_append 85 = .ok (.lload 4, 2) := by decide +kernel
theorem dX2_append_87 : decode cX2_append 87 = .ok (.invokevirtual 60, 3) := by decide +kernel
theorem dX2_append_90 : decode cX2_append 90 = .ok (.aload_n 0, 1) := by decide +kernel
theorem dX2_append_91 : decode cX2_append 91 = .ok (.getfield 12, 3) := by decide +kernel
theorem dX2_append_94 : decode cX2_append 94 = .ok (.iload 9, 2) := by decide +kernel
theorem dX2_append_96 : decode cX2_append 96 = .ok (.iconst 2, 1) := by decide +kernel
theorem dX2_append_97 : decode cX2_append 97 = .ok (.invokestatic 79, 3) := by decide +kernel
theorem dX2_append_100 : decode cX2_append 100 = .ok (.lload 6, 2) := by decide +kernel
theorem dX2_append_102 : decode cX2_append 102 = .ok (.invokevirtual 60, 3) := by decide +kernel
theorem dX2_append_105 : decode cX2_append 105 = .ok (.aload_n 0, 1) := by decide +kernel
theorem dX2_append_106 : decode cX2_append 106 = .ok (.getfield 12, 3) := by decide +kernel
theorem dX2_append_109 : decode cX2_append 109 = .ok (.iload_n 1, 1) := by decide +kernel
theorem dX2_append_110 : decode cX2_append 110 = .ok (.iload 8, 2) := by decide +kernel
theorem dX2_append_112 : decode cX2_append 112 = .ok (.invokestatic 64, 3) := by decide +kernel
theorem dX2_append_115 : decode cX2_append 115 = .ok (.iload 9, 2) := by decide +kernel
theorem dX2_append_117 : decode cX2_append 117 = .ok (.i2l, 1) := by decide +kernel
theorem dX2_append_118 : decode cX2_append 118 = .ok (.invokevirtual 60, 3) := by decide +kernel
theorem dX2_append_121 : decode cX2_append 121 = .ok (.aload_n 0, 1) := by decide +kernel
theorem dX2_append_122 : decode cX2_append 122 = .ok (.getfield 12, 3) := by decide +kernel
theorem dX2_append_125 : decode cX2_append 125 = .ok (.iload_n 1, 1) := by decide +kernel
theorem dX2_append_126 : decode cX2_append 126 = .ok (.iconst 1, 1) := by decide +kernel
theorem dX2_append_127 : decode cX2_append 127 = .ok (.invokestatic 57, 3) := by decide +kernel
theorem dX2_append_130 : decode cX2_append 130 = .ok (.iload 8, 2) := by decide +kernel
theorem dX2_append_132 : decode cX2_append 132 = .ok (.iconst 1, 1) := by decide +kernel
theorem dX2_append_133 : decode cX2_append 133 = .ok (.iadd, 1) := by decide +kernel
theorem dX2_append_134 : decode cX2_append 134 = .ok (.i2l, 1) := by decide +kernel
theorem dX2_append_135 : decode cX2_append 135 = .ok (.invokevirtual 60, 3) := by decide +kernel
theorem dX2_append_138 : decode cX2_append 138 = .ok (.aload_n 0, 1) := by decide +kernel
theorem dX2_append_139 : decode cX2_append 139 = .ok (.iload 8, 2) := by decide +kernel
theorem dX2_append_141 : decode cX2_append 141 = .ok (.iconst 1, 1) := by decide +kernel
theorem dX2_append_142 : decode cX2_append 142 = .ok (.iadd, 1) := by decide +kernel
theorem dX2_append_143 : decode cX2_append 143 = .ok (.invokevirtual 70, 3) := by decide +kernel
theorem dX2_append_146 : decode cX2_append 146 = .ok (.ireturn, 1) := by decide +kernel
set_option maxRecDepth 20000 in
theorem ggX2_put_X2_isDataOfFile : GoodIn wsX2_put wsX2_isDataOfFile := goodIn_r _ [7, 8, 9, 10, 6, 11, 12, 13, 14, 15, 16, 17, 18, 1, 19, 20, 21, 22, 23, 24, 25, 26, 27, 28, 29, 30, 31, 59, 60, 61, 62, 63, 64, 65, 66, 67, 68] (by decide +kernel) (by decide +kernel)
set_option maxRecDepth 20000 in
theorem gX2_put_X2_isDataOfFile : GoodIn wsX2_put (wsV RX2 82 RX2 yX2_isDataOfFile wsX2_isDataOfFile) := goodIn_app (goodIn_of _ (by decide +kernel)) ggX2_put_X2_isDataOfFile
set_option maxRecDepth 20000 in
theorem ggX2_put_X0_begin : GoodIn wsX2_put wsX0_begin := goodIn_r _ [35, 36, 64, 65, 66, 67, 68] (by decide +kernel) (by decide +kernel)
set_option maxRecDepth 20000 in
theorem gX2_put_X0_begin : GoodIn wsX2_put (wsV RX2 54 RX0 yX0_begin wsX0_begin) := goodIn_app (goodIn_of _ (by decide +kernel)) ggX2_put_X0_begin
set_option maxRecDepth 20000 in
theorem ggX2_put_X2_placeOf : GoodIn wsX2_put wsX2_placeOf := goodIn_r _ [40, 1, 41, 42, 6, 43, 19, 20, 21, 22, 23, 24, 25, 26, 27, 59, 60, 61, 62, 63, 64, 65, 66, 67, 68] (by decide +kernel) (by decide +kernel)
set_option maxRecDepth 20000 in
theorem gX2_put_X2_placeOf : GoodIn wsX2_put (wsV RX2 86 RX2 yX2_placeOf wsX2_placeOf) := goodIn_app (goodIn_of _ (by decide +kernel)) ggX2_put_X2_placeOf
set_option maxRecDepth 20000 in
theorem ggX2_put_X2_dataAt : GoodIn wsX2_put wsX2_dataAt := goodIn_r _ [46] (by decide +kernel) (by decide +kernel)
set_option maxRecDepth 20000 in
theorem gX2_put_X2_dataAt : GoodIn wsX2_put (va_wsS RX2 79 yX2_dataAt wsX2_dataAt) := goodIn_app (goodIn_of _ (by decide +kernel)) ggX2_put_X2_dataAt
set_option maxRecDepth 20000 in
theorem ggX2_put_X0_write : GoodIn wsX2_put wsX0_write := goodIn_r _ [50, 36, 27, 51, 52, 53, 64, 65, 66, 67, 68] (by decide +kernel) (by decide +kernel)
set_option maxRecDepth 20000 in
theorem gX2_put_X0_write : GoodIn wsX2_put (wsV RX2 60 RX0 yX0_write wsX0_write) := goodIn_app (goodIn_of _ (by decide +kernel)) ggX2_put_X0_write
set_option maxRecDepth 20000 in
theorem ggX2_put_X2_answerOfAct : GoodIn wsX2_put wsX2_answerOfAct := goodIn_r _ [57, 1, 58, 59, 60, 61, 62, 63, 64, 65, 66, 67, 68] (by decide +kernel) (by decide +kernel)
set_option maxRecDepth 20000 in
theorem gX2_put_X2_answerOfAct : GoodIn wsX2_put (wsV RX2 70 RX2 yX2_answerOfAct wsX2_answerOfAct) := goodIn_app (goodIn_of _ (by decide +kernel)) ggX2_put_X2_answerOfAct
theorem dX2_put_0 : decode cX2_put 0 = .ok (.aload_n 0, 1) := by decide +kernel
theorem dX2_put_1 : decode cX2_put 1 = .ok (.iload_n 1, 1) := by decide +kernel
theorem dX2_put_2 : decode cX2_put 2 = .ok (.iload_n 2, 1) := by decide +kernel
theorem dX2_put_3 : decode cX2_put 3 = .ok (.iload_n 3, 1) := by decide +kernel
theorem dX2_put_4 : decode cX2_put 4 = .ok (.invokevirtual 82, 3) := by decide +kernel
theorem dX2_put_7 : decode cX2_put 7 = .ok (.ifCond .ne 5, 3) := by decide +kernel
theorem dX2_put_10 : decode cX2_put 10 = .ok (.iconst (-1), 1) := by decide +kernel
theorem dX2_put_11 : decode cX2_put 11 = .ok (.ireturn, 1) := by decide +kernel
theorem dX2_put_12 : decode cX2_put 12 = .ok (.aload_n 0, 1) := by decide +kernel
theorem dX2_put_13 : decode cX2_put 13 = .ok (.getfield 12, 3) := by decide +kernel
theorem dX2_put_16 : decode cX2_put 16 = .ok (.getfield 31, 3) := by decide +kernel
theorem dX2_put_19 : decode cX2_put 19 = .ok (.ifCond .eq 6, 3) := by decide +kernel
theorem dX2_put_22 : decode cX2_put 22 = .ok (.bipush (-2), 2) := by decide +kernel
theorem dX2_put_24 : decode cX2_put 24 = .ok (.ireturn, 1) := by decide +kernel
theorem dX2_put_25 : decode cX2_put 25 = .ok (.aload_n 0, 1) := by decide +kernel
theorem dX2_put_26 : decode cX2_put 26 = .ok (.getfield 12, 3) := by decide +kernel
theorem dX2_put_29 : decode cX2_put 29 = .ok (.invokevirtual 54, 3) := by decide +kernel
theorem dX2_put_32 : decode cX2_put 32 = .ok (.aload_n 0, 1) := by decide +kernel
theorem dX2_put_33 : decode cX2_put 33 = .ok (.getfield 12, 3) := by decide +kernel
theorem dX2_put_36 : decode cX2_put 36 = .ok (.aload_n 0, 1) := by decide +kernel
theorem dX2_put_37 : decode cX2_put 37 = .ok (.iload_n 1, 1) := by decide +kernel
theorem dX2_put_38 : decode cX2_put 38 = .ok (.iload_n 2, 1) := by decide +kernel
theorem dX2_put_39 : decode cX2_put 39 = .ok (.invokevirtual 86, 3) := by decide +kernel
theorem dX2_put_42 : decode cX2_put 42 = .ok (.iload_n 3, 1) := by decide +kernel
theorem dX2_put_43 : decode cX2_put 43 = .ok (.invokestatic 79, 3) := by decide +kernel
theorem dX2_put_46 : decode cX2_put 46 = .ok (.lload 4, 2) := by decide +kernel
theorem dX2_put_48 : decode cX2_put 48 = .ok (.invokevirtual 60, 3) := by decide +kernel
theorem dX2_put_51 : decode cX2_put 51 = .ok (.aload_n 0, 1) := by decide +kernel
theorem dX2_put_52 : decode cX2_put 52 = .ok (.iconst 1, 1) := by decide +kernel
theorem dX2_put_53 : decode cX2_put 53 = .ok (.invokevirtual 70, 3) := by decide +kernel
theorem dX2_put_56 : decode cX2_put 56 = .ok (.ireturn, 1) := by decide +kernel
set_option maxRecDepth 20000 in
theorem ggX2_remove_X2_isOfKind : GoodIn wsX2_remove wsX2_isOfKind := goodIn_r _ [7, 8, 9, 6, 10, 11, 12, 13, 14, 1, 15, 16, 17, 18, 19, 20, 21, 22, 23, 65, 66, 67, 68, 69, 70, 71, 72, 73, 74] (by decide +kernel) (by decide +kernel)
set_option maxRecDepth 20000 in
theorem gX2_remove_X2_isOfKind : GoodIn wsX2_remove (wsV RX2 35 RX2 yX2_isOfKind wsX2_isOfKind) := goodIn_app (goodIn_of _ (by decide +kernel)) ggX2_remove_X2_isOfKind
set_option maxRecDepth 20000 in
theorem ggX2_remove_X2_isName : GoodIn wsX2_remove wsX2_isName := goodIn_r _ [26] (by decide +kernel) (by decide +kernel)
set_option maxRecDepth 20000 in
theorem gX2_remove_X2_isName : GoodIn wsX2_remove (va_wsS RX2 38 yX2_isName wsX2_isName) := goodIn_app (goodIn_of _ (by decide +kernel)) ggX2_remove_X2_isName
set_option maxRecDepth 20000 in
theorem ggX2_remove_X2_placeOfName : GoodIn wsX2_remove wsX2_placeOfName := goodIn_r _ [30, 31, 32, 33, 6, 34, 1, 35, 36, 37, 15, 16, 17, 18, 19, 20, 21, 22, 23, 38, 39, 40, 65, 66, 67, 68, 69, 70, 71, 72, 73, 74] (by decide +kernel) (by decide +kernel)
set_option maxRecDepth 20000 in
theorem gX2_remove_X2_placeOfName : GoodIn wsX2_remove (wsV RX2 42 RX2 yX2_placeOfName wsX2_placeOfName) := goodIn_app (goodIn_of _ (by decide +kernel)) ggX2_remove_X2_placeOfName
set_option maxRecDepth 20000 in
theorem ggX2_remove_X2_placeOf : GoodIn wsX2_remove wsX2_placeOf := goodIn_r _ [34, 1, 35, 36, 6, 37, 15, 16, 17, 18, 19, 20, 21, 22, 23, 65, 66, 67, 68, 69, 70, 71, 72, 73, 74] (by decide +kernel) (by decide +kernel)
set_option maxRecDepth 20000 in
theorem gX2_remove_X2_placeOf : GoodIn wsX2_remove (wsV RX2 86 RX2 yX2_placeOf wsX2_placeOf) := goodIn_app (goodIn_of _ (by decide +kernel)) ggX2_remove_X2_placeOf
set_option maxRecDepth 20000 in
theorem ggX2_remove_X2_inodeOfEntry : GoodIn wsX2_remove wsX2_inodeOfEntry := goodIn_r _ [43] (by decide +kernel) (by decide +kernel)
set_option maxRecDepth 20000 in
theorem gX2_remove_X2_inodeOfEntry : GoodIn wsX2_remove (va_wsS RX2 89 yX2_inodeOfEntry wsX2_inodeOfEntry) := goodIn_app (goodIn_of _ (by decide +kernel)) ggX2_remove_X2_inodeOfEntry
set_option maxRecDepth 20000 in
theorem ggX2_remove_X2_kindOf : GoodIn wsX2_remove wsX2_kindOf := goodIn_r _ [14, 1, 15, 16, 6, 17, 18, 19, 20, 21, 22, 23, 65, 66, 67, 68, 69, 70, 71, 72, 73, 74] (by decide +kernel) (by decide +kernel)
set_option maxRecDepth 20000 in
theorem gX2_remove_X2_kindOf : GoodIn wsX2_remove (wsV RX2 92 RX2 yX2_kindOf wsX2_kindOf) := goodIn_app (goodIn_of _ (by decide +kernel)) ggX2_remove_X2_kindOf
set_option maxRecDepth 20000 in
theorem ggX2_remove_X2_entriesOf : GoodIn wsX2_remove wsX2_entriesOf := goodIn_r _ [47, 31, 32, 33, 6, 34, 1, 35, 36, 37, 15, 16, 17, 18, 19, 20, 21, 22, 23, 65, 66, 67, 68, 69, 70, 71, 72, 73, 74] (by decide +kernel) (by decide +kernel)
set_option maxRecDepth 20000 in
theorem gX2_remove_X2_entriesOf : GoodIn wsX2_remove (wsV RX2 95 RX2 yX2_entriesOf wsX2_entriesOf) := goodIn_app (goodIn_of _ (by decide +kernel)) ggX2_remove_X2_entriesOf
set_option maxRecDepth 20000 in
theorem ggX2_remove_X0_begin : GoodIn wsX2_remove wsX0_begin := goodIn_r _ [51, 52, 70, 71, 72, 73, 74] (by decide +kernel) (by decide +kernel)
set_option maxRecDepth 20000 in
theorem gX2_remove_X0_begin : GoodIn wsX2_remove (wsV RX2 54 RX0 yX0_begin wsX0_begin) := goodIn_app (goodIn_of _ (by decide +kernel)) ggX2_remove_X0_begin
set_option maxRecDepth 20000 in
theorem ggX2_remove_X2_placeAt : GoodIn wsX2_remove wsX2_placeAt := goodIn_r _ [37, 15, 16, 6, 17] (by decide +kernel) (by decide +kernel)
set_option maxRecDepth 20000 in
theorem gX2_remove_X2_placeAt : GoodIn wsX2_remove (va_wsS RX2 64 yX2_placeAt wsX2_placeAt) := goodIn_app (goodIn_of _ (by decide +kernel)) ggX2_remove_X2_placeAt
set_option maxRecDepth 20000 in
theorem ggX2_remove_X0_write : GoodIn wsX2_remove wsX0_write := goodIn_r _ [56, 52, 23, 57, 58, 59, 70, 71, 72, 73, 74] (by decide +kernel) (by decide +kernel)
set_option maxRecDepth 20000 in
theorem gX2_remove_X0_write : GoodIn wsX2_remove (wsV RX2 60 RX0 yX0_write wsX0_write) := goodIn_app (goodIn_of _ (by decide +kernel)) ggX2_remove_X0_write
set_option maxRecDepth 20000 in
theorem ggX2_remove_X2_inodeAt : GoodIn wsX2_remove wsX2_inodeAt := goodIn_r _ [17] (by decide +kernel) (by decide +kernel)
set_option maxRecDepth 20000 in
theorem gX2_remove_X2_inodeAt : GoodIn wsX2_remove (va_wsS RX2 57 yX2_inodeAt wsX2_inodeAt) := goodIn_app (goodIn_of _ (by decide +kernel)) ggX2_remove_X2_inodeAt
set_option maxRecDepth 20000 in
theorem ggX2_remove_X2_answerOfAct : GoodIn wsX2_remove wsX2_answerOfAct := goodIn_r _ [63, 1, 64, 65, 66, 67, 68, 69, 70, 71, 72, 73, 74] (by decide +kernel) (by decide +kernel)
set_option maxRecDepth 20000 in
theorem gX2_remove_X2_answerOfAct : GoodIn wsX2_remove (wsV RX2 70 RX2 yX2_answerOfAct wsX2_answerOfAct) := goodIn_app (goodIn_of _ (by decide +kernel)) ggX2_remove_X2_answerOfAct
theorem dX2_remove_0 : decode cX2_remove 0 = .ok (.aload_n 0, 1) := by decide +kernel
theorem dX2_remove_1 : decode cX2_remove 1 = .ok (.iload_n 1, 1) := by decide +kernel
theorem dX2_remove_2 : decode cX2_remove 2 = .ok (.iconst 1, 1) := by decide +kernel
theorem dX2_remove_3 : decode cX2_remove 3 = .ok (.invokevirtual 35, 3) := by decide +kernel
theorem dX2_remove_6 : decode cX2_remove 6 = .ok (.ifCond .eq 10, 3) := by decide +kernel
theorem dX2_remove_9 : decode cX2_remove 9 = .ok (.iload_n 2, 1) := by decide +kernel
theorem dX2_remove_10 : decode cX2_remove 10 = .ok (.invokestatic 38, 3) := by decide +kernel
theorem dX2_remove_13 : decode cX2_remove 13 = .ok (.ifCond .ne 5, 3) := by decide +kernel
theorem dX2_remove_16 : decode cX2_remove 16 = .ok (.iconst (-1), 1) := by decide +kernel
theorem dX2_remove_17 : decode cX2_remove 17 = .ok (.ireturn, 1) := by decide +kernel
theorem dX2_remove_18 : decode cX2_remove 18 = .ok (.aload_n 0, 1) := by decide +kernel
theorem dX2_remove_19 : decode cX2_remove 19 = .ok (.getfield 12, 3) := by decide +kernel
theorem dX2_remove_22 : decode cX2_remove 22 = .ok (.getfield 31, 3) := by decide +kernel
theorem dX2_remove_25 : decode cX2_remove 25 = .ok (.ifCond .eq 6, 3) := by decide +kernel
theorem dX2_remove_28 : decode cX2_remove 28 = .ok (.bipush (-2), 2) := by decide +kernel
theorem dX2_remove_30 : decode cX2_remove 30 = .ok (.ireturn, 1) := by decide +kernel
theorem dX2_remove_31 : decode cX2_remove 31 = .ok (.aload_n 0, 1) := by decide +kernel
theorem dX2_remove_32 : decode cX2_remove 32 = .ok (.iload_n 1, 1) := by decide +kernel
theorem dX2_remove_33 : decode cX2_remove 33 = .ok (.iload_n 2, 1) := by decide +kernel
theorem dX2_remove_34 : decode cX2_remove 34 = .ok (.invokevirtual 42, 3) := by decide +kernel
theorem dX2_remove_37 : decode cX2_remove 37 = .ok (.istore_n 3, 1) := by decide +kernel
theorem dX2_remove_38 : decode cX2_remove 38 = .ok (.iload_n 3, 1) := by decide +kernel
theorem dX2_remove_39 : decode cX2_remove 39 = .ok (.bipush (-3), 2) := by decide +kernel
theorem dX2_remove_41 : decode cX2_remove 41 = .ok (.if_icmp .ne 6, 3) := by decide +kernel
theorem dX2_remove_44 : decode cX2_remove 44 = .ok (.bipush (-3), 2) := by decide +kernel
theorem dX2_remove_46 : decode cX2_remove 46 = .ok (.ireturn, 1) := by decide +kernel
theorem dX2_remove_47 : decode cX2_remove 47 = .ok (.aload_n 0, 1) := by decide +kernel
theorem dX2_remove_48 : decode cX2_remove 48 = .ok (.iload_n 1, 1) := by decide +kernel
theorem dX2_remove_49 : decode cX2_remove 49 = .ok (.iload_n 3, 1) := by decide +kernel
theorem dX2_remove_50 : decode cX2_remove 50 = .ok (.invokevirtual 86, 3) := by decide +kernel
theorem dX2_remove_53 : decode cX2_remove 53 = .ok (.invokestatic 89, 3) := by decide +kernel
theorem dX2_remove_56 : decode cX2_remove 56 = .ok (.istore 4, 2) := by decide +kernel
theorem dX2_remove_58 : decode cX2_remove 58 = .ok (.aload_n 0, 1) := by decide +kernel
theorem dX2_remove_59 : decode cX2_remove 59 = .ok (.iload 4, 2) := by decide +kernel
theorem dX2_remove_61 : decode cX2_remove 61 = .ok (.invokevirtual 92, 3) := by decide +kernel
theorem dX2_remove_64 : decode cX2_remove 64 = .ok (.iconst 1, 1) := by decide +kernel
theorem dX2_remove_65 : decode cX2_remove 65 = .ok (.if_icmp .ne 15, 3) := by decide +kernel
theorem dX2_remove_68 : decode cX2_remove 68 = .ok (.aload_n 0, 1) := by decide +kernel
theorem dX2_remove_69 : decode cX2_remove 69 = .ok (.iload 4, 2) := by decide +kernel
theorem dX2_remove_71 : decode cX2_remove 71 = .ok (.invokevirtual 95, 3) := by decide +kernel
theorem dX2_remove_74 : decode cX2_remove 74 = .ok (.ifCond .le 6, 3) := by decide +kernel
theorem dX2_remove_77 : decode cX2_remove 77 = .ok (.bipush (-6), 2) := by decide +kernel
theorem dX2_remove_79 : decode cX2_remove 79 = .ok (.ireturn, 1) := by decide +kernel
theorem dX2_remove_80 : decode cX2_remove 80 = .ok (.aload_n 0, 1) := by decide +kernel
theorem dX2_remove_81 : decode cX2_remove 81 = .ok (.getfield 12, 3) := by decide +kernel
theorem dX2_remove_84 : decode cX2_remove 84 = .ok (.invokevirtual 54, 3) := by decide +kernel
theorem dX2_remove_87 : decode cX2_remove 87 = .ok (.aload_n 0, 1) := by decide +kernel
theorem dX2_remove_88 : decode cX2_remove 88 = .ok (.getfield 12, 3) := by decide +kernel
theorem dX2_remove_91 : decode cX2_remove 91 = .ok (.iload_n 1, 1) := by decide +kernel
theorem dX2_remove_92 : decode cX2_remove 92 = .ok (.iload_n 3, 1) := by decide +kernel
theorem dX2_remove_93 : decode cX2_remove 93 = .ok (.invokestatic 64, 3) := by decide +kernel
theorem dX2_remove_96 : decode cX2_remove 96 = .ok (.lconst 0, 1) := by decide +kernel
theorem dX2_remove_97 : decode cX2_remove 97 = .ok (.invokevirtual 60, 3) := by decide +kernel
theorem dX2_remove_100 : decode cX2_remove 100 = .ok (.aload_n 0, 1) := by decide +kernel
theorem dX2_remove_101 : decode cX2_remove 101 = .ok (.getfield 12, 3) := by decide +kernel
theorem dX2_remove_104 : decode cX2_remove 104 = .ok (.iload 4, 2) := by decide +kernel
theorem dX2_remove_106 : decode cX2_remove 106 = .ok (.iconst 0, 1) := by decide +kernel
theorem dX2_remove_107 : decode cX2_remove 107 = .ok (.invokestatic 57, 3) := by decide +kernel
theorem dX2_remove_110 : decode cX2_remove 110 = .ok (.lconst 0, 1) := by decide +kernel
theorem dX2_remove_111 : decode cX2_remove 111 = .ok (.invokevirtual 60, 3) := by decide +kernel
theorem dX2_remove_114 : decode cX2_remove 114 = .ok (.aload_n 0, 1) := by decide +kernel
theorem dX2_remove_115 : decode cX2_remove 115 = .ok (.iload 4, 2) := by decide +kernel
theorem dX2_remove_117 : decode cX2_remove 117 = .ok (.invokevirtual 70, 3) := by decide +kernel
theorem dX2_remove_120 : decode cX2_remove 120 = .ok (.ireturn, 1) := by decide +kernel
set_option maxRecDepth 20000 in
theorem ggX2_rename_X2_isOfKind : GoodIn wsX2_rename wsX2_isOfKind := goodIn_r _ [7, 8, 9, 6, 10, 11, 12, 13, 14, 1, 15, 16, 17, 18, 19, 20, 21, 22, 23, 80, 81, 82, 83, 84, 85, 86, 87, 88, 89] (by decide +kernel) (by decide +kernel)
set_option maxRecDepth 20000 in
theorem gX2_rename_X2_isOfKind : GoodIn wsX2_rename (wsV RX2 35 RX2 yX2_isOfKind wsX2_isOfKind) := goodIn_app (goodIn_of _ (by decide +kernel)) ggX2_rename_X2_isOfKind
set_option maxRecDepth 20000 in
theorem ggX2_rename_X2_isName : GoodIn wsX2_rename wsX2_isName := goodIn_r _ [26] (by decide +kernel) (by decide +kernel)
set_option maxRecDepth 20000 in
theorem gX2_rename_X2_isName : GoodIn wsX2_rename (va_wsS RX2 38 yX2_isName wsX2_isName) := goodIn_app (goodIn_of _ (by decide +kernel)) ggX2_rename_X2_isName
set_option maxRecDepth 20000 in
theorem ggX2_rename_X2_placeOfName : GoodIn wsX2_rename wsX2_placeOfName := goodIn_r _ [30, 31, 32, 33, 6, 34, 1, 35, 36, 37, 15, 16, 17, 18, 19, 20, 21, 22, 23, 38, 39, 40, 80, 81, 82, 83, 84, 85, 86, 87, 88, 89] (by decide +kernel) (by decide +kernel)
set_option maxRecDepth 20000 in
theorem gX2_rename_X2_placeOfName : GoodIn wsX2_rename (wsV RX2 42 RX2 yX2_placeOfName wsX2_placeOfName) := goodIn_app (goodIn_of _ (by decide +kernel)) ggX2_rename_X2_placeOfName
set_option maxRecDepth 20000 in
theorem ggX2_rename_X2_leastPlaceWithoutEntry : GoodIn wsX2_rename wsX2_leastPlaceWithoutEntry := goodIn_r _ [44, 31, 32, 33, 6, 34, 1, 35, 36, 37, 15, 16, 17, 18, 19, 20, 21, 22, 23, 80, 81, 82, 83, 84, 85, 86, 87, 88, 89] (by decide +kernel) (by decide +kernel)
set_option maxRecDepth 20000 in
theorem gX2_rename_X2_leastPlaceWithoutEntry : GoodIn wsX2_rename (wsV RX2 50 RX2 yX2_leastPlaceWithoutEntry wsX2_leastPlaceWithoutEntry) := goodIn_app (goodIn_of _ (by decide +kernel)) ggX2_rename_X2_leastPlaceWithoutEntry
set_option maxRecDepth 20000 in
theorem ggX2_rename_X2_placeOf : GoodIn wsX2_rename wsX2_placeOf := goodIn_r _ [34, 1, 35, 36, 6, 37, 15, 16, 17, 18, 19, 20, 21, 22, 23, 80, 81, 82, 83, 84, 85, 86, 87, 88, 89] (by decide +kernel) (by decide +kernel)
set_option maxRecDepth 20000 in
theorem gX2_rename_X2_placeOf : GoodIn wsX2_rename (wsV RX2 86 RX2 yX2_placeOf wsX2_placeOf) := goodIn_app (goodIn_of _ (by decide +kernel)) ggX2_rename_X2_placeOf
set_option maxRecDepth 20000 in
theorem ggX2_rename_X2_inodeOfEntry : GoodIn wsX2_rename wsX2_inodeOfEntry := goodIn_r _ [47] (by decide +kernel) (by decide +kernel)
set_option maxRecDepth 20000 in
theorem gX2_rename_X2_inodeOfEntry : GoodIn wsX2_rename (va_wsS RX2 89 yX2_inodeOfEntry wsX2_inodeOfEntry) := goodIn_app (goodIn_of _ (by decide +kernel)) ggX2_rename_X2_inodeOfEntry
set_option maxRecDepth 20000 in
theorem ggX2_rename_X2_isWithin : GoodIn wsX2_rename wsX2_isWithin := goodIn_r _ [51, 52, 53, 54, 6, 55, 11, 12, 13, 14, 1, 15, 16, 17, 18, 19, 20, 21, 22, 23, 56, 57, 58, 59, 31, 32, 33, 34, 35, 36, 37, 45, 46, 47, 80, 81, 82, 83, 84, 85, 86, 87, 88, 89] (by decide +kernel) (by decide +kernel)
set_option maxRecDepth 20000 in
theorem gX2_rename_X2_isWithin : GoodIn wsX2_rename (wsV RX2 98 RX2 yX2_isWithin wsX2_isWithin) := goodIn_app (goodIn_of _ (by decide +kernel)) ggX2_rename_X2_isWithin
set_option maxRecDepth 20000 in
theorem ggX2_rename_X0_begin : GoodIn wsX2_rename wsX0_begin := goodIn_r _ [63, 64, 85, 86, 87, 88, 89] (by decide +kernel) (by decide +kernel)
set_option maxRecDepth 20000 in
theorem gX2_rename_X0_begin : GoodIn wsX2_rename (wsV RX2 54 RX0 yX0_begin wsX0_begin) := goodIn_app (goodIn_of _ (by decide +kernel)) ggX2_rename_X0_begin
set_option maxRecDepth 20000 in
theorem ggX2_rename_X2_placeAt : GoodIn wsX2_rename wsX2_placeAt := goodIn_r _ [37, 15, 16, 6, 17] (by decide +kernel) (by decide +kernel)
set_option maxRecDepth 20000 in
theorem gX2_rename_X2_placeAt : GoodIn wsX2_rename (va_wsS RX2 64 yX2_placeAt wsX2_placeAt) := goodIn_app (goodIn_of _ (by decide +kernel)) ggX2_rename_X2_placeAt
set_option maxRecDepth 20000 in
theorem ggX2_rename_X2_entryOf : GoodIn wsX2_rename wsX2_entryOf := goodIn_r _ [67] (by decide +kernel) (by decide +kernel)
set_option maxRecDepth 20000 in
theorem gX2_rename_X2_entryOf : GoodIn wsX2_rename (va_wsS RX2 67 yX2_entryOf wsX2_entryOf) := goodIn_app (goodIn_of _ (by decide +kernel)) ggX2_rename_X2_entryOf
set_option maxRecDepth 20000 in
theorem ggX2_rename_X0_write : GoodIn wsX2_rename wsX0_write := goodIn_r _ [71, 64, 23, 72, 73, 74, 85, 86, 87, 88, 89] (by decide +kernel) (by decide +kernel)
set_option maxRecDepth 20000 in
theorem gX2_rename_X0_write : GoodIn wsX2_rename (wsV RX2 60 RX0 yX0_write wsX0_write) := goodIn_app (goodIn_of _ (by decide +kernel)) ggX2_rename_X0_write
set_option maxRecDepth 20000 in
theorem ggX2_rename_X2_answerOfAct : GoodIn wsX2_rename wsX2_answerOfAct := goodIn_r _ [78, 1, 79, 80, 81, 82, 83, 84, 85, 86, 87, 88, 89] (by decide +kernel) (by decide +kernel)
set_option maxRecDepth 20000 in
theorem gX2_rename_X2_answerOfAct : GoodIn wsX2_rename (wsV RX2 70 RX2 yX2_answerOfAct wsX2_answerOfAct) := goodIn_app (goodIn_of _ (by decide +kernel)) ggX2_rename_X2_answerOfAct
theorem dX2_rename_0 : decode cX2_rename 0 = .ok (.aload_n 0, 1) := by decide +kernel
theorem dX2_rename_1 : decode cX2_rename 1 = .ok (.iload_n 1, 1) := by decide +kernel
theorem dX2_rename_2 : decode cX2_rename 2 = .ok (.iconst 1, 1) := by decide +kernel
theorem dX2_rename_3 : decode cX2_rename 3 = .ok (.invokevirtual 35, 3) := by decide +kernel
theorem dX2_rename_6 : decode cX2_rename 6 = .ok (.ifCond .eq 27, 3) := by decide +kernel
theorem dX2_rename_9 : decode cX2_rename 9 = .ok (.iload_n 2, 1) := by decide +kernel
theorem dX2_rename_10 : decode cX2_rename 10 = .ok (.invokestatic 38, 3) := by decide +kernel
theorem dX2_rename_13 : decode cX2_rename 13 = .ok (.ifCond .eq 20, 3) := by decide +kernel
theorem dX2_rename_16 : decode cX2_rename 16 = .ok (.aload_n 0, 1) := by decide +kernel
theorem dX2_rename_17 : decode cX2_rename 17 = .ok (.iload_n 3, 1) := by decide +kernel
theorem dX2_rename_18 : decode cX2_rename 18 = .ok (.iconst 1, 1) := by decide +kernel
theorem dX2_rename_19 : decode cX2_rename 19 = .ok (.invokevirtual 35, 3) := by decide +kernel
theorem dX2_rename_22 : decode cX2_rename 22 = .ok (.ifCond .eq 11, 3) := by decide +kernel
theorem dX2_rename_25 : decode cX2_rename 25 = .ok (.iload 4, 2) := by decide +kernel
theorem dX2_rename_27 : decode cX2_rename 27 = .ok (.invokestatic 38, 3) := by decide +kernel
theorem dX2_rename_30 : decode cX2_rename 30 = .ok (.ifCond .ne 5, 3) := by decide +kernel
theorem dX2_rename_33 : decode cX2_rename 33 = .ok (.iconst (-1), 1) := by decide +kernel
theorem dX2_rename_34 : decode cX2_rename 34 = .ok (.ireturn, 1) := by decide +kernel
theorem dX2_rename_35 : decode cX2_rename 35 = .ok (.aload_n 0, 1) := by decide +kernel
theorem dX2_rename_36 : decode cX2_rename 36 = .ok (.getfield 12, 3) := by decide +kernel
theorem dX2_rename_39 : decode cX2_rename 39 = .ok (.getfield 31, 3) := by decide +kernel
theorem dX2_rename_42 : decode cX2_rename 42 = .ok (.ifCond .eq 6, 3) := by decide +kernel
theorem dX2_rename_45 : decode cX2_rename 45 = .ok (.bipush (-2), 2) := by decide +kernel
theorem dX2_rename_47 : decode cX2_rename 47 = .ok (.ireturn, 1) := by decide +kernel
theorem dX2_rename_48 : decode cX2_rename 48 = .ok (.aload_n 0, 1) := by decide +kernel
theorem dX2_rename_49 : decode cX2_rename 49 = .ok (.iload_n 1, 1) := by decide +kernel
theorem dX2_rename_50 : decode cX2_rename 50 = .ok (.iload_n 2, 1) := by decide +kernel
theorem dX2_rename_51 : decode cX2_rename 51 = .ok (.invokevirtual 42, 3) := by decide +kernel
theorem dX2_rename_54 : decode cX2_rename 54 = .ok (.istore 5, 2) := by decide +kernel
theorem dX2_rename_56 : decode cX2_rename 56 = .ok (.iload 5, 2) := by decide +kernel
theorem dX2_rename_58 : decode cX2_rename 58 = .ok (.bipush (-3), 2) := by decide +kernel
theorem dX2_rename_60 : decode cX2_rename 60 = .ok (.if_icmp .ne 6, 3) := by decide +kernel
theorem dX2_rename_63 : decode cX2_rename 63 = .ok (.bipush (-3), 2) := by decide +kernel
theorem dX2_rename_65 : decode cX2_rename 65 = .ok (.ireturn, 1) := by decide +kernel
theorem dX2_rename_66 : decode cX2_rename 66 = .ok (.aload_n 0, 1) := by decide +kernel
theorem dX2_rename_67 : decode cX2_rename 67 = .ok (.iload_n 3, 1) := by decide +kernel
theorem dX2_rename_68 : decode cX2_rename 68 = .ok (.iload 4, 2) := by decide +kernel
theorem dX2_rename_70 : decode cX2_rename 70 = .ok (.invokevirtual 42, 3) := by decide +kernel
theorem dX2_rename_73 : decode cX2_rename 73 = .ok (.bipush (-3), 2) := by decide +kernel
theorem dX2_rename_75 : decode cX2_rename 75 = .ok (.if_icmp .eq 6, 3) := by decide +kernel
theorem dX2_rename_78 : decode cX2_rename 78 = .ok (.bipush (-4), 2) := by decide +kernel
theorem dX2_rename_80 : decode cX2_rename 80 = .ok (.ireturn, 1) := by decide +kernel
theorem dX2_rename_81 : decode cX2_rename 81 = .ok (.aload_n 0, 1) := by decide +kernel
theorem dX2_rename_82 : decode cX2_rename 82 = .ok (.iload_n 3, 1) := by decide +kernel
theorem dX2_rename_83 : decode cX2_rename 83 = .ok (.invokevirtual 50, 3) := by decide +kernel
theorem dX2_rename_86 : decode cX2_rename 86 = .ok (.istore 6, 2) := by decide +kernel
theorem dX2_rename_88 : decode cX2_rename 88 = .ok (.iload 6, 2) := by decide +kernel
theorem dX2_rename_90 : decode cX2_rename 90 = .ok (.bipush (-3), 2) := by decide +kernel
theorem dX2_rename_92 : decode cX2_rename 92 = .ok (.if_icmp .ne 6, 3) := by decide +kernel
theorem dX2_rename_95 : decode cX2_rename 95 = .ok (.bipush (-5), 2) := by decide +kernel
theorem dX2_rename_97 : decode cX2_rename 97 = .ok (.ireturn, 1) := by decide +kernel
theorem dX2_rename_98 : decode cX2_rename 98 = .ok (.aload_n 0, 1) := by decide +kernel
theorem dX2_rename_99 : decode cX2_rename 99 = .ok (.iload_n 1, 1) := by decide +kernel
theorem dX2_rename_100 : decode cX2_rename 100 = .ok (.iload 5, 2) := by decide +kernel
theorem dX2_rename_102 : decode cX2_rename 102 = .ok (.invokevirtual 86, 3) := by decide +kernel
theorem dX2_rename_105 : decode cX2_rename 105 = .ok (.invokestatic 89, 3) := by decide +kernel
theorem dX2_rename_108 : decode cX2_rename 108 = .ok (.istore 7, 2) := by decide +kernel
theorem dX2_rename_110 : decode cX2_rename 110 = .ok (.aload_n 0, 1) := by decide +kernel
theorem dX2_rename_111 : decode cX2_rename 111 = .ok (.iload_n 3, 1) := by decide +kernel
theorem dX2_rename_112 : decode cX2_rename 112 = .ok (.iload 7, 2) := by decide +kernel
theorem dX2_rename_114 : decode cX2_rename 114 = .ok (.invokevirtual 98, 3) := by decide +kernel
theorem dX2_rename_117 : decode cX2_rename 117 = .ok (.ifCond .eq 6, 3) := by decide +kernel
theorem dX2_rename_120 : decode cX2_rename 120 = .ok (.bipush (-6), 2) := by decide +kernel
theorem dX2_rename_122 : decode cX2_rename 122 = .ok (.ireturn, 1) := by decide +kernel
theorem dX2_rename_123 : decode cX2_rename 123 = .ok (.aload_n 0, 1) := by decide +kernel
theorem dX2_rename_124 : decode cX2_rename 124 = .ok (.getfield 12, 3) := by decide +kernel
theorem dX2_rename_127 : decode cX2_rename 127 = .ok (.invokevirtual 54, 3) := by decide +kernel
theorem dX2_rename_130 : decode cX2_rename 130 = .ok (.aload_n 0, 1) := by decide +kernel
theorem dX2_rename_131 : decode cX2_rename 131 = .ok (.getfield 12, 3) := by decide +kernel
theorem dX2_rename_134 : decode cX2_rename 134 = .ok (.iload_n 3, 1) := by decide +kernel
theorem dX2_rename_135 : decode cX2_rename 135 = .ok (.iload 6, 2) := by decide +kernel
theorem dX2_rename_137 : decode cX2_rename 137 = .ok (.invokestatic 64, 3) := by decide +kernel
theorem dX2_rename_140 : decode cX2_rename 140 = .ok (.iload 7, 2) := by decide +kernel
theorem dX2_rename_142 : decode cX2_rename 142 = .ok (.iload 4, 2) := by decide +kernel
theorem dX2_rename_144 : decode cX2_rename 144 = .ok (.invokestatic 67, 3) := by decide +kernel
theorem dX2_rename_147 : decode cX2_rename 147 = .ok (.i2l, 1) := by decide +kernel
theorem dX2_rename_148 : decode cX2_rename 148 = .ok (.invokevirtual 60, 3) := by decide +kernel
theorem dX2_rename_151 : decode cX2_rename 151 = .ok (.aload_n 0, 1) := by decide +kernel
theorem dX2_rename_152 : decode cX2_rename 152 = .ok (.getfield 12, 3) := by decide +kernel
theorem dX2_rename_155 : decode cX2_rename 155 = .ok (.iload_n 1, 1) := by decide +kernel
theorem dX2_rename_156 : decode cX2_rename 156 = .ok (.iload 5, 2) := by decide +kernel
theorem dX2_rename_158 : decode cX2_rename 158 = .ok (.invokestatic 64, 3) := by decide +kernel
theorem dX2_rename_161 : decode cX2_rename 161 = .ok (.lconst 0, 1) := by decide +kernel
theorem dX2_rename_162 : decode cX2_rename 162 = .ok (.invokevirtual 60, 3) := by decide +kernel
theorem dX2_rename_165 : decode cX2_rename 165 = .ok (.aload_n 0, 1) := by decide +kernel
theorem dX2_rename_166 : decode cX2_rename 166 = .ok (.iload 7, 2) := by decide +kernel
theorem dX2_rename_168 : decode cX2_rename 168 = .ok (.invokevirtual 70, 3) := by decide +kernel
theorem dX2_rename_171 : decode cX2_rename 171 = .ok (.ireturn, 1) := by decide +kernel
set_option maxRecDepth 20000 in
theorem ggX2_step_X2_findNextMove : GoodIn wsX2_step wsX2_findNextMove := goodIn_r _ [11, 12, 13, 14, 10, 15, 16, 17, 18, 19, 1, 20, 21, 22, 23, 24, 25, 26, 27, 28, 29, 30, 31, 32, 33, 34, 35, 36, 37, 38, 39, 40, 41, 42, 43, 3, 44, 45, 46, 47, 48, 49, 50, 51, 52, 53, 54, 55, 56, 57, 58, 59, 60, 61, 62, 63, 101, 102, 103, 104, 105, 106, 107, 108, 109, 110, 111, 112, 113] (by decide +kernel) (by decide +kernel)
set_option maxRecDepth 20000 in
theorem gX2_step_X2_findNextMove : GoodIn wsX2_step (wsV RX2 101 RX2 yX2_findNextMove wsX2_findNextMove) := goodIn_app (goodIn_of _ (by decide +kernel)) ggX2_step_X2_findNextMove
set_option maxRecDepth 20000 in
theorem ggX2_step_X0_begin : GoodIn wsX2_step wsX0_begin := goodIn_r _ [67, 68, 106, 107, 108, 109, 110] (by decide +kernel) (by decide +kernel)
set_option maxRecDepth 20000 in
theorem gX2_step_X0_begin : GoodIn wsX2_step (wsV RX2 54 RX0 yX0_begin wsX0_begin) := goodIn_app (goodIn_of _ (by decide +kernel)) ggX2_step_X0_begin
set_option maxRecDepth 20000 in
theorem ggX2_step_X2_recordAt : GoodIn wsX2_step wsX2_recordAt := goodIn_r _ [71] (by decide +kernel) (by decide +kernel)
set_option maxRecDepth 20000 in
theorem gX2_step_X2_recordAt : GoodIn wsX2_step (va_wsS RX2 104 yX2_recordAt wsX2_recordAt) := goodIn_app (goodIn_of _ (by decide +kernel)) ggX2_step_X2_recordAt
set_option maxRecDepth 20000 in
theorem ggX2_step_X0_write : GoodIn wsX2_step wsX0_write := goodIn_r _ [75, 68, 28, 76, 77, 78, 106, 107, 108, 109, 110] (by decide +kernel) (by decide +kernel)
set_option maxRecDepth 20000 in
theorem gX2_step_X0_write : GoodIn wsX2_step (wsV RX2 60 RX0 yX0_write wsX0_write) := goodIn_app (goodIn_of _ (by decide +kernel)) ggX2_step_X0_write
set_option maxRecDepth 20000 in
theorem ggX2_step_X2_copyMovedBlock : GoodIn wsX2_step wsX2_copyMovedBlock := goodIn_r _ [82, 1, 83, 84, 85, 86, 10, 87, 69, 70, 71, 23, 24, 25, 26, 27, 28, 33, 34, 35, 36, 37, 38, 39, 20, 21, 22, 88, 89, 90, 72, 73, 74, 75, 68, 76, 77, 78, 101, 102, 103, 104, 105, 106, 107, 108, 109, 110] (by decide +kernel) (by decide +kernel)
set_option maxRecDepth 20000 in
theorem gX2_step_X2_copyMovedBlock : GoodIn wsX2_step (wsV RX2 116 RX2 yX2_copyMovedBlock wsX2_copyMovedBlock) := goodIn_app (goodIn_of _ (by decide +kernel)) ggX2_step_X2_copyMovedBlock
set_option maxRecDepth 20000 in
theorem ggX2_step_X2_linkMovedBlock : GoodIn wsX2_step wsX2_linkMovedBlock := goodIn_r _ [94, 1, 95, 96, 84, 85, 86, 10, 87, 69, 70, 71, 23, 24, 25, 26, 27, 28, 37, 38, 39, 20, 21, 22, 72, 73, 74, 75, 68, 76, 77, 78, 101, 102, 103, 104, 105, 106, 107, 108, 109, 110] (by decide +kernel) (by decide +kernel)
set_option maxRecDepth 20000 in
theorem gX2_step_X2_linkMovedBlock : GoodIn wsX2_step (wsV RX2 119 RX2 yX2_linkMovedBlock wsX2_linkMovedBlock) := goodIn_app (goodIn_of _ (by decide +kernel)) ggX2_step_X2_linkMovedBlock
set_option maxRecDepth 20000 in
theorem ggX2_step_X2_answerOfAct : GoodIn wsX2_step wsX2_answerOfAct := goodIn_r _ [100, 1, 95, 101, 102, 103, 104, 105, 106, 107, 108, 109, 110] (by decide +kernel) (by decide +kernel)
set_option maxRecDepth 20000 in
theorem gX2_step_X2_answerOfAct : GoodIn wsX2_step (wsV RX2 70 RX2 yX2_answerOfAct wsX2_answerOfAct) := goodIn_app (goodIn_of _ (by decide +kernel)) ggX2_step_X2_answerOfAct
theorem dX2_step_0 : decode cX2_step 0 = .ok (.aload_n 0, 1) := by decide +kernel
theorem dX2_step_1 : decode cX2_step 1 = .ok (.getfield 12, 3) := by decide +kernel
theorem dX2_step_4 : decode cX2_step 4 = .ok (.getfield 31, 3) := by decide +kernel
theorem dX2_step_7 : decode cX2_step 7 = .ok (.ifCond .eq 6, 3) := by decide +kernel
theorem dX2_step_10 : decode cX2_step 10 = .ok (.bipush (-2), 2) := by decide +kernel
theorem dX2_step_12 : decode cX2_step 12 = .ok (.ireturn, 1) := by decide +kernel
theorem dX2_step_13 : decode cX2_step 13 = .ok (.aload_n 0, 1) := by decide +kernel
theorem dX2_step_14 : decode cX2_step 14 = .ok (.invokevirtual 101, 3) := by decide +kernel
theorem dX2_step_17 : decode cX2_step 17 = .ok (.istore_n 1, 1) := by decide +kernel
theorem dX2_step_18 : decode cX2_step 18 = .ok (.iload_n 1, 1) := by decide +kernel
theorem dX2_step_19 : decode cX2_step 19 = .ok (.bipush (-3), 2) := by decide +kernel
theorem dX2_step_21 : decode cX2_step 21 = .ok (.if_icmp .ne 5, 3) := by decide +kernel
theorem dX2_step_24 : decode cX2_step 24 = .ok (.iconst 0, 1) := by decide +kernel
theorem dX2_step_25 : decode cX2_step 25 = .ok (.ireturn, 1) := by decide +kernel
theorem dX2_step_26 : decode cX2_step 26 = .ok (.iload_n 1, 1) := by decide +kernel
theorem dX2_step_27 : decode cX2_step 27 = .ok (.bipush (-5), 2) := by decide +kernel
theorem dX2_step_29 : decode cX2_step 29 = .ok (.if_icmp .ne 6, 3) := by decide +kernel
theorem dX2_step_32 : decode cX2_step 32 = .ok (.bipush (-5), 2) := by decide +kernel
theorem dX2_step_34 : decode cX2_step 34 = .ok (.ireturn, 1) := by decide +kernel
theorem dX2_step_35 : decode cX2_step 35 = .ok (.aload_n 0, 1) := by decide +kernel
theorem dX2_step_36 : decode cX2_step 36 = .ok (.getfield 12, 3) := by decide +kernel
theorem dX2_step_39 : decode cX2_step 39 = .ok (.invokevirtual 54, 3) := by decide +kernel
theorem dX2_step_42 : decode cX2_step 42 = .ok (.aload_n 0, 1) := by decide +kernel
theorem dX2_step_43 : decode cX2_step 43 = .ok (.getfield 12, 3) := by decide +kernel
theorem dX2_step_46 : decode cX2_step 46 = .ok (.iconst 1, 1) := by decide +kernel
theorem dX2_step_47 : decode cX2_step 47 = .ok (.invokestatic 104, 3) := by decide +kernel
theorem dX2_step_50 : decode cX2_step 50 = .ok (.aload_n 0, 1) := by decide +kernel
theorem dX2_step_51 : decode cX2_step 51 = .ok (.getfield 19, 3) := by decide +kernel
theorem dX2_step_54 : decode cX2_step 54 = .ok (.getfield 107, 3) := by decide +kernel
theorem dX2_step_57 : decode cX2_step 57 = .ok (.i2l, 1) := by decide +kernel
theorem dX2_step_58 : decode cX2_step 58 = .ok (.invokevirtual 60, 3) := by decide +kernel
theorem dX2_step_61 : decode cX2_step 61 = .ok (.aload_n 0, 1) := by decide +kernel
theorem dX2_step_62 : decode cX2_step 62 = .ok (.getfield 12, 3) := by decide +kernel
theorem dX2_step_65 : decode cX2_step 65 = .ok (.iconst 2, 1) := by decide +kernel
theorem dX2_step_66 : decode cX2_step 66 = .ok (.invokestatic 104, 3) := by decide +kernel
theorem dX2_step_69 : decode cX2_step 69 = .ok (.aload_n 0, 1) := by decide +kernel
theorem dX2_step_70 : decode cX2_step 70 = .ok (.getfield 19, 3) := by decide +kernel
theorem dX2_step_73 : decode cX2_step 73 = .ok (.getfield 110, 3) := by decide +kernel
theorem dX2_step_76 : decode cX2_step 76 = .ok (.i2l, 1) := by decide +kernel
theorem dX2_step_77 : decode cX2_step 77 = .ok (.invokevirtual 60, 3) := by decide +kernel
theorem dX2_step_80 : decode cX2_step 80 = .ok (.aload_n 0, 1) := by decide +kernel
theorem dX2_step_81 : decode cX2_step 81 = .ok (.getfield 12, 3) := by decide +kernel
theorem dX2_step_84 : decode cX2_step 84 = .ok (.iconst 3, 1) := by decide +kernel
theorem dX2_step_85 : decode cX2_step 85 = .ok (.invokestatic 104, 3) := by decide +kernel
theorem dX2_step_88 : decode cX2_step 88 = .ok (.aload_n 0, 1) := by decide +kernel
theorem dX2_step_89 : decode cX2_step 89 = .ok (.getfield 19, 3) := by decide +kernel
theorem dX2_step_92 : decode cX2_step 92 = .ok (.getfield 113, 3) := by decide +kernel
theorem dX2_step_95 : decode cX2_step 95 = .ok (.i2l, 1) := by decide +kernel
theorem dX2_step_96 : decode cX2_step 96 = .ok (.invokevirtual 60, 3) := by decide +kernel
theorem dX2_step_99 : decode cX2_step 99 = .ok (.aload_n 0, 1) := by decide +kernel
theorem dX2_step_100 : decode cX2_step 100 = .ok (.getfield 12, 3) := by decide +kernel
theorem dX2_step_103 : decode cX2_step 103 = .ok (.iconst 0, 1) := by decide +kernel
theorem dX2_step_104 : decode cX2_step 104 = .ok (.invokestatic 104, 3) := by decide +kernel
theorem dX2_step_107 : decode cX2_step 107 = .ok (.lconst 1, 1) := by decide +kernel
theorem dX2_step_108 : decode cX2_step 108 = .ok (.invokevirtual 60, 3) := by decide +kernel
theorem dX2_step_111 : decode cX2_step 111 = .ok (.aload_n 0, 1) := by decide +kernel
theorem dX2_step_112 : decode cX2_step 112 = .ok (.invokevirtual 116, 3) := by decide +kernel
theorem dX2_step_115 : decode cX2_step 115 = .ok (.aload_n 0, 1) := by decide +kernel
theorem dX2_step_116 : decode cX2_step 116 = .ok (.invokevirtual 119, 3) := by decide +kernel
theorem dX2_step_119 : decode cX2_step 119 = .ok (.aload_n 0, 1) := by decide +kernel
theorem dX2_step_120 : decode cX2_step 120 = .ok (.iconst 1, 1) := by decide +kernel
theorem dX2_step_121 : decode cX2_step 121 = .ok (.invokevirtual 70, 3) := by decide +kernel
theorem dX2_step_124 : decode cX2_step 124 = .ok (.ireturn, 1) := by decide +kernel
set_option maxRecDepth 20000 in
theorem ggX2_restart_X0_begin : GoodIn wsX2_restart wsX0_begin := goodIn_r _ [9, 10, 95, 96, 97, 98, 99] (by decide +kernel) (by decide +kernel)
set_option maxRecDepth 20000 in
theorem gX2_restart_X0_begin : GoodIn wsX2_restart (wsV RX2 54 RX0 yX0_begin wsX0_begin) := goodIn_app (goodIn_of _ (by decide +kernel)) ggX2_restart_X0_begin
set_option maxRecDepth 20000 in
theorem ggX2_restart_X2_finishRecordedMove : GoodIn wsX2_restart wsX2_finishRecordedMove := goodIn_r _ [15, 16, 17, 18, 14, 19, 1, 20, 21, 22, 23, 24, 25, 8, 26, 27, 28, 29, 30, 31, 32, 33, 34, 35, 36, 37, 38, 39, 40, 41, 42, 43, 44, 45, 46, 47, 48, 49, 10, 50, 51, 52, 53, 54, 55, 56, 3, 57, 90, 91, 92, 93, 94, 95, 96, 97, 98, 99] (by decide +kernel) (by decide +kernel)
set_option maxRecDepth 20000 in
theorem gX2_restart_X2_finishRecordedMove : GoodIn wsX2_restart (wsV RX2 125 RX2 yX2_finishRecordedMove wsX2_finishRecordedMove) := goodIn_app (goodIn_of _ (by decide +kernel)) ggX2_restart_X2_finishRecordedMove
set_option maxRecDepth 20000 in
theorem ggX2_restart_X2_clearWrongEntries : GoodIn wsX2_restart wsX2_clearWrongEntries := goodIn_r _ [61, 62, 63, 64, 65, 14, 66, 1, 40, 41, 42, 23, 24, 25, 8, 26, 27, 67, 68, 69, 70, 33, 34, 35, 36, 37, 38, 39, 71, 72, 73, 74, 75, 76, 77, 46, 47, 48, 49, 10, 50, 51, 52, 90, 91, 92, 93, 94, 95, 96, 97, 98, 99] (by decide +kernel) (by decide +kernel)
set_option maxRecDepth 20000 in
theorem gX2_restart_X2_clearWrongEntries : GoodIn wsX2_restart (wsV RX2 128 RX2 yX2_clearWrongEntries wsX2_clearWrongEntries) := goodIn_app (goodIn_of _ (by decide +kernel)) ggX2_restart_X2_clearWrongEntries
set_option maxRecDepth 20000 in
theorem ggX2_restart_X2_clearInodesWithoutEntry : GoodIn wsX2_restart wsX2_clearInodesWithoutEntry := goodIn_r _ [81, 1, 63, 64, 65, 14, 66, 40, 41, 42, 23, 24, 25, 8, 26, 27, 82, 83, 84, 85, 86, 87, 88, 89, 33, 34, 35, 36, 37, 38, 39, 71, 72, 73, 46, 47, 48, 49, 10, 50, 51, 52, 90, 91, 92, 93, 94, 95, 96, 97, 98, 99] (by decide +kernel) (by decide +kernel)
set_option maxRecDepth 20000 in
theorem gX2_restart_X2_clearInodesWithoutEntry : GoodIn wsX2_restart (wsV RX2 131 RX2 yX2_clearInodesWithoutEntry wsX2_clearInodesWithoutEntry) := goodIn_app (goodIn_of _ (by decide +kernel)) ggX2_restart_X2_clearInodesWithoutEntry
theorem dX2_restart_0 : decode cX2_restart 0 = .ok (.aload_n 0, 1) := by decide +kernel
theorem dX2_restart_1 : decode cX2_restart 1 = .ok (.getfield 12, 3) := by decide +kernel
theorem dX2_restart_4 : decode cX2_restart 4 = .ok (.getfield 122, 3) := by decide +kernel
theorem dX2_restart_7 : decode cX2_restart 7 = .ok (.istore_n 1, 1) := by decide +kernel
theorem dX2_restart_8 : decode cX2_restart 8 = .ok (.aload_n 0, 1) := by decide +kernel
theorem dX2_restart_9 : decode cX2_restart 9 = .ok (.getfield 12, 3) := by decide +kernel
theorem dX2_restart_12 : decode cX2_restart 12 = .ok (.invokevirtual 54, 3) := by decide +kernel
theorem dX2_restart_15 : decode cX2_restart 15 = .ok (.aload_n 0, 1) := by decide +kernel
theorem dX2_restart_16 : decode cX2_restart 16 = .ok (.invokevirtual 125, 3) := by decide +kernel
theorem dX2_restart_19 : decode cX2_restart 19 = .ok (.iconst 0, 1) := by decide +kernel
theorem dX2_restart_20 : decode cX2_restart 20 = .ok (.istore_n 2, 1) := by decide +kernel
theorem dX2_restart_21 : decode cX2_restart 21 = .ok (.iload_n 2, 1) := by decide +kernel
theorem dX2_restart_22 : decode cX2_restart 22 = .ok (.bipush 120, 2) := by decide +kernel
theorem dX2_restart_24 : decode cX2_restart 24 = .ok (.if_icmp .ge 39, 3) := by decide +kernel
theorem dX2_restart_27 : decode cX2_restart 27 = .ok (.aload_n 0, 1) := by decide +kernel
theorem dX2_restart_28 : decode cX2_restart 28 = .ok (.getfield 12, 3) := by decide +kernel
theorem dX2_restart_31 : decode cX2_restart 31 = .ok (.getfield 122, 3) := by decide +kernel
theorem dX2_restart_34 : decode cX2_restart 34 = .ok (.istore_n 3, 1) := by decide +kernel
theorem dX2_restart_35 : decode cX2_restart 35 = .ok (.aload_n 0, 1) := by decide +kernel
theorem dX2_restart_36 : decode cX2_restart 36 = .ok (.invokevirtual 128, 3) := by decide +kernel
theorem dX2_restart_39 : decode cX2_restart 39 = .ok (.aload_n 0, 1) := by decide +kernel
theorem dX2_restart_40 : decode cX2_restart 40 = .ok (.invokevirtual 131, 3) := by decide +kernel
theorem dX2_restart_43 : decode cX2_restart 43 = .ok (.aload_n 0, 1) := by decide +kernel
theorem dX2_restart_44 : decode cX2_restart 44 = .ok (.getfield 12, 3) := by decide +kernel
theorem dX2_restart_47 : decode cX2_restart 47 = .ok (.getfield 122, 3) := by decide +kernel
theorem dX2_restart_50 : decode cX2_restart 50 = .ok (.iload_n 3, 1) := by decide +kernel
theorem dX2_restart_51 : decode cX2_restart 51 = .ok (.if_icmp .ne 6, 3) := by decide +kernel
theorem dX2_restart_54 : decode cX2_restart 54 = .ok (.goto 9, 3) := by decide +kernel
theorem dX2_restart_57 : decode cX2_restart 57 = .ok (.iinc 2 1, 3) := by decide +kernel
theorem dX2_restart_60 : decode cX2_restart 60 = .ok (.goto (-39), 3) := by decide +kernel
theorem dX2_restart_63 : decode cX2_restart 63 = .ok (.aload_n 0, 1) := by decide +kernel
theorem dX2_restart_64 : decode cX2_restart 64 = .ok (.getfield 12, 3) := by decide +kernel
theorem dX2_restart_67 : decode cX2_restart 67 = .ok (.getfield 134, 3) := by decide +kernel
theorem dX2_restart_70 : decode cX2_restart 70 = .ok (.ifCond .eq 6, 3) := by decide +kernel
theorem dX2_restart_73 : decode cX2_restart 73 = .ok (.bipush (-2), 2) := by decide +kernel
theorem dX2_restart_75 : decode cX2_restart 75 = .ok (.ireturn, 1) := by decide +kernel
theorem dX2_restart_76 : decode cX2_restart 76 = .ok (.aload_n 0, 1) := by decide +kernel
theorem dX2_restart_77 : decode cX2_restart 77 = .ok (.getfield 12, 3) := by decide +kernel
theorem dX2_restart_80 : decode cX2_restart 80 = .ok (.iconst 0, 1) := by decide +kernel
theorem dX2_restart_81 : decode cX2_restart 81 = .ok (.putfield 31, 3) := by decide +kernel
theorem dX2_restart_84 : decode cX2_restart 84 = .ok (.aload_n 0, 1) := by decide +kernel
theorem dX2_restart_85 : decode cX2_restart 85 = .ok (.getfield 12, 3) := by decide +kernel
theorem dX2_restart_88 : decode cX2_restart 88 = .ok (.getfield 122, 3) := by decide +kernel
theorem dX2_restart_91 : decode cX2_restart 91 = .ok (.iload_n 1, 1) := by decide +kernel
theorem dX2_restart_92 : decode cX2_restart 92 = .ok (.isub, 1) := by decide +kernel
theorem dX2_restart_93 : decode cX2_restart 93 = .ok (.ireturn, 1) := by decide +kernel
set_option maxRecDepth 20000 in
theorem ggX2_find_X2_isOfKind : GoodIn wsX2_find wsX2_isOfKind := goodIn_r _ [5, 6, 7, 4, 8, 9, 10, 11, 12, 13, 14, 15, 16, 17, 18, 19, 20, 21, 22, 43, 44, 45, 46, 47, 48, 49, 50, 51, 52] (by decide +kernel) (by decide +kernel)
set_option maxRecDepth 20000 in
theorem gX2_find_X2_isOfKind : GoodIn wsX2_find (wsV RX2 35 RX2 yX2_isOfKind wsX2_isOfKind) := goodIn_app (goodIn_of _ (by decide +kernel)) ggX2_find_X2_isOfKind
set_option maxRecDepth 20000 in
theorem ggX2_find_X2_isName : GoodIn wsX2_find wsX2_isName := goodIn_r _ [25] (by decide +kernel) (by decide +kernel)
set_option maxRecDepth 20000 in
theorem gX2_find_X2_isName : GoodIn wsX2_find (va_wsS RX2 38 yX2_isName wsX2_isName) := goodIn_app (goodIn_of _ (by decide +kernel)) ggX2_find_X2_isName
set_option maxRecDepth 20000 in
theorem ggX2_find_X2_placeOfName : GoodIn wsX2_find wsX2_placeOfName := goodIn_r _ [29, 30, 31, 32, 4, 33, 13, 34, 35, 36, 14, 15, 16, 17, 18, 19, 20, 21, 22, 37, 38, 39, 43, 44, 45, 46, 47, 48, 49, 50, 51, 52] (by decide +kernel) (by decide +kernel)
set_option maxRecDepth 20000 in
theorem gX2_find_X2_placeOfName : GoodIn wsX2_find (wsV RX2 42 RX2 yX2_placeOfName wsX2_placeOfName) := goodIn_app (goodIn_of _ (by decide +kernel)) ggX2_find_X2_placeOfName
set_option maxRecDepth 20000 in
theorem ggX2_find_X2_placeOf : GoodIn wsX2_find wsX2_placeOf := goodIn_r _ [33, 13, 34, 35, 4, 36, 14, 15, 16, 17, 18, 19, 20, 21, 22, 43, 44, 45, 46, 47, 48, 49, 50, 51, 52] (by decide +kernel) (by decide +kernel)
set_option maxRecDepth 20000 in
theorem gX2_find_X2_placeOf : GoodIn wsX2_find (wsV RX2 86 RX2 yX2_placeOf wsX2_placeOf) := goodIn_app (goodIn_of _ (by decide +kernel)) ggX2_find_X2_placeOf
set_option maxRecDepth 20000 in
theorem ggX2_find_X2_inodeOfEntry : GoodIn wsX2_find wsX2_inodeOfEntry := goodIn_r _ [42] (by decide +kernel) (by decide +kernel)
set_option maxRecDepth 20000 in
theorem gX2_find_X2_inodeOfEntry : GoodIn wsX2_find (va_wsS RX2 89 yX2_inodeOfEntry wsX2_inodeOfEntry) := goodIn_app (goodIn_of _ (by decide +kernel)) ggX2_find_X2_inodeOfEntry
theorem dX2_find_0 : decode cX2_find 0 = .ok (.aload_n 0, 1) := by decide +kernel
theorem dX2_find_1 : decode cX2_find 1 = .ok (.iload_n 1, 1) := by decide +kernel
theorem dX2_find_2 : decode cX2_find 2 = .ok (.iconst 1, 1) := by decide +kernel
theorem dX2_find_3 : decode cX2_find 3 = .ok (.invokevirtual 35, 3) := by decide +kernel
theorem dX2_find_6 : decode cX2_find 6 = .ok (.ifCond .eq 10, 3) := by decide +kernel
theorem dX2_find_9 : decode cX2_find 9 = .ok (.iload_n 2, 1) := by decide +kernel
theorem dX2_find_10 : decode cX2_find 10 = .ok (.invokestatic 38, 3) := by decide +kernel
theorem dX2_find_13 : decode cX2_find 13 = .ok (.ifCond .ne 5, 3) := by decide +kernel
theorem dX2_find_16 : decode cX2_find 16 = .ok (.iconst (-1), 1) := by decide +kernel
theorem dX2_find_17 : decode cX2_find 17 = .ok (.ireturn, 1) := by decide +kernel
theorem dX2_find_18 : decode cX2_find 18 = .ok (.aload_n 0, 1) := by decide +kernel
theorem dX2_find_19 : decode cX2_find 19 = .ok (.iload_n 1, 1) := by decide +kernel
theorem dX2_find_20 : decode cX2_find 20 = .ok (.iload_n 2, 1) := by decide +kernel
theorem dX2_find_21 : decode cX2_find 21 = .ok (.invokevirtual 42, 3) := by decide +kernel
theorem dX2_find_24 : decode cX2_find 24 = .ok (.istore_n 3, 1) := by decide +kernel
theorem dX2_find_25 : decode cX2_find 25 = .ok (.iload_n 3, 1) := by decide +kernel
theorem dX2_find_26 : decode cX2_find 26 = .ok (.bipush (-3), 2) := by decide +kernel
theorem dX2_find_28 : decode cX2_find 28 = .ok (.if_icmp .ne 8, 3) := by decide +kernel
theorem dX2_find_31 : decode cX2_find 31 = .ok (.bipush (-3), 2) := by decide +kernel
theorem dX2_find_33 : decode cX2_find 33 = .ok (.goto 12, 3) := by decide +kernel
theorem dX2_find_36 : decode cX2_find 36 = .ok (.aload_n 0, 1) := by decide +kernel
theorem dX2_find_37 : decode cX2_find 37 = .ok (.iload_n 1, 1) := by decide +kernel
theorem dX2_find_38 : decode cX2_find 38 = .ok (.iload_n 3, 1) := by decide +kernel
theorem dX2_find_39 : decode cX2_find 39 = .ok (.invokevirtual 86, 3) := by decide +kernel
theorem dX2_find_42 : decode cX2_find 42 = .ok (.invokestatic 89, 3) := by decide +kernel
theorem dX2_find_45 : decode cX2_find 45 = .ok (.ireturn, 1) := by decide +kernel
set_option maxRecDepth 20000 in
theorem ggX2_inode_X2_isBelow : GoodIn wsX2_inode wsX2_isBelow := goodIn_r _ [5] (by decide +kernel) (by decide +kernel)
set_option maxRecDepth 20000 in
theorem gX2_inode_X2_isBelow : GoodIn wsX2_inode (va_wsS RX2 23 yX2_isBelow wsX2_isBelow) := goodIn_app (goodIn_of _ (by decide +kernel)) ggX2_inode_X2_isBelow
set_option maxRecDepth 20000 in
theorem ggX2_inode_X2_inodeAt : GoodIn wsX2_inode wsX2_inodeAt := goodIn_r _ [8] (by decide +kernel) (by decide +kernel)
set_option maxRecDepth 20000 in
theorem gX2_inode_X2_inodeAt : GoodIn wsX2_inode (va_wsS RX2 57 yX2_inodeAt wsX2_inodeAt) := goodIn_app (goodIn_of _ (by decide +kernel)) ggX2_inode_X2_inodeAt
set_option maxRecDepth 20000 in
theorem ggX2_inode_X0_word : GoodIn wsX2_inode wsX0_word := goodIn_r _ [13, 14, 20, 21, 22, 23, 24] (by decide +kernel) (by decide +kernel)
set_option maxRecDepth 20000 in
theorem gX2_inode_X0_word : GoodIn wsX2_inode (wsV RX2 137 RX0 yX0_word wsX0_word) := goodIn_app (goodIn_of _ (by decide +kernel)) ggX2_inode_X0_word
theorem dX2_inode_0 : decode cX2_inode 0 = .ok (.iload_n 1, 1) := by decide +kernel
theorem dX2_inode_1 : decode cX2_inode 1 = .ok (.bipush 12, 2) := by decide +kernel
theorem dX2_inode_3 : decode cX2_inode 3 = .ok (.invokestatic 23, 3) := by decide +kernel
theorem dX2_inode_6 : decode cX2_inode 6 = .ok (.ifCond .eq 12, 3) := by decide +kernel
theorem dX2_inode_9 : decode cX2_inode 9 = .ok (.iload_n 2, 1) := by decide +kernel
theorem dX2_inode_10 : decode cX2_inode 10 = .ok (.bipush 10, 2) := by decide +kernel
theorem dX2_inode_12 : decode cX2_inode 12 = .ok (.invokestatic 23, 3) := by decide +kernel
theorem dX2_inode_15 : decode cX2_inode 15 = .ok (.ifCond .ne 5, 3) := by decide +kernel
theorem dX2_inode_18 : decode cX2_inode 18 = .ok (.iconst (-1), 1) := by decide +kernel
theorem dX2_inode_19 : decode cX2_inode 19 = .ok (.ireturn, 1) := by decide +kernel
theorem dX2_inode_20 : decode cX2_inode 20 = .ok (.aload_n 0, 1) := by decide +kernel
theorem dX2_inode_21 : decode cX2_inode 21 = .ok (.getfield 12, 3) := by decide +kernel
theorem dX2_inode_24 : decode cX2_inode 24 = .ok (.iload_n 1, 1) := by decide +kernel
theorem dX2_inode_25 : decode cX2_inode 25 = .ok (.iload_n 2, 1) := by decide +kernel
theorem dX2_inode_26 : decode cX2_inode 26 = .ok (.invokestatic 57, 3) := by decide +kernel
theorem dX2_inode_29 : decode cX2_inode 29 = .ok (.invokevirtual 137, 3) := by decide +kernel
theorem dX2_inode_32 : decode cX2_inode 32 = .ok (.l2i, 1) := by decide +kernel
theorem dX2_inode_33 : decode cX2_inode 33 = .ok (.ireturn, 1) := by decide +kernel
set_option maxRecDepth 20000 in
theorem ggX2_data_X2_isBelow : GoodIn wsX2_data wsX2_isBelow := goodIn_r _ [6] (by decide +kernel) (by decide +kernel)
set_option maxRecDepth 20000 in
theorem gX2_data_X2_isBelow : GoodIn wsX2_data (va_wsS RX2 23 yX2_isBelow wsX2_isBelow) := goodIn_app (goodIn_of _ (by decide +kernel)) ggX2_data_X2_isBelow
set_option maxRecDepth 20000 in
theorem ggX2_data_X2_dataAt : GoodIn wsX2_data wsX2_dataAt := goodIn_r _ [9] (by decide +kernel) (by decide +kernel)
set_option maxRecDepth 20000 in
theorem gX2_data_X2_dataAt : GoodIn wsX2_data (va_wsS RX2 79 yX2_dataAt wsX2_dataAt) := goodIn_app (goodIn_of _ (by decide +kernel)) ggX2_data_X2_dataAt
set_option maxRecDepth 20000 in
theorem ggX2_data_X0_word : GoodIn wsX2_data wsX0_word := goodIn_r _ [14, 15, 21, 22, 23, 24, 25] (by decide +kernel) (by decide +kernel)
set_option maxRecDepth 20000 in
theorem gX2_data_X0_word : GoodIn wsX2_data (wsV RX2 137 RX0 yX0_word wsX0_word) := goodIn_app (goodIn_of _ (by decide +kernel)) ggX2_data_X0_word
theorem dX2_data_0 : decode cX2_data 0 = .ok (.iload_n 1, 1) := by decide +kernel
theorem dX2_data_1 : decode cX2_data 1 = .ok (.bipush 40, 2) := by decide +kernel
theorem dX2_data_3 : decode cX2_data 3 = .ok (.invokestatic 23, 3) := by decide +kernel
theorem dX2_data_6 : decode cX2_data 6 = .ok (.ifCond .eq 11, 3) := by decide +kernel
theorem dX2_data_9 : decode cX2_data 9 = .ok (.iload_n 2, 1) := by decide +kernel
theorem dX2_data_10 : decode cX2_data 10 = .ok (.iconst 3, 1) := by decide +kernel
theorem dX2_data_11 : decode cX2_data 11 = .ok (.invokestatic 23, 3) := by decide +kernel
theorem dX2_data_14 : decode cX2_data 14 = .ok (.ifCond .ne 5, 3) := by decide +kernel
theorem dX2_data_17 : decode cX2_data 17 = .ok (.iconst (-1), 1) := by decide +kernel
theorem dX2_data_18 : decode cX2_data 18 = .ok (.ireturn, 1) := by decide +kernel
theorem dX2_data_19 : decode cX2_data 19 = .ok (.aload_n 0, 1) := by decide +kernel
theorem dX2_data_20 : decode cX2_data 20 = .ok (.aload_n 0, 1) := by decide +kernel
theorem dX2_data_21 : decode cX2_data 21 = .ok (.getfield 12, 3) := by decide +kernel
theorem dX2_data_24 : decode cX2_data 24 = .ok (.iload_n 1, 1) := by decide +kernel
theorem dX2_data_25 : decode cX2_data 25 = .ok (.iload_n 2, 1) := by decide +kernel
theorem dX2_data_26 : decode cX2_data 26 = .ok (.invokestatic 79, 3) := by decide +kernel
theorem dX2_data_29 : decode cX2_data 29 = .ok (.invokevirtual 137, 3) := by decide +kernel
theorem dX2_data_32 : decode cX2_data 32 = .ok (.putfield 141, 3) := by decide +kernel
theorem dX2_data_35 : decode cX2_data 35 = .ok (.iconst 1, 1) := by decide +kernel
theorem dX2_data_36 : decode cX2_data 36 = .ok (.ireturn, 1) := by decide +kernel
set_option maxRecDepth 20000 in
theorem ggX2_read_X2_isDataOfFile : GoodIn wsX2_read wsX2_isDataOfFile := goodIn_r _ [7, 8, 9, 10, 6, 11, 12, 13, 14, 15, 16, 17, 18, 1, 19, 20, 21, 22, 23, 24, 25, 26, 27, 28, 29, 30, 31, 42, 43, 44, 45, 46, 47, 48, 49, 50, 51] (by decide +kernel) (by decide +kernel)
set_option maxRecDepth 20000 in
theorem gX2_read_X2_isDataOfFile : GoodIn wsX2_read (wsV RX2 82 RX2 yX2_isDataOfFile wsX2_isDataOfFile) := goodIn_app (goodIn_of _ (by decide +kernel)) ggX2_read_X2_isDataOfFile
set_option maxRecDepth 20000 in
theorem ggX2_read_X2_placeOf : GoodIn wsX2_read wsX2_placeOf := goodIn_r _ [35, 1, 36, 37, 6, 38, 19, 20, 21, 22, 23, 24, 25, 26, 27, 42, 43, 44, 45, 46, 47, 48, 49, 50, 51] (by decide +kernel) (by decide +kernel)
set_option maxRecDepth 20000 in
theorem gX2_read_X2_placeOf : GoodIn wsX2_read (wsV RX2 86 RX2 yX2_placeOf wsX2_placeOf) := goodIn_app (goodIn_of _ (by decide +kernel)) ggX2_read_X2_placeOf
set_option maxRecDepth 20000 in
theorem ggX2_read_X2_dataAt : GoodIn wsX2_read wsX2_dataAt := goodIn_r _ [41] (by decide +kernel) (by decide +kernel)
set_option maxRecDepth 20000 in
theorem gX2_read_X2_dataAt : GoodIn wsX2_read (va_wsS RX2 79 yX2_dataAt wsX2_dataAt) := goodIn_app (goodIn_of _ (by decide +kernel)) ggX2_read_X2_dataAt
set_option maxRecDepth 20000 in
theorem ggX2_read_X0_word : GoodIn wsX2_read wsX0_word := goodIn_r _ [26, 27, 47, 48, 49, 50, 51] (by decide +kernel) (by decide +kernel)
set_option maxRecDepth 20000 in
theorem gX2_read_X0_word : GoodIn wsX2_read (wsV RX2 137 RX0 yX0_word wsX0_word) := goodIn_app (goodIn_of _ (by decide +kernel)) ggX2_read_X0_word
theorem dX2_read_0 : decode cX2_read 0 = .ok (.aload_n 0, 1) := by decide +kernel
theorem dX2_read_1 : decode cX2_read 1 = .ok (.iload_n 1, 1) := by decide +kernel
theorem dX2_read_2 : decode cX2_read 2 = .ok (.iload_n 2, 1) := by decide +kernel
theorem dX2_read_3 : decode cX2_read 3 = .ok (.iload_n 3, 1) := by decide +kernel
theorem dX2_read_4 : decode cX2_read 4 = .ok (.invokevirtual 82, 3) := by decide +kernel
theorem dX2_read_7 : decode cX2_read 7 = .ok (.ifCond .ne 5, 3) := by decide +kernel
theorem dX2_read_10 : decode cX2_read 10 = .ok (.iconst (-1), 1) := by decide +kernel
theorem dX2_read_11 : decode cX2_read 11 = .ok (.ireturn, 1) := by decide +kernel
theorem dX2_read_12 : decode cX2_read 12 = .ok (.aload_n 0, 1) := by decide +kernel
theorem dX2_read_13 : decode cX2_read 13 = .ok (.aload_n 0, 1) := by decide +kernel
theorem dX2_read_14 : decode cX2_read 14 = .ok (.getfield 12, 3) := by decide +kernel
theorem dX2_read_17 : decode cX2_read 17 = .ok (.aload_n 0, 1) := by decide +kernel
theorem dX2_read_18 : decode cX2_read 18 = .ok (.iload_n 1, 1) := by decide +kernel
theorem dX2_read_19 : decode cX2_read 19 = .ok (.iload_n 2, 1) := by decide +kernel
theorem dX2_read_20 : decode cX2_read 20 = .ok (.invokevirtual 86, 3) := by decide +kernel
theorem dX2_read_23 : decode cX2_read 23 = .ok (.iload_n 3, 1) := by decide +kernel
theorem dX2_read_24 : decode cX2_read 24 = .ok (.invokestatic 79, 3) := by decide +kernel
theorem dX2_read_27 : decode cX2_read 27 = .ok (.invokevirtual 137, 3) := by decide +kernel
theorem dX2_read_30 : decode cX2_read 30 = .ok (.putfield 141, 3) := by decide +kernel
theorem dX2_read_33 : decode cX2_read 33 = .ok (.iconst 1, 1) := by decide +kernel
theorem dX2_read_34 : decode cX2_read 34 = .ok (.ireturn, 1) := by decide +kernel
theorem dX2_asked_0 : decode cX2_asked 0 = .ok (.aload_n 0, 1) := by decide +kernel
theorem dX2_asked_1 : decode cX2_asked 1 = .ok (.getfield 141, 3) := by decide +kernel
theorem dX2_asked_4 : decode cX2_asked 4 = .ok (.lreturn, 1) := by decide +kernel
set_option maxRecDepth 20000 in
theorem ggX2_record_X2_isBelow : GoodIn wsX2_record wsX2_isBelow := goodIn_r _ [4] (by decide +kernel) (by decide +kernel)
set_option maxRecDepth 20000 in
theorem gX2_record_X2_isBelow : GoodIn wsX2_record (va_wsS RX2 23 yX2_isBelow wsX2_isBelow) := goodIn_app (goodIn_of _ (by decide +kernel)) ggX2_record_X2_isBelow
set_option maxRecDepth 20000 in
theorem ggX2_record_X2_recorded : GoodIn wsX2_record wsX2_recorded := goodIn_r _ [8, 9, 10, 11, 3, 12, 13, 14, 15, 16, 17, 18, 19, 20, 21, 22, 23, 24, 25, 26, 27, 28] (by decide +kernel) (by decide +kernel)
set_option maxRecDepth 20000 in
theorem gX2_record_X2_recorded : GoodIn wsX2_record (wsV RX2 145 RX2 yX2_recorded wsX2_recorded) := goodIn_app (goodIn_of _ (by decide +kernel)) ggX2_record_X2_recorded
theorem dX2_record_0 : decode cX2_record 0 = .ok (.iload_n 1, 1) := by decide +kernel
theorem dX2_record_1 : decode cX2_record 1 = .ok (.iconst 4, 1) := by decide +kernel
theorem dX2_record_2 : decode cX2_record 2 = .ok (.invokestatic 23, 3) := by decide +kernel
theorem dX2_record_5 : decode cX2_record 5 = .ok (.ifCond .eq 11, 3) := by decide +kernel
theorem dX2_record_8 : decode cX2_record 8 = .ok (.aload_n 0, 1) := by decide +kernel
theorem dX2_record_9 : decode cX2_record 9 = .ok (.iload_n 1, 1) := by decide +kernel
theorem dX2_record_10 : decode cX2_record 10 = .ok (.invokevirtual 145, 3) := by decide +kernel
theorem dX2_record_13 : decode cX2_record 13 = .ok (.goto 4, 3) := by decide +kernel
theorem dX2_record_16 : decode cX2_record 16 = .ok (.iconst (-1), 1) := by decide +kernel
theorem dX2_record_17 : decode cX2_record 17 = .ok (.ireturn, 1) := by decide +kernel
set_option maxRecDepth 20000 in
theorem ggX2_plan_X2_isBelow : GoodIn wsX2_plan wsX2_isBelow := goodIn_r _ [8] (by decide +kernel) (by decide +kernel)
set_option maxRecDepth 20000 in
theorem gX2_plan_X2_isBelow : GoodIn wsX2_plan (va_wsS RX2 23 yX2_isBelow wsX2_isBelow) := goodIn_app (goodIn_of _ (by decide +kernel)) ggX2_plan_X2_isBelow
set_option maxRecDepth 20000 in
theorem ggX2_plan_X2_findNextMove : GoodIn wsX2_plan wsX2_findNextMove := goodIn_r _ [12, 13, 14, 15, 7, 16, 17, 18, 19, 20, 21, 22, 23, 24, 25, 26, 27, 28, 29, 30, 31, 32, 33, 34, 35, 36, 37, 38, 39, 40, 41, 42, 43, 44, 45, 1, 46, 47, 48, 49, 50, 51, 52, 53, 54, 55, 56, 57, 58, 59, 60, 61, 62, 63, 64, 65, 66, 67, 68, 69, 70, 74, 75, 76, 77, 78, 71, 72, 73] (by decide +kernel) (by decide +kernel)
set_option maxRecDepth 20000 in
theorem gX2_plan_X2_findNextMove : GoodIn wsX2_plan (wsV RX2 101 RX2 yX2_findNextMove wsX2_findNextMove) := goodIn_app (goodIn_of _ (by decide +kernel)) ggX2_plan_X2_findNextMove
set_option maxRecDepth 20000 in
theorem ggX2_plan_X2_placeOf : GoodIn wsX2_plan wsX2_placeOf := goodIn_r _ [38, 21, 39, 40, 7, 41, 22, 23, 24, 25, 26, 27, 28, 29, 30, 66, 67, 68, 69, 70, 74, 75, 76, 77, 78] (by decide +kernel) (by decide +kernel)
set_option maxRecDepth 20000 in
theorem gX2_plan_X2_placeOf : GoodIn wsX2_plan (wsV RX2 86 RX2 yX2_placeOf wsX2_placeOf) := goodIn_app (goodIn_of _ (by decide +kernel)) ggX2_plan_X2_placeOf
theorem dX2_plan_0 : decode cX2_plan 0 = .ok (.iload_n 1, 1) := by decide +kernel
theorem dX2_plan_1 : decode cX2_plan 1 = .ok (.iconst 4, 1) := by decide +kernel
theorem dX2_plan_2 : decode cX2_plan 2 = .ok (.invokestatic 23, 3) := by decide +kernel
theorem dX2_plan_5 : decode cX2_plan 5 = .ok (.ifCond .ne 5, 3) := by decide +kernel
theorem dX2_plan_8 : decode cX2_plan 8 = .ok (.iconst (-1), 1) := by decide +kernel
theorem dX2_plan_9 : decode cX2_plan 9 = .ok (.ireturn, 1) := by decide +kernel
theorem dX2_plan_10 : decode cX2_plan 10 = .ok (.aload_n 0, 1) := by decide +kernel
theorem dX2_plan_11 : decode cX2_plan 11 = .ok (.invokevirtual 101, 3) := by decide +kernel
theorem dX2_plan_14 : decode cX2_plan 14 = .ok (.istore_n 2, 1) := by decide +kernel
theorem dX2_plan_15 : decode cX2_plan 15 = .ok (.iload_n 2, 1) := by decide +kernel
theorem dX2_plan_16 : decode cX2_plan 16 = .ok (.iconst 1, 1) := by decide +kernel
theorem dX2_plan_17 : decode cX2_plan 17 = .ok (.if_icmp .eq 5, 3) := by decide +kernel
theorem dX2_plan_20 : decode cX2_plan 20 = .ok (.iload_n 2, 1) := by decide +kernel
theorem dX2_plan_21 : decode cX2_plan 21 = .ok (.ireturn, 1) := by decide +kernel
theorem dX2_plan_22 : decode cX2_plan 22 = .ok (.iload_n 1, 1) := by decide +kernel
theorem dX2_plan_23 : decode cX2_plan 23 = .ok (.tableswitch 60 0 2 #[25, 44, 52], 25) := by decide +kernel
theorem dX2_plan_48 : decode cX2_plan 48 = .ok (.aload_n 0, 1) := by decide +kernel
theorem dX2_plan_49 : decode cX2_plan 49 = .ok (.aload_n 0, 1) := by decide +kernel
theorem dX2_plan_50 : decode cX2_plan 50 = .ok (.getfield 19, 3) := by decide +kernel
theorem dX2_plan_53 : decode cX2_plan 53 = .ok (.getfield 107, 3) := by decide +kernel
theorem dX2_plan_56 : decode cX2_plan 56 = .ok (.aload_n 0, 1) := by decide +kernel
theorem dX2_plan_57 : decode cX2_plan 57 = .ok (.getfield 19, 3) := by decide +kernel
theorem dX2_plan_60 : decode cX2_plan 60 = .ok (.getfield 110, 3) := by decide +kernel
theorem dX2_plan_63 : decode cX2_plan 63 = .ok (.invokevirtual 86, 3) := by decide +kernel
theorem dX2_plan_66 : decode cX2_plan 66 = .ok (.ireturn, 1) := by decide +kernel
theorem dX2_plan_67 : decode cX2_plan 67 = .ok (.aload_n 0, 1) := by decide +kernel
theorem dX2_plan_68 : decode cX2_plan 68 = .ok (.getfield 19, 3) := by decide +kernel
theorem dX2_plan_71 : decode cX2_plan 71 = .ok (.getfield 113, 3) := by decide +kernel
theorem dX2_plan_74 : decode cX2_plan 74 = .ok (.ireturn, 1) := by decide +kernel
theorem dX2_plan_75 : decode cX2_plan 75 = .ok (.aload_n 0, 1) := by decide +kernel
theorem dX2_plan_76 : decode cX2_plan 76 = .ok (.getfield 19, 3) := by decide +kernel
theorem dX2_plan_79 : decode cX2_plan 79 = .ok (.getfield 107, 3) := by decide +kernel
theorem dX2_plan_82 : decode cX2_plan 82 = .ok (.ireturn, 1) := by decide +kernel
theorem dX2_plan_83 : decode cX2_plan 83 = .ok (.aload_n 0, 1) := by decide +kernel
theorem dX2_plan_84 : decode cX2_plan 84 = .ok (.getfield 19, 3) := by decide +kernel
theorem dX2_plan_87 : decode cX2_plan 87 = .ok (.getfield 110, 3) := by decide +kernel
theorem dX2_plan_90 : decode cX2_plan 90 = .ok (.ireturn, 1) := by decide +kernel
set_option maxRecDepth 20000 in
theorem ggX2_runs_X2_isOfKind : GoodIn wsX2_runs wsX2_isOfKind := goodIn_r _ [5, 6, 7, 4, 8, 9, 10, 11, 12, 13, 14, 15, 16, 17, 18, 19, 20, 21, 22, 34, 35, 36, 37, 38, 39, 40, 41, 42, 43] (by decide +kernel) (by decide +kernel)
set_option maxRecDepth 20000 in
theorem gX2_runs_X2_isOfKind : GoodIn wsX2_runs (wsV RX2 35 RX2 yX2_isOfKind wsX2_isOfKind) := goodIn_app (goodIn_of _ (by decide +kernel)) ggX2_runs_X2_isOfKind
set_option maxRecDepth 20000 in
theorem ggX2_runs_X2_sizeOf : GoodIn wsX2_runs wsX2_sizeOf := goodIn_r _ [26, 13, 14, 15, 4, 16, 17, 18, 19, 20, 21, 22, 34, 35, 36, 37, 38, 39, 40, 41, 42, 43] (by decide +kernel) (by decide +kernel)
set_option maxRecDepth 20000 in
theorem gX2_runs_X2_sizeOf : GoodIn wsX2_runs (wsV RX2 73 RX2 yX2_sizeOf wsX2_sizeOf) := goodIn_app (goodIn_of _ (by decide +kernel)) ggX2_runs_X2_sizeOf
set_option maxRecDepth 20000 in
theorem ggX2_runs_X2_placeOf : GoodIn wsX2_runs wsX2_placeOf := goodIn_r _ [30, 13, 31, 32, 4, 33, 14, 15, 16, 17, 18, 19, 20, 21, 22, 34, 35, 36, 37, 38, 39, 40, 41, 42, 43] (by decide +kernel) (by decide +kernel)
set_option maxRecDepth 20000 in
theorem gX2_runs_X2_placeOf : GoodIn wsX2_runs (wsV RX2 86 RX2 yX2_placeOf wsX2_placeOf) := goodIn_app (goodIn_of _ (by decide +kernel)) ggX2_runs_X2_placeOf
theorem dX2_runs_0 : decode cX2_runs 0 = .ok (.aload_n 0, 1) := by decide +kernel
theorem dX2_runs_1 : decode cX2_runs 1 = .ok (.iload_n 1, 1) := by decide +kernel
theorem dX2_runs_2 : decode cX2_runs 2 = .ok (.iconst 2, 1) := by decide +kernel
theorem dX2_runs_3 : decode cX2_runs 3 = .ok (.invokevirtual 35, 3) := by decide +kernel
theorem dX2_runs_6 : decode cX2_runs 6 = .ok (.ifCond .ne 5, 3) := by decide +kernel
theorem dX2_runs_9 : decode cX2_runs 9 = .ok (.iconst (-1), 1) := by decide +kernel
theorem dX2_runs_10 : decode cX2_runs 10 = .ok (.ireturn, 1) := by decide +kernel
theorem dX2_runs_11 : decode cX2_runs 11 = .ok (.aload_n 0, 1) := by decide +kernel
theorem dX2_runs_12 : decode cX2_runs 12 = .ok (.iload_n 1, 1) := by decide +kernel
theorem dX2_runs_13 : decode cX2_runs 13 = .ok (.invokevirtual 73, 3) := by decide +kernel
theorem dX2_runs_16 : decode cX2_runs 16 = .ok (.istore_n 2, 1) := by decide +kernel
theorem dX2_runs_17 : decode cX2_runs 17 = .ok (.iconst 0, 1) := by decide +kernel
theorem dX2_runs_18 : decode cX2_runs 18 = .ok (.istore_n 3, 1) := by decide +kernel
theorem dX2_runs_19 : decode cX2_runs 19 = .ok (.iconst 0, 1) := by decide +kernel
theorem dX2_runs_20 : decode cX2_runs 20 = .ok (.istore 4, 2) := by decide +kernel
theorem dX2_runs_22 : decode cX2_runs 22 = .ok (.iload 4, 2) := by decide +kernel
theorem dX2_runs_24 : decode cX2_runs 24 = .ok (.iload_n 2, 1) := by decide +kernel
theorem dX2_runs_25 : decode cX2_runs 25 = .ok (.if_icmp .ge 38, 3) := by decide +kernel
theorem dX2_runs_28 : decode cX2_runs 28 = .ok (.iload 4, 2) := by decide +kernel
theorem dX2_runs_30 : decode cX2_runs 30 = .ok (.ifCond .eq 24, 3) := by decide +kernel
theorem dX2_runs_33 : decode cX2_runs 33 = .ok (.aload_n 0, 1) := by decide +kernel
theorem dX2_runs_34 : decode cX2_runs 34 = .ok (.iload_n 1, 1) := by decide +kernel
theorem dX2_runs_35 : decode cX2_runs 35 = .ok (.iload 4, 2) := by decide +kernel
theorem dX2_runs_37 : decode cX2_runs 37 = .ok (.invokevirtual 86, 3) := by decide +kernel
theorem dX2_runs_40 : decode cX2_runs 40 = .ok (.aload_n 0, 1) := by decide +kernel
theorem dX2_runs_41 : decode cX2_runs 41 = .ok (.iload_n 1, 1) := by decide +kernel
theorem dX2_runs_42 : decode cX2_runs 42 = .ok (.iload 4, 2) := by decide +kernel
theorem dX2_runs_44 : decode cX2_runs 44 = .ok (.iconst 1, 1) := by decide +kernel
theorem dX2_runs_45 : decode cX2_runs 45 = .ok (.isub, 1) := by decide +kernel
theorem dX2_runs_46 : decode cX2_runs 46 = .ok (.invokevirtual 86, 3) := by decide +kernel
theorem dX2_runs_49 : decode cX2_runs 49 = .ok (.iconst 1, 1) := by decide +kernel
theorem dX2_runs_50 : decode cX2_runs 50 = .ok (.iadd, 1) := by decide +kernel
theorem dX2_runs_51 : decode cX2_runs 51 = .ok (.if_icmp .eq 6, 3) := by decide +kernel
theorem dX2_runs_54 : decode cX2_runs 54 = .ok (.iinc 3 1, 3) := by decide +kernel
theorem dX2_runs_57 : decode cX2_runs 57 = .ok (.iinc 4 1, 3) := by decide +kernel
theorem dX2_runs_60 : decode cX2_runs 60 = .ok (.goto (-38), 3) := by decide +kernel
theorem dX2_runs_63 : decode cX2_runs 63 = .ok (.iload_n 3, 1) := by decide +kernel
theorem dX2_runs_64 : decode cX2_runs 64 = .ok (.ireturn, 1) := by decide +kernel
set_option maxRecDepth 20000 in
theorem ggX2_count_X2_usedBlocks : GoodIn wsX2_count wsX2_usedBlocks := goodIn_r _ [8, 9, 10, 11, 7, 12, 13, 14, 15, 16, 1, 17, 18, 19, 20, 21, 22, 23, 24, 25, 26, 27, 28, 29, 30, 31, 32, 33, 34, 35, 36, 60, 61, 62, 63, 64, 65, 66, 67, 68, 69] (by decide +kernel) (by decide +kernel)
set_option maxRecDepth 20000 in
theorem gX2_count_X2_usedBlocks : GoodIn wsX2_count (wsV RX2 148 RX2 yX2_usedBlocks wsX2_usedBlocks) := goodIn_app (goodIn_of _ (by decide +kernel)) ggX2_count_X2_usedBlocks
set_option maxRecDepth 20000 in
theorem ggX2_count_J13_bitCount_95d88 : GoodIn wsX2_count wsJ13_bitCount_95d88 := goodIn_r _ [40, 41, 42, 43] (by decide +kernel) (by decide +kernel)
set_option maxRecDepth 20000 in
theorem gX2_count_J13_bitCount_95d88 : GoodIn wsX2_count (va_wsS RX2 152 yJ13_bitCount_95d88 wsJ13_bitCount_95d88) := goodIn_app (goodIn_of _ (by decide +kernel)) ggX2_count_J13_bitCount_95d88
set_option maxRecDepth 20000 in
theorem ggX2_count_X2_countInodes : GoodIn wsX2_count wsX2_countInodes := goodIn_r _ [47, 13, 14, 15, 7, 16, 1, 17, 18, 19, 20, 21, 22, 23, 24, 25, 60, 61, 62, 63, 64, 65, 66, 67, 68, 69] (by decide +kernel) (by decide +kernel)
set_option maxRecDepth 20000 in
theorem gX2_count_X2_countInodes : GoodIn wsX2_count (wsV RX2 158 RX2 yX2_countInodes wsX2_countInodes) := goodIn_app (goodIn_of _ (by decide +kernel)) ggX2_count_X2_countInodes
set_option maxRecDepth 20000 in
theorem ggX2_count_X2_countMisplacedBlocks : GoodIn wsX2_count wsX2_countMisplacedBlocks := goodIn_r _ [51, 9, 10, 11, 7, 12, 13, 14, 15, 16, 1, 17, 18, 19, 20, 21, 22, 23, 24, 25, 26, 27, 28, 29, 30, 31, 32, 33, 34, 35, 36, 60, 61, 62, 63, 64, 65, 66, 67, 68, 69] (by decide +kernel) (by decide +kernel)
set_option maxRecDepth 20000 in
theorem gX2_count_X2_countMisplacedBlocks : GoodIn wsX2_count (wsV RX2 164 RX2 yX2_countMisplacedBlocks wsX2_countMisplacedBlocks) := goodIn_app (goodIn_of _ (by decide +kernel)) ggX2_count_X2_countMisplacedBlocks
set_option maxRecDepth 20000 in
theorem ggX2_count_X2_countEntries : GoodIn wsX2_count wsX2_countEntries := goodIn_r _ [55, 13, 14, 15, 7, 16, 1, 17, 18, 19, 20, 21, 22, 23, 24, 25, 56, 57, 58, 59, 30, 31, 32, 33, 34, 35, 36, 60, 61, 62, 63, 64, 65, 66, 67, 68, 69] (by decide +kernel) (by decide +kernel)
set_option maxRecDepth 20000 in
theorem gX2_count_X2_countEntries : GoodIn wsX2_count (wsV RX2 167 RX2 yX2_countEntries wsX2_countEntries) := goodIn_app (goodIn_of _ (by decide +kernel)) ggX2_count_X2_countEntries
theorem dX2_count_0 : decode cX2_count 0 = .ok (.iload_n 1, 1) := by decide +kernel
theorem dX2_count_1 : decode cX2_count 1 = .ok (.tableswitch 75 0 5 #[39, 47, 52, 60, 65, 70], 39) := by decide +kernel
theorem dX2_count_40 : decode cX2_count 40 = .ok (.aload_n 0, 1) := by decide +kernel
theorem dX2_count_41 : decode cX2_count 41 = .ok (.invokevirtual 148, 3) := by decide +kernel
theorem dX2_count_44 : decode cX2_count 44 = .ok (.invokestatic 152, 3) := by decide +kernel
theorem dX2_count_47 : decode cX2_count 47 = .ok (.ireturn, 1) := by decide +kernel
theorem dX2_count_48 : decode cX2_count 48 = .ok (.aload_n 0, 1) := by decide +kernel
theorem dX2_count_49 : decode cX2_count 49 = .ok (.invokevirtual 158, 3) := by decide +kernel
theorem dX2_count_52 : decode cX2_count 52 = .ok (.ireturn, 1) := by decide +kernel
theorem dX2_count_53 : decode cX2_count 53 = .ok (.aload_n 0, 1) := by decide +kernel
theorem dX2_count_54 : decode cX2_count 54 = .ok (.getfield 12, 3) := by decide +kernel
theorem dX2_count_57 : decode cX2_count 57 = .ok (.getfield 122, 3) := by decide +kernel
theorem dX2_count_60 : decode cX2_count 60 = .ok (.ireturn, 1) := by decide +kernel
theorem dX2_count_61 : decode cX2_count 61 = .ok (.aload_n 0, 1) := by decide +kernel
theorem dX2_count_62 : decode cX2_count 62 = .ok (.getfield 161, 3) := by decide +kernel
theorem dX2_count_65 : decode cX2_count 65 = .ok (.ireturn, 1) := by decide +kernel
theorem dX2_count_66 : decode cX2_count 66 = .ok (.aload_n 0, 1) := by decide +kernel
theorem dX2_count_67 : decode cX2_count 67 = .ok (.invokevirtual 164, 3) := by decide +kernel
theorem dX2_count_70 : decode cX2_count 70 = .ok (.ireturn, 1) := by decide +kernel
theorem dX2_count_71 : decode cX2_count 71 = .ok (.aload_n 0, 1) := by decide +kernel
theorem dX2_count_72 : decode cX2_count 72 = .ok (.invokevirtual 167, 3) := by decide +kernel
theorem dX2_count_75 : decode cX2_count 75 = .ok (.ireturn, 1) := by decide +kernel
theorem dX2_count_76 : decode cX2_count 76 = .ok (.iconst (-1), 1) := by decide +kernel
theorem dX2_count_77 : decode cX2_count 77 = .ok (.ireturn, 1) := by decide +kernel
set_option maxRecDepth 20000 in
theorem ggX2_tree_X2_hashOfInode : GoodIn wsX2_tree wsX2_hashOfInode := goodIn_r _ [7, 8, 9, 10, 6, 11, 12, 13, 14, 15, 16, 17, 18, 19, 20, 21, 22, 23, 24, 25, 26, 27, 28, 29, 30, 31, 32, 33, 34, 35, 36, 37, 38, 39, 40, 41, 42, 43, 44, 45, 46, 47, 48, 49, 50, 51, 52, 53, 54, 55, 56, 57, 58, 59, 60, 1, 3, 4, 5, 61, 62, 63, 64, 65, 66, 67, 68, 69, 70] (by decide +kernel) (by decide +kernel)
set_option maxRecDepth 20000 in
theorem gX2_tree_X2_hashOfInode : GoodIn wsX2_tree (wsV RX2 175 RX2 yX2_hashOfInode wsX2_hashOfInode) := goodIn_app (goodIn_of _ (by decide +kernel)) ggX2_tree_X2_hashOfInode
theorem dX2_tree_0 : decode cX2_tree 0 = .ok (.aload_n 0, 1) := by decide +kernel
theorem dX2_tree_1 : decode cX2_tree 1 = .ok (.iconst 1, 1) := by decide +kernel
theorem dX2_tree_2 : decode cX2_tree 2 = .ok (.putfield 170, 3) := by decide +kernel
theorem dX2_tree_5 : decode cX2_tree 5 = .ok (.aload_n 0, 1) := by decide +kernel
theorem dX2_tree_6 : decode cX2_tree 6 = .ok (.ldc2_w 173, 3) := by decide +kernel
theorem dX2_tree_9 : decode cX2_tree 9 = .ok (.iconst 0, 1) := by decide +kernel
theorem dX2_tree_10 : decode cX2_tree 10 = .ok (.iconst 0, 1) := by decide +kernel
theorem dX2_tree_11 : decode cX2_tree 11 = .ok (.invokevirtual 175, 3) := by decide +kernel
theorem dX2_tree_14 : decode cX2_tree 14 = .ok (.lreturn, 1) := by decide +kernel
set_option maxRecDepth 20000 in
theorem ggX2_digest_X0_word : GoodIn wsX2_digest wsX0_word := goodIn_r _ [8, 9, 21, 22, 23, 24, 25] (by decide +kernel) (by decide +kernel)
set_option maxRecDepth 20000 in
theorem gX2_digest_X0_word : GoodIn wsX2_digest (wsV RX2 137 RX0 yX0_word wsX0_word) := goodIn_app (goodIn_of _ (by decide +kernel)) ggX2_digest_X0_word
set_option maxRecDepth 20000 in
theorem ggX2_digest_X2_isDown : GoodIn wsX2_digest wsX2_isDown := goodIn_r _ [14, 3, 15, 16, 17, 18, 19, 20, 21, 22, 23, 24, 25] (by decide +kernel) (by decide +kernel)
set_option maxRecDepth 20000 in
theorem gX2_digest_X2_isDown : GoodIn wsX2_digest (wsV RX2 183 RX2 yX2_isDown wsX2_isDown) := goodIn_app (goodIn_of _ (by decide +kernel)) ggX2_digest_X2_isDown
theorem dX2_digest_0 : decode cX2_digest 0 = .ok (.ldc2_w 179, 3) := by decide +kernel
theorem dX2_digest_3 : decode cX2_digest 3 = .ok (.lstore_n 1, 1) := by decide +kernel
theorem dX2_digest_4 : decode cX2_digest 4 = .ok (.iconst 0, 1) := by decide +kernel
theorem dX2_digest_5 : decode cX2_digest 5 = .ok (.istore_n 3, 1) := by decide +kernel
theorem dX2_digest_6 : decode cX2_digest 6 = .ok (.iload_n 3, 1) := by decide +kernel
theorem dX2_digest_7 : decode cX2_digest 7 = .ok (.sipush 244, 3) := by decide +kernel
theorem dX2_digest_10 : decode cX2_digest 10 = .ok (.if_icmp .ge 24, 3) := by decide +kernel
theorem dX2_digest_13 : decode cX2_digest 13 = .ok (.ldc2_w 181, 3) := by decide +kernel
theorem dX2_digest_16 : decode cX2_digest 16 = .ok (.lload_n 1, 1) := by decide +kernel
theorem dX2_digest_17 : decode cX2_digest 17 = .ok (.lmul, 1) := by decide +kernel
theorem dX2_digest_18 : decode cX2_digest 18 = .ok (.aload_n 0, 1) := by decide +kernel
theorem dX2_digest_19 : decode cX2_digest 19 = .ok (.getfield 12, 3) := by decide +kernel
theorem dX2_digest_22 : decode cX2_digest 22 = .ok (.iload_n 3, 1) := by decide +kernel
theorem dX2_digest_23 : decode cX2_digest 23 = .ok (.invokevirtual 137, 3) := by decide +kernel
theorem dX2_digest_26 : decode cX2_digest 26 = .ok (.ladd, 1) := by decide +kernel
theorem dX2_digest_27 : decode cX2_digest 27 = .ok (.lstore_n 1, 1) := by decide +kernel
theorem dX2_digest_28 : decode cX2_digest 28 = .ok (.iinc 3 1, 3) := by decide +kernel
theorem dX2_digest_31 : decode cX2_digest 31 = .ok (.goto (-25), 3) := by decide +kernel
theorem dX2_digest_34 : decode cX2_digest 34 = .ok (.ldc2_w 181, 3) := by decide +kernel
theorem dX2_digest_37 : decode cX2_digest 37 = .ok (.lload_n 1, 1) := by decide +kernel
theorem dX2_digest_38 : decode cX2_digest 38 = .ok (.lmul, 1) := by decide +kernel
theorem dX2_digest_39 : decode cX2_digest 39 = .ok (.aload_n 0, 1) := by decide +kernel
theorem dX2_digest_40 : decode cX2_digest 40 = .ok (.invokevirtual 183, 3) := by decide +kernel
theorem dX2_digest_43 : decode cX2_digest 43 = .ok (.i2l, 1) := by decide +kernel
theorem dX2_digest_44 : decode cX2_digest 44 = .ok (.ladd, 1) := by decide +kernel
theorem dX2_digest_45 : decode cX2_digest 45 = .ok (.lreturn, 1) := by decide +kernel
theorem dX2_inodeAt_0 : decode cX2_inodeAt 0 = .ok (.iload_n 0, 1) := by decide +kernel
theorem dX2_inodeAt_1 : decode cX2_inodeAt 1 = .ok (.bipush 10, 2) := by decide +kernel
theorem dX2_inodeAt_3 : decode cX2_inodeAt 3 = .ok (.imul, 1) := by decide +kernel
theorem dX2_inodeAt_4 : decode cX2_inodeAt 4 = .ok (.iload_n 1, 1) := by decide +kernel
theorem dX2_inodeAt_5 : decode cX2_inodeAt 5 = .ok (.iadd, 1) := by decide +kernel
theorem dX2_inodeAt_6 : decode cX2_inodeAt 6 = .ok (.ireturn, 1) := by decide +kernel
set_option maxRecDepth 20000 in
theorem ggX2_placeAt_X2_inodeAt : GoodIn wsX2_placeAt wsX2_inodeAt := goodIn_r _ [4] (by decide +kernel) (by decide +kernel)
set_option maxRecDepth 20000 in
theorem gX2_placeAt_X2_inodeAt : GoodIn wsX2_placeAt (va_wsS RX2 57 yX2_inodeAt wsX2_inodeAt) := goodIn_app (goodIn_of _ (by decide +kernel)) ggX2_placeAt_X2_inodeAt
theorem dX2_placeAt_0 : decode cX2_placeAt 0 = .ok (.iload_n 0, 1) := by decide +kernel
theorem dX2_placeAt_1 : decode cX2_placeAt 1 = .ok (.iconst 2, 1) := by decide +kernel
theorem dX2_placeAt_2 : decode cX2_placeAt 2 = .ok (.iload_n 1, 1) := by decide +kernel
theorem dX2_placeAt_3 : decode cX2_placeAt 3 = .ok (.iadd, 1) := by decide +kernel
theorem dX2_placeAt_4 : decode cX2_placeAt 4 = .ok (.invokestatic 57, 3) := by decide +kernel
theorem dX2_placeAt_7 : decode cX2_placeAt 7 = .ok (.ireturn, 1) := by decide +kernel
theorem dX2_dataAt_0 : decode cX2_dataAt 0 = .ok (.bipush 120, 2) := by decide +kernel
theorem dX2_dataAt_2 : decode cX2_dataAt 2 = .ok (.iload_n 0, 1) := by decide +kernel
theorem dX2_dataAt_3 : decode cX2_dataAt 3 = .ok (.iconst 3, 1) := by decide +kernel
theorem dX2_dataAt_4 : decode cX2_dataAt 4 = .ok (.imul, 1) := by decide +kernel
theorem dX2_dataAt_5 : decode cX2_dataAt 5 = .ok (.iadd, 1) := by decide +kernel
theorem dX2_dataAt_6 : decode cX2_dataAt 6 = .ok (.iload_n 1, 1) := by decide +kernel
theorem dX2_dataAt_7 : decode cX2_dataAt 7 = .ok (.iadd, 1) := by decide +kernel
theorem dX2_dataAt_8 : decode cX2_dataAt 8 = .ok (.ireturn, 1) := by decide +kernel
theorem dX2_recordAt_0 : decode cX2_recordAt 0 = .ok (.sipush 240, 3) := by decide +kernel
theorem dX2_recordAt_3 : decode cX2_recordAt 3 = .ok (.iload_n 0, 1) := by decide +kernel
theorem dX2_recordAt_4 : decode cX2_recordAt 4 = .ok (.iadd, 1) := by decide +kernel
theorem dX2_recordAt_5 : decode cX2_recordAt 5 = .ok (.ireturn, 1) := by decide +kernel
set_option maxRecDepth 20000 in
theorem ggX2_kindOf_X2_inodeAt : GoodIn wsX2_kindOf wsX2_inodeAt := goodIn_r _ [5] (by decide +kernel) (by decide +kernel)
set_option maxRecDepth 20000 in
theorem gX2_kindOf_X2_inodeAt : GoodIn wsX2_kindOf (va_wsS RX2 57 yX2_inodeAt wsX2_inodeAt) := goodIn_app (goodIn_of _ (by decide +kernel)) ggX2_kindOf_X2_inodeAt
set_option maxRecDepth 20000 in
theorem ggX2_kindOf_X0_word : GoodIn wsX2_kindOf wsX0_word := goodIn_r _ [10, 11, 17, 18, 19, 20, 21] (by decide +kernel) (by decide +kernel)
set_option maxRecDepth 20000 in
theorem gX2_kindOf_X0_word : GoodIn wsX2_kindOf (wsV RX2 137 RX0 yX0_word wsX0_word) := goodIn_app (goodIn_of _ (by decide +kernel)) ggX2_kindOf_X0_word
theorem dX2_kindOf_0 : decode cX2_kindOf 0 = .ok (.aload_n 0, 1) := by decide +kernel
theorem dX2_kindOf_1 : decode cX2_kindOf 1 = .ok (.getfield 12, 3) := by decide +kernel
theorem dX2_kindOf_4 : decode cX2_kindOf 4 = .ok (.iload_n 1, 1) := by decide +kernel
theorem dX2_kindOf_5 : decode cX2_kindOf 5 = .ok (.iconst 0, 1) := by decide +kernel
theorem dX2_kindOf_6 : decode cX2_kindOf 6 = .ok (.invokestatic 57, 3) := by decide +kernel
theorem dX2_kindOf_9 : decode cX2_kindOf 9 = .ok (.invokevirtual 137, 3) := by decide +kernel
theorem dX2_kindOf_12 : decode cX2_kindOf 12 = .ok (.l2i, 1) := by decide +kernel
theorem dX2_kindOf_13 : decode cX2_kindOf 13 = .ok (.ireturn, 1) := by decide +kernel
set_option maxRecDepth 20000 in
theorem ggX2_sizeOf_X2_inodeAt : GoodIn wsX2_sizeOf wsX2_inodeAt := goodIn_r _ [5] (by decide +kernel) (by decide +kernel)
set_option maxRecDepth 20000 in
theorem gX2_sizeOf_X2_inodeAt : GoodIn wsX2_sizeOf (va_wsS RX2 57 yX2_inodeAt wsX2_inodeAt) := goodIn_app (goodIn_of _ (by decide +kernel)) ggX2_sizeOf_X2_inodeAt
set_option maxRecDepth 20000 in
theorem ggX2_sizeOf_X0_word : GoodIn wsX2_sizeOf wsX0_word := goodIn_r _ [10, 11, 17, 18, 19, 20, 21] (by decide +kernel) (by decide +kernel)
set_option maxRecDepth 20000 in
theorem gX2_sizeOf_X0_word : GoodIn wsX2_sizeOf (wsV RX2 137 RX0 yX0_word wsX0_word) := goodIn_app (goodIn_of _ (by decide +kernel)) ggX2_sizeOf_X0_word
theorem dX2_sizeOf_0 : decode cX2_sizeOf 0 = .ok (.aload_n 0, 1) := by decide +kernel
theorem dX2_sizeOf_1 : decode cX2_sizeOf 1 = .ok (.getfield 12, 3) := by decide +kernel
theorem dX2_sizeOf_4 : decode cX2_sizeOf 4 = .ok (.iload_n 1, 1) := by decide +kernel
theorem dX2_sizeOf_5 : decode cX2_sizeOf 5 = .ok (.iconst 1, 1) := by decide +kernel
theorem dX2_sizeOf_6 : decode cX2_sizeOf 6 = .ok (.invokestatic 57, 3) := by decide +kernel
theorem dX2_sizeOf_9 : decode cX2_sizeOf 9 = .ok (.invokevirtual 137, 3) := by decide +kernel
theorem dX2_sizeOf_12 : decode cX2_sizeOf 12 = .ok (.l2i, 1) := by decide +kernel
theorem dX2_sizeOf_13 : decode cX2_sizeOf 13 = .ok (.ireturn, 1) := by decide +kernel
set_option maxRecDepth 20000 in
theorem ggX2_placeOf_X2_placeAt : GoodIn wsX2_placeOf wsX2_placeAt := goodIn_r _ [5, 6, 7, 4, 8] (by decide +kernel) (by decide +kernel)
set_option maxRecDepth 20000 in
theorem gX2_placeOf_X2_placeAt : GoodIn wsX2_placeOf (va_wsS RX2 64 yX2_placeAt wsX2_placeAt) := goodIn_app (goodIn_of _ (by decide +kernel)) ggX2_placeOf_X2_placeAt
set_option maxRecDepth 20000 in
theorem ggX2_placeOf_X0_word : GoodIn wsX2_placeOf wsX0_word := goodIn_r _ [13, 14, 20, 21, 22, 23, 24] (by decide +kernel) (by decide +kernel)
set_option maxRecDepth 20000 in
theorem gX2_placeOf_X0_word : GoodIn wsX2_placeOf (wsV RX2 137 RX0 yX0_word wsX0_word) := goodIn_app (goodIn_of _ (by decide +kernel)) ggX2_placeOf_X0_word
theorem dX2_placeOf_0 : decode cX2_placeOf 0 = .ok (.aload_n 0, 1) := by decide +kernel
theorem dX2_placeOf_1 : decode cX2_placeOf 1 = .ok (.getfield 12, 3) := by decide +kernel
theorem dX2_placeOf_4 : decode cX2_placeOf 4 = .ok (.iload_n 1, 1) := by decide +kernel
theorem dX2_placeOf_5 : decode cX2_placeOf 5 = .ok (.iload_n 2, 1) := by decide +kernel
theorem dX2_placeOf_6 : decode cX2_placeOf 6 = .ok (.invokestatic 64, 3) := by decide +kernel
theorem dX2_placeOf_9 : decode cX2_placeOf 9 = .ok (.invokevirtual 137, 3) := by decide +kernel
theorem dX2_placeOf_12 : decode cX2_placeOf 12 = .ok (.l2i, 1) := by decide +kernel
theorem dX2_placeOf_13 : decode cX2_placeOf 13 = .ok (.ireturn, 1) := by decide +kernel
set_option maxRecDepth 20000 in
theorem ggX2_recorded_X2_recordAt : GoodIn wsX2_recorded wsX2_recordAt := goodIn_r _ [5] (by decide +kernel) (by decide +kernel)
set_option maxRecDepth 20000 in
theorem gX2_recorded_X2_recordAt : GoodIn wsX2_recorded (va_wsS RX2 104 yX2_recordAt wsX2_recordAt) := goodIn_app (goodIn_of _ (by decide +kernel)) ggX2_recorded_X2_recordAt
set_option maxRecDepth 20000 in
theorem ggX2_recorded_X0_word : GoodIn wsX2_recorded wsX0_word := goodIn_r _ [10, 11, 17, 18, 19, 20, 21] (by decide +kernel) (by decide +kernel)
set_option maxRecDepth 20000 in
theorem gX2_recorded_X0_word : GoodIn wsX2_recorded (wsV RX2 137 RX0 yX0_word wsX0_word) := goodIn_app (goodIn_of _ (by decide +kernel)) ggX2_recorded_X0_word
theorem dX2_recorded_0 : decode cX2_recorded 0 = .ok (.aload_n 0, 1) := by decide +kernel
theorem dX2_recorded_1 : decode cX2_recorded 1 = .ok (.getfield 12, 3) := by decide +kernel
theorem dX2_recorded_4 : decode cX2_recorded 4 = .ok (.iload_n 1, 1) := by decide +kernel
theorem dX2_recorded_5 : decode cX2_recorded 5 = .ok (.invokestatic 104, 3) := by decide +kernel
theorem dX2_recorded_8 : decode cX2_recorded 8 = .ok (.invokevirtual 137, 3) := by decide +kernel
theorem dX2_recorded_11 : decode cX2_recorded 11 = .ok (.l2i, 1) := by decide +kernel
theorem dX2_recorded_12 : decode cX2_recorded 12 = .ok (.ireturn, 1) := by decide +kernel
theorem dX2_isBelow_0 : decode cX2_isBelow 0 = .ok (.iload_n 0, 1) := by decide +kernel
theorem dX2_isBelow_1 : decode cX2_isBelow 1 = .ok (.ifCond .lt 12, 3) := by decide +kernel
theorem dX2_isBelow_4 : decode cX2_isBelow 4 = .ok (.iload_n 0, 1) := by decide +kernel
theorem dX2_isBelow_5 : decode cX2_isBelow 5 = .ok (.iload_n 1, 1) := by decide +kernel
theorem dX2_isBelow_6 : decode cX2_isBelow 6 = .ok (.if_icmp .ge 7, 3) := by decide +kernel
theorem dX2_isBelow_9 : decode cX2_isBelow 9 = .ok (.iconst 1, 1) := by decide +kernel
theorem dX2_isBelow_10 : decode cX2_isBelow 10 = .ok (.goto 4, 3) := by decide +kernel
theorem dX2_isBelow_13 : decode cX2_isBelow 13 = .ok (.iconst 0, 1) := by decide +kernel
theorem dX2_isBelow_14 : decode cX2_isBelow 14 = .ok (.ireturn, 1) := by decide +kernel
theorem dX2_isName_0 : decode cX2_isName 0 = .ok (.iload_n 0, 1) := by decide +kernel
theorem dX2_isName_1 : decode cX2_isName 1 = .ok (.iconst 1, 1) := by decide +kernel
theorem dX2_isName_2 : decode cX2_isName 2 = .ok (.if_icmp .lt 13, 3) := by decide +kernel
theorem dX2_isName_5 : decode cX2_isName 5 = .ok (.iload_n 0, 1) := by decide +kernel
theorem dX2_isName_6 : decode cX2_isName 6 = .ok (.bipush 99, 2) := by decide +kernel
theorem dX2_isName_8 : decode cX2_isName 8 = .ok (.if_icmp .gt 7, 3) := by decide +kernel
theorem dX2_isName_11 : decode cX2_isName 11 = .ok (.iconst 1, 1) := by decide +kernel
theorem dX2_isName_12 : decode cX2_isName 12 = .ok (.goto 4, 3) := by decide +kernel
theorem dX2_isName_15 : decode cX2_isName 15 = .ok (.iconst 0, 1) := by decide +kernel
theorem dX2_isName_16 : decode cX2_isName 16 = .ok (.ireturn, 1) := by decide +kernel
set_option maxRecDepth 20000 in
theorem ggX2_isOfKind_X2_isBelow : GoodIn wsX2_isOfKind wsX2_isBelow := goodIn_r _ [4] (by decide +kernel) (by decide +kernel)
set_option maxRecDepth 20000 in
theorem gX2_isOfKind_X2_isBelow : GoodIn wsX2_isOfKind (va_wsS RX2 23 yX2_isBelow wsX2_isBelow) := goodIn_app (goodIn_of _ (by decide +kernel)) ggX2_isOfKind_X2_isBelow
set_option maxRecDepth 20000 in
theorem ggX2_isOfKind_X2_kindOf : GoodIn wsX2_isOfKind wsX2_kindOf := goodIn_r _ [8, 9, 10, 11, 3, 12, 13, 14, 15, 16, 17, 18, 19, 20, 21, 22, 23, 24, 25, 26, 27, 28] (by decide +kernel) (by decide +kernel)
set_option maxRecDepth 20000 in
theorem gX2_isOfKind_X2_kindOf : GoodIn wsX2_isOfKind (wsV RX2 92 RX2 yX2_kindOf wsX2_kindOf) := goodIn_app (goodIn_of _ (by decide +kernel)) ggX2_isOfKind_X2_kindOf
theorem dX2_isOfKind_0 : decode cX2_isOfKind 0 = .ok (.iload_n 1, 1) := by decide +kernel
theorem dX2_isOfKind_1 : decode cX2_isOfKind 1 = .ok (.bipush 12, 2) := by decide +kernel
theorem dX2_isOfKind_3 : decode cX2_isOfKind 3 = .ok (.invokestatic 23, 3) := by decide +kernel
theorem dX2_isOfKind_6 : decode cX2_isOfKind 6 = .ok (.ifCond .eq 16, 3) := by decide +kernel
theorem dX2_isOfKind_9 : decode cX2_isOfKind 9 = .ok (.aload_n 0, 1) := by decide +kernel
theorem dX2_isOfKind_10 : decode cX2_isOfKind 10 = .ok (.iload_n 1, 1) := by decide +kernel
theorem dX2_isOfKind_11 : decode cX2_isOfKind 11 = .ok (.invokevirtual 92, 3) := by decide +kernel
theorem dX2_isOfKind_14 : decode cX2_isOfKind 14 = .ok (.iload_n 2, 1) := by decide +kernel
theorem dX2_isOfKind_15 : decode cX2_isOfKind 15 = .ok (.if_icmp .ne 7, 3) := by decide +kernel
theorem dX2_isOfKind_18 : decode cX2_isOfKind 18 = .ok (.iconst 1, 1) := by decide +kernel
theorem dX2_isOfKind_19 : decode cX2_isOfKind 19 = .ok (.goto 4, 3) := by decide +kernel
theorem dX2_isOfKind_22 : decode cX2_isOfKind 22 = .ok (.iconst 0, 1) := by decide +kernel
theorem dX2_isOfKind_23 : decode cX2_isOfKind 23 = .ok (.ireturn, 1) := by decide +kernel
set_option maxRecDepth 20000 in
theorem ggX2_isDataOfFile_X2_isOfKind : GoodIn wsX2_isDataOfFile wsX2_isOfKind := goodIn_r _ [5, 6, 7, 4, 8, 9, 10, 11, 12, 13, 14, 15, 16, 17, 18, 19, 20, 21, 22, 27, 28, 29, 30, 31, 32, 33, 34, 35, 36] (by decide +kernel) (by decide +kernel)
set_option maxRecDepth 20000 in
theorem gX2_isDataOfFile_X2_isOfKind : GoodIn wsX2_isDataOfFile (wsV RX2 35 RX2 yX2_isOfKind wsX2_isOfKind) := goodIn_app (goodIn_of _ (by decide +kernel)) ggX2_isDataOfFile_X2_isOfKind
set_option maxRecDepth 20000 in
theorem ggX2_isDataOfFile_X2_sizeOf : GoodIn wsX2_isDataOfFile wsX2_sizeOf := goodIn_r _ [26, 13, 14, 15, 4, 16, 17, 18, 19, 20, 21, 22, 27, 28, 29, 30, 31, 32, 33, 34, 35, 36] (by decide +kernel) (by decide +kernel)
set_option maxRecDepth 20000 in
theorem gX2_isDataOfFile_X2_sizeOf : GoodIn wsX2_isDataOfFile (wsV RX2 73 RX2 yX2_sizeOf wsX2_sizeOf) := goodIn_app (goodIn_of _ (by decide +kernel)) ggX2_isDataOfFile_X2_sizeOf
set_option maxRecDepth 20000 in
theorem ggX2_isDataOfFile_X2_isBelow : GoodIn wsX2_isDataOfFile wsX2_isBelow := goodIn_r _ [8] (by decide +kernel) (by decide +kernel)
set_option maxRecDepth 20000 in
theorem gX2_isDataOfFile_X2_isBelow : GoodIn wsX2_isDataOfFile (va_wsS RX2 23 yX2_isBelow wsX2_isBelow) := goodIn_app (goodIn_of _ (by decide +kernel)) ggX2_isDataOfFile_X2_isBelow
theorem dX2_isDataOfFile_0 : decode cX2_isDataOfFile 0 = .ok (.aload_n 0, 1) := by decide +kernel
theorem dX2_isDataOfFile_1 : decode cX2_isDataOfFile 1 = .ok (.iload_n 1, 1) := by decide +kernel
theorem dX2_isDataOfFile_2 : decode cX2_isDataOfFile 2 = .ok (.iconst 2, 1) := by decide +kernel
theorem dX2_isDataOfFile_3 : decode cX2_isDataOfFile 3 = .ok (.invokevirtual 35, 3) := by decide +kernel
theorem dX2_isDataOfFile_6 : decode cX2_isDataOfFile 6 = .ok (.ifCond .eq 27, 3) := by decide +kernel
theorem dX2_isDataOfFile_9 : decode cX2_isDataOfFile 9 = .ok (.iload_n 2, 1) := by decide +kernel
theorem dX2_isDataOfFile_10 : decode cX2_isDataOfFile 10 = .ok (.aload_n 0, 1) := by decide +kernel
theorem dX2_isDataOfFile_11 : decode cX2_isDataOfFile 11 = .ok (.iload_n 1, 1) := by decide +kernel
theorem dX2_isDataOfFile_12 : decode cX2_isDataOfFile 12 = .ok (.invokevirtual 73, 3) := by decide +kernel
theorem dX2_isDataOfFile_15 : decode cX2_isDataOfFile 15 = .ok (.invokestatic 23, 3) := by decide +kernel
theorem dX2_isDataOfFile_18 : decode cX2_isDataOfFile 18 = .ok (.ifCond .eq 15, 3) := by decide +kernel
theorem dX2_isDataOfFile_21 : decode cX2_isDataOfFile 21 = .ok (.iload_n 3, 1) := by decide +kernel
theorem dX2_isDataOfFile_22 : decode cX2_isDataOfFile 22 = .ok (.iconst 3, 1) := by decide +kernel
theorem dX2_isDataOfFile_23 : decode cX2_isDataOfFile 23 = .ok (.invokestatic 23, 3) := by decide +kernel
theorem dX2_isDataOfFile_26 : decode cX2_isDataOfFile 26 = .ok (.ifCond .eq 7, 3) := by decide +kernel
theorem dX2_isDataOfFile_29 : decode cX2_isDataOfFile 29 = .ok (.iconst 1, 1) := by decide +kernel
theorem dX2_isDataOfFile_30 : decode cX2_isDataOfFile 30 = .ok (.goto 4, 3) := by decide +kernel
theorem dX2_isDataOfFile_33 : decode cX2_isDataOfFile 33 = .ok (.iconst 0, 1) := by decide +kernel
theorem dX2_isDataOfFile_34 : decode cX2_isDataOfFile 34 = .ok (.ireturn, 1) := by decide +kernel
theorem dX2_answerOfAct_0 : decode cX2_answerOfAct 0 = .ok (.aload_n 0, 1) := by decide +kernel
theorem dX2_answerOfAct_1 : decode cX2_answerOfAct 1 = .ok (.getfield 12, 3) := by decide +kernel
theorem dX2_answerOfAct_4 : decode cX2_answerOfAct 4 = .ok (.getfield 134, 3) := by decide +kernel
theorem dX2_answerOfAct_7 : decode cX2_answerOfAct 7 = .ok (.ifCond .eq 8, 3) := by decide +kernel
theorem dX2_answerOfAct_10 : decode cX2_answerOfAct 10 = .ok (.bipush (-2), 2) := by decide +kernel
theorem dX2_answerOfAct_12 : decode cX2_answerOfAct 12 = .ok (.goto 4, 3) := by decide +kernel
theorem dX2_answerOfAct_15 : decode cX2_answerOfAct 15 = .ok (.iload_n 1, 1) := by decide +kernel
theorem dX2_answerOfAct_16 : decode cX2_answerOfAct 16 = .ok (.ireturn, 1) := by decide +kernel
theorem dX2_entryOf_0 : decode cX2_entryOf 0 = .ok (.iload_n 0, 1) := by decide +kernel
theorem dX2_entryOf_1 : decode cX2_entryOf 1 = .ok (.bipush 100, 2) := by decide +kernel
theorem dX2_entryOf_3 : decode cX2_entryOf 3 = .ok (.imul, 1) := by decide +kernel
theorem dX2_entryOf_4 : decode cX2_entryOf 4 = .ok (.iload_n 1, 1) := by decide +kernel
theorem dX2_entryOf_5 : decode cX2_entryOf 5 = .ok (.iadd, 1) := by decide +kernel
theorem dX2_entryOf_6 : decode cX2_entryOf 6 = .ok (.ireturn, 1) := by decide +kernel
theorem dX2_inodeOfEntry_0 : decode cX2_inodeOfEntry 0 = .ok (.iload_n 0, 1) := by decide +kernel
theorem dX2_inodeOfEntry_1 : decode cX2_inodeOfEntry 1 = .ok (.bipush 100, 2) := by decide +kernel
theorem dX2_inodeOfEntry_3 : decode cX2_inodeOfEntry 3 = .ok (.idiv, 1) := by decide +kernel
theorem dX2_inodeOfEntry_4 : decode cX2_inodeOfEntry 4 = .ok (.ireturn, 1) := by decide +kernel
theorem dX2_nameOfEntry_0 : decode cX2_nameOfEntry 0 = .ok (.iload_n 0, 1) := by decide +kernel
theorem dX2_nameOfEntry_1 : decode cX2_nameOfEntry 1 = .ok (.bipush 100, 2) := by decide +kernel
theorem dX2_nameOfEntry_3 : decode cX2_nameOfEntry 3 = .ok (.irem, 1) := by decide +kernel
theorem dX2_nameOfEntry_4 : decode cX2_nameOfEntry 4 = .ok (.ireturn, 1) := by decide +kernel
set_option maxRecDepth 20000 in
theorem ggX2_placeOfName_X2_placeOf : GoodIn wsX2_placeOfName wsX2_placeOf := goodIn_r _ [5, 6, 7, 8, 4, 9, 10, 11, 12, 13, 14, 15, 16, 17, 18, 22, 23, 24, 25, 26, 27, 28, 29, 30, 31] (by decide +kernel) (by decide +kernel)
set_option maxRecDepth 20000 in
theorem gX2_placeOfName_X2_placeOf : GoodIn wsX2_placeOfName (wsV RX2 86 RX2 yX2_placeOf wsX2_placeOf) := goodIn_app (goodIn_of _ (by decide +kernel)) ggX2_placeOfName_X2_placeOf
end
section
set_option maxRecDepth 20000 in
theorem ggX2_placeOfName_X2_nameOfEntry : GoodIn wsX2_placeOfName wsX2_nameOfEntry := goodIn_r _ [21] (by decide +kernel) (by decide +kernel)
set_option maxRecDepth 20000 in
theorem gX2_placeOfName_X2_nameOfEntry : GoodIn wsX2_placeOfName (va_wsS RX2 186 yX2_nameOfEntry wsX2_nameOfEntry) := goodIn_app (goodIn_of _ (by decide +kernel)) ggX2_placeOfName_X2_nameOfEntry
theorem dX2_placeOfName_0 : decode cX2_placeOfName 0 = .ok (.iconst 0, 1) := by decide +kernel
theorem dX2_placeOfName_1 : decode cX2_placeOfName 1 = .ok (.istore_n 3, 1) := by decide +kernel
theorem dX2_placeOfName_2 : decode cX2_placeOfName 2 = .ok (.iload_n 3, 1) := by decide +kernel
theorem dX2_placeOfName_3 : decode cX2_placeOfName 3 = .ok (.bipush 8, 2) := by decide +kernel
theorem dX2_placeOfName_5 : decode cX2_placeOfName 5 = .ok (.if_icmp .ge 24, 3) := by decide +kernel
theorem dX2_placeOfName_8 : decode cX2_placeOfName 8 = .ok (.aload_n 0, 1) := by decide +kernel
theorem dX2_placeOfName_9 : decode cX2_placeOfName 9 = .ok (.iload_n 1, 1) := by decide +kernel
theorem dX2_placeOfName_10 : decode cX2_placeOfName 10 = .ok (.iload_n 3, 1) := by decide +kernel
theorem dX2_placeOfName_11 : decode cX2_placeOfName 11 = .ok (.invokevirtual 86, 3) := by decide +kernel
theorem dX2_placeOfName_14 : decode cX2_placeOfName 14 = .ok (.invokestatic 186, 3) := by decide +kernel
theorem dX2_placeOfName_17 : decode cX2_placeOfName 17 = .ok (.iload_n 2, 1) := by decide +kernel
theorem dX2_placeOfName_18 : decode cX2_placeOfName 18 = .ok (.if_icmp .ne 5, 3) := by decide +kernel
theorem dX2_placeOfName_21 : decode cX2_placeOfName 21 = .ok (.iload_n 3, 1) := by decide +kernel
theorem dX2_placeOfName_22 : decode cX2_placeOfName 22 = .ok (.ireturn, 1) := by decide +kernel
theorem dX2_placeOfName_23 : decode cX2_placeOfName 23 = .ok (.iinc 3 1, 3) := by decide +kernel
theorem dX2_placeOfName_26 : decode cX2_placeOfName 26 = .ok (.goto (-24), 3) := by decide +kernel
theorem dX2_placeOfName_29 : decode cX2_placeOfName 29 = .ok (.bipush (-3), 2) := by decide +kernel
theorem dX2_placeOfName_31 : decode cX2_placeOfName 31 = .ok (.ireturn, 1) := by decide +kernel
set_option maxRecDepth 20000 in
theorem ggX2_leastPlaceWithoutEntry_X2_placeOf : GoodIn wsX2_leastPlaceWithoutEntry wsX2_placeOf := goodIn_r _ [5, 6, 7, 8, 4, 9, 10, 11, 12, 13, 14, 15, 16, 17, 18, 19, 20, 21, 22, 23, 24, 25, 26, 27, 28] (by decide +kernel) (by decide +kernel)
set_option maxRecDepth 20000 in
theorem gX2_leastPlaceWithoutEntry_X2_placeOf : GoodIn wsX2_leastPlaceWithoutEntry (wsV RX2 86 RX2 yX2_placeOf wsX2_placeOf) := goodIn_app (goodIn_of _ (by decide +kernel)) ggX2_leastPlaceWithoutEntry_X2_placeOf
theorem dX2_leastPlaceWithoutEntry_0 : decode cX2_leastPlaceWithoutEntry 0 = .ok (.iconst 0, 1) := by decide +kernel
theorem dX2_leastPlaceWithoutEntry_1 : decode cX2_leastPlaceWithoutEntry 1 = .ok (.istore_n 2, 1) := by decide +kernel
theorem dX2_leastPlaceWithoutEntry_2 : decode cX2_leastPlaceWithoutEntry 2 = .ok (.iload_n 2, 1) := by decide +kernel
theorem dX2_leastPlaceWithoutEntry_3 : decode cX2_leastPlaceWithoutEntry 3 = .ok (.bipush 8, 2) := by decide +kernel
theorem dX2_leastPlaceWithoutEntry_5 : decode cX2_leastPlaceWithoutEntry 5 = .ok (.if_icmp .ge 20, 3) := by decide +kernel
theorem dX2_leastPlaceWithoutEntry_8 : decode cX2_leastPlaceWithoutEntry 8 = .ok (.aload_n 0, 1) := by decide +kernel
theorem dX2_leastPlaceWithoutEntry_9 : decode cX2_leastPlaceWithoutEntry 9 = .ok (.iload_n 1, 1) := by decide +kernel
theorem dX2_leastPlaceWithoutEntry_10 : decode cX2_leastPlaceWithoutEntry 10 = .ok (.iload_n 2, 1) := by decide +kernel
theorem dX2_leastPlaceWithoutEntry_11 : decode cX2_leastPlaceWithoutEntry 11 = .ok (.invokevirtual 86, 3) := by decide +kernel
theorem dX2_leastPlaceWithoutEntry_14 : decode cX2_leastPlaceWithoutEntry 14 = .ok (.ifCond .ne 5, 3) := by decide +kernel
theorem dX2_leastPlaceWithoutEntry_17 : decode cX2_leastPlaceWithoutEntry 17 = .ok (.iload_n 2, 1) := by decide +kernel
theorem dX2_leastPlaceWithoutEntry_18 : decode cX2_leastPlaceWithoutEntry 18 = .ok (.ireturn, 1) := by decide +kernel
theorem dX2_leastPlaceWithoutEntry_19 : decode cX2_leastPlaceWithoutEntry 19 = .ok (.iinc 2 1, 3) := by decide +kernel
theorem dX2_leastPlaceWithoutEntry_22 : decode cX2_leastPlaceWithoutEntry 22 = .ok (.goto (-20), 3) := by decide +kernel
theorem dX2_leastPlaceWithoutEntry_25 : decode cX2_leastPlaceWithoutEntry 25 = .ok (.bipush (-3), 2) := by decide +kernel
theorem dX2_leastPlaceWithoutEntry_27 : decode cX2_leastPlaceWithoutEntry 27 = .ok (.ireturn, 1) := by decide +kernel
set_option maxRecDepth 20000 in
theorem ggX2_entriesOf_X2_placeOf : GoodIn wsX2_entriesOf wsX2_placeOf := goodIn_r _ [5, 6, 7, 8, 4, 9, 10, 11, 12, 13, 14, 15, 16, 17, 18, 19, 20, 21, 22, 23, 24, 25, 26, 27, 28] (by decide +kernel) (by decide +kernel)
set_option maxRecDepth 20000 in
theorem gX2_entriesOf_X2_placeOf : GoodIn wsX2_entriesOf (wsV RX2 86 RX2 yX2_placeOf wsX2_placeOf) := goodIn_app (goodIn_of _ (by decide +kernel)) ggX2_entriesOf_X2_placeOf
theorem dX2_entriesOf_0 : decode cX2_entriesOf 0 = .ok (.iconst 0, 1) := by decide +kernel
theorem dX2_entriesOf_1 : decode cX2_entriesOf 1 = .ok (.istore_n 2, 1) := by decide +kernel
theorem dX2_entriesOf_2 : decode cX2_entriesOf 2 = .ok (.iconst 0, 1) := by decide +kernel
theorem dX2_entriesOf_3 : decode cX2_entriesOf 3 = .ok (.istore_n 3, 1) := by decide +kernel
theorem dX2_entriesOf_4 : decode cX2_entriesOf 4 = .ok (.iload_n 3, 1) := by decide +kernel
theorem dX2_entriesOf_5 : decode cX2_entriesOf 5 = .ok (.bipush 8, 2) := by decide +kernel
theorem dX2_entriesOf_7 : decode cX2_entriesOf 7 = .ok (.if_icmp .ge 21, 3) := by decide +kernel
theorem dX2_entriesOf_10 : decode cX2_entriesOf 10 = .ok (.aload_n 0, 1) := by decide +kernel
theorem dX2_entriesOf_11 : decode cX2_entriesOf 11 = .ok (.iload_n 1, 1) := by decide +kernel
theorem dX2_entriesOf_12 : decode cX2_entriesOf 12 = .ok (.iload_n 3, 1) := by decide +kernel
theorem dX2_entriesOf_13 : decode cX2_entriesOf 13 = .ok (.invokevirtual 86, 3) := by decide +kernel
theorem dX2_entriesOf_16 : decode cX2_entriesOf 16 = .ok (.ifCond .eq 6, 3) := by decide +kernel
theorem dX2_entriesOf_19 : decode cX2_entriesOf 19 = .ok (.iinc 2 1, 3) := by decide +kernel
theorem dX2_entriesOf_22 : decode cX2_entriesOf 22 = .ok (.iinc 3 1, 3) := by decide +kernel
theorem dX2_entriesOf_25 : decode cX2_entriesOf 25 = .ok (.goto (-21), 3) := by decide +kernel
theorem dX2_entriesOf_28 : decode cX2_entriesOf 28 = .ok (.iload_n 2, 1) := by decide +kernel
theorem dX2_entriesOf_29 : decode cX2_entriesOf 29 = .ok (.ireturn, 1) := by decide +kernel
set_option maxRecDepth 20000 in
theorem ggX2_hasEntryOf_X2_placeOf : GoodIn wsX2_hasEntryOf wsX2_placeOf := goodIn_r _ [5, 6, 7, 8, 4, 9, 10, 11, 12, 13, 14, 15, 16, 17, 18, 22, 23, 24, 25, 26, 27, 28, 29, 30, 31] (by decide +kernel) (by decide +kernel)
set_option maxRecDepth 20000 in
theorem gX2_hasEntryOf_X2_placeOf : GoodIn wsX2_hasEntryOf (wsV RX2 86 RX2 yX2_placeOf wsX2_placeOf) := goodIn_app (goodIn_of _ (by decide +kernel)) ggX2_hasEntryOf_X2_placeOf
set_option maxRecDepth 20000 in
theorem ggX2_hasEntryOf_X2_inodeOfEntry : GoodIn wsX2_hasEntryOf wsX2_inodeOfEntry := goodIn_r _ [21] (by decide +kernel) (by decide +kernel)
set_option maxRecDepth 20000 in
theorem gX2_hasEntryOf_X2_inodeOfEntry : GoodIn wsX2_hasEntryOf (va_wsS RX2 89 yX2_inodeOfEntry wsX2_inodeOfEntry) := goodIn_app (goodIn_of _ (by decide +kernel)) ggX2_hasEntryOf_X2_inodeOfEntry
theorem dX2_hasEntryOf_0 : decode cX2_hasEntryOf 0 = .ok (.iconst 0, 1) := by decide +kernel
theorem dX2_hasEntryOf_1 : decode cX2_hasEntryOf 1 = .ok (.istore_n 3, 1) := by decide +kernel
theorem dX2_hasEntryOf_2 : decode cX2_hasEntryOf 2 = .ok (.iload_n 3, 1) := by decide +kernel
theorem dX2_hasEntryOf_3 : decode cX2_hasEntryOf 3 = .ok (.bipush 8, 2) := by decide +kernel
theorem dX2_hasEntryOf_5 : decode cX2_hasEntryOf 5 = .ok (.if_icmp .ge 33, 3) := by decide +kernel
theorem dX2_hasEntryOf_8 : decode cX2_hasEntryOf 8 = .ok (.aload_n 0, 1) := by decide +kernel
theorem dX2_hasEntryOf_9 : decode cX2_hasEntryOf 9 = .ok (.iload_n 1, 1) := by decide +kernel
theorem dX2_hasEntryOf_10 : decode cX2_hasEntryOf 10 = .ok (.iload_n 3, 1) := by decide +kernel
theorem dX2_hasEntryOf_11 : decode cX2_hasEntryOf 11 = .ok (.invokevirtual 86, 3) := by decide +kernel
theorem dX2_hasEntryOf_14 : decode cX2_hasEntryOf 14 = .ok (.istore 4, 2) := by decide +kernel
theorem dX2_hasEntryOf_16 : decode cX2_hasEntryOf 16 = .ok (.iload 4, 2) := by decide +kernel
theorem dX2_hasEntryOf_18 : decode cX2_hasEntryOf 18 = .ok (.ifCond .eq 14, 3) := by decide +kernel
theorem dX2_hasEntryOf_21 : decode cX2_hasEntryOf 21 = .ok (.iload 4, 2) := by decide +kernel
theorem dX2_hasEntryOf_23 : decode cX2_hasEntryOf 23 = .ok (.invokestatic 89, 3) := by decide +kernel
theorem dX2_hasEntryOf_26 : decode cX2_hasEntryOf 26 = .ok (.iload_n 2, 1) := by decide +kernel
theorem dX2_hasEntryOf_27 : decode cX2_hasEntryOf 27 = .ok (.if_icmp .ne 5, 3) := by decide +kernel
theorem dX2_hasEntryOf_30 : decode cX2_hasEntryOf 30 = .ok (.iconst 1, 1) := by decide +kernel
theorem dX2_hasEntryOf_31 : decode cX2_hasEntryOf 31 = .ok (.ireturn, 1) := by decide +kernel
theorem dX2_hasEntryOf_32 : decode cX2_hasEntryOf 32 = .ok (.iinc 3 1, 3) := by decide +kernel
theorem dX2_hasEntryOf_35 : decode cX2_hasEntryOf 35 = .ok (.goto (-33), 3) := by decide +kernel
theorem dX2_hasEntryOf_38 : decode cX2_hasEntryOf 38 = .ok (.iconst 0, 1) := by decide +kernel
theorem dX2_hasEntryOf_39 : decode cX2_hasEntryOf 39 = .ok (.ireturn, 1) := by decide +kernel
set_option maxRecDepth 20000 in
theorem ggX2_directoryAbove_X2_kindOf : GoodIn wsX2_directoryAbove wsX2_kindOf := goodIn_r _ [5, 6, 7, 8, 4, 9, 10, 11, 12, 13, 14, 15, 30, 31, 32, 33, 34, 35, 36, 37, 38, 39] (by decide +kernel) (by decide +kernel)
set_option maxRecDepth 20000 in
theorem gX2_directoryAbove_X2_kindOf : GoodIn wsX2_directoryAbove (wsV RX2 92 RX2 yX2_kindOf wsX2_kindOf) := goodIn_app (goodIn_of _ (by decide +kernel)) ggX2_directoryAbove_X2_kindOf
set_option maxRecDepth 20000 in
theorem ggX2_directoryAbove_X2_hasEntryOf : GoodIn wsX2_directoryAbove wsX2_hasEntryOf := goodIn_r _ [19, 20, 21, 22, 4, 23, 6, 24, 25, 26, 7, 8, 9, 10, 11, 12, 13, 14, 15, 27, 28, 29, 30, 31, 32, 33, 34, 35, 36, 37, 38, 39] (by decide +kernel) (by decide +kernel)
set_option maxRecDepth 20000 in
theorem gX2_directoryAbove_X2_hasEntryOf : GoodIn wsX2_directoryAbove (wsV RX2 189 RX2 yX2_hasEntryOf wsX2_hasEntryOf) := goodIn_app (goodIn_of _ (by decide +kernel)) ggX2_directoryAbove_X2_hasEntryOf
theorem dX2_directoryAbove_0 : decode cX2_directoryAbove 0 = .ok (.iconst 0, 1) := by decide +kernel
theorem dX2_directoryAbove_1 : decode cX2_directoryAbove 1 = .ok (.istore_n 2, 1) := by decide +kernel
theorem dX2_directoryAbove_2 : decode cX2_directoryAbove 2 = .ok (.iload_n 2, 1) := by decide +kernel
theorem dX2_directoryAbove_3 : decode cX2_directoryAbove 3 = .ok (.bipush 12, 2) := by decide +kernel
theorem dX2_directoryAbove_5 : decode cX2_directoryAbove 5 = .ok (.if_icmp .ge 29, 3) := by decide +kernel
theorem dX2_directoryAbove_8 : decode cX2_directoryAbove 8 = .ok (.aload_n 0, 1) := by decide +kernel
theorem dX2_directoryAbove_9 : decode cX2_directoryAbove 9 = .ok (.iload_n 2, 1) := by decide +kernel
theorem dX2_directoryAbove_10 : decode cX2_directoryAbove 10 = .ok (.invokevirtual 92, 3) := by decide +kernel
theorem dX2_directoryAbove_13 : decode cX2_directoryAbove 13 = .ok (.iconst 1, 1) := by decide +kernel
theorem dX2_directoryAbove_14 : decode cX2_directoryAbove 14 = .ok (.if_icmp .ne 14, 3) := by decide +kernel
theorem dX2_directoryAbove_17 : decode cX2_directoryAbove 17 = .ok (.aload_n 0, 1) := by decide +kernel
theorem dX2_directoryAbove_18 : decode cX2_directoryAbove 18 = .ok (.iload_n 2, 1) := by decide +kernel
theorem dX2_directoryAbove_19 : decode cX2_directoryAbove 19 = .ok (.iload_n 1, 1) := by decide +kernel
theorem dX2_directoryAbove_20 : decode cX2_directoryAbove 20 = .ok (.invokevirtual 189, 3) := by decide +kernel
theorem dX2_directoryAbove_23 : decode cX2_directoryAbove 23 = .ok (.ifCond .eq 5, 3) := by decide +kernel
theorem dX2_directoryAbove_26 : decode cX2_directoryAbove 26 = .ok (.iload_n 2, 1) := by decide +kernel
theorem dX2_directoryAbove_27 : decode cX2_directoryAbove 27 = .ok (.ireturn, 1) := by decide +kernel
theorem dX2_directoryAbove_28 : decode cX2_directoryAbove 28 = .ok (.iinc 2 1, 3) := by decide +kernel
theorem dX2_directoryAbove_31 : decode cX2_directoryAbove 31 = .ok (.goto (-29), 3) := by decide +kernel
theorem dX2_directoryAbove_34 : decode cX2_directoryAbove 34 = .ok (.bipush (-3), 2) := by decide +kernel
theorem dX2_directoryAbove_36 : decode cX2_directoryAbove 36 = .ok (.ireturn, 1) := by decide +kernel
set_option maxRecDepth 20000 in
theorem ggX2_isWithin_X2_directoryAbove : GoodIn wsX2_isWithin wsX2_directoryAbove := goodIn_r _ [5, 6, 7, 8, 4, 9, 10, 11, 12, 13, 14, 15, 16, 17, 18, 19, 20, 21, 22, 23, 24, 25, 26, 27, 28, 29, 30, 31, 32, 33, 34, 35, 36, 37, 38, 39, 40, 41, 42, 43] (by decide +kernel) (by decide +kernel)
set_option maxRecDepth 20000 in
theorem gX2_isWithin_X2_directoryAbove : GoodIn wsX2_isWithin (wsV RX2 192 RX2 yX2_directoryAbove wsX2_directoryAbove) := goodIn_app (goodIn_of _ (by decide +kernel)) ggX2_isWithin_X2_directoryAbove
theorem dX2_isWithin_0 : decode cX2_isWithin 0 = .ok (.iload_n 1, 1) := by decide +kernel
theorem dX2_isWithin_1 : decode cX2_isWithin 1 = .ok (.istore_n 3, 1) := by decide +kernel
theorem dX2_isWithin_2 : decode cX2_isWithin 2 = .ok (.iconst 0, 1) := by decide +kernel
theorem dX2_isWithin_3 : decode cX2_isWithin 3 = .ok (.istore 4, 2) := by decide +kernel
theorem dX2_isWithin_5 : decode cX2_isWithin 5 = .ok (.iload 4, 2) := by decide +kernel
theorem dX2_isWithin_7 : decode cX2_isWithin 7 = .ok (.bipush 12, 2) := by decide +kernel
theorem dX2_isWithin_9 : decode cX2_isWithin 9 = .ok (.if_icmp .ge 28, 3) := by decide +kernel
theorem dX2_isWithin_12 : decode cX2_isWithin 12 = .ok (.iload_n 3, 1) := by decide +kernel
theorem dX2_isWithin_13 : decode cX2_isWithin 13 = .ok (.bipush (-3), 2) := by decide +kernel
theorem dX2_isWithin_15 : decode cX2_isWithin 15 = .ok (.if_icmp .eq 22, 3) := by decide +kernel
theorem dX2_isWithin_18 : decode cX2_isWithin 18 = .ok (.iload_n 3, 1) := by decide +kernel
theorem dX2_isWithin_19 : decode cX2_isWithin 19 = .ok (.iload_n 2, 1) := by decide +kernel
theorem dX2_isWithin_20 : decode cX2_isWithin 20 = .ok (.if_icmp .ne 5, 3) := by decide +kernel
theorem dX2_isWithin_23 : decode cX2_isWithin 23 = .ok (.iconst 1, 1) := by decide +kernel
theorem dX2_isWithin_24 : decode cX2_isWithin 24 = .ok (.ireturn, 1) := by decide +kernel
theorem dX2_isWithin_25 : decode cX2_isWithin 25 = .ok (.aload_n 0, 1) := by decide +kernel
theorem dX2_isWithin_26 : decode cX2_isWithin 26 = .ok (.iload_n 3, 1) := by decide +kernel
theorem dX2_isWithin_27 : decode cX2_isWithin 27 = .ok (.invokevirtual 192, 3) := by decide +kernel
theorem dX2_isWithin_30 : decode cX2_isWithin 30 = .ok (.istore_n 3, 1) := by decide +kernel
theorem dX2_isWithin_31 : decode cX2_isWithin 31 = .ok (.iinc 4 1, 3) := by decide +kernel
theorem dX2_isWithin_34 : decode cX2_isWithin 34 = .ok (.goto (-29), 3) := by decide +kernel
theorem dX2_isWithin_37 : decode cX2_isWithin 37 = .ok (.iconst 0, 1) := by decide +kernel
theorem dX2_isWithin_38 : decode cX2_isWithin 38 = .ok (.ireturn, 1) := by decide +kernel
set_option maxRecDepth 20000 in
theorem ggX2_leastInodeOfNoKind_X2_kindOf : GoodIn wsX2_leastInodeOfNoKind wsX2_kindOf := goodIn_r _ [5, 6, 7, 8, 4, 9, 10, 11, 12, 13, 14, 15, 16, 17, 18, 19, 20, 21, 22, 23, 24, 25] (by decide +kernel) (by decide +kernel)
set_option maxRecDepth 20000 in
theorem gX2_leastInodeOfNoKind_X2_kindOf : GoodIn wsX2_leastInodeOfNoKind (wsV RX2 92 RX2 yX2_kindOf wsX2_kindOf) := goodIn_app (goodIn_of _ (by decide +kernel)) ggX2_leastInodeOfNoKind_X2_kindOf
theorem dX2_leastInodeOfNoKind_0 : decode cX2_leastInodeOfNoKind 0 = .ok (.iconst 0, 1) := by decide +kernel
theorem dX2_leastInodeOfNoKind_1 : decode cX2_leastInodeOfNoKind 1 = .ok (.istore_n 1, 1) := by decide +kernel
theorem dX2_leastInodeOfNoKind_2 : decode cX2_leastInodeOfNoKind 2 = .ok (.iload_n 1, 1) := by decide +kernel
theorem dX2_leastInodeOfNoKind_3 : decode cX2_leastInodeOfNoKind 3 = .ok (.bipush 12, 2) := by decide +kernel
theorem dX2_leastInodeOfNoKind_5 : decode cX2_leastInodeOfNoKind 5 = .ok (.if_icmp .ge 19, 3) := by decide +kernel
theorem dX2_leastInodeOfNoKind_8 : decode cX2_leastInodeOfNoKind 8 = .ok (.aload_n 0, 1) := by decide +kernel
theorem dX2_leastInodeOfNoKind_9 : decode cX2_leastInodeOfNoKind 9 = .ok (.iload_n 1, 1) := by decide +kernel
theorem dX2_leastInodeOfNoKind_10 : decode cX2_leastInodeOfNoKind 10 = .ok (.invokevirtual 92, 3) := by decide +kernel
theorem dX2_leastInodeOfNoKind_13 : decode cX2_leastInodeOfNoKind 13 = .ok (.ifCond .ne 5, 3) := by decide +kernel
theorem dX2_leastInodeOfNoKind_16 : decode cX2_leastInodeOfNoKind 16 = .ok (.iload_n 1, 1) := by decide +kernel
theorem dX2_leastInodeOfNoKind_17 : decode cX2_leastInodeOfNoKind 17 = .ok (.ireturn, 1) := by decide +kernel
theorem dX2_leastInodeOfNoKind_18 : decode cX2_leastInodeOfNoKind 18 = .ok (.iinc 1 1, 3) := by decide +kernel
theorem dX2_leastInodeOfNoKind_21 : decode cX2_leastInodeOfNoKind 21 = .ok (.goto (-19), 3) := by decide +kernel
theorem dX2_leastInodeOfNoKind_24 : decode cX2_leastInodeOfNoKind 24 = .ok (.bipush (-3), 2) := by decide +kernel
theorem dX2_leastInodeOfNoKind_26 : decode cX2_leastInodeOfNoKind 26 = .ok (.ireturn, 1) := by decide +kernel
set_option maxRecDepth 20000 in
theorem ggX2_blocksOf_X2_kindOf : GoodIn wsX2_blocksOf wsX2_kindOf := goodIn_r _ [5, 6, 7, 8, 4, 9, 10, 11, 12, 13, 14, 15, 20, 21, 22, 23, 24, 25, 26, 27, 28, 29] (by decide +kernel) (by decide +kernel)
set_option maxRecDepth 20000 in
theorem gX2_blocksOf_X2_kindOf : GoodIn wsX2_blocksOf (wsV RX2 92 RX2 yX2_kindOf wsX2_kindOf) := goodIn_app (goodIn_of _ (by decide +kernel)) ggX2_blocksOf_X2_kindOf
set_option maxRecDepth 20000 in
theorem ggX2_blocksOf_X2_sizeOf : GoodIn wsX2_blocksOf wsX2_sizeOf := goodIn_r _ [19, 6, 7, 8, 4, 9, 10, 11, 12, 13, 14, 15, 20, 21, 22, 23, 24, 25, 26, 27, 28, 29] (by decide +kernel) (by decide +kernel)
set_option maxRecDepth 20000 in
theorem gX2_blocksOf_X2_sizeOf : GoodIn wsX2_blocksOf (wsV RX2 73 RX2 yX2_sizeOf wsX2_sizeOf) := goodIn_app (goodIn_of _ (by decide +kernel)) ggX2_blocksOf_X2_sizeOf
theorem dX2_blocksOf_0 : decode cX2_blocksOf 0 = .ok (.aload_n 0, 1) := by decide +kernel
theorem dX2_blocksOf_1 : decode cX2_blocksOf 1 = .ok (.iload_n 1, 1) := by decide +kernel
theorem dX2_blocksOf_2 : decode cX2_blocksOf 2 = .ok (.invokevirtual 92, 3) := by decide +kernel
theorem dX2_blocksOf_5 : decode cX2_blocksOf 5 = .ok (.iconst 2, 1) := by decide +kernel
theorem dX2_blocksOf_6 : decode cX2_blocksOf 6 = .ok (.if_icmp .ne 11, 3) := by decide +kernel
theorem dX2_blocksOf_9 : decode cX2_blocksOf 9 = .ok (.aload_n 0, 1) := by decide +kernel
theorem dX2_blocksOf_10 : decode cX2_blocksOf 10 = .ok (.iload_n 1, 1) := by decide +kernel
theorem dX2_blocksOf_11 : decode cX2_blocksOf 11 = .ok (.invokevirtual 73, 3) := by decide +kernel
theorem dX2_blocksOf_14 : decode cX2_blocksOf 14 = .ok (.goto 4, 3) := by decide +kernel
theorem dX2_blocksOf_17 : decode cX2_blocksOf 17 = .ok (.iconst 0, 1) := by decide +kernel
theorem dX2_blocksOf_18 : decode cX2_blocksOf 18 = .ok (.ireturn, 1) := by decide +kernel
set_option maxRecDepth 20000 in
theorem ggX2_usedBlocks_X2_blocksOf : GoodIn wsX2_usedBlocks wsX2_blocksOf := goodIn_r _ [5, 6, 7, 8, 4, 9, 10, 11, 12, 13, 14, 15, 16, 17, 18, 19, 20, 21, 22, 23, 31, 32, 33, 34, 35, 36, 37, 38, 39, 40] (by decide +kernel) (by decide +kernel)
set_option maxRecDepth 20000 in
theorem gX2_usedBlocks_X2_blocksOf : GoodIn wsX2_usedBlocks (wsV RX2 195 RX2 yX2_blocksOf wsX2_blocksOf) := goodIn_app (goodIn_of _ (by decide +kernel)) ggX2_usedBlocks_X2_blocksOf
set_option maxRecDepth 20000 in
theorem ggX2_usedBlocks_X2_placeOf : GoodIn wsX2_usedBlocks wsX2_placeOf := goodIn_r _ [27, 10, 28, 29, 4, 30, 11, 12, 13, 14, 15, 16, 17, 18, 19, 31, 32, 33, 34, 35, 36, 37, 38, 39, 40] (by decide +kernel) (by decide +kernel)
set_option maxRecDepth 20000 in
theorem gX2_usedBlocks_X2_placeOf : GoodIn wsX2_usedBlocks (wsV RX2 86 RX2 yX2_placeOf wsX2_placeOf) := goodIn_app (goodIn_of _ (by decide +kernel)) ggX2_usedBlocks_X2_placeOf
theorem dX2_usedBlocks_0 : decode cX2_usedBlocks 0 = .ok (.lconst 0, 1) := by decide +kernel
theorem dX2_usedBlocks_1 : decode cX2_usedBlocks 1 = .ok (.lstore_n 1, 1) := by decide +kernel
theorem dX2_usedBlocks_2 : decode cX2_usedBlocks 2 = .ok (.iconst 0, 1) := by decide +kernel
theorem dX2_usedBlocks_3 : decode cX2_usedBlocks 3 = .ok (.istore_n 3, 1) := by decide +kernel
theorem dX2_usedBlocks_4 : decode cX2_usedBlocks 4 = .ok (.iload_n 3, 1) := by decide +kernel
theorem dX2_usedBlocks_5 : decode cX2_usedBlocks 5 = .ok (.bipush 12, 2) := by decide +kernel
theorem dX2_usedBlocks_7 : decode cX2_usedBlocks 7 = .ok (.if_icmp .ge 44, 3) := by decide +kernel
theorem dX2_usedBlocks_10 : decode cX2_usedBlocks 10 = .ok (.aload_n 0, 1) := by decide +kernel
theorem dX2_usedBlocks_11 : decode cX2_usedBlocks 11 = .ok (.iload_n 3, 1) := by decide +kernel
theorem dX2_usedBlocks_12 : decode cX2_usedBlocks 12 = .ok (.invokevirtual 195, 3) := by decide +kernel
theorem dX2_usedBlocks_15 : decode cX2_usedBlocks 15 = .ok (.istore 4, 2) := by decide +kernel
theorem dX2_usedBlocks_17 : decode cX2_usedBlocks 17 = .ok (.iconst 0, 1) := by decide +kernel
theorem dX2_usedBlocks_18 : decode cX2_usedBlocks 18 = .ok (.istore 5, 2) := by decide +kernel
theorem dX2_usedBlocks_20 : decode cX2_usedBlocks 20 = .ok (.iload 5, 2) := by decide +kernel
theorem dX2_usedBlocks_22 : decode cX2_usedBlocks 22 = .ok (.iload 4, 2) := by decide +kernel
theorem dX2_usedBlocks_24 : decode cX2_usedBlocks 24 = .ok (.if_icmp .ge 21, 3) := by decide +kernel
theorem dX2_usedBlocks_27 : decode cX2_usedBlocks 27 = .ok (.lload_n 1, 1) := by decide +kernel
theorem dX2_usedBlocks_28 : decode cX2_usedBlocks 28 = .ok (.lconst 1, 1) := by decide +kernel
theorem dX2_usedBlocks_29 : decode cX2_usedBlocks 29 = .ok (.aload_n 0, 1) := by decide +kernel
theorem dX2_usedBlocks_30 : decode cX2_usedBlocks 30 = .ok (.iload_n 3, 1) := by decide +kernel
theorem dX2_usedBlocks_31 : decode cX2_usedBlocks 31 = .ok (.iload 5, 2) := by decide +kernel
theorem dX2_usedBlocks_33 : decode cX2_usedBlocks 33 = .ok (.invokevirtual 86, 3) := by decide +kernel
theorem dX2_usedBlocks_36 : decode cX2_usedBlocks 36 = .ok (.lshl, 1) := by decide +kernel
theorem dX2_usedBlocks_37 : decode cX2_usedBlocks 37 = .ok (.lor, 1) := by decide +kernel
theorem dX2_usedBlocks_38 : decode cX2_usedBlocks 38 = .ok (.lstore_n 1, 1) := by decide +kernel
theorem dX2_usedBlocks_39 : decode cX2_usedBlocks 39 = .ok (.iinc 5 1, 3) := by decide +kernel
theorem dX2_usedBlocks_42 : decode cX2_usedBlocks 42 = .ok (.goto (-22), 3) := by decide +kernel
theorem dX2_usedBlocks_45 : decode cX2_usedBlocks 45 = .ok (.iinc 3 1, 3) := by decide +kernel
theorem dX2_usedBlocks_48 : decode cX2_usedBlocks 48 = .ok (.goto (-44), 3) := by decide +kernel
theorem dX2_usedBlocks_51 : decode cX2_usedBlocks 51 = .ok (.lload_n 1, 1) := by decide +kernel
theorem dX2_usedBlocks_52 : decode cX2_usedBlocks 52 = .ok (.lreturn, 1) := by decide +kernel
set_option maxRecDepth 20000 in
theorem ggX2_leastFreeBlock_X2_usedBlocks : GoodIn wsX2_leastFreeBlock wsX2_usedBlocks := goodIn_r _ [5, 6, 7, 8, 4, 9, 10, 11, 12, 13, 14, 15, 16, 17, 18, 19, 20, 21, 22, 23, 24, 25, 26, 27, 28, 29, 30, 31, 32, 33, 34, 35, 36, 37, 38, 39, 40, 41, 42, 43, 44] (by decide +kernel) (by decide +kernel)
set_option maxRecDepth 20000 in
theorem gX2_leastFreeBlock_X2_usedBlocks : GoodIn wsX2_leastFreeBlock (wsV RX2 148 RX2 yX2_usedBlocks wsX2_usedBlocks) := goodIn_app (goodIn_of _ (by decide +kernel)) ggX2_leastFreeBlock_X2_usedBlocks
theorem dX2_leastFreeBlock_0 : decode cX2_leastFreeBlock 0 = .ok (.aload_n 0, 1) := by decide +kernel
theorem dX2_leastFreeBlock_1 : decode cX2_leastFreeBlock 1 = .ok (.invokevirtual 148, 3) := by decide +kernel
theorem dX2_leastFreeBlock_4 : decode cX2_leastFreeBlock 4 = .ok (.lstore_n 1, 1) := by decide +kernel
theorem dX2_leastFreeBlock_5 : decode cX2_leastFreeBlock 5 = .ok (.iconst 0, 1) := by decide +kernel
theorem dX2_leastFreeBlock_6 : decode cX2_leastFreeBlock 6 = .ok (.istore_n 3, 1) := by decide +kernel
theorem dX2_leastFreeBlock_7 : decode cX2_leastFreeBlock 7 = .ok (.iload_n 3, 1) := by decide +kernel
theorem dX2_leastFreeBlock_8 : decode cX2_leastFreeBlock 8 = .ok (.bipush 40, 2) := by decide +kernel
theorem dX2_leastFreeBlock_10 : decode cX2_leastFreeBlock 10 = .ok (.if_icmp .ge 21, 3) := by decide +kernel
theorem dX2_leastFreeBlock_13 : decode cX2_leastFreeBlock 13 = .ok (.lload_n 1, 1) := by decide +kernel
theorem dX2_leastFreeBlock_14 : decode cX2_leastFreeBlock 14 = .ok (.iload_n 3, 1) := by decide +kernel
theorem dX2_leastFreeBlock_15 : decode cX2_leastFreeBlock 15 = .ok (.lshr, 1) := by decide +kernel
theorem dX2_leastFreeBlock_16 : decode cX2_leastFreeBlock 16 = .ok (.lconst 1, 1) := by decide +kernel
theorem dX2_leastFreeBlock_17 : decode cX2_leastFreeBlock 17 = .ok (.land, 1) := by decide +kernel
theorem dX2_leastFreeBlock_18 : decode cX2_leastFreeBlock 18 = .ok (.lconst 0, 1) := by decide +kernel
theorem dX2_leastFreeBlock_19 : decode cX2_leastFreeBlock 19 = .ok (.lcmp, 1) := by decide +kernel
theorem dX2_leastFreeBlock_20 : decode cX2_leastFreeBlock 20 = .ok (.ifCond .ne 5, 3) := by decide +kernel
theorem dX2_leastFreeBlock_23 : decode cX2_leastFreeBlock 23 = .ok (.iload_n 3, 1) := by decide +kernel
theorem dX2_leastFreeBlock_24 : decode cX2_leastFreeBlock 24 = .ok (.ireturn, 1) := by decide +kernel
theorem dX2_leastFreeBlock_25 : decode cX2_leastFreeBlock 25 = .ok (.iinc 3 1, 3) := by decide +kernel
theorem dX2_leastFreeBlock_28 : decode cX2_leastFreeBlock 28 = .ok (.goto (-21), 3) := by decide +kernel
theorem dX2_leastFreeBlock_31 : decode cX2_leastFreeBlock 31 = .ok (.bipush (-3), 2) := by decide +kernel
theorem dX2_leastFreeBlock_33 : decode cX2_leastFreeBlock 33 = .ok (.ireturn, 1) := by decide +kernel
set_option maxRecDepth 20000 in
theorem ggX2_greatestFreeBlock_X2_usedBlocks : GoodIn wsX2_greatestFreeBlock wsX2_usedBlocks := goodIn_r _ [5, 6, 7, 8, 4, 9, 10, 11, 12, 13, 14, 15, 16, 17, 18, 19, 20, 21, 22, 23, 24, 25, 26, 27, 28, 29, 30, 31, 32, 33, 34, 35, 36, 37, 38, 39, 40, 41, 42, 43, 44] (by decide +kernel) (by decide +kernel)
set_option maxRecDepth 20000 in
theorem gX2_greatestFreeBlock_X2_usedBlocks : GoodIn wsX2_greatestFreeBlock (wsV RX2 148 RX2 yX2_usedBlocks wsX2_usedBlocks) := goodIn_app (goodIn_of _ (by decide +kernel)) ggX2_greatestFreeBlock_X2_usedBlocks
theorem dX2_greatestFreeBlock_0 : decode cX2_greatestFreeBlock 0 = .ok (.aload_n 0, 1) := by decide +kernel
theorem dX2_greatestFreeBlock_1 : decode cX2_greatestFreeBlock 1 = .ok (.invokevirtual 148, 3) := by decide +kernel
theorem dX2_greatestFreeBlock_4 : decode cX2_greatestFreeBlock 4 = .ok (.lstore_n 1, 1) := by decide +kernel
theorem dX2_greatestFreeBlock_5 : decode cX2_greatestFreeBlock 5 = .ok (.bipush 39, 2) := by decide +kernel
theorem dX2_greatestFreeBlock_7 : decode cX2_greatestFreeBlock 7 = .ok (.istore_n 3, 1) := by decide +kernel
theorem dX2_greatestFreeBlock_8 : decode cX2_greatestFreeBlock 8 = .ok (.iload_n 3, 1) := by decide +kernel
theorem dX2_greatestFreeBlock_9 : decode cX2_greatestFreeBlock 9 = .ok (.ifCond .lt 21, 3) := by decide +kernel
theorem dX2_greatestFreeBlock_12 : decode cX2_greatestFreeBlock 12 = .ok (.lload_n 1, 1) := by decide +kernel
theorem dX2_greatestFreeBlock_13 : decode cX2_greatestFreeBlock 13 = .ok (.iload_n 3, 1) := by decide +kernel
theorem dX2_greatestFreeBlock_14 : decode cX2_greatestFreeBlock 14 = .ok (.lshr, 1) := by decide +kernel
theorem dX2_greatestFreeBlock_15 : decode cX2_greatestFreeBlock 15 = .ok (.lconst 1, 1) := by decide +kernel
theorem dX2_greatestFreeBlock_16 : decode cX2_greatestFreeBlock 16 = .ok (.land, 1) := by decide +kernel
theorem dX2_greatestFreeBlock_17 : decode cX2_greatestFreeBlock 17 = .ok (.lconst 0, 1) := by decide +kernel
theorem dX2_greatestFreeBlock_18 : decode cX2_greatestFreeBlock 18 = .ok (.lcmp, 1) := by decide +kernel
theorem dX2_greatestFreeBlock_19 : decode cX2_greatestFreeBlock 19 = .ok (.ifCond .ne 5, 3) := by decide +kernel
theorem dX2_greatestFreeBlock_22 : decode cX2_greatestFreeBlock 22 = .ok (.iload_n 3, 1) := by decide +kernel
theorem dX2_greatestFreeBlock_23 : decode cX2_greatestFreeBlock 23 = .ok (.ireturn, 1) := by decide +kernel
theorem dX2_greatestFreeBlock_24 : decode cX2_greatestFreeBlock 24 = .ok (.iinc 3 (-1), 3) := by decide +kernel
theorem dX2_greatestFreeBlock_27 : decode cX2_greatestFreeBlock 27 = .ok (.goto (-19), 3) := by decide +kernel
theorem dX2_greatestFreeBlock_30 : decode cX2_greatestFreeBlock 30 = .ok (.bipush (-3), 2) := by decide +kernel
theorem dX2_greatestFreeBlock_32 : decode cX2_greatestFreeBlock 32 = .ok (.ireturn, 1) := by decide +kernel
set_option maxRecDepth 20000 in
theorem ggX2_findNextMove_X2_blocksOf : GoodIn wsX2_findNextMove wsX2_blocksOf := goodIn_r _ [5, 6, 7, 8, 4, 9, 10, 11, 12, 13, 14, 15, 16, 17, 18, 19, 20, 21, 22, 23, 56, 57, 58, 59, 60, 61, 62, 63, 64, 65] (by decide +kernel) (by decide +kernel)
set_option maxRecDepth 20000 in
theorem gX2_findNextMove_X2_blocksOf : GoodIn wsX2_findNextMove (wsV RX2 195 RX2 yX2_blocksOf wsX2_blocksOf) := goodIn_app (goodIn_of _ (by decide +kernel)) ggX2_findNextMove_X2_blocksOf
set_option maxRecDepth 20000 in
theorem ggX2_findNextMove_X2_placeOf : GoodIn wsX2_findNextMove wsX2_placeOf := goodIn_r _ [27, 10, 28, 29, 4, 30, 11, 12, 13, 14, 15, 16, 17, 18, 19, 56, 57, 58, 59, 60, 61, 62, 63, 64, 65] (by decide +kernel) (by decide +kernel)
set_option maxRecDepth 20000 in
theorem gX2_findNextMove_X2_placeOf : GoodIn wsX2_findNextMove (wsV RX2 86 RX2 yX2_placeOf wsX2_placeOf) := goodIn_app (goodIn_of _ (by decide +kernel)) ggX2_findNextMove_X2_placeOf
set_option maxRecDepth 20000 in
theorem ggX2_findNextMove_X2_chooseMove : GoodIn wsX2_findNextMove wsX2_chooseMove := goodIn_r _ [34, 35, 36, 37, 38, 4, 39, 1, 2, 3, 5, 6, 7, 8, 9, 10, 11, 12, 13, 14, 15, 16, 17, 18, 19, 20, 21, 22, 23, 24, 25, 26, 27, 28, 29, 30, 40, 41, 42, 43, 44, 45, 46, 47, 48, 49, 50, 51, 52, 53, 54, 55, 56, 57, 58, 59, 60, 61, 62, 63, 64, 65, 66, 67, 68] (by decide +kernel) (by decide +kernel)
set_option maxRecDepth 20000 in
theorem gX2_findNextMove_X2_chooseMove : GoodIn wsX2_findNextMove (wsV RX2 198 RX2 yX2_chooseMove wsX2_chooseMove) := goodIn_app (goodIn_of _ (by decide +kernel)) ggX2_findNextMove_X2_chooseMove
theorem dX2_findNextMove_0 : decode cX2_findNextMove 0 = .ok (.iconst 0, 1) := by decide +kernel
theorem dX2_findNextMove_1 : decode cX2_findNextMove 1 = .ok (.istore_n 1, 1) := by decide +kernel
theorem dX2_findNextMove_2 : decode cX2_findNextMove 2 = .ok (.iconst 0, 1) := by decide +kernel
theorem dX2_findNextMove_3 : decode cX2_findNextMove 3 = .ok (.istore_n 2, 1) := by decide +kernel
theorem dX2_findNextMove_4 : decode cX2_findNextMove 4 = .ok (.iload_n 2, 1) := by decide +kernel
theorem dX2_findNextMove_5 : decode cX2_findNextMove 5 = .ok (.bipush 12, 2) := by decide +kernel
theorem dX2_findNextMove_7 : decode cX2_findNextMove 7 = .ok (.if_icmp .ge 53, 3) := by decide +kernel
theorem dX2_findNextMove_10 : decode cX2_findNextMove 10 = .ok (.aload_n 0, 1) := by decide +kernel
theorem dX2_findNextMove_11 : decode cX2_findNextMove 11 = .ok (.iload_n 2, 1) := by decide +kernel
theorem dX2_findNextMove_12 : decode cX2_findNextMove 12 = .ok (.invokevirtual 195, 3) := by decide +kernel
theorem dX2_findNextMove_15 : decode cX2_findNextMove 15 = .ok (.istore_n 3, 1) := by decide +kernel
theorem dX2_findNextMove_16 : decode cX2_findNextMove 16 = .ok (.iconst 0, 1) := by decide +kernel
theorem dX2_findNextMove_17 : decode cX2_findNextMove 17 = .ok (.istore 4, 2) := by decide +kernel
theorem dX2_findNextMove_19 : decode cX2_findNextMove 19 = .ok (.iload 4, 2) := by decide +kernel
theorem dX2_findNextMove_21 : decode cX2_findNextMove 21 = .ok (.iload_n 3, 1) := by decide +kernel
theorem dX2_findNextMove_22 : decode cX2_findNextMove 22 = .ok (.if_icmp .ge 32, 3) := by decide +kernel
theorem dX2_findNextMove_25 : decode cX2_findNextMove 25 = .ok (.aload_n 0, 1) := by decide +kernel
theorem dX2_findNextMove_26 : decode cX2_findNextMove 26 = .ok (.iload_n 2, 1) := by decide +kernel
theorem dX2_findNextMove_27 : decode cX2_findNextMove 27 = .ok (.iload 4, 2) := by decide +kernel
theorem dX2_findNextMove_29 : decode cX2_findNextMove 29 = .ok (.invokevirtual 86, 3) := by decide +kernel
theorem dX2_findNextMove_32 : decode cX2_findNextMove 32 = .ok (.iload_n 1, 1) := by decide +kernel
theorem dX2_findNextMove_33 : decode cX2_findNextMove 33 = .ok (.if_icmp .eq 12, 3) := by decide +kernel
theorem dX2_findNextMove_36 : decode cX2_findNextMove 36 = .ok (.aload_n 0, 1) := by decide +kernel
theorem dX2_findNextMove_37 : decode cX2_findNextMove 37 = .ok (.iload_n 2, 1) := by decide +kernel
theorem dX2_findNextMove_38 : decode cX2_findNextMove 38 = .ok (.iload 4, 2) := by decide +kernel
theorem dX2_findNextMove_40 : decode cX2_findNextMove 40 = .ok (.iload_n 1, 1) := by decide +kernel
theorem dX2_findNextMove_41 : decode cX2_findNextMove 41 = .ok (.invokevirtual 198, 3) := by decide +kernel
theorem dX2_findNextMove_44 : decode cX2_findNextMove 44 = .ok (.ireturn, 1) := by decide +kernel
theorem dX2_findNextMove_45 : decode cX2_findNextMove 45 = .ok (.iinc 1 1, 3) := by decide +kernel
theorem dX2_findNextMove_48 : decode cX2_findNextMove 48 = .ok (.iinc 4 1, 3) := by decide +kernel
theorem dX2_findNextMove_51 : decode cX2_findNextMove 51 = .ok (.goto (-32), 3) := by decide +kernel
theorem dX2_findNextMove_54 : decode cX2_findNextMove 54 = .ok (.iinc 2 1, 3) := by decide +kernel
theorem dX2_findNextMove_57 : decode cX2_findNextMove 57 = .ok (.goto (-53), 3) := by decide +kernel
theorem dX2_findNextMove_60 : decode cX2_findNextMove 60 = .ok (.bipush (-3), 2) := by decide +kernel
theorem dX2_findNextMove_62 : decode cX2_findNextMove 62 = .ok (.ireturn, 1) := by decide +kernel
set_option maxRecDepth 20000 in
theorem ggX2_chooseMove_X2_usedBlocks : GoodIn wsX2_chooseMove wsX2_usedBlocks := goodIn_r _ [6, 7, 8, 9, 5, 10, 11, 12, 13, 14, 15, 16, 17, 18, 19, 20, 21, 22, 23, 24, 25, 26, 27, 28, 29, 30, 31, 32, 33, 34, 35, 52, 53, 54, 55, 56, 57, 58, 59, 60, 61] (by decide +kernel) (by decide +kernel)
set_option maxRecDepth 20000 in
theorem gX2_chooseMove_X2_usedBlocks : GoodIn wsX2_chooseMove (wsV RX2 148 RX2 yX2_usedBlocks wsX2_usedBlocks) := goodIn_app (goodIn_of _ (by decide +kernel)) ggX2_chooseMove_X2_usedBlocks
set_option maxRecDepth 20000 in
theorem ggX2_chooseMove_X1_set : GoodIn wsX2_chooseMove wsX1_set := goodIn_r _ [40, 41, 42, 43, 62, 63, 64] (by decide +kernel) (by decide +kernel)
set_option maxRecDepth 20000 in
theorem gX2_chooseMove_X1_set : GoodIn wsX2_chooseMove (wsV RX2 202 RX1 yX1_set wsX1_set) := goodIn_app (goodIn_of _ (by decide +kernel)) ggX2_chooseMove_X1_set
set_option maxRecDepth 20000 in
theorem ggX2_chooseMove_X2_greatestFreeBlock : GoodIn wsX2_chooseMove wsX2_greatestFreeBlock := goodIn_r _ [47, 2, 3, 4, 5, 6, 7, 8, 9, 10, 11, 12, 13, 14, 15, 16, 17, 18, 19, 20, 21, 22, 23, 24, 25, 26, 27, 28, 29, 30, 31, 32, 33, 34, 35, 52, 53, 54, 55, 56, 57, 58, 59, 60, 61] (by decide +kernel) (by decide +kernel)
set_option maxRecDepth 20000 in
theorem gX2_chooseMove_X2_greatestFreeBlock : GoodIn wsX2_chooseMove (wsV RX2 206 RX2 yX2_greatestFreeBlock wsX2_greatestFreeBlock) := goodIn_app (goodIn_of _ (by decide +kernel)) ggX2_chooseMove_X2_greatestFreeBlock
set_option maxRecDepth 20000 in
theorem ggX2_chooseMove_X2_chooseMoveAway : GoodIn wsX2_chooseMove wsX2_chooseMoveAway := goodIn_r _ [51, 1, 7, 8, 9, 5, 10, 11, 12, 13, 14, 15, 16, 17, 18, 19, 20, 21, 22, 23, 24, 25, 26, 27, 28, 29, 30, 31, 32, 33, 34, 35, 36, 37, 38, 39, 40, 41, 42, 43, 52, 53, 54, 55, 56, 57, 58, 59, 60, 61, 62, 63, 64] (by decide +kernel) (by decide +kernel)
set_option maxRecDepth 20000 in
theorem gX2_chooseMove_X2_chooseMoveAway : GoodIn wsX2_chooseMove (wsV RX2 209 RX2 yX2_chooseMoveAway wsX2_chooseMoveAway) := goodIn_app (goodIn_of _ (by decide +kernel)) ggX2_chooseMove_X2_chooseMoveAway
theorem dX2_chooseMove_0 : decode cX2_chooseMove 0 = .ok (.aload_n 0, 1) := by decide +kernel
theorem dX2_chooseMove_1 : decode cX2_chooseMove 1 = .ok (.invokevirtual 148, 3) := by decide +kernel
theorem dX2_chooseMove_4 : decode cX2_chooseMove 4 = .ok (.iload_n 3, 1) := by decide +kernel
theorem dX2_chooseMove_5 : decode cX2_chooseMove 5 = .ok (.lshr, 1) := by decide +kernel
theorem dX2_chooseMove_6 : decode cX2_chooseMove 6 = .ok (.lconst 1, 1) := by decide +kernel
theorem dX2_chooseMove_7 : decode cX2_chooseMove 7 = .ok (.land, 1) := by decide +kernel
theorem dX2_chooseMove_8 : decode cX2_chooseMove 8 = .ok (.lconst 0, 1) := by decide +kernel
theorem dX2_chooseMove_9 : decode cX2_chooseMove 9 = .ok (.lcmp, 1) := by decide +kernel
theorem dX2_chooseMove_10 : decode cX2_chooseMove 10 = .ok (.ifCond .ne 15, 3) := by decide +kernel
theorem dX2_chooseMove_13 : decode cX2_chooseMove 13 = .ok (.aload_n 0, 1) := by decide +kernel
theorem dX2_chooseMove_14 : decode cX2_chooseMove 14 = .ok (.getfield 19, 3) := by decide +kernel
theorem dX2_chooseMove_17 : decode cX2_chooseMove 17 = .ok (.iload_n 1, 1) := by decide +kernel
theorem dX2_chooseMove_18 : decode cX2_chooseMove 18 = .ok (.iload_n 2, 1) := by decide +kernel
theorem dX2_chooseMove_19 : decode cX2_chooseMove 19 = .ok (.iload_n 3, 1) := by decide +kernel
theorem dX2_chooseMove_20 : decode cX2_chooseMove 20 = .ok (.invokevirtual 202, 3) := by decide +kernel
theorem dX2_chooseMove_23 : decode cX2_chooseMove 23 = .ok (.iconst 1, 1) := by decide +kernel
theorem dX2_chooseMove_24 : decode cX2_chooseMove 24 = .ok (.ireturn, 1) := by decide +kernel
theorem dX2_chooseMove_25 : decode cX2_chooseMove 25 = .ok (.aload_n 0, 1) := by decide +kernel
theorem dX2_chooseMove_26 : decode cX2_chooseMove 26 = .ok (.invokevirtual 206, 3) := by decide +kernel
theorem dX2_chooseMove_29 : decode cX2_chooseMove 29 = .ok (.istore 4, 2) := by decide +kernel
theorem dX2_chooseMove_31 : decode cX2_chooseMove 31 = .ok (.iload 4, 2) := by decide +kernel
theorem dX2_chooseMove_33 : decode cX2_chooseMove 33 = .ok (.bipush (-3), 2) := by decide +kernel
theorem dX2_chooseMove_35 : decode cX2_chooseMove 35 = .ok (.if_icmp .ne 8, 3) := by decide +kernel
theorem dX2_chooseMove_38 : decode cX2_chooseMove 38 = .ok (.bipush (-5), 2) := by decide +kernel
theorem dX2_chooseMove_40 : decode cX2_chooseMove 40 = .ok (.goto 10, 3) := by decide +kernel
theorem dX2_chooseMove_43 : decode cX2_chooseMove 43 = .ok (.aload_n 0, 1) := by decide +kernel
theorem dX2_chooseMove_44 : decode cX2_chooseMove 44 = .ok (.iload_n 3, 1) := by decide +kernel
theorem dX2_chooseMove_45 : decode cX2_chooseMove 45 = .ok (.iload 4, 2) := by decide +kernel
theorem dX2_chooseMove_47 : decode cX2_chooseMove 47 = .ok (.invokevirtual 209, 3) := by decide +kernel
theorem dX2_chooseMove_50 : decode cX2_chooseMove 50 = .ok (.ireturn, 1) := by decide +kernel
set_option maxRecDepth 20000 in
theorem ggX2_chooseMoveAway_X2_blocksOf : GoodIn wsX2_chooseMoveAway wsX2_blocksOf := goodIn_r _ [6, 7, 8, 9, 5, 10, 11, 12, 13, 14, 15, 16, 17, 18, 19, 20, 21, 22, 23, 24, 40, 41, 42, 43, 44, 45, 46, 47, 48, 49] (by decide +kernel) (by decide +kernel)
set_option maxRecDepth 20000 in
theorem gX2_chooseMoveAway_X2_blocksOf : GoodIn wsX2_chooseMoveAway (wsV RX2 195 RX2 yX2_blocksOf wsX2_blocksOf) := goodIn_app (goodIn_of _ (by decide +kernel)) ggX2_chooseMoveAway_X2_blocksOf
set_option maxRecDepth 20000 in
theorem ggX2_chooseMoveAway_X2_placeOf : GoodIn wsX2_chooseMoveAway wsX2_placeOf := goodIn_r _ [28, 11, 29, 30, 5, 31, 12, 13, 14, 15, 16, 17, 18, 19, 20, 40, 41, 42, 43, 44, 45, 46, 47, 48, 49] (by decide +kernel) (by decide +kernel)
set_option maxRecDepth 20000 in
theorem gX2_chooseMoveAway_X2_placeOf : GoodIn wsX2_chooseMoveAway (wsV RX2 86 RX2 yX2_placeOf wsX2_placeOf) := goodIn_app (goodIn_of _ (by decide +kernel)) ggX2_chooseMoveAway_X2_placeOf
set_option maxRecDepth 20000 in
theorem ggX2_chooseMoveAway_X1_set : GoodIn wsX2_chooseMoveAway wsX1_set := goodIn_r _ [36, 37, 38, 39, 50, 51, 52] (by decide +kernel) (by decide +kernel)
set_option maxRecDepth 20000 in
theorem gX2_chooseMoveAway_X1_set : GoodIn wsX2_chooseMoveAway (wsV RX2 202 RX1 yX1_set wsX1_set) := goodIn_app (goodIn_of _ (by decide +kernel)) ggX2_chooseMoveAway_X1_set
theorem dX2_chooseMoveAway_0 : decode cX2_chooseMoveAway 0 = .ok (.iconst 0, 1) := by decide +kernel
theorem dX2_chooseMoveAway_1 : decode cX2_chooseMoveAway 1 = .ok (.istore_n 3, 1) := by decide +kernel
theorem dX2_chooseMoveAway_2 : decode cX2_chooseMoveAway 2 = .ok (.iload_n 3, 1) := by decide +kernel
theorem dX2_chooseMoveAway_3 : decode cX2_chooseMoveAway 3 = .ok (.bipush 12, 2) := by decide +kernel
theorem dX2_chooseMoveAway_5 : decode cX2_chooseMoveAway 5 = .ok (.if_icmp .ge 56, 3) := by decide +kernel
theorem dX2_chooseMoveAway_8 : decode cX2_chooseMoveAway 8 = .ok (.aload_n 0, 1) := by decide +kernel
theorem dX2_chooseMoveAway_9 : decode cX2_chooseMoveAway 9 = .ok (.iload_n 3, 1) := by decide +kernel
theorem dX2_chooseMoveAway_10 : decode cX2_chooseMoveAway 10 = .ok (.invokevirtual 195, 3) := by decide +kernel
theorem dX2_chooseMoveAway_13 : decode cX2_chooseMoveAway 13 = .ok (.istore 4, 2) := by decide +kernel
theorem dX2_chooseMoveAway_15 : decode cX2_chooseMoveAway 15 = .ok (.iconst 0, 1) := by decide +kernel
theorem dX2_chooseMoveAway_16 : decode cX2_chooseMoveAway 16 = .ok (.istore 5, 2) := by decide +kernel
theorem dX2_chooseMoveAway_18 : decode cX2_chooseMoveAway 18 = .ok (.iload 5, 2) := by decide +kernel
theorem dX2_chooseMoveAway_20 : decode cX2_chooseMoveAway 20 = .ok (.iload 4, 2) := by decide +kernel
theorem dX2_chooseMoveAway_22 : decode cX2_chooseMoveAway 22 = .ok (.if_icmp .ge 33, 3) := by decide +kernel
theorem dX2_chooseMoveAway_25 : decode cX2_chooseMoveAway 25 = .ok (.aload_n 0, 1) := by decide +kernel
theorem dX2_chooseMoveAway_26 : decode cX2_chooseMoveAway 26 = .ok (.iload_n 3, 1) := by decide +kernel
theorem dX2_chooseMoveAway_27 : decode cX2_chooseMoveAway 27 = .ok (.iload 5, 2) := by decide +kernel
theorem dX2_chooseMoveAway_29 : decode cX2_chooseMoveAway 29 = .ok (.invokevirtual 86, 3) := by decide +kernel
theorem dX2_chooseMoveAway_32 : decode cX2_chooseMoveAway 32 = .ok (.iload_n 1, 1) := by decide +kernel
theorem dX2_chooseMoveAway_33 : decode cX2_chooseMoveAway 33 = .ok (.if_icmp .ne 16, 3) := by decide +kernel
theorem dX2_chooseMoveAway_36 : decode cX2_chooseMoveAway 36 = .ok (.aload_n 0, 1) := by decide +kernel
theorem dX2_chooseMoveAway_37 : decode cX2_chooseMoveAway 37 = .ok (.getfield 19, 3) := by decide +kernel
theorem dX2_chooseMoveAway_40 : decode cX2_chooseMoveAway 40 = .ok (.iload_n 3, 1) := by decide +kernel
theorem dX2_chooseMoveAway_41 : decode cX2_chooseMoveAway 41 = .ok (.iload 5, 2) := by decide +kernel
theorem dX2_chooseMoveAway_43 : decode cX2_chooseMoveAway 43 = .ok (.iload_n 2, 1) := by decide +kernel
theorem dX2_chooseMoveAway_44 : decode cX2_chooseMoveAway 44 = .ok (.invokevirtual 202, 3) := by decide +kernel
theorem dX2_chooseMoveAway_47 : decode cX2_chooseMoveAway 47 = .ok (.iconst 1, 1) := by decide +kernel
theorem dX2_chooseMoveAway_48 : decode cX2_chooseMoveAway 48 = .ok (.ireturn, 1) := by decide +kernel
theorem dX2_chooseMoveAway_49 : decode cX2_chooseMoveAway 49 = .ok (.iinc 5 1, 3) := by decide +kernel
theorem dX2_chooseMoveAway_52 : decode cX2_chooseMoveAway 52 = .ok (.goto (-34), 3) := by decide +kernel
theorem dX2_chooseMoveAway_55 : decode cX2_chooseMoveAway 55 = .ok (.iinc 3 1, 3) := by decide +kernel
theorem dX2_chooseMoveAway_58 : decode cX2_chooseMoveAway 58 = .ok (.goto (-56), 3) := by decide +kernel
theorem dX2_chooseMoveAway_61 : decode cX2_chooseMoveAway 61 = .ok (.bipush (-3), 2) := by decide +kernel
theorem dX2_chooseMoveAway_63 : decode cX2_chooseMoveAway 63 = .ok (.ireturn, 1) := by decide +kernel
set_option maxRecDepth 20000 in
theorem ggX2_copyMovedBlock_X2_recorded : GoodIn wsX2_copyMovedBlock wsX2_recorded := goodIn_r _ [7, 1, 8, 9, 6, 10, 11, 12, 13, 14, 15, 16, 38, 39, 40, 41, 42, 43, 44, 45, 46, 47] (by decide +kernel) (by decide +kernel)
set_option maxRecDepth 20000 in
theorem gX2_copyMovedBlock_X2_recorded : GoodIn wsX2_copyMovedBlock (wsV RX2 145 RX2 yX2_recorded wsX2_recorded) := goodIn_app (goodIn_of _ (by decide +kernel)) ggX2_copyMovedBlock_X2_recorded
set_option maxRecDepth 20000 in
theorem ggX2_copyMovedBlock_X2_placeOf : GoodIn wsX2_copyMovedBlock wsX2_placeOf := goodIn_r _ [20, 1, 21, 22, 6, 23, 24, 25, 26, 11, 12, 13, 14, 15, 16, 38, 39, 40, 41, 42, 43, 44, 45, 46, 47] (by decide +kernel) (by decide +kernel)
set_option maxRecDepth 20000 in
theorem gX2_copyMovedBlock_X2_placeOf : GoodIn wsX2_copyMovedBlock (wsV RX2 86 RX2 yX2_placeOf wsX2_placeOf) := goodIn_app (goodIn_of _ (by decide +kernel)) ggX2_copyMovedBlock_X2_placeOf
set_option maxRecDepth 20000 in
theorem ggX2_copyMovedBlock_X2_dataAt : GoodIn wsX2_copyMovedBlock wsX2_dataAt := goodIn_r _ [29] (by decide +kernel) (by decide +kernel)
set_option maxRecDepth 20000 in
theorem gX2_copyMovedBlock_X2_dataAt : GoodIn wsX2_copyMovedBlock (va_wsS RX2 79 yX2_dataAt wsX2_dataAt) := goodIn_app (goodIn_of _ (by decide +kernel)) ggX2_copyMovedBlock_X2_dataAt
set_option maxRecDepth 20000 in
theorem ggX2_copyMovedBlock_X0_word : GoodIn wsX2_copyMovedBlock wsX0_word := goodIn_r _ [15, 16, 43, 44, 45, 46, 47] (by decide +kernel) (by decide +kernel)
set_option maxRecDepth 20000 in
theorem gX2_copyMovedBlock_X0_word : GoodIn wsX2_copyMovedBlock (wsV RX2 137 RX0 yX0_word wsX0_word) := goodIn_app (goodIn_of _ (by decide +kernel)) ggX2_copyMovedBlock_X0_word
set_option maxRecDepth 20000 in
theorem ggX2_copyMovedBlock_X0_write : GoodIn wsX2_copyMovedBlock wsX0_write := goodIn_r _ [33, 34, 16, 35, 36, 37, 43, 44, 45, 46, 47] (by decide +kernel) (by decide +kernel)
set_option maxRecDepth 20000 in
theorem gX2_copyMovedBlock_X0_write : GoodIn wsX2_copyMovedBlock (wsV RX2 60 RX0 yX0_write wsX0_write) := goodIn_app (goodIn_of _ (by decide +kernel)) ggX2_copyMovedBlock_X0_write
set_option maxRecDepth 20000 in
theorem ggX2_copyMovedBlock_X2_recordAt : GoodIn wsX2_copyMovedBlock wsX2_recordAt := goodIn_r _ [10] (by decide +kernel) (by decide +kernel)
set_option maxRecDepth 20000 in
theorem gX2_copyMovedBlock_X2_recordAt : GoodIn wsX2_copyMovedBlock (va_wsS RX2 104 yX2_recordAt wsX2_recordAt) := goodIn_app (goodIn_of _ (by decide +kernel)) ggX2_copyMovedBlock_X2_recordAt
theorem dX2_copyMovedBlock_0 : decode cX2_copyMovedBlock 0 = .ok (.aload_n 0, 1) := by decide +kernel
theorem dX2_copyMovedBlock_1 : decode cX2_copyMovedBlock 1 = .ok (.aload_n 0, 1) := by decide +kernel
theorem dX2_copyMovedBlock_2 : decode cX2_copyMovedBlock 2 = .ok (.iconst 1, 1) := by decide +kernel
theorem dX2_copyMovedBlock_3 : decode cX2_copyMovedBlock 3 = .ok (.invokevirtual 145, 3) := by decide +kernel
theorem dX2_copyMovedBlock_6 : decode cX2_copyMovedBlock 6 = .ok (.aload_n 0, 1) := by decide +kernel
theorem dX2_copyMovedBlock_7 : decode cX2_copyMovedBlock 7 = .ok (.iconst 2, 1) := by decide +kernel
theorem dX2_copyMovedBlock_8 : decode cX2_copyMovedBlock 8 = .ok (.invokevirtual 145, 3) := by decide +kernel
theorem dX2_copyMovedBlock_11 : decode cX2_copyMovedBlock 11 = .ok (.invokevirtual 86, 3) := by decide +kernel
theorem dX2_copyMovedBlock_14 : decode cX2_copyMovedBlock 14 = .ok (.istore_n 1, 1) := by decide +kernel
theorem dX2_copyMovedBlock_15 : decode cX2_copyMovedBlock 15 = .ok (.aload_n 0, 1) := by decide +kernel
theorem dX2_copyMovedBlock_16 : decode cX2_copyMovedBlock 16 = .ok (.iconst 3, 1) := by decide +kernel
theorem dX2_copyMovedBlock_17 : decode cX2_copyMovedBlock 17 = .ok (.invokevirtual 145, 3) := by decide +kernel
theorem dX2_copyMovedBlock_20 : decode cX2_copyMovedBlock 20 = .ok (.istore_n 2, 1) := by decide +kernel
theorem dX2_copyMovedBlock_21 : decode cX2_copyMovedBlock 21 = .ok (.iconst 0, 1) := by decide +kernel
theorem dX2_copyMovedBlock_22 : decode cX2_copyMovedBlock 22 = .ok (.istore_n 3, 1) := by decide +kernel
theorem dX2_copyMovedBlock_23 : decode cX2_copyMovedBlock 23 = .ok (.iload_n 3, 1) := by decide +kernel
theorem dX2_copyMovedBlock_24 : decode cX2_copyMovedBlock 24 = .ok (.iconst 3, 1) := by decide +kernel
theorem dX2_copyMovedBlock_25 : decode cX2_copyMovedBlock 25 = .ok (.if_icmp .ge 33, 3) := by decide +kernel
theorem dX2_copyMovedBlock_28 : decode cX2_copyMovedBlock 28 = .ok (.aload_n 0, 1) := by decide +kernel
theorem dX2_copyMovedBlock_29 : decode cX2_copyMovedBlock 29 = .ok (.getfield 12, 3) := by decide +kernel
theorem dX2_copyMovedBlock_32 : decode cX2_copyMovedBlock 32 = .ok (.iload_n 2, 1) := by decide +kernel
theorem dX2_copyMovedBlock_33 : decode cX2_copyMovedBlock 33 = .ok (.iload_n 3, 1) := by decide +kernel
theorem dX2_copyMovedBlock_34 : decode cX2_copyMovedBlock 34 = .ok (.invokestatic 79, 3) := by decide +kernel
theorem dX2_copyMovedBlock_37 : decode cX2_copyMovedBlock 37 = .ok (.aload_n 0, 1) := by decide +kernel
theorem dX2_copyMovedBlock_38 : decode cX2_copyMovedBlock 38 = .ok (.getfield 12, 3) := by decide +kernel
theorem dX2_copyMovedBlock_41 : decode cX2_copyMovedBlock 41 = .ok (.iload_n 1, 1) := by decide +kernel
theorem dX2_copyMovedBlock_42 : decode cX2_copyMovedBlock 42 = .ok (.iload_n 3, 1) := by decide +kernel
theorem dX2_copyMovedBlock_43 : decode cX2_copyMovedBlock 43 = .ok (.invokestatic 79, 3) := by decide +kernel
theorem dX2_copyMovedBlock_46 : decode cX2_copyMovedBlock 46 = .ok (.invokevirtual 137, 3) := by decide +kernel
theorem dX2_copyMovedBlock_49 : decode cX2_copyMovedBlock 49 = .ok (.invokevirtual 60, 3) := by decide +kernel
theorem dX2_copyMovedBlock_52 : decode cX2_copyMovedBlock 52 = .ok (.iinc 3 1, 3) := by decide +kernel
theorem dX2_copyMovedBlock_55 : decode cX2_copyMovedBlock 55 = .ok (.goto (-32), 3) := by decide +kernel
theorem dX2_copyMovedBlock_58 : decode cX2_copyMovedBlock 58 = .ok (.aload_n 0, 1) := by decide +kernel
theorem dX2_copyMovedBlock_59 : decode cX2_copyMovedBlock 59 = .ok (.getfield 12, 3) := by decide +kernel
theorem dX2_copyMovedBlock_62 : decode cX2_copyMovedBlock 62 = .ok (.iconst 0, 1) := by decide +kernel
theorem dX2_copyMovedBlock_63 : decode cX2_copyMovedBlock 63 = .ok (.invokestatic 104, 3) := by decide +kernel
theorem dX2_copyMovedBlock_66 : decode cX2_copyMovedBlock 66 = .ok (.ldc2_w 212, 3) := by decide +kernel
theorem dX2_copyMovedBlock_69 : decode cX2_copyMovedBlock 69 = .ok (.invokevirtual 60, 3) := by decide +kernel
theorem dX2_copyMovedBlock_72 : decode cX2_copyMovedBlock 72 = .ok (.return_, 1) := by decide +kernel
set_option maxRecDepth 20000 in
theorem ggX2_linkMovedBlock_X2_recorded : GoodIn wsX2_linkMovedBlock wsX2_recorded := goodIn_r _ [8, 1, 9, 10, 7, 11, 12, 13, 14, 15, 16, 17, 32, 33, 34, 35, 36, 37, 38, 39, 40, 41] (by decide +kernel) (by decide +kernel)
set_option maxRecDepth 20000 in
theorem gX2_linkMovedBlock_X2_recorded : GoodIn wsX2_linkMovedBlock (wsV RX2 145 RX2 yX2_recorded wsX2_recorded) := goodIn_app (goodIn_of _ (by decide +kernel)) ggX2_linkMovedBlock_X2_recorded
set_option maxRecDepth 20000 in
theorem ggX2_linkMovedBlock_X2_placeAt : GoodIn wsX2_linkMovedBlock wsX2_placeAt := goodIn_r _ [20, 21, 22, 7, 23] (by decide +kernel) (by decide +kernel)
set_option maxRecDepth 20000 in
theorem gX2_linkMovedBlock_X2_placeAt : GoodIn wsX2_linkMovedBlock (va_wsS RX2 64 yX2_placeAt wsX2_placeAt) := goodIn_app (goodIn_of _ (by decide +kernel)) ggX2_linkMovedBlock_X2_placeAt
set_option maxRecDepth 20000 in
theorem ggX2_linkMovedBlock_X0_write : GoodIn wsX2_linkMovedBlock wsX0_write := goodIn_r _ [27, 28, 17, 29, 30, 31, 37, 38, 39, 40, 41] (by decide +kernel) (by decide +kernel)
set_option maxRecDepth 20000 in
theorem gX2_linkMovedBlock_X0_write : GoodIn wsX2_linkMovedBlock (wsV RX2 60 RX0 yX0_write wsX0_write) := goodIn_app (goodIn_of _ (by decide +kernel)) ggX2_linkMovedBlock_X0_write
set_option maxRecDepth 20000 in
theorem ggX2_linkMovedBlock_X2_recordAt : GoodIn wsX2_linkMovedBlock wsX2_recordAt := goodIn_r _ [11] (by decide +kernel) (by decide +kernel)
set_option maxRecDepth 20000 in
theorem gX2_linkMovedBlock_X2_recordAt : GoodIn wsX2_linkMovedBlock (va_wsS RX2 104 yX2_recordAt wsX2_recordAt) := goodIn_app (goodIn_of _ (by decide +kernel)) ggX2_linkMovedBlock_X2_recordAt
theorem dX2_linkMovedBlock_0 : decode cX2_linkMovedBlock 0 = .ok (.aload_n 0, 1) := by decide +kernel
theorem dX2_linkMovedBlock_1 : decode cX2_linkMovedBlock 1 = .ok (.getfield 12, 3) := by decide +kernel
theorem dX2_linkMovedBlock_4 : decode cX2_linkMovedBlock 4 = .ok (.aload_n 0, 1) := by decide +kernel
theorem dX2_linkMovedBlock_5 : decode cX2_linkMovedBlock 5 = .ok (.iconst 1, 1) := by decide +kernel
theorem dX2_linkMovedBlock_6 : decode cX2_linkMovedBlock 6 = .ok (.invokevirtual 145, 3) := by decide +kernel
theorem dX2_linkMovedBlock_9 : decode cX2_linkMovedBlock 9 = .ok (.aload_n 0, 1) := by decide +kernel
theorem dX2_linkMovedBlock_10 : decode cX2_linkMovedBlock 10 = .ok (.iconst 2, 1) := by decide +kernel
theorem dX2_linkMovedBlock_11 : decode cX2_linkMovedBlock 11 = .ok (.invokevirtual 145, 3) := by decide +kernel
theorem dX2_linkMovedBlock_14 : decode cX2_linkMovedBlock 14 = .ok (.invokestatic 64, 3) := by decide +kernel
theorem dX2_linkMovedBlock_17 : decode cX2_linkMovedBlock 17 = .ok (.aload_n 0, 1) := by decide +kernel
theorem dX2_linkMovedBlock_18 : decode cX2_linkMovedBlock 18 = .ok (.iconst 3, 1) := by decide +kernel
theorem dX2_linkMovedBlock_19 : decode cX2_linkMovedBlock 19 = .ok (.invokevirtual 145, 3) := by decide +kernel
theorem dX2_linkMovedBlock_22 : decode cX2_linkMovedBlock 22 = .ok (.i2l, 1) := by decide +kernel
theorem dX2_linkMovedBlock_23 : decode cX2_linkMovedBlock 23 = .ok (.invokevirtual 60, 3) := by decide +kernel
theorem dX2_linkMovedBlock_26 : decode cX2_linkMovedBlock 26 = .ok (.aload_n 0, 1) := by decide +kernel
theorem dX2_linkMovedBlock_27 : decode cX2_linkMovedBlock 27 = .ok (.getfield 12, 3) := by decide +kernel
theorem dX2_linkMovedBlock_30 : decode cX2_linkMovedBlock 30 = .ok (.iconst 0, 1) := by decide +kernel
theorem dX2_linkMovedBlock_31 : decode cX2_linkMovedBlock 31 = .ok (.invokestatic 104, 3) := by decide +kernel
theorem dX2_linkMovedBlock_34 : decode cX2_linkMovedBlock 34 = .ok (.lconst 0, 1) := by decide +kernel
theorem dX2_linkMovedBlock_35 : decode cX2_linkMovedBlock 35 = .ok (.invokevirtual 60, 3) := by decide +kernel
theorem dX2_linkMovedBlock_38 : decode cX2_linkMovedBlock 38 = .ok (.aload_n 0, 1) := by decide +kernel
theorem dX2_linkMovedBlock_39 : decode cX2_linkMovedBlock 39 = .ok (.getfield 12, 3) := by decide +kernel
theorem dX2_linkMovedBlock_42 : decode cX2_linkMovedBlock 42 = .ok (.getfield 134, 3) := by decide +kernel
theorem dX2_linkMovedBlock_45 : decode cX2_linkMovedBlock 45 = .ok (.ifCond .ne 13, 3) := by decide +kernel
theorem dX2_linkMovedBlock_48 : decode cX2_linkMovedBlock 48 = .ok (.aload_n 0, 1) := by decide +kernel
theorem dX2_linkMovedBlock_49 : decode cX2_linkMovedBlock 49 = .ok (.dup, 1) := by decide +kernel
theorem dX2_linkMovedBlock_50 : decode cX2_linkMovedBlock 50 = .ok (.getfield 161, 3) := by decide +kernel
theorem dX2_linkMovedBlock_53 : decode cX2_linkMovedBlock 53 = .ok (.iconst 1, 1) := by decide +kernel
theorem dX2_linkMovedBlock_54 : decode cX2_linkMovedBlock 54 = .ok (.iadd, 1) := by decide +kernel
theorem dX2_linkMovedBlock_55 : decode cX2_linkMovedBlock 55 = .ok (.putfield 161, 3) := by decide +kernel
theorem dX2_linkMovedBlock_58 : decode cX2_linkMovedBlock 58 = .ok (.return_, 1) := by decide +kernel
set_option maxRecDepth 20000 in
theorem ggX2_finishRecordedMove_X2_recorded : GoodIn wsX2_finishRecordedMove wsX2_recorded := goodIn_r _ [5, 6, 7, 8, 4, 9, 10, 11, 12, 13, 14, 15, 48, 49, 50, 51, 52, 53, 54, 55, 56, 57] (by decide +kernel) (by decide +kernel)
set_option maxRecDepth 20000 in
theorem gX2_finishRecordedMove_X2_recorded : GoodIn wsX2_finishRecordedMove (wsV RX2 145 RX2 yX2_recorded wsX2_recorded) := goodIn_app (goodIn_of _ (by decide +kernel)) ggX2_finishRecordedMove_X2_recorded
set_option maxRecDepth 20000 in
theorem ggX2_finishRecordedMove_X2_copyMovedBlock : GoodIn wsX2_finishRecordedMove wsX2_copyMovedBlock := goodIn_r _ [19, 6, 20, 1, 2, 3, 4, 5, 7, 8, 9, 10, 11, 12, 13, 14, 15, 21, 22, 23, 24, 25, 26, 27, 28, 29, 30, 31, 32, 33, 34, 35, 36, 37, 38, 39, 40, 41, 48, 49, 50, 51, 52, 53, 54, 55, 56, 57] (by decide +kernel) (by decide +kernel)
set_option maxRecDepth 20000 in
theorem gX2_finishRecordedMove_X2_copyMovedBlock : GoodIn wsX2_finishRecordedMove (wsV RX2 116 RX2 yX2_copyMovedBlock wsX2_copyMovedBlock) := goodIn_app (goodIn_of _ (by decide +kernel)) ggX2_finishRecordedMove_X2_copyMovedBlock
set_option maxRecDepth 20000 in
theorem ggX2_finishRecordedMove_X2_linkMovedBlock : GoodIn wsX2_finishRecordedMove wsX2_linkMovedBlock := goodIn_r _ [45, 6, 46, 47, 1, 2, 3, 4, 5, 7, 8, 9, 10, 11, 12, 13, 14, 15, 25, 26, 27, 28, 29, 30, 34, 35, 36, 37, 38, 39, 40, 41, 48, 49, 50, 51, 52, 53, 54, 55, 56, 57] (by decide +kernel) (by decide +kernel)
set_option maxRecDepth 20000 in
theorem gX2_finishRecordedMove_X2_linkMovedBlock : GoodIn wsX2_finishRecordedMove (wsV RX2 119 RX2 yX2_linkMovedBlock wsX2_linkMovedBlock) := goodIn_app (goodIn_of _ (by decide +kernel)) ggX2_finishRecordedMove_X2_linkMovedBlock
theorem dX2_finishRecordedMove_0 : decode cX2_finishRecordedMove 0 = .ok (.aload_n 0, 1) := by decide +kernel
theorem dX2_finishRecordedMove_1 : decode cX2_finishRecordedMove 1 = .ok (.iconst 0, 1) := by decide +kernel
theorem dX2_finishRecordedMove_2 : decode cX2_finishRecordedMove 2 = .ok (.invokevirtual 145, 3) := by decide +kernel
theorem dX2_finishRecordedMove_5 : decode cX2_finishRecordedMove 5 = .ok (.istore_n 1, 1) := by decide +kernel
theorem dX2_finishRecordedMove_6 : decode cX2_finishRecordedMove 6 = .ok (.iload_n 1, 1) := by decide +kernel
theorem dX2_finishRecordedMove_7 : decode cX2_finishRecordedMove 7 = .ok (.iconst 1, 1) := by decide +kernel
theorem dX2_finishRecordedMove_8 : decode cX2_finishRecordedMove 8 = .ok (.if_icmp .ne 7, 3) := by decide +kernel
theorem dX2_finishRecordedMove_11 : decode cX2_finishRecordedMove 11 = .ok (.aload_n 0, 1) := by decide +kernel
theorem dX2_finishRecordedMove_12 : decode cX2_finishRecordedMove 12 = .ok (.invokevirtual 116, 3) := by decide +kernel
theorem dX2_finishRecordedMove_15 : decode cX2_finishRecordedMove 15 = .ok (.iload_n 1, 1) := by decide +kernel
theorem dX2_finishRecordedMove_16 : decode cX2_finishRecordedMove 16 = .ok (.ifCond .eq 7, 3) := by decide +kernel
theorem dX2_finishRecordedMove_19 : decode cX2_finishRecordedMove 19 = .ok (.aload_n 0, 1) := by decide +kernel
theorem dX2_finishRecordedMove_20 : decode cX2_finishRecordedMove 20 = .ok (.invokevirtual 119, 3) := by decide +kernel
theorem dX2_finishRecordedMove_23 : decode cX2_finishRecordedMove 23 = .ok (.return_, 1) := by decide +kernel
set_option maxRecDepth 20000 in
theorem ggX2_clearWrongEntries_X2_kindOf : GoodIn wsX2_clearWrongEntries wsX2_kindOf := goodIn_r _ [6, 7, 8, 9, 5, 10, 11, 12, 13, 14, 15, 16, 43, 44, 45, 46, 47, 48, 49, 50, 51, 52] (by decide +kernel) (by decide +kernel)
set_option maxRecDepth 20000 in
theorem gX2_clearWrongEntries_X2_kindOf : GoodIn wsX2_clearWrongEntries (wsV RX2 92 RX2 yX2_kindOf wsX2_kindOf) := goodIn_app (goodIn_of _ (by decide +kernel)) ggX2_clearWrongEntries_X2_kindOf
set_option maxRecDepth 20000 in
theorem ggX2_clearWrongEntries_X2_clearWrongEntriesOf : GoodIn wsX2_clearWrongEntries wsX2_clearWrongEntriesOf := goodIn_r _ [20, 7, 21, 22, 23, 5, 24, 25, 26, 27, 8, 9, 10, 11, 12, 13, 14, 15, 16, 28, 29, 30, 31, 32, 33, 34, 1, 2, 3, 4, 6, 35, 36, 37, 38, 39, 40, 41, 42, 43, 44, 45, 46, 47, 48, 49, 50, 51, 52] (by decide +kernel) (by decide +kernel)
set_option maxRecDepth 20000 in
theorem gX2_clearWrongEntries_X2_clearWrongEntriesOf : GoodIn wsX2_clearWrongEntries (wsV RX2 214 RX2 yX2_clearWrongEntriesOf wsX2_clearWrongEntriesOf) := goodIn_app (goodIn_of _ (by decide +kernel)) ggX2_clearWrongEntries_X2_clearWrongEntriesOf
theorem dX2_clearWrongEntries_0 : decode cX2_clearWrongEntries 0 = .ok (.aload_n 0, 1) := by decide +kernel
theorem dX2_clearWrongEntries_1 : decode cX2_clearWrongEntries 1 = .ok (.iconst 0, 1) := by decide +kernel
theorem dX2_clearWrongEntries_2 : decode cX2_clearWrongEntries 2 = .ok (.putfield 170, 3) := by decide +kernel
theorem dX2_clearWrongEntries_5 : decode cX2_clearWrongEntries 5 = .ok (.iconst 0, 1) := by decide +kernel
theorem dX2_clearWrongEntries_6 : decode cX2_clearWrongEntries 6 = .ok (.istore_n 1, 1) := by decide +kernel
theorem dX2_clearWrongEntries_7 : decode cX2_clearWrongEntries 7 = .ok (.iload_n 1, 1) := by decide +kernel
theorem dX2_clearWrongEntries_8 : decode cX2_clearWrongEntries 8 = .ok (.bipush 12, 2) := by decide +kernel
theorem dX2_clearWrongEntries_10 : decode cX2_clearWrongEntries 10 = .ok (.if_icmp .ge 23, 3) := by decide +kernel
theorem dX2_clearWrongEntries_13 : decode cX2_clearWrongEntries 13 = .ok (.aload_n 0, 1) := by decide +kernel
theorem dX2_clearWrongEntries_14 : decode cX2_clearWrongEntries 14 = .ok (.iload_n 1, 1) := by decide +kernel
theorem dX2_clearWrongEntries_15 : decode cX2_clearWrongEntries 15 = .ok (.invokevirtual 92, 3) := by decide +kernel
theorem dX2_clearWrongEntries_18 : decode cX2_clearWrongEntries 18 = .ok (.iconst 1, 1) := by decide +kernel
theorem dX2_clearWrongEntries_19 : decode cX2_clearWrongEntries 19 = .ok (.if_icmp .ne 8, 3) := by decide +kernel
theorem dX2_clearWrongEntries_22 : decode cX2_clearWrongEntries 22 = .ok (.aload_n 0, 1) := by decide +kernel
theorem dX2_clearWrongEntries_23 : decode cX2_clearWrongEntries 23 = .ok (.iload_n 1, 1) := by decide +kernel
theorem dX2_clearWrongEntries_24 : decode cX2_clearWrongEntries 24 = .ok (.invokevirtual 214, 3) := by decide +kernel
theorem dX2_clearWrongEntries_27 : decode cX2_clearWrongEntries 27 = .ok (.iinc 1 1, 3) := by decide +kernel
theorem dX2_clearWrongEntries_30 : decode cX2_clearWrongEntries 30 = .ok (.goto (-23), 3) := by decide +kernel
theorem dX2_clearWrongEntries_33 : decode cX2_clearWrongEntries 33 = .ok (.return_, 1) := by decide +kernel
set_option maxRecDepth 20000 in
theorem ggX2_clearWrongEntriesOf_X2_placeOf : GoodIn wsX2_clearWrongEntriesOf wsX2_placeOf := goodIn_r _ [6, 1, 7, 8, 5, 9, 10, 11, 12, 13, 14, 15, 16, 17, 18, 39, 40, 41, 42, 43, 44, 45, 46, 47, 48] (by decide +kernel) (by decide +kernel)
set_option maxRecDepth 20000 in
theorem gX2_clearWrongEntriesOf_X2_placeOf : GoodIn wsX2_clearWrongEntriesOf (wsV RX2 86 RX2 yX2_placeOf wsX2_placeOf) := goodIn_app (goodIn_of _ (by decide +kernel)) ggX2_clearWrongEntriesOf_X2_placeOf
set_option maxRecDepth 20000 in
theorem ggX2_clearWrongEntriesOf_X2_inodeOfEntry : GoodIn wsX2_clearWrongEntriesOf wsX2_inodeOfEntry := goodIn_r _ [21] (by decide +kernel) (by decide +kernel)
set_option maxRecDepth 20000 in
theorem gX2_clearWrongEntriesOf_X2_inodeOfEntry : GoodIn wsX2_clearWrongEntriesOf (va_wsS RX2 89 yX2_inodeOfEntry wsX2_inodeOfEntry) := goodIn_app (goodIn_of _ (by decide +kernel)) ggX2_clearWrongEntriesOf_X2_inodeOfEntry
set_option maxRecDepth 20000 in
theorem ggX2_clearWrongEntriesOf_X2_meet : GoodIn wsX2_clearWrongEntriesOf wsX2_meet := goodIn_r _ [25, 26, 27, 28, 29, 5, 30, 1, 10, 11, 12, 13, 14, 15, 16, 17, 18, 39, 40, 41, 42, 43, 44, 45, 46, 47, 48] (by decide +kernel) (by decide +kernel)
set_option maxRecDepth 20000 in
theorem gX2_clearWrongEntriesOf_X2_meet : GoodIn wsX2_clearWrongEntriesOf (wsV RX2 218 RX2 yX2_meet wsX2_meet) := goodIn_app (goodIn_of _ (by decide +kernel)) ggX2_clearWrongEntriesOf_X2_meet
set_option maxRecDepth 20000 in
theorem ggX2_clearWrongEntriesOf_X2_placeAt : GoodIn wsX2_clearWrongEntriesOf wsX2_placeAt := goodIn_r _ [9, 10, 11, 5, 12] (by decide +kernel) (by decide +kernel)
set_option maxRecDepth 20000 in
theorem gX2_clearWrongEntriesOf_X2_placeAt : GoodIn wsX2_clearWrongEntriesOf (va_wsS RX2 64 yX2_placeAt wsX2_placeAt) := goodIn_app (goodIn_of _ (by decide +kernel)) ggX2_clearWrongEntriesOf_X2_placeAt
set_option maxRecDepth 20000 in
theorem ggX2_clearWrongEntriesOf_X0_write : GoodIn wsX2_clearWrongEntriesOf wsX0_write := goodIn_r _ [34, 35, 18, 36, 37, 38, 44, 45, 46, 47, 48] (by decide +kernel) (by decide +kernel)
set_option maxRecDepth 20000 in
theorem gX2_clearWrongEntriesOf_X0_write : GoodIn wsX2_clearWrongEntriesOf (wsV RX2 60 RX0 yX0_write wsX0_write) := goodIn_app (goodIn_of _ (by decide +kernel)) ggX2_clearWrongEntriesOf_X0_write
theorem dX2_clearWrongEntriesOf_0 : decode cX2_clearWrongEntriesOf 0 = .ok (.iconst 0, 1) := by decide +kernel
theorem dX2_clearWrongEntriesOf_1 : decode cX2_clearWrongEntriesOf 1 = .ok (.istore_n 2, 1) := by decide +kernel
theorem dX2_clearWrongEntriesOf_2 : decode cX2_clearWrongEntriesOf 2 = .ok (.iload_n 2, 1) := by decide +kernel
theorem dX2_clearWrongEntriesOf_3 : decode cX2_clearWrongEntriesOf 3 = .ok (.bipush 8, 2) := by decide +kernel
theorem dX2_clearWrongEntriesOf_5 : decode cX2_clearWrongEntriesOf 5 = .ok (.if_icmp .ge 44, 3) := by decide +kernel
theorem dX2_clearWrongEntriesOf_8 : decode cX2_clearWrongEntriesOf 8 = .ok (.aload_n 0, 1) := by decide +kernel
theorem dX2_clearWrongEntriesOf_9 : decode cX2_clearWrongEntriesOf 9 = .ok (.iload_n 1, 1) := by decide +kernel
theorem dX2_clearWrongEntriesOf_10 : decode cX2_clearWrongEntriesOf 10 = .ok (.iload_n 2, 1) := by decide +kernel
theorem dX2_clearWrongEntriesOf_11 : decode cX2_clearWrongEntriesOf 11 = .ok (.invokevirtual 86, 3) := by decide +kernel
theorem dX2_clearWrongEntriesOf_14 : decode cX2_clearWrongEntriesOf 14 = .ok (.istore_n 3, 1) := by decide +kernel
theorem dX2_clearWrongEntriesOf_15 : decode cX2_clearWrongEntriesOf 15 = .ok (.iload_n 3, 1) := by decide +kernel
theorem dX2_clearWrongEntriesOf_16 : decode cX2_clearWrongEntriesOf 16 = .ok (.ifCond .eq 27, 3) := by decide +kernel
theorem dX2_clearWrongEntriesOf_19 : decode cX2_clearWrongEntriesOf 19 = .ok (.aload_n 0, 1) := by decide +kernel
theorem dX2_clearWrongEntriesOf_20 : decode cX2_clearWrongEntriesOf 20 = .ok (.iload_n 3, 1) := by decide +kernel
theorem dX2_clearWrongEntriesOf_21 : decode cX2_clearWrongEntriesOf 21 = .ok (.invokestatic 89, 3) := by decide +kernel
theorem dX2_clearWrongEntriesOf_24 : decode cX2_clearWrongEntriesOf 24 = .ok (.invokevirtual 218, 3) := by decide +kernel
theorem dX2_clearWrongEntriesOf_27 : decode cX2_clearWrongEntriesOf 27 = .ok (.ifCond .ne 16, 3) := by decide +kernel
theorem dX2_clearWrongEntriesOf_30 : decode cX2_clearWrongEntriesOf 30 = .ok (.aload_n 0, 1) := by decide +kernel
theorem dX2_clearWrongEntriesOf_31 : decode cX2_clearWrongEntriesOf 31 = .ok (.getfield 12, 3) := by decide +kernel
theorem dX2_clearWrongEntriesOf_34 : decode cX2_clearWrongEntriesOf 34 = .ok (.iload_n 1, 1) := by decide +kernel
theorem dX2_clearWrongEntriesOf_35 : decode cX2_clearWrongEntriesOf 35 = .ok (.iload_n 2, 1) := by decide +kernel
theorem dX2_clearWrongEntriesOf_36 : decode cX2_clearWrongEntriesOf 36 = .ok (.invokestatic 64, 3) := by decide +kernel
theorem dX2_clearWrongEntriesOf_39 : decode cX2_clearWrongEntriesOf 39 = .ok (.lconst 0, 1) := by decide +kernel
theorem dX2_clearWrongEntriesOf_40 : decode cX2_clearWrongEntriesOf 40 = .ok (.invokevirtual 60, 3) := by decide +kernel
theorem dX2_clearWrongEntriesOf_43 : decode cX2_clearWrongEntriesOf 43 = .ok (.iinc 2 1, 3) := by decide +kernel
theorem dX2_clearWrongEntriesOf_46 : decode cX2_clearWrongEntriesOf 46 = .ok (.goto (-44), 3) := by decide +kernel
theorem dX2_clearWrongEntriesOf_49 : decode cX2_clearWrongEntriesOf 49 = .ok (.return_, 1) := by decide +kernel
set_option maxRecDepth 20000 in
theorem ggX2_clearInodesWithoutEntry_X2_kindOf : GoodIn wsX2_clearInodesWithoutEntry wsX2_kindOf := goodIn_r _ [6, 1, 7, 8, 5, 9, 10, 11, 12, 13, 14, 15, 42, 43, 44, 45, 46, 47, 48, 49, 50, 51] (by decide +kernel) (by decide +kernel)
set_option maxRecDepth 20000 in
theorem gX2_clearInodesWithoutEntry_X2_kindOf : GoodIn wsX2_clearInodesWithoutEntry (wsV RX2 92 RX2 yX2_kindOf wsX2_kindOf) := goodIn_app (goodIn_of _ (by decide +kernel)) ggX2_clearInodesWithoutEntry_X2_kindOf
set_option maxRecDepth 20000 in
theorem ggX2_clearInodesWithoutEntry_X2_directoryAbove : GoodIn wsX2_clearInodesWithoutEntry wsX2_directoryAbove := goodIn_r _ [19, 2, 3, 4, 5, 6, 1, 7, 8, 9, 10, 11, 12, 13, 14, 15, 20, 21, 22, 23, 24, 25, 26, 27, 28, 29, 30, 31, 32, 33, 42, 43, 44, 45, 46, 47, 48, 49, 50, 51] (by decide +kernel) (by decide +kernel)
set_option maxRecDepth 20000 in
theorem gX2_clearInodesWithoutEntry_X2_directoryAbove : GoodIn wsX2_clearInodesWithoutEntry (wsV RX2 192 RX2 yX2_directoryAbove wsX2_directoryAbove) := goodIn_app (goodIn_of _ (by decide +kernel)) ggX2_clearInodesWithoutEntry_X2_directoryAbove
set_option maxRecDepth 20000 in
theorem ggX2_clearInodesWithoutEntry_X2_inodeAt : GoodIn wsX2_clearInodesWithoutEntry wsX2_inodeAt := goodIn_r _ [9] (by decide +kernel) (by decide +kernel)
set_option maxRecDepth 20000 in
theorem gX2_clearInodesWithoutEntry_X2_inodeAt : GoodIn wsX2_clearInodesWithoutEntry (va_wsS RX2 57 yX2_inodeAt wsX2_inodeAt) := goodIn_app (goodIn_of _ (by decide +kernel)) ggX2_clearInodesWithoutEntry_X2_inodeAt
set_option maxRecDepth 20000 in
theorem ggX2_clearInodesWithoutEntry_X0_write : GoodIn wsX2_clearInodesWithoutEntry wsX0_write := goodIn_r _ [37, 38, 15, 39, 40, 41, 47, 48, 49, 50, 51] (by decide +kernel) (by decide +kernel)
set_option maxRecDepth 20000 in
theorem gX2_clearInodesWithoutEntry_X0_write : GoodIn wsX2_clearInodesWithoutEntry (wsV RX2 60 RX0 yX0_write wsX0_write) := goodIn_app (goodIn_of _ (by decide +kernel)) ggX2_clearInodesWithoutEntry_X0_write
theorem dX2_clearInodesWithoutEntry_0 : decode cX2_clearInodesWithoutEntry 0 = .ok (.iconst 1, 1) := by decide +kernel
theorem dX2_clearInodesWithoutEntry_1 : decode cX2_clearInodesWithoutEntry 1 = .ok (.istore_n 1, 1) := by decide +kernel
theorem dX2_clearInodesWithoutEntry_2 : decode cX2_clearInodesWithoutEntry 2 = .ok (.iload_n 1, 1) := by decide +kernel
theorem dX2_clearInodesWithoutEntry_3 : decode cX2_clearInodesWithoutEntry 3 = .ok (.bipush 12, 2) := by decide +kernel
theorem dX2_clearInodesWithoutEntry_5 : decode cX2_clearInodesWithoutEntry 5 = .ok (.if_icmp .ge 40, 3) := by decide +kernel
theorem dX2_clearInodesWithoutEntry_8 : decode cX2_clearInodesWithoutEntry 8 = .ok (.aload_n 0, 1) := by decide +kernel
theorem dX2_clearInodesWithoutEntry_9 : decode cX2_clearInodesWithoutEntry 9 = .ok (.iload_n 1, 1) := by decide +kernel
theorem dX2_clearInodesWithoutEntry_10 : decode cX2_clearInodesWithoutEntry 10 = .ok (.invokevirtual 92, 3) := by decide +kernel
theorem dX2_clearInodesWithoutEntry_13 : decode cX2_clearInodesWithoutEntry 13 = .ok (.ifCond .eq 26, 3) := by decide +kernel
theorem dX2_clearInodesWithoutEntry_16 : decode cX2_clearInodesWithoutEntry 16 = .ok (.aload_n 0, 1) := by decide +kernel
theorem dX2_clearInodesWithoutEntry_17 : decode cX2_clearInodesWithoutEntry 17 = .ok (.iload_n 1, 1) := by decide +kernel
theorem dX2_clearInodesWithoutEntry_18 : decode cX2_clearInodesWithoutEntry 18 = .ok (.invokevirtual 192, 3) := by decide +kernel
theorem dX2_clearInodesWithoutEntry_21 : decode cX2_clearInodesWithoutEntry 21 = .ok (.bipush (-3), 2) := by decide +kernel
theorem dX2_clearInodesWithoutEntry_23 : decode cX2_clearInodesWithoutEntry 23 = .ok (.if_icmp .ne 16, 3) := by decide +kernel
theorem dX2_clearInodesWithoutEntry_26 : decode cX2_clearInodesWithoutEntry 26 = .ok (.aload_n 0, 1) := by decide +kernel
theorem dX2_clearInodesWithoutEntry_27 : decode cX2_clearInodesWithoutEntry 27 = .ok (.getfield 12, 3) := by decide +kernel
theorem dX2_clearInodesWithoutEntry_30 : decode cX2_clearInodesWithoutEntry 30 = .ok (.iload_n 1, 1) := by decide +kernel
theorem dX2_clearInodesWithoutEntry_31 : decode cX2_clearInodesWithoutEntry 31 = .ok (.iconst 0, 1) := by decide +kernel
theorem dX2_clearInodesWithoutEntry_32 : decode cX2_clearInodesWithoutEntry 32 = .ok (.invokestatic 57, 3) := by decide +kernel
theorem dX2_clearInodesWithoutEntry_35 : decode cX2_clearInodesWithoutEntry 35 = .ok (.lconst 0, 1) := by decide +kernel
theorem dX2_clearInodesWithoutEntry_36 : decode cX2_clearInodesWithoutEntry 36 = .ok (.invokevirtual 60, 3) := by decide +kernel
theorem dX2_clearInodesWithoutEntry_39 : decode cX2_clearInodesWithoutEntry 39 = .ok (.iinc 1 1, 3) := by decide +kernel
theorem dX2_clearInodesWithoutEntry_42 : decode cX2_clearInodesWithoutEntry 42 = .ok (.goto (-40), 3) := by decide +kernel
theorem dX2_clearInodesWithoutEntry_45 : decode cX2_clearInodesWithoutEntry 45 = .ok (.return_, 1) := by decide +kernel
set_option maxRecDepth 20000 in
theorem ggX2_meet_X2_kindOf : GoodIn wsX2_meet wsX2_kindOf := goodIn_r _ [6, 7, 8, 9, 5, 10, 11, 12, 13, 14, 15, 16, 17, 18, 19, 20, 21, 22, 23, 24, 25, 26] (by decide +kernel) (by decide +kernel)
set_option maxRecDepth 20000 in
theorem gX2_meet_X2_kindOf : GoodIn wsX2_meet (wsV RX2 92 RX2 yX2_kindOf wsX2_kindOf) := goodIn_app (goodIn_of _ (by decide +kernel)) ggX2_meet_X2_kindOf
theorem dX2_meet_0 : decode cX2_meet 0 = .ok (.aload_n 0, 1) := by decide +kernel
theorem dX2_meet_1 : decode cX2_meet 1 = .ok (.iload_n 1, 1) := by decide +kernel
theorem dX2_meet_2 : decode cX2_meet 2 = .ok (.invokevirtual 92, 3) := by decide +kernel
theorem dX2_meet_5 : decode cX2_meet 5 = .ok (.ifCond .eq 15, 3) := by decide +kernel
theorem dX2_meet_8 : decode cX2_meet 8 = .ok (.aload_n 0, 1) := by decide +kernel
theorem dX2_meet_9 : decode cX2_meet 9 = .ok (.getfield 170, 3) := by decide +kernel
theorem dX2_meet_12 : decode cX2_meet 12 = .ok (.iload_n 1, 1) := by decide +kernel
theorem dX2_meet_13 : decode cX2_meet 13 = .ok (.ishr, 1) := by decide +kernel
theorem dX2_meet_14 : decode cX2_meet 14 = .ok (.iconst 1, 1) := by decide +kernel
theorem dX2_meet_15 : decode cX2_meet 15 = .ok (.iand, 1) := by decide +kernel
theorem dX2_meet_16 : decode cX2_meet 16 = .ok (.iconst 1, 1) := by decide +kernel
theorem dX2_meet_17 : decode cX2_meet 17 = .ok (.if_icmp .ne 5, 3) := by decide +kernel
theorem dX2_meet_20 : decode cX2_meet 20 = .ok (.iconst 0, 1) := by decide +kernel
theorem dX2_meet_21 : decode cX2_meet 21 = .ok (.ireturn, 1) := by decide +kernel
theorem dX2_meet_22 : decode cX2_meet 22 = .ok (.aload_n 0, 1) := by decide +kernel
theorem dX2_meet_23 : decode cX2_meet 23 = .ok (.dup, 1) := by decide +kernel
theorem dX2_meet_24 : decode cX2_meet 24 = .ok (.getfield 170, 3) := by decide +kernel
theorem dX2_meet_27 : decode cX2_meet 27 = .ok (.iconst 1, 1) := by decide +kernel
theorem dX2_meet_28 : decode cX2_meet 28 = .ok (.iload_n 1, 1) := by decide +kernel
theorem dX2_meet_29 : decode cX2_meet 29 = .ok (.ishl, 1) := by decide +kernel
theorem dX2_meet_30 : decode cX2_meet 30 = .ok (.ior, 1) := by decide +kernel
theorem dX2_meet_31 : decode cX2_meet 31 = .ok (.putfield 170, 3) := by decide +kernel
theorem dX2_meet_34 : decode cX2_meet 34 = .ok (.iconst 1, 1) := by decide +kernel
theorem dX2_meet_35 : decode cX2_meet 35 = .ok (.ireturn, 1) := by decide +kernel
set_option maxRecDepth 20000 in
theorem ggX2_countInodes_X2_kindOf : GoodIn wsX2_countInodes wsX2_kindOf := goodIn_r _ [5, 6, 7, 8, 4, 9, 10, 11, 12, 13, 14, 15, 16, 17, 18, 19, 20, 21, 22, 23, 24, 25] (by decide +kernel) (by decide +kernel)
set_option maxRecDepth 20000 in
theorem gX2_countInodes_X2_kindOf : GoodIn wsX2_countInodes (wsV RX2 92 RX2 yX2_kindOf wsX2_kindOf) := goodIn_app (goodIn_of _ (by decide +kernel)) ggX2_countInodes_X2_kindOf
theorem dX2_countInodes_0 : decode cX2_countInodes 0 = .ok (.iconst 0, 1) := by decide +kernel
theorem dX2_countInodes_1 : decode cX2_countInodes 1 = .ok (.istore_n 1, 1) := by decide +kernel
theorem dX2_countInodes_2 : decode cX2_countInodes 2 = .ok (.iconst 0, 1) := by decide +kernel
theorem dX2_countInodes_3 : decode cX2_countInodes 3 = .ok (.istore_n 2, 1) := by decide +kernel
theorem dX2_countInodes_4 : decode cX2_countInodes 4 = .ok (.iload_n 2, 1) := by decide +kernel
theorem dX2_countInodes_5 : decode cX2_countInodes 5 = .ok (.bipush 12, 2) := by decide +kernel
theorem dX2_countInodes_7 : decode cX2_countInodes 7 = .ok (.if_icmp .ge 20, 3) := by decide +kernel
theorem dX2_countInodes_10 : decode cX2_countInodes 10 = .ok (.aload_n 0, 1) := by decide +kernel
theorem dX2_countInodes_11 : decode cX2_countInodes 11 = .ok (.iload_n 2, 1) := by decide +kernel
theorem dX2_countInodes_12 : decode cX2_countInodes 12 = .ok (.invokevirtual 92, 3) := by decide +kernel
theorem dX2_countInodes_15 : decode cX2_countInodes 15 = .ok (.ifCond .eq 6, 3) := by decide +kernel
theorem dX2_countInodes_18 : decode cX2_countInodes 18 = .ok (.iinc 1 1, 3) := by decide +kernel
theorem dX2_countInodes_21 : decode cX2_countInodes 21 = .ok (.iinc 2 1, 3) := by decide +kernel
theorem dX2_countInodes_24 : decode cX2_countInodes 24 = .ok (.goto (-20), 3) := by decide +kernel
theorem dX2_countInodes_27 : decode cX2_countInodes 27 = .ok (.iload_n 1, 1) := by decide +kernel
theorem dX2_countInodes_28 : decode cX2_countInodes 28 = .ok (.ireturn, 1) := by decide +kernel
set_option maxRecDepth 20000 in
theorem ggX2_countMisplacedBlocks_X2_blocksOf : GoodIn wsX2_countMisplacedBlocks wsX2_blocksOf := goodIn_r _ [5, 6, 7, 8, 4, 9, 10, 11, 12, 13, 14, 15, 16, 17, 18, 19, 20, 21, 22, 23, 31, 32, 33, 34, 35, 36, 37, 38, 39, 40] (by decide +kernel) (by decide +kernel)
set_option maxRecDepth 20000 in
theorem gX2_countMisplacedBlocks_X2_blocksOf : GoodIn wsX2_countMisplacedBlocks (wsV RX2 195 RX2 yX2_blocksOf wsX2_blocksOf) := goodIn_app (goodIn_of _ (by decide +kernel)) ggX2_countMisplacedBlocks_X2_blocksOf
set_option maxRecDepth 20000 in
theorem ggX2_countMisplacedBlocks_X2_placeOf : GoodIn wsX2_countMisplacedBlocks wsX2_placeOf := goodIn_r _ [27, 10, 28, 29, 4, 30, 11, 12, 13, 14, 15, 16, 17, 18, 19, 31, 32, 33, 34, 35, 36, 37, 38, 39, 40] (by decide +kernel) (by decide +kernel)
set_option maxRecDepth 20000 in
theorem gX2_countMisplacedBlocks_X2_placeOf : GoodIn wsX2_countMisplacedBlocks (wsV RX2 86 RX2 yX2_placeOf wsX2_placeOf) := goodIn_app (goodIn_of _ (by decide +kernel)) ggX2_countMisplacedBlocks_X2_placeOf
theorem dX2_countMisplacedBlocks_0 : decode cX2_countMisplacedBlocks 0 = .ok (.iconst 0, 1) := by decide +kernel
theorem dX2_countMisplacedBlocks_1 : decode cX2_countMisplacedBlocks 1 = .ok (.istore_n 1, 1) := by decide +kernel
theorem dX2_countMisplacedBlocks_2 : decode cX2_countMisplacedBlocks 2 = .ok (.iconst 0, 1) := by decide +kernel
theorem dX2_countMisplacedBlocks_3 : decode cX2_countMisplacedBlocks 3 = .ok (.istore_n 2, 1) := by decide +kernel
theorem dX2_countMisplacedBlocks_4 : decode cX2_countMisplacedBlocks 4 = .ok (.iconst 0, 1) := by decide +kernel
theorem dX2_countMisplacedBlocks_5 : decode cX2_countMisplacedBlocks 5 = .ok (.istore_n 3, 1) := by decide +kernel
theorem dX2_countMisplacedBlocks_6 : decode cX2_countMisplacedBlocks 6 = .ok (.iload_n 3, 1) := by decide +kernel
theorem dX2_countMisplacedBlocks_7 : decode cX2_countMisplacedBlocks 7 = .ok (.bipush 12, 2) := by decide +kernel
theorem dX2_countMisplacedBlocks_9 : decode cX2_countMisplacedBlocks 9 = .ok (.if_icmp .ge 49, 3) := by decide +kernel
theorem dX2_countMisplacedBlocks_12 : decode cX2_countMisplacedBlocks 12 = .ok (.aload_n 0, 1) := by decide +kernel
theorem dX2_countMisplacedBlocks_13 : decode cX2_countMisplacedBlocks 13 = .ok (.iload_n 3, 1) := by decide +kernel
theorem dX2_countMisplacedBlocks_14 : decode cX2_countMisplacedBlocks 14 = .ok (.invokevirtual 195, 3) := by decide +kernel
theorem dX2_countMisplacedBlocks_17 : decode cX2_countMisplacedBlocks 17 = .ok (.istore 4, 2) := by decide +kernel
theorem dX2_countMisplacedBlocks_19 : decode cX2_countMisplacedBlocks 19 = .ok (.iconst 0, 1) := by decide +kernel
theorem dX2_countMisplacedBlocks_20 : decode cX2_countMisplacedBlocks 20 = .ok (.istore 5, 2) := by decide +kernel
theorem dX2_countMisplacedBlocks_22 : decode cX2_countMisplacedBlocks 22 = .ok (.iload 5, 2) := by decide +kernel
theorem dX2_countMisplacedBlocks_24 : decode cX2_countMisplacedBlocks 24 = .ok (.iload 4, 2) := by decide +kernel
theorem dX2_countMisplacedBlocks_26 : decode cX2_countMisplacedBlocks 26 = .ok (.if_icmp .ge 26, 3) := by decide +kernel
theorem dX2_countMisplacedBlocks_29 : decode cX2_countMisplacedBlocks 29 = .ok (.aload_n 0, 1) := by decide +kernel
theorem dX2_countMisplacedBlocks_30 : decode cX2_countMisplacedBlocks 30 = .ok (.iload_n 3, 1) := by decide +kernel
theorem dX2_countMisplacedBlocks_31 : decode cX2_countMisplacedBlocks 31 = .ok (.iload 5, 2) := by decide +kernel
theorem dX2_countMisplacedBlocks_33 : decode cX2_countMisplacedBlocks 33 = .ok (.invokevirtual 86, 3) := by decide +kernel
theorem dX2_countMisplacedBlocks_36 : decode cX2_countMisplacedBlocks 36 = .ok (.iload_n 1, 1) := by decide +kernel
theorem dX2_countMisplacedBlocks_37 : decode cX2_countMisplacedBlocks 37 = .ok (.if_icmp .eq 6, 3) := by decide +kernel
theorem dX2_countMisplacedBlocks_40 : decode cX2_countMisplacedBlocks 40 = .ok (.iinc 2 1, 3) := by decide +kernel
theorem dX2_countMisplacedBlocks_43 : decode cX2_countMisplacedBlocks 43 = .ok (.iinc 1 1, 3) := by decide +kernel
theorem dX2_countMisplacedBlocks_46 : decode cX2_countMisplacedBlocks 46 = .ok (.iinc 5 1, 3) := by decide +kernel
theorem dX2_countMisplacedBlocks_49 : decode cX2_countMisplacedBlocks 49 = .ok (.goto (-27), 3) := by decide +kernel
theorem dX2_countMisplacedBlocks_52 : decode cX2_countMisplacedBlocks 52 = .ok (.iinc 3 1, 3) := by decide +kernel
theorem dX2_countMisplacedBlocks_55 : decode cX2_countMisplacedBlocks 55 = .ok (.goto (-49), 3) := by decide +kernel
theorem dX2_countMisplacedBlocks_58 : decode cX2_countMisplacedBlocks 58 = .ok (.iload_n 2, 1) := by decide +kernel
theorem dX2_countMisplacedBlocks_59 : decode cX2_countMisplacedBlocks 59 = .ok (.ireturn, 1) := by decide +kernel
set_option maxRecDepth 20000 in
theorem ggX2_countEntries_X2_kindOf : GoodIn wsX2_countEntries wsX2_kindOf := goodIn_r _ [5, 6, 7, 8, 4, 9, 10, 11, 12, 13, 14, 15, 27, 28, 29, 30, 31, 32, 33, 34, 35, 36] (by decide +kernel) (by decide +kernel)
set_option maxRecDepth 20000 in
theorem gX2_countEntries_X2_kindOf : GoodIn wsX2_countEntries (wsV RX2 92 RX2 yX2_kindOf wsX2_kindOf) := goodIn_app (goodIn_of _ (by decide +kernel)) ggX2_countEntries_X2_kindOf
set_option maxRecDepth 20000 in
theorem ggX2_countEntries_X2_entriesOf : GoodIn wsX2_countEntries wsX2_entriesOf := goodIn_r _ [19, 20, 21, 22, 4, 23, 6, 24, 25, 26, 7, 8, 9, 10, 11, 12, 13, 14, 15, 27, 28, 29, 30, 31, 32, 33, 34, 35, 36] (by decide +kernel) (by decide +kernel)
set_option maxRecDepth 20000 in
theorem gX2_countEntries_X2_entriesOf : GoodIn wsX2_countEntries (wsV RX2 95 RX2 yX2_entriesOf wsX2_entriesOf) := goodIn_app (goodIn_of _ (by decide +kernel)) ggX2_countEntries_X2_entriesOf
theorem dX2_countEntries_0 : decode cX2_countEntries 0 = .ok (.iconst 0, 1) := by decide +kernel
theorem dX2_countEntries_1 : decode cX2_countEntries 1 = .ok (.istore_n 1, 1) := by decide +kernel
theorem dX2_countEntries_2 : decode cX2_countEntries 2 = .ok (.iconst 0, 1) := by decide +kernel
theorem dX2_countEntries_3 : decode cX2_countEntries 3 = .ok (.istore_n 2, 1) := by decide +kernel
theorem dX2_countEntries_4 : decode cX2_countEntries 4 = .ok (.iload_n 2, 1) := by decide +kernel
theorem dX2_countEntries_5 : decode cX2_countEntries 5 = .ok (.bipush 12, 2) := by decide +kernel
theorem dX2_countEntries_7 : decode cX2_countEntries 7 = .ok (.if_icmp .ge 26, 3) := by decide +kernel
theorem dX2_countEntries_10 : decode cX2_countEntries 10 = .ok (.aload_n 0, 1) := by decide +kernel
theorem dX2_countEntries_11 : decode cX2_countEntries 11 = .ok (.iload_n 2, 1) := by decide +kernel
theorem dX2_countEntries_12 : decode cX2_countEntries 12 = .ok (.invokevirtual 92, 3) := by decide +kernel
theorem dX2_countEntries_15 : decode cX2_countEntries 15 = .ok (.iconst 1, 1) := by decide +kernel
theorem dX2_countEntries_16 : decode cX2_countEntries 16 = .ok (.if_icmp .ne 11, 3) := by decide +kernel
theorem dX2_countEntries_19 : decode cX2_countEntries 19 = .ok (.iload_n 1, 1) := by decide +kernel
theorem dX2_countEntries_20 : decode cX2_countEntries 20 = .ok (.aload_n 0, 1) := by decide +kernel
theorem dX2_countEntries_21 : decode cX2_countEntries 21 = .ok (.iload_n 2, 1) := by decide +kernel
theorem dX2_countEntries_22 : decode cX2_countEntries 22 = .ok (.invokevirtual 95, 3) := by decide +kernel
theorem dX2_countEntries_25 : decode cX2_countEntries 25 = .ok (.iadd, 1) := by decide +kernel
theorem dX2_countEntries_26 : decode cX2_countEntries 26 = .ok (.istore_n 1, 1) := by decide +kernel
theorem dX2_countEntries_27 : decode cX2_countEntries 27 = .ok (.iinc 2 1, 3) := by decide +kernel
theorem dX2_countEntries_30 : decode cX2_countEntries 30 = .ok (.goto (-26), 3) := by decide +kernel
theorem dX2_countEntries_33 : decode cX2_countEntries 33 = .ok (.iload_n 1, 1) := by decide +kernel
theorem dX2_countEntries_34 : decode cX2_countEntries 34 = .ok (.ireturn, 1) := by decide +kernel
set_option maxRecDepth 20000 in
theorem ggX2_hashOfInode_X2_kindOf : GoodIn wsX2_hashOfInode wsX2_kindOf := goodIn_r _ [5, 6, 7, 8, 4, 9, 10, 11, 12, 13, 14, 15, 59, 60, 61, 62, 63, 64, 65, 66, 67, 68] (by decide +kernel) (by decide +kernel)
set_option maxRecDepth 20000 in
theorem gX2_hashOfInode_X2_kindOf : GoodIn wsX2_hashOfInode (wsV RX2 92 RX2 yX2_kindOf wsX2_kindOf) := goodIn_app (goodIn_of _ (by decide +kernel)) ggX2_hashOfInode_X2_kindOf
set_option maxRecDepth 20000 in
theorem ggX2_hashOfInode_X2_hashOfDirectory : GoodIn wsX2_hashOfInode wsX2_hashOfDirectory := goodIn_r _ [39, 23, 40, 41, 42, 43, 4, 44, 29, 30, 31, 32, 6, 33, 34, 35, 7, 8, 9, 10, 11, 12, 13, 14, 15, 45, 46, 47, 48, 49, 50, 51, 52, 53, 54, 55, 1, 2, 3, 5, 56, 57, 58, 0, 16, 17, 18, 19, 20, 21, 22, 24, 25, 26, 27, 28, 36, 37, 38, 59, 60, 61, 62, 63, 64, 65, 66, 67, 68] (by decide +kernel) (by decide +kernel)
set_option maxRecDepth 20000 in
theorem gX2_hashOfInode_X2_hashOfDirectory : GoodIn wsX2_hashOfInode (wsV RX2 221 RX2 yX2_hashOfDirectory wsX2_hashOfDirectory) := goodIn_app (goodIn_of _ (by decide +kernel)) ggX2_hashOfInode_X2_hashOfDirectory
set_option maxRecDepth 20000 in
theorem ggX2_hashOfInode_X2_hashOfFile : GoodIn wsX2_hashOfInode wsX2_hashOfFile := goodIn_r _ [22, 23, 24, 6, 25, 26, 27, 4, 28, 7, 8, 9, 10, 11, 12, 13, 14, 15, 29, 30, 31, 32, 33, 34, 35, 36, 37, 38, 59, 60, 61, 62, 63, 64, 65, 66, 67, 68] (by decide +kernel) (by decide +kernel)
set_option maxRecDepth 20000 in
theorem gX2_hashOfInode_X2_hashOfFile : GoodIn wsX2_hashOfInode (wsV RX2 224 RX2 yX2_hashOfFile wsX2_hashOfFile) := goodIn_app (goodIn_of _ (by decide +kernel)) ggX2_hashOfInode_X2_hashOfFile
theorem dX2_hashOfInode_0 : decode cX2_hashOfInode 0 = .ok (.iload 4, 2) := by decide +kernel
theorem dX2_hashOfInode_2 : decode cX2_hashOfInode 2 = .ok (.bipush 12, 2) := by decide +kernel
theorem dX2_hashOfInode_4 : decode cX2_hashOfInode 4 = .ok (.if_icmp .lt 5, 3) := by decide +kernel
theorem dX2_hashOfInode_7 : decode cX2_hashOfInode 7 = .ok (.lload_n 1, 1) := by decide +kernel
theorem dX2_hashOfInode_8 : decode cX2_hashOfInode 8 = .ok (.lreturn, 1) := by decide +kernel
theorem dX2_hashOfInode_9 : decode cX2_hashOfInode 9 = .ok (.aload_n 0, 1) := by decide +kernel
theorem dX2_hashOfInode_10 : decode cX2_hashOfInode 10 = .ok (.iload_n 3, 1) := by decide +kernel
theorem dX2_hashOfInode_11 : decode cX2_hashOfInode 11 = .ok (.invokevirtual 92, 3) := by decide +kernel
theorem dX2_hashOfInode_14 : decode cX2_hashOfInode 14 = .ok (.iconst 1, 1) := by decide +kernel
theorem dX2_hashOfInode_15 : decode cX2_hashOfInode 15 = .ok (.if_icmp .ne 14, 3) := by decide +kernel
theorem dX2_hashOfInode_18 : decode cX2_hashOfInode 18 = .ok (.aload_n 0, 1) := by decide +kernel
theorem dX2_hashOfInode_19 : decode cX2_hashOfInode 19 = .ok (.lload_n 1, 1) := by decide +kernel
theorem dX2_hashOfInode_20 : decode cX2_hashOfInode 20 = .ok (.iload_n 3, 1) := by decide +kernel
theorem dX2_hashOfInode_21 : decode cX2_hashOfInode 21 = .ok (.iload 4, 2) := by decide +kernel
theorem dX2_hashOfInode_23 : decode cX2_hashOfInode 23 = .ok (.invokevirtual 221, 3) := by decide +kernel
theorem dX2_hashOfInode_26 : decode cX2_hashOfInode 26 = .ok (.goto 9, 3) := by decide +kernel
theorem dX2_hashOfInode_29 : decode cX2_hashOfInode 29 = .ok (.aload_n 0, 1) := by decide +kernel
theorem dX2_hashOfInode_30 : decode cX2_hashOfInode 30 = .ok (.lload_n 1, 1) := by decide +kernel
theorem dX2_hashOfInode_31 : decode cX2_hashOfInode 31 = .ok (.iload_n 3, 1) := by decide +kernel
theorem dX2_hashOfInode_32 : decode cX2_hashOfInode 32 = .ok (.invokevirtual 224, 3) := by decide +kernel
theorem dX2_hashOfInode_35 : decode cX2_hashOfInode 35 = .ok (.lreturn, 1) := by decide +kernel
set_option maxRecDepth 20000 in
theorem ggX2_hashOfDirectory_X2_entryBehindName : GoodIn wsX2_hashOfDirectory wsX2_entryBehindName := goodIn_r _ [7, 8, 9, 10, 6, 11, 12, 13, 14, 15, 16, 17, 18, 19, 20, 21, 22, 23, 24, 25, 26, 27, 59, 60, 61, 62, 63, 64, 65, 66, 67, 68] (by decide +kernel) (by decide +kernel)
set_option maxRecDepth 20000 in
theorem gX2_hashOfDirectory_X2_entryBehindName : GoodIn wsX2_hashOfDirectory (wsV RX2 228 RX2 yX2_entryBehindName wsX2_entryBehindName) := goodIn_app (goodIn_of _ (by decide +kernel)) ggX2_hashOfDirectory_X2_entryBehindName
set_option maxRecDepth 20000 in
theorem ggX2_hashOfDirectory_X2_inodeOfEntry : GoodIn wsX2_hashOfDirectory wsX2_inodeOfEntry := goodIn_r _ [30] (by decide +kernel) (by decide +kernel)
set_option maxRecDepth 20000 in
theorem gX2_hashOfDirectory_X2_inodeOfEntry : GoodIn wsX2_hashOfDirectory (va_wsS RX2 89 yX2_inodeOfEntry wsX2_inodeOfEntry) := goodIn_app (goodIn_of _ (by decide +kernel)) ggX2_hashOfDirectory_X2_inodeOfEntry
set_option maxRecDepth 20000 in
theorem ggX2_hashOfDirectory_X2_meet : GoodIn wsX2_hashOfDirectory wsX2_meet := goodIn_r _ [34, 35, 36, 37, 38, 6, 39, 12, 16, 17, 18, 19, 20, 21, 22, 23, 24, 59, 60, 61, 62, 63, 64, 65, 66, 67, 68] (by decide +kernel) (by decide +kernel)
set_option maxRecDepth 20000 in
theorem gX2_hashOfDirectory_X2_meet : GoodIn wsX2_hashOfDirectory (wsV RX2 218 RX2 yX2_meet wsX2_meet) := goodIn_app (goodIn_of _ (by decide +kernel)) ggX2_hashOfDirectory_X2_meet
set_option maxRecDepth 20000 in
theorem ggX2_hashOfDirectory_X2_nameOfEntry : GoodIn wsX2_hashOfDirectory wsX2_nameOfEntry := goodIn_r _ [27] (by decide +kernel) (by decide +kernel)
set_option maxRecDepth 20000 in
theorem gX2_hashOfDirectory_X2_nameOfEntry : GoodIn wsX2_hashOfDirectory (va_wsS RX2 186 yX2_nameOfEntry wsX2_nameOfEntry) := goodIn_app (goodIn_of _ (by decide +kernel)) ggX2_hashOfDirectory_X2_nameOfEntry
set_option maxRecDepth 20000 in
theorem ggX2_hashOfDirectory_X2_hashOfInode : GoodIn wsX2_hashOfDirectory wsX2_hashOfInode := goodIn_r _ [43, 36, 37, 38, 6, 39, 12, 16, 17, 18, 19, 20, 21, 22, 23, 24, 44, 45, 46, 47, 48, 49, 50, 1, 51, 52, 53, 54, 55, 8, 9, 10, 11, 13, 14, 15, 56, 57, 58, 0, 2, 3, 4, 5, 7, 25, 26, 27, 28, 29, 30, 31, 32, 33, 34, 35, 40, 41, 42, 59, 60, 61, 62, 63, 64, 65, 66, 67, 68] (by decide +kernel) (by decide +kernel)
set_option maxRecDepth 20000 in
theorem gX2_hashOfDirectory_X2_hashOfInode : GoodIn wsX2_hashOfDirectory (wsV RX2 175 RX2 yX2_hashOfInode wsX2_hashOfInode) := goodIn_app (goodIn_of _ (by decide +kernel)) ggX2_hashOfDirectory_X2_hashOfInode
theorem dX2_hashOfDirectory_0 : decode cX2_hashOfDirectory 0 = .ok (.ldc2_w 181, 3) := by decide +kernel
theorem dX2_hashOfDirectory_3 : decode cX2_hashOfDirectory 3 = .ok (.lload_n 1, 1) := by decide +kernel
theorem dX2_hashOfDirectory_4 : decode cX2_hashOfDirectory 4 = .ok (.lmul, 1) := by decide +kernel
theorem dX2_hashOfDirectory_5 : decode cX2_hashOfDirectory 5 = .ok (.lconst 1, 1) := by decide +kernel
theorem dX2_hashOfDirectory_6 : decode cX2_hashOfDirectory 6 = .ok (.ladd, 1) := by decide +kernel
theorem dX2_hashOfDirectory_7 : decode cX2_hashOfDirectory 7 = .ok (.lstore 5, 2) := by decide +kernel
theorem dX2_hashOfDirectory_9 : decode cX2_hashOfDirectory 9 = .ok (.aload_n 0, 1) := by decide +kernel
theorem dX2_hashOfDirectory_10 : decode cX2_hashOfDirectory 10 = .ok (.iload_n 3, 1) := by decide +kernel
theorem dX2_hashOfDirectory_11 : decode cX2_hashOfDirectory 11 = .ok (.iconst 0, 1) := by decide +kernel
theorem dX2_hashOfDirectory_12 : decode cX2_hashOfDirectory 12 = .ok (.invokevirtual 228, 3) := by decide +kernel
theorem dX2_hashOfDirectory_15 : decode cX2_hashOfDirectory 15 = .ok (.istore 7, 2) := by decide +kernel
theorem dX2_hashOfDirectory_17 : decode cX2_hashOfDirectory 17 = .ok (.iconst 0, 1) := by decide +kernel
theorem dX2_hashOfDirectory_18 : decode cX2_hashOfDirectory 18 = .ok (.istore 8, 2) := by decide +kernel
theorem dX2_hashOfDirectory_20 : decode cX2_hashOfDirectory 20 = .ok (.iload 8, 2) := by decide +kernel
theorem dX2_hashOfDirectory_22 : decode cX2_hashOfDirectory 22 = .ok (.bipush 8, 2) := by decide +kernel
theorem dX2_hashOfDirectory_24 : decode cX2_hashOfDirectory 24 = .ok (.if_icmp .ge 66, 3) := by decide +kernel
theorem dX2_hashOfDirectory_27 : decode cX2_hashOfDirectory 27 = .ok (.iload 7, 2) := by decide +kernel
theorem dX2_hashOfDirectory_29 : decode cX2_hashOfDirectory 29 = .ok (.ifCond .eq 61, 3) := by decide +kernel
theorem dX2_hashOfDirectory_32 : decode cX2_hashOfDirectory 32 = .ok (.aload_n 0, 1) := by decide +kernel
theorem dX2_hashOfDirectory_33 : decode cX2_hashOfDirectory 33 = .ok (.iload 7, 2) := by decide +kernel
theorem dX2_hashOfDirectory_35 : decode cX2_hashOfDirectory 35 = .ok (.invokestatic 89, 3) := by decide +kernel
theorem dX2_hashOfDirectory_38 : decode cX2_hashOfDirectory 38 = .ok (.invokevirtual 218, 3) := by decide +kernel
theorem dX2_hashOfDirectory_41 : decode cX2_hashOfDirectory 41 = .ok (.ifCond .eq 31, 3) := by decide +kernel
theorem dX2_hashOfDirectory_44 : decode cX2_hashOfDirectory 44 = .ok (.aload_n 0, 1) := by decide +kernel
theorem dX2_hashOfDirectory_45 : decode cX2_hashOfDirectory 45 = .ok (.ldc2_w 181, 3) := by decide +kernel
theorem dX2_hashOfDirectory_48 : decode cX2_hashOfDirectory 48 = .ok (.lload 5, 2) := by decide +kernel
theorem dX2_hashOfDirectory_50 : decode cX2_hashOfDirectory 50 = .ok (.lmul, 1) := by decide +kernel
theorem dX2_hashOfDirectory_51 : decode cX2_hashOfDirectory 51 = .ok (.iload 7, 2) := by decide +kernel
theorem dX2_hashOfDirectory_53 : decode cX2_hashOfDirectory 53 = .ok (.invokestatic 186, 3) := by decide +kernel
theorem dX2_hashOfDirectory_56 : decode cX2_hashOfDirectory 56 = .ok (.i2l, 1) := by decide +kernel
theorem dX2_hashOfDirectory_57 : decode cX2_hashOfDirectory 57 = .ok (.ladd, 1) := by decide +kernel
theorem dX2_hashOfDirectory_58 : decode cX2_hashOfDirectory 58 = .ok (.iload 7, 2) := by decide +kernel
theorem dX2_hashOfDirectory_60 : decode cX2_hashOfDirectory 60 = .ok (.invokestatic 89, 3) := by decide +kernel
theorem dX2_hashOfDirectory_63 : decode cX2_hashOfDirectory 63 = .ok (.iload 4, 2) := by decide +kernel
theorem dX2_hashOfDirectory_65 : decode cX2_hashOfDirectory 65 = .ok (.iconst 1, 1) := by decide +kernel
theorem dX2_hashOfDirectory_66 : decode cX2_hashOfDirectory 66 = .ok (.iadd, 1) := by decide +kernel
theorem dX2_hashOfDirectory_67 : decode cX2_hashOfDirectory 67 = .ok (.invokevirtual 175, 3) := by decide +kernel
theorem dX2_hashOfDirectory_70 : decode cX2_hashOfDirectory 70 = .ok (.lstore 5, 2) := by decide +kernel
theorem dX2_hashOfDirectory_72 : decode cX2_hashOfDirectory 72 = .ok (.aload_n 0, 1) := by decide +kernel
theorem dX2_hashOfDirectory_73 : decode cX2_hashOfDirectory 73 = .ok (.iload_n 3, 1) := by decide +kernel
theorem dX2_hashOfDirectory_74 : decode cX2_hashOfDirectory 74 = .ok (.iload 7, 2) := by decide +kernel
theorem dX2_hashOfDirectory_76 : decode cX2_hashOfDirectory 76 = .ok (.invokestatic 186, 3) := by decide +kernel
theorem dX2_hashOfDirectory_79 : decode cX2_hashOfDirectory 79 = .ok (.invokevirtual 228, 3) := by decide +kernel
theorem dX2_hashOfDirectory_82 : decode cX2_hashOfDirectory 82 = .ok (.istore 7, 2) := by decide +kernel
theorem dX2_hashOfDirectory_84 : decode cX2_hashOfDirectory 84 = .ok (.iinc 8 1, 3) := by decide +kernel
theorem dX2_hashOfDirectory_87 : decode cX2_hashOfDirectory 87 = .ok (.goto (-67), 3) := by decide +kernel
theorem dX2_hashOfDirectory_90 : decode cX2_hashOfDirectory 90 = .ok (.ldc2_w 181, 3) := by decide +kernel
theorem dX2_hashOfDirectory_93 : decode cX2_hashOfDirectory 93 = .ok (.lload 5, 2) := by decide +kernel
theorem dX2_hashOfDirectory_95 : decode cX2_hashOfDirectory 95 = .ok (.lmul, 1) := by decide +kernel
theorem dX2_hashOfDirectory_96 : decode cX2_hashOfDirectory 96 = .ok (.ldc2_w 231, 3) := by decide +kernel
theorem dX2_hashOfDirectory_99 : decode cX2_hashOfDirectory 99 = .ok (.ladd, 1) := by decide +kernel
theorem dX2_hashOfDirectory_100 : decode cX2_hashOfDirectory 100 = .ok (.lreturn, 1) := by decide +kernel
set_option maxRecDepth 20000 in
theorem ggX2_entryBehindName_X2_placeOf : GoodIn wsX2_entryBehindName wsX2_placeOf := goodIn_r _ [5, 6, 7, 8, 4, 9, 10, 11, 12, 13, 14, 15, 16, 17, 18, 22, 23, 24, 25, 26, 27, 28, 29, 30, 31] (by decide +kernel) (by decide +kernel)
set_option maxRecDepth 20000 in
theorem gX2_entryBehindName_X2_placeOf : GoodIn wsX2_entryBehindName (wsV RX2 86 RX2 yX2_placeOf wsX2_placeOf) := goodIn_app (goodIn_of _ (by decide +kernel)) ggX2_entryBehindName_X2_placeOf
set_option maxRecDepth 20000 in
theorem ggX2_entryBehindName_X2_nameOfEntry : GoodIn wsX2_entryBehindName wsX2_nameOfEntry := goodIn_r _ [21] (by decide +kernel) (by decide +kernel)
set_option maxRecDepth 20000 in
theorem gX2_entryBehindName_X2_nameOfEntry : GoodIn wsX2_entryBehindName (va_wsS RX2 186 yX2_nameOfEntry wsX2_nameOfEntry) := goodIn_app (goodIn_of _ (by decide +kernel)) ggX2_entryBehindName_X2_nameOfEntry
theorem dX2_entryBehindName_0 : decode cX2_entryBehindName 0 = .ok (.iconst 0, 1) := by decide +kernel
theorem dX2_entryBehindName_1 : decode cX2_entryBehindName 1 = .ok (.istore_n 3, 1) := by decide +kernel
theorem dX2_entryBehindName_2 : decode cX2_entryBehindName 2 = .ok (.iconst 0, 1) := by decide +kernel
theorem dX2_entryBehindName_3 : decode cX2_entryBehindName 3 = .ok (.istore 4, 2) := by decide +kernel
theorem dX2_entryBehindName_5 : decode cX2_entryBehindName 5 = .ok (.iload 4, 2) := by decide +kernel
theorem dX2_entryBehindName_7 : decode cX2_entryBehindName 7 = .ok (.bipush 8, 2) := by decide +kernel
theorem dX2_entryBehindName_9 : decode cX2_entryBehindName 9 = .ok (.if_icmp .ge 46, 3) := by decide +kernel
theorem dX2_entryBehindName_12 : decode cX2_entryBehindName 12 = .ok (.aload_n 0, 1) := by decide +kernel
theorem dX2_entryBehindName_13 : decode cX2_entryBehindName 13 = .ok (.iload_n 1, 1) := by decide +kernel
theorem dX2_entryBehindName_14 : decode cX2_entryBehindName 14 = .ok (.iload 4, 2) := by decide +kernel
theorem dX2_entryBehindName_16 : decode cX2_entryBehindName 16 = .ok (.invokevirtual 86, 3) := by decide +kernel
theorem dX2_entryBehindName_19 : decode cX2_entryBehindName 19 = .ok (.istore 5, 2) := by decide +kernel
theorem dX2_entryBehindName_21 : decode cX2_entryBehindName 21 = .ok (.iload 5, 2) := by decide +kernel
theorem dX2_entryBehindName_23 : decode cX2_entryBehindName 23 = .ok (.invokestatic 186, 3) := by decide +kernel
theorem dX2_entryBehindName_26 : decode cX2_entryBehindName 26 = .ok (.iload_n 2, 1) := by decide +kernel
theorem dX2_entryBehindName_27 : decode cX2_entryBehindName 27 = .ok (.if_icmp .le 22, 3) := by decide +kernel
theorem dX2_entryBehindName_30 : decode cX2_entryBehindName 30 = .ok (.iload_n 3, 1) := by decide +kernel
theorem dX2_entryBehindName_31 : decode cX2_entryBehindName 31 = .ok (.ifCond .eq 15, 3) := by decide +kernel
theorem dX2_entryBehindName_34 : decode cX2_entryBehindName 34 = .ok (.iload 5, 2) := by decide +kernel
theorem dX2_entryBehindName_36 : decode cX2_entryBehindName 36 = .ok (.invokestatic 186, 3) := by decide +kernel
theorem dX2_entryBehindName_39 : decode cX2_entryBehindName 39 = .ok (.iload_n 3, 1) := by decide +kernel
theorem dX2_entryBehindName_40 : decode cX2_entryBehindName 40 = .ok (.invokestatic 186, 3) := by decide +kernel
theorem dX2_entryBehindName_43 : decode cX2_entryBehindName 43 = .ok (.if_icmp .ge 6, 3) := by decide +kernel
theorem dX2_entryBehindName_46 : decode cX2_entryBehindName 46 = .ok (.iload 5, 2) := by decide +kernel
theorem dX2_entryBehindName_48 : decode cX2_entryBehindName 48 = .ok (.istore_n 3, 1) := by decide +kernel
theorem dX2_entryBehindName_49 : decode cX2_entryBehindName 49 = .ok (.iinc 4 1, 3) := by decide +kernel
theorem dX2_entryBehindName_52 : decode cX2_entryBehindName 52 = .ok (.goto (-47), 3) := by decide +kernel
theorem dX2_entryBehindName_55 : decode cX2_entryBehindName 55 = .ok (.iload_n 3, 1) := by decide +kernel
theorem dX2_entryBehindName_56 : decode cX2_entryBehindName 56 = .ok (.ireturn, 1) := by decide +kernel
set_option maxRecDepth 20000 in
theorem ggX2_hashOfFile_X2_sizeOf : GoodIn wsX2_hashOfFile wsX2_sizeOf := goodIn_r _ [8, 3, 9, 10, 7, 11, 12, 13, 14, 15, 16, 17, 28, 29, 30, 31, 32, 33, 34, 35, 36, 37] (by decide +kernel) (by decide +kernel)
set_option maxRecDepth 20000 in
theorem gX2_hashOfFile_X2_sizeOf : GoodIn wsX2_hashOfFile (wsV RX2 73 RX2 yX2_sizeOf wsX2_sizeOf) := goodIn_app (goodIn_of _ (by decide +kernel)) ggX2_hashOfFile_X2_sizeOf
set_option maxRecDepth 20000 in
theorem ggX2_hashOfFile_X2_placeOf : GoodIn wsX2_hashOfFile wsX2_placeOf := goodIn_r _ [21, 3, 22, 23, 7, 24, 9, 10, 11, 12, 13, 14, 15, 16, 17, 28, 29, 30, 31, 32, 33, 34, 35, 36, 37] (by decide +kernel) (by decide +kernel)
set_option maxRecDepth 20000 in
theorem gX2_hashOfFile_X2_placeOf : GoodIn wsX2_hashOfFile (wsV RX2 86 RX2 yX2_placeOf wsX2_placeOf) := goodIn_app (goodIn_of _ (by decide +kernel)) ggX2_hashOfFile_X2_placeOf
set_option maxRecDepth 20000 in
theorem ggX2_hashOfFile_X2_dataAt : GoodIn wsX2_hashOfFile wsX2_dataAt := goodIn_r _ [27] (by decide +kernel) (by decide +kernel)
set_option maxRecDepth 20000 in
theorem gX2_hashOfFile_X2_dataAt : GoodIn wsX2_hashOfFile (va_wsS RX2 79 yX2_dataAt wsX2_dataAt) := goodIn_app (goodIn_of _ (by decide +kernel)) ggX2_hashOfFile_X2_dataAt
set_option maxRecDepth 20000 in
theorem ggX2_hashOfFile_X0_word : GoodIn wsX2_hashOfFile wsX0_word := goodIn_r _ [16, 17, 33, 34, 35, 36, 37] (by decide +kernel) (by decide +kernel)
set_option maxRecDepth 20000 in
theorem gX2_hashOfFile_X0_word : GoodIn wsX2_hashOfFile (wsV RX2 137 RX0 yX0_word wsX0_word) := goodIn_app (goodIn_of _ (by decide +kernel)) ggX2_hashOfFile_X0_word
theorem dX2_hashOfFile_0 : decode cX2_hashOfFile 0 = .ok (.aload_n 0, 1) := by decide +kernel
theorem dX2_hashOfFile_1 : decode cX2_hashOfFile 1 = .ok (.iload_n 3, 1) := by decide +kernel
theorem dX2_hashOfFile_2 : decode cX2_hashOfFile 2 = .ok (.invokevirtual 73, 3) := by decide +kernel
theorem dX2_hashOfFile_5 : decode cX2_hashOfFile 5 = .ok (.istore 4, 2) := by decide +kernel
theorem dX2_hashOfFile_7 : decode cX2_hashOfFile 7 = .ok (.ldc2_w 181, 3) := by decide +kernel
theorem dX2_hashOfFile_10 : decode cX2_hashOfFile 10 = .ok (.ldc2_w 181, 3) := by decide +kernel
theorem dX2_hashOfFile_13 : decode cX2_hashOfFile 13 = .ok (.lload_n 1, 1) := by decide +kernel
theorem dX2_hashOfFile_14 : decode cX2_hashOfFile 14 = .ok (.lmul, 1) := by decide +kernel
theorem dX2_hashOfFile_15 : decode cX2_hashOfFile 15 = .ok (.ldc2_w 212, 3) := by decide +kernel
theorem dX2_hashOfFile_18 : decode cX2_hashOfFile 18 = .ok (.ladd, 1) := by decide +kernel
theorem dX2_hashOfFile_19 : decode cX2_hashOfFile 19 = .ok (.lmul, 1) := by decide +kernel
theorem dX2_hashOfFile_20 : decode cX2_hashOfFile 20 = .ok (.iload 4, 2) := by decide +kernel
theorem dX2_hashOfFile_22 : decode cX2_hashOfFile 22 = .ok (.i2l, 1) := by decide +kernel
theorem dX2_hashOfFile_23 : decode cX2_hashOfFile 23 = .ok (.ladd, 1) := by decide +kernel
theorem dX2_hashOfFile_24 : decode cX2_hashOfFile 24 = .ok (.lstore 5, 2) := by decide +kernel
theorem dX2_hashOfFile_26 : decode cX2_hashOfFile 26 = .ok (.iconst 0, 1) := by decide +kernel
theorem dX2_hashOfFile_27 : decode cX2_hashOfFile 27 = .ok (.istore 7, 2) := by decide +kernel
theorem dX2_hashOfFile_29 : decode cX2_hashOfFile 29 = .ok (.iload 7, 2) := by decide +kernel
theorem dX2_hashOfFile_31 : decode cX2_hashOfFile 31 = .ok (.iload 4, 2) := by decide +kernel
theorem dX2_hashOfFile_33 : decode cX2_hashOfFile 33 = .ok (.if_icmp .ge 52, 3) := by decide +kernel
theorem dX2_hashOfFile_36 : decode cX2_hashOfFile 36 = .ok (.iconst 0, 1) := by decide +kernel
theorem dX2_hashOfFile_37 : decode cX2_hashOfFile 37 = .ok (.istore 8, 2) := by decide +kernel
theorem dX2_hashOfFile_39 : decode cX2_hashOfFile 39 = .ok (.iload 8, 2) := by decide +kernel
theorem dX2_hashOfFile_41 : decode cX2_hashOfFile 41 = .ok (.iconst 3, 1) := by decide +kernel
theorem dX2_hashOfFile_42 : decode cX2_hashOfFile 42 = .ok (.if_icmp .ge 37, 3) := by decide +kernel
theorem dX2_hashOfFile_45 : decode cX2_hashOfFile 45 = .ok (.ldc2_w 181, 3) := by decide +kernel
theorem dX2_hashOfFile_48 : decode cX2_hashOfFile 48 = .ok (.lload 5, 2) := by decide +kernel
theorem dX2_hashOfFile_50 : decode cX2_hashOfFile 50 = .ok (.lmul, 1) := by decide +kernel
theorem dX2_hashOfFile_51 : decode cX2_hashOfFile 51 = .ok (.aload_n 0, 1) := by decide +kernel
theorem dX2_hashOfFile_52 : decode cX2_hashOfFile 52 = .ok (.getfield 12, 3) := by decide +kernel
theorem dX2_hashOfFile_55 : decode cX2_hashOfFile 55 = .ok (.aload_n 0, 1) := by decide +kernel
theorem dX2_hashOfFile_56 : decode cX2_hashOfFile 56 = .ok (.iload_n 3, 1) := by decide +kernel
theorem dX2_hashOfFile_57 : decode cX2_hashOfFile 57 = .ok (.iload 7, 2) := by decide +kernel
theorem dX2_hashOfFile_59 : decode cX2_hashOfFile 59 = .ok (.invokevirtual 86, 3) := by decide +kernel
theorem dX2_hashOfFile_62 : decode cX2_hashOfFile 62 = .ok (.iload 8, 2) := by decide +kernel
theorem dX2_hashOfFile_64 : decode cX2_hashOfFile 64 = .ok (.invokestatic 79, 3) := by decide +kernel
theorem dX2_hashOfFile_67 : decode cX2_hashOfFile 67 = .ok (.invokevirtual 137, 3) := by decide +kernel
theorem dX2_hashOfFile_70 : decode cX2_hashOfFile 70 = .ok (.ladd, 1) := by decide +kernel
theorem dX2_hashOfFile_71 : decode cX2_hashOfFile 71 = .ok (.lstore 5, 2) := by decide +kernel
theorem dX2_hashOfFile_73 : decode cX2_hashOfFile 73 = .ok (.iinc 8 1, 3) := by decide +kernel
theorem dX2_hashOfFile_76 : decode cX2_hashOfFile 76 = .ok (.goto (-37), 3) := by decide +kernel
theorem dX2_hashOfFile_79 : decode cX2_hashOfFile 79 = .ok (.iinc 7 1, 3) := by decide +kernel
theorem dX2_hashOfFile_82 : decode cX2_hashOfFile 82 = .ok (.goto (-53), 3) := by decide +kernel
theorem dX2_hashOfFile_85 : decode cX2_hashOfFile 85 = .ok (.lload 5, 2) := by decide +kernel
theorem dX2_hashOfFile_87 : decode cX2_hashOfFile 87 = .ok (.lreturn, 1) := by decide +kernel
theorem dX3_init_0 : decode cX3_init 0 = .ok (.aload_n 0, 1) := by decide +kernel
theorem dX3_init_1 : decode cX3_init 1 = .ok (.invokespecial 1, 3) := by decide +kernel
theorem dX3_init_4 : decode cX3_init 4 = .ok (.aload_n 0, 1) := by decide +kernel
theorem dX3_init_5 : decode cX3_init 5 = .ok (.bipush 12, 2) := by decide +kernel
theorem dX3_init_7 : decode cX3_init 7 = .ok (.newarray .int, 2) := by decide +kernel
theorem dX3_init_9 : decode cX3_init 9 = .ok (.putfield 7, 3) := by decide +kernel
theorem dX3_init_12 : decode cX3_init 12 = .ok (.aload_n 0, 1) := by decide +kernel
theorem dX3_init_13 : decode cX3_init 13 = .ok (.bipush 12, 2) := by decide +kernel
theorem dX3_init_15 : decode cX3_init 15 = .ok (.newarray .int, 2) := by decide +kernel
theorem dX3_init_17 : decode cX3_init 17 = .ok (.putfield 13, 3) := by decide +kernel
theorem dX3_init_20 : decode cX3_init 20 = .ok (.aload_n 0, 1) := by decide +kernel
theorem dX3_init_21 : decode cX3_init 21 = .ok (.bipush 96, 2) := by decide +kernel
theorem dX3_init_23 : decode cX3_init 23 = .ok (.newarray .int, 2) := by decide +kernel
theorem dX3_init_25 : decode cX3_init 25 = .ok (.putfield 16, 3) := by decide +kernel
theorem dX3_init_28 : decode cX3_init 28 = .ok (.aload_n 0, 1) := by decide +kernel
theorem dX3_init_29 : decode cX3_init 29 = .ok (.bipush 120, 2) := by decide +kernel
theorem dX3_init_31 : decode cX3_init 31 = .ok (.newarray .long, 2) := by decide +kernel
theorem dX3_init_33 : decode cX3_init 33 = .ok (.putfield 19, 3) := by decide +kernel
theorem dX3_init_36 : decode cX3_init 36 = .ok (.aload_n 0, 1) := by decide +kernel
theorem dX3_init_37 : decode cX3_init 37 = .ok (.iconst 4, 1) := by decide +kernel
theorem dX3_init_38 : decode cX3_init 38 = .ok (.newarray .int, 2) := by decide +kernel
theorem dX3_init_40 : decode cX3_init 40 = .ok (.putfield 23, 3) := by decide +kernel
theorem dX3_init_43 : decode cX3_init 43 = .ok (.aload_n 0, 1) := by decide +kernel
theorem dX3_init_44 : decode cX3_init 44 = .ok (.bipush (-3), 2) := by decide +kernel
theorem dX3_init_46 : decode cX3_init 46 = .ok (.putfield 26, 3) := by decide +kernel
theorem dX3_init_49 : decode cX3_init 49 = .ok (.aload_n 0, 1) := by decide +kernel
theorem dX3_init_50 : decode cX3_init 50 = .ok (.bipush 12, 2) := by decide +kernel
theorem dX3_init_52 : decode cX3_init 52 = .ok (.newarray .int, 2) := by decide +kernel
theorem dX3_init_54 : decode cX3_init 54 = .ok (.putfield 30, 3) := by decide +kernel
theorem dX3_init_57 : decode cX3_init 57 = .ok (.aload_n 0, 1) := by decide +kernel
theorem dX3_init_58 : decode cX3_init 58 = .ok (.bipush 12, 2) := by decide +kernel
theorem dX3_init_60 : decode cX3_init 60 = .ok (.newarray .int, 2) := by decide +kernel
theorem dX3_init_62 : decode cX3_init 62 = .ok (.putfield 33, 3) := by decide +kernel
theorem dX3_init_65 : decode cX3_init 65 = .ok (.aload_n 0, 1) := by decide +kernel
theorem dX3_init_66 : decode cX3_init 66 = .ok (.getfield 7, 3) := by decide +kernel
theorem dX3_init_69 : decode cX3_init 69 = .ok (.iconst 0, 1) := by decide +kernel
theorem dX3_init_70 : decode cX3_init 70 = .ok (.iconst 1, 1) := by decide +kernel
theorem dX3_init_71 : decode cX3_init 71 = .ok (.iastore, 1) := by decide +kernel
theorem dX3_init_72 : decode cX3_init 72 = .ok (.return_, 1) := by decide +kernel
theorem dX3_in_0 : decode cX3_in 0 = .ok (.lload_n 0, 1) := by decide +kernel
theorem dX3_in_1 : decode cX3_in 1 = .ok (.lload_n 2, 1) := by decide +kernel
theorem dX3_in_2 : decode cX3_in 2 = .ok (.lcmp, 1) := by decide +kernel
theorem dX3_in_3 : decode cX3_in 3 = .ok (.ifCond .lt 14, 3) := by decide +kernel
theorem dX3_in_6 : decode cX3_in 6 = .ok (.lload_n 0, 1) := by decide +kernel
theorem dX3_in_7 : decode cX3_in 7 = .ok (.lload 4, 2) := by decide +kernel
theorem dX3_in_9 : decode cX3_in 9 = .ok (.lcmp, 1) := by decide +kernel
theorem dX3_in_10 : decode cX3_in 10 = .ok (.ifCond .gt 7, 3) := by decide +kernel
theorem dX3_in_13 : decode cX3_in 13 = .ok (.iconst 1, 1) := by decide +kernel
theorem dX3_in_14 : decode cX3_in 14 = .ok (.goto 4, 3) := by decide +kernel
theorem dX3_in_17 : decode cX3_in 17 = .ok (.iconst 0, 1) := by decide +kernel
theorem dX3_in_18 : decode cX3_in 18 = .ok (.ireturn, 1) := by decide +kernel
theorem dX3_power_0 : decode cX3_power 0 = .ok (.aload_n 0, 1) := by decide +kernel
theorem dX3_power_1 : decode cX3_power 1 = .ok (.getfield 36, 3) := by decide +kernel
theorem dX3_power_4 : decode cX3_power 4 = .ok (.ifCond .eq 5, 3) := by decide +kernel
theorem dX3_power_7 : decode cX3_power 7 = .ok (.iconst 0, 1) := by decide +kernel
theorem dX3_power_8 : decode cX3_power 8 = .ok (.ireturn, 1) := by decide +kernel
theorem dX3_power_9 : decode cX3_power 9 = .ok (.aload_n 0, 1) := by decide +kernel
theorem dX3_power_10 : decode cX3_power 10 = .ok (.getfield 26, 3) := by decide +kernel
theorem dX3_power_13 : decode cX3_power 13 = .ok (.ifCond .ne 16, 3) := by decide +kernel
theorem dX3_power_16 : decode cX3_power 16 = .ok (.aload_n 0, 1) := by decide +kernel
theorem dX3_power_17 : decode cX3_power 17 = .ok (.iconst 1, 1) := by decide +kernel
theorem dX3_power_18 : decode cX3_power 18 = .ok (.putfield 36, 3) := by decide +kernel
theorem dX3_power_21 : decode cX3_power 21 = .ok (.aload_n 0, 1) := by decide +kernel
theorem dX3_power_22 : decode cX3_power 22 = .ok (.bipush (-3), 2) := by decide +kernel
theorem dX3_power_24 : decode cX3_power 24 = .ok (.putfield 26, 3) := by decide +kernel
theorem dX3_power_27 : decode cX3_power 27 = .ok (.iconst 0, 1) := by decide +kernel
theorem dX3_power_28 : decode cX3_power 28 = .ok (.ireturn, 1) := by decide +kernel
theorem dX3_power_29 : decode cX3_power 29 = .ok (.aload_n 0, 1) := by decide +kernel
theorem dX3_power_30 : decode cX3_power 30 = .ok (.dup, 1) := by decide +kernel
theorem dX3_power_31 : decode cX3_power 31 = .ok (.getfield 26, 3) := by decide +kernel
theorem dX3_power_34 : decode cX3_power 34 = .ok (.aload_n 0, 1) := by decide +kernel
theorem dX3_power_35 : decode cX3_power 35 = .ok (.getfield 26, 3) := by decide +kernel
theorem dX3_power_38 : decode cX3_power 38 = .ok (.ifCond .le 7, 3) := by decide +kernel
theorem dX3_power_41 : decode cX3_power 41 = .ok (.iconst 1, 1) := by decide +kernel
theorem dX3_power_42 : decode cX3_power 42 = .ok (.goto 4, 3) := by decide +kernel
theorem dX3_power_45 : decode cX3_power 45 = .ok (.iconst 0, 1) := by decide +kernel
theorem dX3_power_46 : decode cX3_power 46 = .ok (.isub, 1) := by decide +kernel
theorem dX3_power_47 : decode cX3_power 47 = .ok (.putfield 26, 3) := by decide +kernel
theorem dX3_power_50 : decode cX3_power 50 = .ok (.aload_n 0, 1) := by decide +kernel
theorem dX3_power_51 : decode cX3_power 51 = .ok (.dup, 1) := by decide +kernel
theorem dX3_power_52 : decode cX3_power 52 = .ok (.getfield 40, 3) := by decide +kernel
theorem dX3_power_55 : decode cX3_power 55 = .ok (.iconst 1, 1) := by decide +kernel
theorem dX3_power_56 : decode cX3_power 56 = .ok (.iadd, 1) := by decide +kernel
theorem dX3_power_57 : decode cX3_power 57 = .ok (.putfield 40, 3) := by decide +kernel
theorem dX3_power_60 : decode cX3_power 60 = .ok (.iconst 1, 1) := by decide +kernel
theorem dX3_power_61 : decode cX3_power 61 = .ok (.ireturn, 1) := by decide +kernel
set_option maxRecDepth 20000 in
theorem ggX3_setKind_X3_power : GoodIn wsX3_setKind wsX3_power := goodIn_r _ [6, 7, 8, 9, 10, 11, 12, 13, 14, 15, 16, 17, 18, 19, 20, 21, 22, 23, 24, 25] (by decide +kernel) (by decide +kernel)
set_option maxRecDepth 20000 in
theorem gX3_setKind_X3_power : GoodIn wsX3_setKind (wsV RX3 43 RX3 yX3_power wsX3_power) := goodIn_app (goodIn_of _ (by decide +kernel)) ggX3_setKind_X3_power
theorem dX3_setKind_0 : decode cX3_setKind 0 = .ok (.aload_n 0, 1) := by decide +kernel
theorem dX3_setKind_1 : decode cX3_setKind 1 = .ok (.invokevirtual 43, 3) := by decide +kernel
theorem dX3_setKind_4 : decode cX3_setKind 4 = .ok (.ifCond .eq 10, 3) := by decide +kernel
theorem dX3_setKind_7 : decode cX3_setKind 7 = .ok (.aload_n 0, 1) := by decide +kernel
theorem dX3_setKind_8 : decode cX3_setKind 8 = .ok (.getfield 7, 3) := by decide +kernel
theorem dX3_setKind_11 : decode cX3_setKind 11 = .ok (.iload_n 1, 1) := by decide +kernel
theorem dX3_setKind_12 : decode cX3_setKind 12 = .ok (.iload_n 2, 1) := by decide +kernel
theorem dX3_setKind_13 : decode cX3_setKind 13 = .ok (.iastore, 1) := by decide +kernel
theorem dX3_setKind_14 : decode cX3_setKind 14 = .ok (.return_, 1) := by decide +kernel
set_option maxRecDepth 20000 in
theorem ggX3_setSize_X3_power : GoodIn wsX3_setSize wsX3_power := goodIn_r _ [6, 7, 8, 9, 10, 11, 12, 13, 14, 15, 16, 17, 18, 19, 20, 21, 22, 23, 24, 25] (by decide +kernel) (by decide +kernel)
set_option maxRecDepth 20000 in
theorem gX3_setSize_X3_power : GoodIn wsX3_setSize (wsV RX3 43 RX3 yX3_power wsX3_power) := goodIn_app (goodIn_of _ (by decide +kernel)) ggX3_setSize_X3_power
theorem dX3_setSize_0 : decode cX3_setSize 0 = .ok (.aload_n 0, 1) := by decide +kernel
theorem dX3_setSize_1 : decode cX3_setSize 1 = .ok (.invokevirtual 43, 3) := by decide +kernel
theorem dX3_setSize_4 : decode cX3_setSize 4 = .ok (.ifCond .eq 10, 3) := by decide +kernel
theorem dX3_setSize_7 : decode cX3_setSize 7 = .ok (.aload_n 0, 1) := by decide +kernel
theorem dX3_setSize_8 : decode cX3_setSize 8 = .ok (.getfield 13, 3) := by decide +kernel
theorem dX3_setSize_11 : decode cX3_setSize 11 = .ok (.iload_n 1, 1) := by decide +kernel
theorem dX3_setSize_12 : decode cX3_setSize 12 = .ok (.iload_n 2, 1) := by decide +kernel
theorem dX3_setSize_13 : decode cX3_setSize 13 = .ok (.iastore, 1) := by decide +kernel
theorem dX3_setSize_14 : decode cX3_setSize 14 = .ok (.return_, 1) := by decide +kernel
set_option maxRecDepth 20000 in
theorem ggX3_setPlace_X3_power : GoodIn wsX3_setPlace wsX3_power := goodIn_r _ [6, 7, 8, 9, 10, 11, 12, 13, 14, 15, 16, 17, 18, 19, 20, 21, 22, 23, 24, 25] (by decide +kernel) (by decide +kernel)
set_option maxRecDepth 20000 in
theorem gX3_setPlace_X3_power : GoodIn wsX3_setPlace (wsV RX3 43 RX3 yX3_power wsX3_power) := goodIn_app (goodIn_of _ (by decide +kernel)) ggX3_setPlace_X3_power
theorem dX3_setPlace_0 : decode cX3_setPlace 0 = .ok (.aload_n 0, 1) := by decide +kernel
theorem dX3_setPlace_1 : decode cX3_setPlace 1 = .ok (.invokevirtual 43, 3) := by decide +kernel
theorem dX3_setPlace_4 : decode cX3_setPlace 4 = .ok (.ifCond .eq 15, 3) := by decide +kernel
theorem dX3_setPlace_7 : decode cX3_setPlace 7 = .ok (.aload_n 0, 1) := by decide +kernel
theorem dX3_setPlace_8 : decode cX3_setPlace 8 = .ok (.getfield 16, 3) := by decide +kernel
theorem dX3_setPlace_11 : decode cX3_setPlace 11 = .ok (.bipush 8, 2) := by decide +kernel
theorem dX3_setPlace_13 : decode cX3_setPlace 13 = .ok (.iload_n 1, 1) := by decide +kernel
theorem dX3_setPlace_14 : decode cX3_setPlace 14 = .ok (.imul, 1) := by decide +kernel
theorem dX3_setPlace_15 : decode cX3_setPlace 15 = .ok (.iload_n 2, 1) := by decide +kernel
theorem dX3_setPlace_16 : decode cX3_setPlace 16 = .ok (.iadd, 1) := by decide +kernel
theorem dX3_setPlace_17 : decode cX3_setPlace 17 = .ok (.iload_n 3, 1) := by decide +kernel
theorem dX3_setPlace_18 : decode cX3_setPlace 18 = .ok (.iastore, 1) := by decide +kernel
theorem dX3_setPlace_19 : decode cX3_setPlace 19 = .ok (.return_, 1) := by decide +kernel
set_option maxRecDepth 20000 in
theorem ggX3_setData_X3_power : GoodIn wsX3_setData wsX3_power := goodIn_r _ [6, 7, 8, 9, 10, 11, 12, 13, 14, 15, 16, 17, 18, 19, 20, 21, 22, 23, 24, 25] (by decide +kernel) (by decide +kernel)
set_option maxRecDepth 20000 in
theorem gX3_setData_X3_power : GoodIn wsX3_setData (wsV RX3 43 RX3 yX3_power wsX3_power) := goodIn_app (goodIn_of _ (by decide +kernel)) ggX3_setData_X3_power
theorem dX3_setData_0 : decode cX3_setData 0 = .ok (.aload_n 0, 1) := by decide +kernel
theorem dX3_setData_1 : decode cX3_setData 1 = .ok (.invokevirtual 43, 3) := by decide +kernel
theorem dX3_setData_4 : decode cX3_setData 4 = .ok (.ifCond .eq 14, 3) := by decide +kernel
theorem dX3_setData_7 : decode cX3_setData 7 = .ok (.aload_n 0, 1) := by decide +kernel
theorem dX3_setData_8 : decode cX3_setData 8 = .ok (.getfield 19, 3) := by decide +kernel
theorem dX3_setData_11 : decode cX3_setData 11 = .ok (.iconst 3, 1) := by decide +kernel
theorem dX3_setData_12 : decode cX3_setData 12 = .ok (.iload_n 1, 1) := by decide +kernel
theorem dX3_setData_13 : decode cX3_setData 13 = .ok (.imul, 1) := by decide +kernel
theorem dX3_setData_14 : decode cX3_setData 14 = .ok (.iload_n 2, 1) := by decide +kernel
theorem dX3_setData_15 : decode cX3_setData 15 = .ok (.iadd, 1) := by decide +kernel
theorem dX3_setData_16 : decode cX3_setData 16 = .ok (.lload_n 3, 1) := by decide +kernel
theorem dX3_setData_17 : decode cX3_setData 17 = .ok (.lastore, 1) := by decide +kernel
theorem dX3_setData_18 : decode cX3_setData 18 = .ok (.return_, 1) := by decide +kernel
set_option maxRecDepth 20000 in
theorem ggX3_setRecord_X3_power : GoodIn wsX3_setRecord wsX3_power := goodIn_r _ [6, 7, 8, 9, 10, 11, 12, 13, 14, 15, 16, 17, 18, 19, 20, 21, 22, 23, 24, 25] (by decide +kernel) (by decide +kernel)
set_option maxRecDepth 20000 in
theorem gX3_setRecord_X3_power : GoodIn wsX3_setRecord (wsV RX3 43 RX3 yX3_power wsX3_power) := goodIn_app (goodIn_of _ (by decide +kernel)) ggX3_setRecord_X3_power
theorem dX3_setRecord_0 : decode cX3_setRecord 0 = .ok (.aload_n 0, 1) := by decide +kernel
theorem dX3_setRecord_1 : decode cX3_setRecord 1 = .ok (.invokevirtual 43, 3) := by decide +kernel
theorem dX3_setRecord_4 : decode cX3_setRecord 4 = .ok (.ifCond .eq 10, 3) := by decide +kernel
theorem dX3_setRecord_7 : decode cX3_setRecord 7 = .ok (.aload_n 0, 1) := by decide +kernel
theorem dX3_setRecord_8 : decode cX3_setRecord 8 = .ok (.getfield 23, 3) := by decide +kernel
theorem dX3_setRecord_11 : decode cX3_setRecord 11 = .ok (.iload_n 1, 1) := by decide +kernel
theorem dX3_setRecord_12 : decode cX3_setRecord 12 = .ok (.iload_n 2, 1) := by decide +kernel
theorem dX3_setRecord_13 : decode cX3_setRecord 13 = .ok (.iastore, 1) := by decide +kernel
theorem dX3_setRecord_14 : decode cX3_setRecord 14 = .ok (.return_, 1) := by decide +kernel
set_option maxRecDepth 20000 in
theorem ggX3_cut_X3_in : GoodIn wsX3_cut wsX3_in := goodIn_r _ [6] (by decide +kernel) (by decide +kernel)
set_option maxRecDepth 20000 in
theorem gX3_cut_X3_in : GoodIn wsX3_cut (va_wsS RX3 49 yX3_in wsX3_in) := goodIn_app (goodIn_of _ (by decide +kernel)) ggX3_cut_X3_in
theorem dX3_cut_0 : decode cX3_cut 0 = .ok (.iload_n 1, 1) := by decide +kernel
theorem dX3_cut_1 : decode cX3_cut 1 = .ok (.bipush (-3), 2) := by decide +kernel
theorem dX3_cut_3 : decode cX3_cut 3 = .ok (.if_icmp .eq 17, 3) := by decide +kernel
theorem dX3_cut_6 : decode cX3_cut 6 = .ok (.iload_n 1, 1) := by decide +kernel
theorem dX3_cut_7 : decode cX3_cut 7 = .ok (.i2l, 1) := by decide +kernel
theorem dX3_cut_8 : decode cX3_cut 8 = .ok (.lconst 0, 1) := by decide +kernel
theorem dX3_cut_9 : decode cX3_cut 9 = .ok (.ldc2_w 47, 3) := by decide +kernel
theorem dX3_cut_12 : decode cX3_cut 12 = .ok (.invokestatic 49, 3) := by decide +kernel
theorem dX3_cut_15 : decode cX3_cut 15 = .ok (.ifCond .ne 5, 3) := by decide +kernel
theorem dX3_cut_18 : decode cX3_cut 18 = .ok (.iconst (-1), 1) := by decide +kernel
theorem dX3_cut_19 : decode cX3_cut 19 = .ok (.ireturn, 1) := by decide +kernel
theorem dX3_cut_20 : decode cX3_cut 20 = .ok (.aload_n 0, 1) := by decide +kernel
theorem dX3_cut_21 : decode cX3_cut 21 = .ok (.getfield 26, 3) := by decide +kernel
theorem dX3_cut_24 : decode cX3_cut 24 = .ok (.istore_n 2, 1) := by decide +kernel
theorem dX3_cut_25 : decode cX3_cut 25 = .ok (.aload_n 0, 1) := by decide +kernel
theorem dX3_cut_26 : decode cX3_cut 26 = .ok (.iload_n 1, 1) := by decide +kernel
theorem dX3_cut_27 : decode cX3_cut 27 = .ok (.putfield 26, 3) := by decide +kernel
theorem dX3_cut_30 : decode cX3_cut 30 = .ok (.iload_n 2, 1) := by decide +kernel
theorem dX3_cut_31 : decode cX3_cut 31 = .ok (.ireturn, 1) := by decide +kernel
set_option maxRecDepth 20000 in
theorem ggX3_isInode_X3_in : GoodIn wsX3_isInode wsX3_in := goodIn_r _ [6] (by decide +kernel) (by decide +kernel)
set_option maxRecDepth 20000 in
theorem gX3_isInode_X3_in : GoodIn wsX3_isInode (va_wsS RX3 49 yX3_in wsX3_in) := goodIn_app (goodIn_of _ (by decide +kernel)) ggX3_isInode_X3_in
theorem dX3_isInode_0 : decode cX3_isInode 0 = .ok (.iload_n 1, 1) := by decide +kernel
theorem dX3_isInode_1 : decode cX3_isInode 1 = .ok (.i2l, 1) := by decide +kernel
theorem dX3_isInode_2 : decode cX3_isInode 2 = .ok (.lconst 0, 1) := by decide +kernel
theorem dX3_isInode_3 : decode cX3_isInode 3 = .ok (.ldc2_w 53, 3) := by decide +kernel
theorem dX3_isInode_6 : decode cX3_isInode 6 = .ok (.invokestatic 49, 3) := by decide +kernel
theorem dX3_isInode_9 : decode cX3_isInode 9 = .ok (.ifCond .eq 17, 3) := by decide +kernel
theorem dX3_isInode_12 : decode cX3_isInode 12 = .ok (.aload_n 0, 1) := by decide +kernel
theorem dX3_isInode_13 : decode cX3_isInode 13 = .ok (.getfield 7, 3) := by decide +kernel
theorem dX3_isInode_16 : decode cX3_isInode 16 = .ok (.iload_n 1, 1) := by decide +kernel
theorem dX3_isInode_17 : decode cX3_isInode 17 = .ok (.iaload, 1) := by decide +kernel
theorem dX3_isInode_18 : decode cX3_isInode 18 = .ok (.iload_n 2, 1) := by decide +kernel
theorem dX3_isInode_19 : decode cX3_isInode 19 = .ok (.if_icmp .ne 7, 3) := by decide +kernel
theorem dX3_isInode_22 : decode cX3_isInode 22 = .ok (.iconst 1, 1) := by decide +kernel
theorem dX3_isInode_23 : decode cX3_isInode 23 = .ok (.goto 4, 3) := by decide +kernel
theorem dX3_isInode_26 : decode cX3_isInode 26 = .ok (.iconst 0, 1) := by decide +kernel
theorem dX3_isInode_27 : decode cX3_isInode 27 = .ok (.ireturn, 1) := by decide +kernel
set_option maxRecDepth 20000 in
theorem ggX3_isName_X3_in : GoodIn wsX3_isName wsX3_in := goodIn_r _ [5] (by decide +kernel) (by decide +kernel)
set_option maxRecDepth 20000 in
theorem gX3_isName_X3_in : GoodIn wsX3_isName (va_wsS RX3 49 yX3_in wsX3_in) := goodIn_app (goodIn_of _ (by decide +kernel)) ggX3_isName_X3_in
theorem dX3_isName_0 : decode cX3_isName 0 = .ok (.iload_n 0, 1) := by decide +kernel
theorem dX3_isName_1 : decode cX3_isName 1 = .ok (.i2l, 1) := by decide +kernel
theorem dX3_isName_2 : decode cX3_isName 2 = .ok (.lconst 1, 1) := by decide +kernel
theorem dX3_isName_3 : decode cX3_isName 3 = .ok (.ldc2_w 55, 3) := by decide +kernel
theorem dX3_isName_6 : decode cX3_isName 6 = .ok (.invokestatic 49, 3) := by decide +kernel
theorem dX3_isName_9 : decode cX3_isName 9 = .ok (.ireturn, 1) := by decide +kernel
theorem dX3_entry_0 : decode cX3_entry 0 = .ok (.iconst 0, 1) := by decide +kernel
theorem dX3_entry_1 : decode cX3_entry 1 = .ok (.istore_n 3, 1) := by decide +kernel
theorem dX3_entry_2 : decode cX3_entry 2 = .ok (.iload_n 3, 1) := by decide +kernel
theorem dX3_entry_3 : decode cX3_entry 3 = .ok (.bipush 8, 2) := by decide +kernel
theorem dX3_entry_5 : decode cX3_entry 5 = .ok (.if_icmp .ge 43, 3) := by decide +kernel
theorem dX3_entry_8 : decode cX3_entry 8 = .ok (.aload_n 0, 1) := by decide +kernel
theorem dX3_entry_9 : decode cX3_entry 9 = .ok (.getfield 16, 3) := by decide +kernel
theorem dX3_entry_12 : decode cX3_entry 12 = .ok (.bipush 8, 2) := by decide +kernel
theorem dX3_entry_14 : decode cX3_entry 14 = .ok (.iload_n 1, 1) := by decide +kernel
theorem dX3_entry_15 : decode cX3_entry 15 = .ok (.imul, 1) := by decide +kernel
theorem dX3_entry_16 : decode cX3_entry 16 = .ok (.iload_n 3, 1) := by decide +kernel
theorem dX3_entry_17 : decode cX3_entry 17 = .ok (.iadd, 1) := by decide +kernel
theorem dX3_entry_18 : decode cX3_entry 18 = .ok (.iaload, 1) := by decide +kernel
theorem dX3_entry_19 : decode cX3_entry 19 = .ok (.ifCond .le 23, 3) := by decide +kernel
theorem dX3_entry_22 : decode cX3_entry 22 = .ok (.aload_n 0, 1) := by decide +kernel
theorem dX3_entry_23 : decode cX3_entry 23 = .ok (.getfield 16, 3) := by decide +kernel
theorem dX3_entry_26 : decode cX3_entry 26 = .ok (.bipush 8, 2) := by decide +kernel
theorem dX3_entry_28 : decode cX3_entry 28 = .ok (.iload_n 1, 1) := by decide +kernel
theorem dX3_entry_29 : decode cX3_entry 29 = .ok (.imul, 1) := by decide +kernel
theorem dX3_entry_30 : decode cX3_entry 30 = .ok (.iload_n 3, 1) := by decide +kernel
theorem dX3_entry_31 : decode cX3_entry 31 = .ok (.iadd, 1) := by decide +kernel
theorem dX3_entry_32 : decode cX3_entry 32 = .ok (.iaload, 1) := by decide +kernel
theorem dX3_entry_33 : decode cX3_entry 33 = .ok (.bipush 100, 2) := by decide +kernel
theorem dX3_entry_35 : decode cX3_entry 35 = .ok (.irem, 1) := by decide +kernel
theorem dX3_entry_36 : decode cX3_entry 36 = .ok (.iload_n 2, 1) := by decide +kernel
theorem dX3_entry_37 : decode cX3_entry 37 = .ok (.if_icmp .ne 5, 3) := by decide +kernel
theorem dX3_entry_40 : decode cX3_entry 40 = .ok (.iload_n 3, 1) := by decide +kernel
theorem dX3_entry_41 : decode cX3_entry 41 = .ok (.ireturn, 1) := by decide +kernel
theorem dX3_entry_42 : decode cX3_entry 42 = .ok (.iinc 3 1, 3) := by decide +kernel
theorem dX3_entry_45 : decode cX3_entry 45 = .ok (.goto (-43), 3) := by decide +kernel
theorem dX3_entry_48 : decode cX3_entry 48 = .ok (.iconst (-1), 1) := by decide +kernel
theorem dX3_entry_49 : decode cX3_entry 49 = .ok (.ireturn, 1) := by decide +kernel
theorem dX3_noEntry_0 : decode cX3_noEntry 0 = .ok (.iconst 0, 1) := by decide +kernel
theorem dX3_noEntry_1 : decode cX3_noEntry 1 = .ok (.istore_n 2, 1) := by decide +kernel
theorem dX3_noEntry_2 : decode cX3_noEntry 2 = .ok (.iload_n 2, 1) := by decide +kernel
theorem dX3_noEntry_3 : decode cX3_noEntry 3 = .ok (.bipush 8, 2) := by decide +kernel
theorem dX3_noEntry_5 : decode cX3_noEntry 5 = .ok (.if_icmp .ge 25, 3) := by decide +kernel
theorem dX3_noEntry_8 : decode cX3_noEntry 8 = .ok (.aload_n 0, 1) := by decide +kernel
theorem dX3_noEntry_9 : decode cX3_noEntry 9 = .ok (.getfield 16, 3) := by decide +kernel
theorem dX3_noEntry_12 : decode cX3_noEntry 12 = .ok (.bipush 8, 2) := by decide +kernel
theorem dX3_noEntry_14 : decode cX3_noEntry 14 = .ok (.iload_n 1, 1) := by decide +kernel
theorem dX3_noEntry_15 : decode cX3_noEntry 15 = .ok (.imul, 1) := by decide +kernel
theorem dX3_noEntry_16 : decode cX3_noEntry 16 = .ok (.iload_n 2, 1) := by decide +kernel
theorem dX3_noEntry_17 : decode cX3_noEntry 17 = .ok (.iadd, 1) := by decide +kernel
theorem dX3_noEntry_18 : decode cX3_noEntry 18 = .ok (.iaload, 1) := by decide +kernel
theorem dX3_noEntry_19 : decode cX3_noEntry 19 = .ok (.ifCond .ne 5, 3) := by decide +kernel
theorem dX3_noEntry_22 : decode cX3_noEntry 22 = .ok (.iload_n 2, 1) := by decide +kernel
theorem dX3_noEntry_23 : decode cX3_noEntry 23 = .ok (.ireturn, 1) := by decide +kernel
theorem dX3_noEntry_24 : decode cX3_noEntry 24 = .ok (.iinc 2 1, 3) := by decide +kernel
theorem dX3_noEntry_27 : decode cX3_noEntry 27 = .ok (.goto (-25), 3) := by decide +kernel
theorem dX3_noEntry_30 : decode cX3_noEntry 30 = .ok (.iconst (-1), 1) := by decide +kernel
theorem dX3_noEntry_31 : decode cX3_noEntry 31 = .ok (.ireturn, 1) := by decide +kernel
theorem dX3_isUsed_0 : decode cX3_isUsed 0 = .ok (.iconst 0, 1) := by decide +kernel
theorem dX3_isUsed_1 : decode cX3_isUsed 1 = .ok (.istore_n 2, 1) := by decide +kernel
theorem dX3_isUsed_2 : decode cX3_isUsed 2 = .ok (.iload_n 2, 1) := by decide +kernel
theorem dX3_isUsed_3 : decode cX3_isUsed 3 = .ok (.bipush 12, 2) := by decide +kernel
theorem dX3_isUsed_5 : decode cX3_isUsed 5 = .ok (.if_icmp .ge 54, 3) := by decide +kernel
theorem dX3_isUsed_8 : decode cX3_isUsed 8 = .ok (.iconst 0, 1) := by decide +kernel
theorem dX3_isUsed_9 : decode cX3_isUsed 9 = .ok (.istore_n 3, 1) := by decide +kernel
theorem dX3_isUsed_10 : decode cX3_isUsed 10 = .ok (.aload_n 0, 1) := by decide +kernel
theorem dX3_isUsed_11 : decode cX3_isUsed 11 = .ok (.getfield 7, 3) := by decide +kernel
theorem dX3_isUsed_14 : decode cX3_isUsed 14 = .ok (.iload_n 2, 1) := by decide +kernel
theorem dX3_isUsed_15 : decode cX3_isUsed 15 = .ok (.iaload, 1) := by decide +kernel
theorem dX3_isUsed_16 : decode cX3_isUsed 16 = .ok (.iconst 2, 1) := by decide +kernel
theorem dX3_isUsed_17 : decode cX3_isUsed 17 = .ok (.if_icmp .ne 36, 3) := by decide +kernel
theorem dX3_isUsed_20 : decode cX3_isUsed 20 = .ok (.iload_n 3, 1) := by decide +kernel
theorem dX3_isUsed_21 : decode cX3_isUsed 21 = .ok (.aload_n 0, 1) := by decide +kernel
theorem dX3_isUsed_22 : decode cX3_isUsed 22 = .ok (.getfield 13, 3) := by decide +kernel
theorem dX3_isUsed_25 : decode cX3_isUsed 25 = .ok (.iload_n 2, 1) := by decide +kernel
theorem dX3_isUsed_26 : decode cX3_isUsed 26 = .ok (.iaload, 1) := by decide +kernel
theorem dX3_isUsed_27 : decode cX3_isUsed 27 = .ok (.if_icmp .ge 26, 3) := by decide +kernel
theorem dX3_isUsed_30 : decode cX3_isUsed 30 = .ok (.aload_n 0, 1) := by decide +kernel
theorem dX3_isUsed_31 : decode cX3_isUsed 31 = .ok (.getfield 16, 3) := by decide +kernel
theorem dX3_isUsed_34 : decode cX3_isUsed 34 = .ok (.bipush 8, 2) := by decide +kernel
theorem dX3_isUsed_36 : decode cX3_isUsed 36 = .ok (.iload_n 2, 1) := by decide +kernel
theorem dX3_isUsed_37 : decode cX3_isUsed 37 = .ok (.imul, 1) := by decide +kernel
theorem dX3_isUsed_38 : decode cX3_isUsed 38 = .ok (.iload_n 3, 1) := by decide +kernel
theorem dX3_isUsed_39 : decode cX3_isUsed 39 = .ok (.iadd, 1) := by decide +kernel
theorem dX3_isUsed_40 : decode cX3_isUsed 40 = .ok (.iaload, 1) := by decide +kernel
theorem dX3_isUsed_41 : decode cX3_isUsed 41 = .ok (.iload_n 1, 1) := by decide +kernel
theorem dX3_isUsed_42 : decode cX3_isUsed 42 = .ok (.if_icmp .ne 5, 3) := by decide +kernel
theorem dX3_isUsed_45 : decode cX3_isUsed 45 = .ok (.iconst 1, 1) := by decide +kernel
theorem dX3_isUsed_46 : decode cX3_isUsed 46 = .ok (.ireturn, 1) := by decide +kernel
theorem dX3_isUsed_47 : decode cX3_isUsed 47 = .ok (.iinc 3 1, 3) := by decide +kernel
theorem dX3_isUsed_50 : decode cX3_isUsed 50 = .ok (.goto (-40), 3) := by decide +kernel
theorem dX3_isUsed_53 : decode cX3_isUsed 53 = .ok (.iinc 2 1, 3) := by decide +kernel
theorem dX3_isUsed_56 : decode cX3_isUsed 56 = .ok (.goto (-54), 3) := by decide +kernel
theorem dX3_isUsed_59 : decode cX3_isUsed 59 = .ok (.iconst 0, 1) := by decide +kernel
theorem dX3_isUsed_60 : decode cX3_isUsed 60 = .ok (.ireturn, 1) := by decide +kernel
set_option maxRecDepth 20000 in
theorem ggX3_leastFree_X3_isUsed : GoodIn wsX3_leastFree wsX3_isUsed := goodIn_r _ [5, 6, 7, 8, 9, 10, 11, 12, 13, 14, 15, 16, 17, 18, 19, 20, 21, 22, 23, 24] (by decide +kernel) (by decide +kernel)
set_option maxRecDepth 20000 in
theorem gX3_leastFree_X3_isUsed : GoodIn wsX3_leastFree (wsV RX3 57 RX3 yX3_isUsed wsX3_isUsed) := goodIn_app (goodIn_of _ (by decide +kernel)) ggX3_leastFree_X3_isUsed
theorem dX3_leastFree_0 : decode cX3_leastFree 0 = .ok (.iconst 0, 1) := by decide +kernel
theorem dX3_leastFree_1 : decode cX3_leastFree 1 = .ok (.istore_n 1, 1) := by decide +kernel
theorem dX3_leastFree_2 : decode cX3_leastFree 2 = .ok (.iload_n 1, 1) := by decide +kernel
theorem dX3_leastFree_3 : decode cX3_leastFree 3 = .ok (.bipush 40, 2) := by decide +kernel
theorem dX3_leastFree_5 : decode cX3_leastFree 5 = .ok (.if_icmp .ge 19, 3) := by decide +kernel
theorem dX3_leastFree_8 : decode cX3_leastFree 8 = .ok (.aload_n 0, 1) := by decide +kernel
theorem dX3_leastFree_9 : decode cX3_leastFree 9 = .ok (.iload_n 1, 1) := by decide +kernel
theorem dX3_leastFree_10 : decode cX3_leastFree 10 = .ok (.invokevirtual 57, 3) := by decide +kernel
theorem dX3_leastFree_13 : decode cX3_leastFree 13 = .ok (.ifCond .ne 5, 3) := by decide +kernel
theorem dX3_leastFree_16 : decode cX3_leastFree 16 = .ok (.iload_n 1, 1) := by decide +kernel
theorem dX3_leastFree_17 : decode cX3_leastFree 17 = .ok (.ireturn, 1) := by decide +kernel
theorem dX3_leastFree_18 : decode cX3_leastFree 18 = .ok (.iinc 1 1, 3) := by decide +kernel
theorem dX3_leastFree_21 : decode cX3_leastFree 21 = .ok (.goto (-19), 3) := by decide +kernel
theorem dX3_leastFree_24 : decode cX3_leastFree 24 = .ok (.iconst (-1), 1) := by decide +kernel
theorem dX3_leastFree_25 : decode cX3_leastFree 25 = .ok (.ireturn, 1) := by decide +kernel
set_option maxRecDepth 20000 in
theorem ggX3_greatestFree_X3_isUsed : GoodIn wsX3_greatestFree wsX3_isUsed := goodIn_r _ [5, 6, 7, 8, 9, 10, 11, 12, 13, 14, 15, 16, 17, 18, 19, 20, 21, 22, 23, 24] (by decide +kernel) (by decide +kernel)
set_option maxRecDepth 20000 in
theorem gX3_greatestFree_X3_isUsed : GoodIn wsX3_greatestFree (wsV RX3 57 RX3 yX3_isUsed wsX3_isUsed) := goodIn_app (goodIn_of _ (by decide +kernel)) ggX3_greatestFree_X3_isUsed
theorem dX3_greatestFree_0 : decode cX3_greatestFree 0 = .ok (.bipush 39, 2) := by decide +kernel
theorem dX3_greatestFree_2 : decode cX3_greatestFree 2 = .ok (.istore_n 1, 1) := by decide +kernel
theorem dX3_greatestFree_3 : decode cX3_greatestFree 3 = .ok (.iload_n 1, 1) := by decide +kernel
theorem dX3_greatestFree_4 : decode cX3_greatestFree 4 = .ok (.ifCond .lt 19, 3) := by decide +kernel
theorem dX3_greatestFree_7 : decode cX3_greatestFree 7 = .ok (.aload_n 0, 1) := by decide +kernel
theorem dX3_greatestFree_8 : decode cX3_greatestFree 8 = .ok (.iload_n 1, 1) := by decide +kernel
theorem dX3_greatestFree_9 : decode cX3_greatestFree 9 = .ok (.invokevirtual 57, 3) := by decide +kernel
theorem dX3_greatestFree_12 : decode cX3_greatestFree 12 = .ok (.ifCond .ne 5, 3) := by decide +kernel
theorem dX3_greatestFree_15 : decode cX3_greatestFree 15 = .ok (.iload_n 1, 1) := by decide +kernel
theorem dX3_greatestFree_16 : decode cX3_greatestFree 16 = .ok (.ireturn, 1) := by decide +kernel
theorem dX3_greatestFree_17 : decode cX3_greatestFree 17 = .ok (.iinc 1 (-1), 3) := by decide +kernel
theorem dX3_greatestFree_20 : decode cX3_greatestFree 20 = .ok (.goto (-17), 3) := by decide +kernel
theorem dX3_greatestFree_23 : decode cX3_greatestFree 23 = .ok (.iconst (-1), 1) := by decide +kernel
theorem dX3_greatestFree_24 : decode cX3_greatestFree 24 = .ok (.ireturn, 1) := by decide +kernel
set_option maxRecDepth 20000 in
theorem ggX3_make_X3_isInode : GoodIn wsX3_make wsX3_isInode := goodIn_r _ [8, 9, 3, 10, 11, 7, 12, 45, 46, 47, 48, 49, 50, 51, 52, 53, 54, 55, 56, 57, 58, 59, 60] (by decide +kernel) (by decide +kernel)
set_option maxRecDepth 20000 in
theorem gX3_make_X3_isInode : GoodIn wsX3_make (wsV RX3 61 RX3 yX3_isInode wsX3_isInode) := goodIn_app (goodIn_of _ (by decide +kernel)) ggX3_make_X3_isInode
set_option maxRecDepth 20000 in
theorem ggX3_make_X3_isName : GoodIn wsX3_make wsX3_isName := goodIn_r _ [15, 16, 10, 11, 7, 12] (by decide +kernel) (by decide +kernel)
set_option maxRecDepth 20000 in
theorem gX3_make_X3_isName : GoodIn wsX3_make (va_wsS RX3 65 yX3_isName wsX3_isName) := goodIn_app (goodIn_of _ (by decide +kernel)) ggX3_make_X3_isName
end
section
set_option maxRecDepth 20000 in
theorem ggX3_make_X3_in : GoodIn wsX3_make wsX3_in := goodIn_r _ [12] (by decide +kernel) (by decide +kernel)
set_option maxRecDepth 20000 in
theorem gX3_make_X3_in : GoodIn wsX3_make (va_wsS RX3 49 yX3_in wsX3_in) := goodIn_app (goodIn_of _ (by decide +kernel)) ggX3_make_X3_in
set_option maxRecDepth 20000 in
theorem ggX3_make_X3_entry : GoodIn wsX3_make wsX3_entry := goodIn_r _ [20, 21, 45, 46, 47, 48, 49, 50, 51, 52, 53, 54, 55, 56, 57, 58, 59, 60] (by decide +kernel) (by decide +kernel)
set_option maxRecDepth 20000 in
theorem gX3_make_X3_entry : GoodIn wsX3_make (wsV RX3 70 RX3 yX3_entry wsX3_entry) := goodIn_app (goodIn_of _ (by decide +kernel)) ggX3_make_X3_entry
set_option maxRecDepth 20000 in
theorem ggX3_make_X3_noEntry : GoodIn wsX3_make wsX3_noEntry := goodIn_r _ [25, 21, 45, 46, 47, 48, 49, 50, 51, 52, 53, 54, 55, 56, 57, 58, 59, 60] (by decide +kernel) (by decide +kernel)
set_option maxRecDepth 20000 in
theorem gX3_make_X3_noEntry : GoodIn wsX3_make (wsV RX3 74 RX3 yX3_noEntry wsX3_noEntry) := goodIn_app (goodIn_of _ (by decide +kernel)) ggX3_make_X3_noEntry
set_option maxRecDepth 20000 in
theorem ggX3_make_X3_setSize : GoodIn wsX3_make wsX3_setSize := goodIn_r _ [29, 30, 31, 32, 33, 7, 34, 2, 35, 36, 45, 46, 47, 48, 49, 50, 51, 52, 53, 54, 55, 56, 57, 58, 59, 60] (by decide +kernel) (by decide +kernel)
set_option maxRecDepth 20000 in
theorem gX3_make_X3_setSize : GoodIn wsX3_make (wsV RX3 78 RX3 yX3_setSize wsX3_setSize) := goodIn_app (goodIn_of _ (by decide +kernel)) ggX3_make_X3_setSize
set_option maxRecDepth 20000 in
theorem ggX3_make_X3_setPlace : GoodIn wsX3_make wsX3_setPlace := goodIn_r _ [40, 21, 31, 32, 33, 7, 34, 2, 35, 36, 45, 46, 47, 48, 49, 50, 51, 52, 53, 54, 55, 56, 57, 58, 59, 60] (by decide +kernel) (by decide +kernel)
set_option maxRecDepth 20000 in
theorem gX3_make_X3_setPlace : GoodIn wsX3_make (wsV RX3 82 RX3 yX3_setPlace wsX3_setPlace) := goodIn_app (goodIn_of _ (by decide +kernel)) ggX3_make_X3_setPlace
set_option maxRecDepth 20000 in
theorem ggX3_make_X3_setKind : GoodIn wsX3_make wsX3_setKind := goodIn_r _ [44, 3, 31, 32, 33, 7, 34, 2, 35, 36, 45, 46, 47, 48, 49, 50, 51, 52, 53, 54, 55, 56, 57, 58, 59, 60] (by decide +kernel) (by decide +kernel)
set_option maxRecDepth 20000 in
theorem gX3_make_X3_setKind : GoodIn wsX3_make (wsV RX3 86 RX3 yX3_setKind wsX3_setKind) := goodIn_app (goodIn_of _ (by decide +kernel)) ggX3_make_X3_setKind
theorem dX3_make_0 : decode cX3_make 0 = .ok (.aload_n 0, 1) := by decide +kernel
theorem dX3_make_1 : decode cX3_make 1 = .ok (.iload_n 1, 1) := by decide +kernel
theorem dX3_make_2 : decode cX3_make 2 = .ok (.iconst 1, 1) := by decide +kernel
theorem dX3_make_3 : decode cX3_make 3 = .ok (.invokevirtual 61, 3) := by decide +kernel
theorem dX3_make_6 : decode cX3_make 6 = .ok (.ifCond .eq 22, 3) := by decide +kernel
theorem dX3_make_9 : decode cX3_make 9 = .ok (.iload_n 2, 1) := by decide +kernel
theorem dX3_make_10 : decode cX3_make 10 = .ok (.invokestatic 65, 3) := by decide +kernel
theorem dX3_make_13 : decode cX3_make 13 = .ok (.ifCond .eq 15, 3) := by decide +kernel
theorem dX3_make_16 : decode cX3_make 16 = .ok (.iload_n 3, 1) := by decide +kernel
theorem dX3_make_17 : decode cX3_make 17 = .ok (.i2l, 1) := by decide +kernel
theorem dX3_make_18 : decode cX3_make 18 = .ok (.lconst 1, 1) := by decide +kernel
theorem dX3_make_19 : decode cX3_make 19 = .ok (.ldc2_w 68, 3) := by decide +kernel
theorem dX3_make_22 : decode cX3_make 22 = .ok (.invokestatic 49, 3) := by decide +kernel
theorem dX3_make_25 : decode cX3_make 25 = .ok (.ifCond .ne 5, 3) := by decide +kernel
theorem dX3_make_28 : decode cX3_make 28 = .ok (.iconst (-1), 1) := by decide +kernel
theorem dX3_make_29 : decode cX3_make 29 = .ok (.ireturn, 1) := by decide +kernel
theorem dX3_make_30 : decode cX3_make 30 = .ok (.aload_n 0, 1) := by decide +kernel
theorem dX3_make_31 : decode cX3_make 31 = .ok (.getfield 36, 3) := by decide +kernel
theorem dX3_make_34 : decode cX3_make 34 = .ok (.ifCond .eq 6, 3) := by decide +kernel
theorem dX3_make_37 : decode cX3_make 37 = .ok (.bipush (-2), 2) := by decide +kernel
theorem dX3_make_39 : decode cX3_make 39 = .ok (.ireturn, 1) := by decide +kernel
theorem dX3_make_40 : decode cX3_make 40 = .ok (.aload_n 0, 1) := by decide +kernel
theorem dX3_make_41 : decode cX3_make 41 = .ok (.iload_n 1, 1) := by decide +kernel
theorem dX3_make_42 : decode cX3_make 42 = .ok (.iload_n 2, 1) := by decide +kernel
theorem dX3_make_43 : decode cX3_make 43 = .ok (.invokevirtual 70, 3) := by decide +kernel
theorem dX3_make_46 : decode cX3_make 46 = .ok (.ifCond .lt 6, 3) := by decide +kernel
theorem dX3_make_49 : decode cX3_make 49 = .ok (.bipush (-4), 2) := by decide +kernel
theorem dX3_make_51 : decode cX3_make 51 = .ok (.ireturn, 1) := by decide +kernel
theorem dX3_make_52 : decode cX3_make 52 = .ok (.iconst 0, 1) := by decide +kernel
theorem dX3_make_53 : decode cX3_make 53 = .ok (.istore 4, 2) := by decide +kernel
theorem dX3_make_55 : decode cX3_make 55 = .ok (.iload 4, 2) := by decide +kernel
theorem dX3_make_57 : decode cX3_make 57 = .ok (.bipush 12, 2) := by decide +kernel
theorem dX3_make_59 : decode cX3_make 59 = .ok (.if_icmp .ge 19, 3) := by decide +kernel
theorem dX3_make_62 : decode cX3_make 62 = .ok (.aload_n 0, 1) := by decide +kernel
theorem dX3_make_63 : decode cX3_make 63 = .ok (.getfield 7, 3) := by decide +kernel
theorem dX3_make_66 : decode cX3_make 66 = .ok (.iload 4, 2) := by decide +kernel
theorem dX3_make_68 : decode cX3_make 68 = .ok (.iaload, 1) := by decide +kernel
theorem dX3_make_69 : decode cX3_make 69 = .ok (.ifCond .eq 9, 3) := by decide +kernel
theorem dX3_make_72 : decode cX3_make 72 = .ok (.iinc 4 1, 3) := by decide +kernel
theorem dX3_make_75 : decode cX3_make 75 = .ok (.goto (-20), 3) := by decide +kernel
theorem dX3_make_78 : decode cX3_make 78 = .ok (.aload_n 0, 1) := by decide +kernel
theorem dX3_make_79 : decode cX3_make 79 = .ok (.iload_n 1, 1) := by decide +kernel
theorem dX3_make_80 : decode cX3_make 80 = .ok (.invokevirtual 74, 3) := by decide +kernel
theorem dX3_make_83 : decode cX3_make 83 = .ok (.istore 5, 2) := by decide +kernel
theorem dX3_make_85 : decode cX3_make 85 = .ok (.iload 4, 2) := by decide +kernel
theorem dX3_make_87 : decode cX3_make 87 = .ok (.bipush 12, 2) := by decide +kernel
theorem dX3_make_89 : decode cX3_make 89 = .ok (.if_icmp .eq 8, 3) := by decide +kernel
theorem dX3_make_92 : decode cX3_make 92 = .ok (.iload 5, 2) := by decide +kernel
theorem dX3_make_94 : decode cX3_make 94 = .ok (.ifCond .ge 6, 3) := by decide +kernel
theorem dX3_make_97 : decode cX3_make 97 = .ok (.bipush (-5), 2) := by decide +kernel
theorem dX3_make_99 : decode cX3_make 99 = .ok (.ireturn, 1) := by decide +kernel
theorem dX3_make_100 : decode cX3_make 100 = .ok (.aload_n 0, 1) := by decide +kernel
theorem dX3_make_101 : decode cX3_make 101 = .ok (.iload 4, 2) := by decide +kernel
theorem dX3_make_103 : decode cX3_make 103 = .ok (.iconst 0, 1) := by decide +kernel
theorem dX3_make_104 : decode cX3_make 104 = .ok (.invokevirtual 78, 3) := by decide +kernel
theorem dX3_make_107 : decode cX3_make 107 = .ok (.iconst 0, 1) := by decide +kernel
theorem dX3_make_108 : decode cX3_make 108 = .ok (.istore 6, 2) := by decide +kernel
theorem dX3_make_110 : decode cX3_make 110 = .ok (.iload 6, 2) := by decide +kernel
theorem dX3_make_112 : decode cX3_make 112 = .ok (.bipush 8, 2) := by decide +kernel
theorem dX3_make_114 : decode cX3_make 114 = .ok (.if_icmp .ge 18, 3) := by decide +kernel
theorem dX3_make_117 : decode cX3_make 117 = .ok (.aload_n 0, 1) := by decide +kernel
theorem dX3_make_118 : decode cX3_make 118 = .ok (.iload 4, 2) := by decide +kernel
theorem dX3_make_120 : decode cX3_make 120 = .ok (.iload 6, 2) := by decide +kernel
theorem dX3_make_122 : decode cX3_make 122 = .ok (.iconst 0, 1) := by decide +kernel
theorem dX3_make_123 : decode cX3_make 123 = .ok (.invokevirtual 82, 3) := by decide +kernel
theorem dX3_make_126 : decode cX3_make 126 = .ok (.iinc 6 1, 3) := by decide +kernel
theorem dX3_make_129 : decode cX3_make 129 = .ok (.goto (-19), 3) := by decide +kernel
theorem dX3_make_132 : decode cX3_make 132 = .ok (.aload_n 0, 1) := by decide +kernel
theorem dX3_make_133 : decode cX3_make 133 = .ok (.iload 4, 2) := by decide +kernel
theorem dX3_make_135 : decode cX3_make 135 = .ok (.iload_n 3, 1) := by decide +kernel
theorem dX3_make_136 : decode cX3_make 136 = .ok (.invokevirtual 86, 3) := by decide +kernel
theorem dX3_make_139 : decode cX3_make 139 = .ok (.aload_n 0, 1) := by decide +kernel
theorem dX3_make_140 : decode cX3_make 140 = .ok (.iload_n 1, 1) := by decide +kernel
theorem dX3_make_141 : decode cX3_make 141 = .ok (.iload 5, 2) := by decide +kernel
theorem dX3_make_143 : decode cX3_make 143 = .ok (.bipush 100, 2) := by decide +kernel
theorem dX3_make_145 : decode cX3_make 145 = .ok (.iload 4, 2) := by decide +kernel
theorem dX3_make_147 : decode cX3_make 147 = .ok (.imul, 1) := by decide +kernel
theorem dX3_make_148 : decode cX3_make 148 = .ok (.iload_n 2, 1) := by decide +kernel
theorem dX3_make_149 : decode cX3_make 149 = .ok (.iadd, 1) := by decide +kernel
theorem dX3_make_150 : decode cX3_make 150 = .ok (.invokevirtual 82, 3) := by decide +kernel
theorem dX3_make_153 : decode cX3_make 153 = .ok (.aload_n 0, 1) := by decide +kernel
theorem dX3_make_154 : decode cX3_make 154 = .ok (.getfield 36, 3) := by decide +kernel
theorem dX3_make_157 : decode cX3_make 157 = .ok (.ifCond .eq 8, 3) := by decide +kernel
theorem dX3_make_160 : decode cX3_make 160 = .ok (.bipush (-2), 2) := by decide +kernel
theorem dX3_make_162 : decode cX3_make 162 = .ok (.goto 5, 3) := by decide +kernel
theorem dX3_make_165 : decode cX3_make 165 = .ok (.iload 4, 2) := by decide +kernel
theorem dX3_make_167 : decode cX3_make 167 = .ok (.ireturn, 1) := by decide +kernel
set_option maxRecDepth 20000 in
theorem ggX3_append_X3_isInode : GoodIn wsX3_append wsX3_isInode := goodIn_r _ [7, 8, 9, 10, 11, 6, 12, 41, 42, 43, 44, 45, 46, 47, 48, 49, 50, 51, 52, 53, 54, 55, 56] (by decide +kernel) (by decide +kernel)
set_option maxRecDepth 20000 in
theorem gX3_append_X3_isInode : GoodIn wsX3_append (wsV RX3 61 RX3 yX3_isInode wsX3_isInode) := goodIn_app (goodIn_of _ (by decide +kernel)) ggX3_append_X3_isInode
set_option maxRecDepth 20000 in
theorem ggX3_append_X3_leastFree : GoodIn wsX3_append wsX3_leastFree := goodIn_r _ [16, 17, 18, 19, 6, 20, 9, 2, 21, 41, 42, 43, 44, 45, 46, 47, 48, 49, 50, 51, 52, 53, 54, 55, 56] (by decide +kernel) (by decide +kernel)
set_option maxRecDepth 20000 in
theorem gX3_append_X3_leastFree : GoodIn wsX3_append (wsV RX3 89 RX3 yX3_leastFree wsX3_leastFree) := goodIn_app (goodIn_of _ (by decide +kernel)) ggX3_append_X3_leastFree
set_option maxRecDepth 20000 in
theorem ggX3_append_X3_setData : GoodIn wsX3_append wsX3_setData := goodIn_r _ [25, 26, 27, 28, 29, 6, 30, 1, 31, 32, 41, 42, 43, 44, 45, 46, 47, 48, 49, 50, 51, 52, 53, 54, 55, 56] (by decide +kernel) (by decide +kernel)
set_option maxRecDepth 20000 in
theorem gX3_append_X3_setData : GoodIn wsX3_append (wsV RX3 93 RX3 yX3_setData wsX3_setData) := goodIn_app (goodIn_of _ (by decide +kernel)) ggX3_append_X3_setData
set_option maxRecDepth 20000 in
theorem ggX3_append_X3_setPlace : GoodIn wsX3_append wsX3_setPlace := goodIn_r _ [36, 21, 27, 28, 29, 6, 30, 1, 31, 32, 41, 42, 43, 44, 45, 46, 47, 48, 49, 50, 51, 52, 53, 54, 55, 56] (by decide +kernel) (by decide +kernel)
set_option maxRecDepth 20000 in
theorem gX3_append_X3_setPlace : GoodIn wsX3_append (wsV RX3 82 RX3 yX3_setPlace wsX3_setPlace) := goodIn_app (goodIn_of _ (by decide +kernel)) ggX3_append_X3_setPlace
set_option maxRecDepth 20000 in
theorem ggX3_append_X3_setSize : GoodIn wsX3_append wsX3_setSize := goodIn_r _ [40, 2, 27, 28, 29, 6, 30, 1, 31, 32, 41, 42, 43, 44, 45, 46, 47, 48, 49, 50, 51, 52, 53, 54, 55, 56] (by decide +kernel) (by decide +kernel)
set_option maxRecDepth 20000 in
theorem gX3_append_X3_setSize : GoodIn wsX3_append (wsV RX3 78 RX3 yX3_setSize wsX3_setSize) := goodIn_app (goodIn_of _ (by decide +kernel)) ggX3_append_X3_setSize
theorem dX3_append_0 : decode cX3_append 0 = .ok (.aload_n 0, 1) := by decide +kernel
theorem dX3_append_1 : decode cX3_append 1 = .ok (.iload_n 1, 1) := by decide +kernel
theorem dX3_append_2 : decode cX3_append 2 = .ok (.iconst 2, 1) := by decide +kernel
theorem dX3_append_3 : decode cX3_append 3 = .ok (.invokevirtual 61, 3) := by decide +kernel
theorem dX3_append_6 : decode cX3_append 6 = .ok (.ifCond .ne 5, 3) := by decide +kernel
theorem dX3_append_9 : decode cX3_append 9 = .ok (.iconst (-1), 1) := by decide +kernel
theorem dX3_append_10 : decode cX3_append 10 = .ok (.ireturn, 1) := by decide +kernel
theorem dX3_append_11 : decode cX3_append 11 = .ok (.aload_n 0, 1) := by decide +kernel
theorem dX3_append_12 : decode cX3_append 12 = .ok (.getfield 36, 3) := by decide +kernel
theorem dX3_append_15 : decode cX3_append 15 = .ok (.ifCond .eq 6, 3) := by decide +kernel
theorem dX3_append_18 : decode cX3_append 18 = .ok (.bipush (-2), 2) := by decide +kernel
theorem dX3_append_20 : decode cX3_append 20 = .ok (.ireturn, 1) := by decide +kernel
theorem dX3_append_21 : decode cX3_append 21 = .ok (.aload_n 0, 1) := by decide +kernel
theorem dX3_append_22 : decode cX3_append 22 = .ok (.invokevirtual 89, 3) := by decide +kernel
theorem dX3_append_25 : decode cX3_append 25 = .ok (.istore 8, 2) := by decide +kernel
theorem dX3_append_27 : decode cX3_append 27 = .ok (.aload_n 0, 1) := by decide +kernel
theorem dX3_append_28 : decode cX3_append 28 = .ok (.getfield 13, 3) := by decide +kernel
theorem dX3_append_31 : decode cX3_append 31 = .ok (.iload_n 1, 1) := by decide +kernel
theorem dX3_append_32 : decode cX3_append 32 = .ok (.iaload, 1) := by decide +kernel
theorem dX3_append_33 : decode cX3_append 33 = .ok (.bipush 8, 2) := by decide +kernel
theorem dX3_append_35 : decode cX3_append 35 = .ok (.if_icmp .eq 8, 3) := by decide +kernel
theorem dX3_append_38 : decode cX3_append 38 = .ok (.iload 8, 2) := by decide +kernel
theorem dX3_append_40 : decode cX3_append 40 = .ok (.ifCond .ge 6, 3) := by decide +kernel
theorem dX3_append_43 : decode cX3_append 43 = .ok (.bipush (-5), 2) := by decide +kernel
theorem dX3_append_45 : decode cX3_append 45 = .ok (.ireturn, 1) := by decide +kernel
theorem dX3_append_46 : decode cX3_append 46 = .ok (.aload_n 0, 1) := by decide +kernel
theorem dX3_append_47 : decode cX3_append 47 = .ok (.iload 8, 2) := by decide +kernel
theorem dX3_append_49 : decode cX3_append 49 = .ok (.iconst 0, 1) := by decide +kernel
theorem dX3_append_50 : decode cX3_append 50 = .ok (.lload_n 2, 1) := by decide +kernel
theorem dX3_append_51 : decode cX3_append 51 = .ok (.invokevirtual 93, 3) := by decide +kernel
theorem dX3_append_54 : decode cX3_append 54 = .ok (.aload_n 0, 1) := by decide +kernel
theorem dX3_append_55 : decode cX3_append 55 = .ok (.iload 8, 2) := by decide +kernel
theorem dX3_append_57 : decode cX3_append 57 = .ok (.iconst 1, 1) := by decide +kernel
theorem dX3_append_58 : decode cX3_append 58 = .ok (.lload 4, 2) := by decide +kernel
theorem dX3_append_60 : decode cX3_append 60 = .ok (.invokevirtual 93, 3) := by decide +kernel
theorem dX3_append_63 : decode cX3_append 63 = .ok (.aload_n 0, 1) := by decide +kernel
theorem dX3_append_64 : decode cX3_append 64 = .ok (.iload 8, 2) := by decide +kernel
theorem dX3_append_66 : decode cX3_append 66 = .ok (.iconst 2, 1) := by decide +kernel
theorem dX3_append_67 : decode cX3_append 67 = .ok (.lload 6, 2) := by decide +kernel
theorem dX3_append_69 : decode cX3_append 69 = .ok (.invokevirtual 93, 3) := by decide +kernel
theorem dX3_append_72 : decode cX3_append 72 = .ok (.aload_n 0, 1) := by decide +kernel
theorem dX3_append_73 : decode cX3_append 73 = .ok (.iload_n 1, 1) := by decide +kernel
theorem dX3_append_74 : decode cX3_append 74 = .ok (.aload_n 0, 1) := by decide +kernel
theorem dX3_append_75 : decode cX3_append 75 = .ok (.getfield 13, 3) := by decide +kernel
theorem dX3_append_78 : decode cX3_append 78 = .ok (.iload_n 1, 1) := by decide +kernel
theorem dX3_append_79 : decode cX3_append 79 = .ok (.iaload, 1) := by decide +kernel
theorem dX3_append_80 : decode cX3_append 80 = .ok (.iload 8, 2) := by decide +kernel
theorem dX3_append_82 : decode cX3_append 82 = .ok (.invokevirtual 82, 3) := by decide +kernel
theorem dX3_append_85 : decode cX3_append 85 = .ok (.aload_n 0, 1) := by decide +kernel
theorem dX3_append_86 : decode cX3_append 86 = .ok (.iload_n 1, 1) := by decide +kernel
theorem dX3_append_87 : decode cX3_append 87 = .ok (.aload_n 0, 1) := by decide +kernel
theorem dX3_append_88 : decode cX3_append 88 = .ok (.getfield 13, 3) := by decide +kernel
theorem dX3_append_91 : decode cX3_append 91 = .ok (.iload_n 1, 1) := by decide +kernel
theorem dX3_append_92 : decode cX3_append 92 = .ok (.iaload, 1) := by decide +kernel
theorem dX3_append_93 : decode cX3_append 93 = .ok (.iconst 1, 1) := by decide +kernel
theorem dX3_append_94 : decode cX3_append 94 = .ok (.iadd, 1) := by decide +kernel
theorem dX3_append_95 : decode cX3_append 95 = .ok (.invokevirtual 78, 3) := by decide +kernel
theorem dX3_append_98 : decode cX3_append 98 = .ok (.aload_n 0, 1) := by decide +kernel
theorem dX3_append_99 : decode cX3_append 99 = .ok (.getfield 36, 3) := by decide +kernel
theorem dX3_append_102 : decode cX3_append 102 = .ok (.ifCond .eq 8, 3) := by decide +kernel
theorem dX3_append_105 : decode cX3_append 105 = .ok (.bipush (-2), 2) := by decide +kernel
theorem dX3_append_107 : decode cX3_append 107 = .ok (.goto 9, 3) := by decide +kernel
theorem dX3_append_110 : decode cX3_append 110 = .ok (.aload_n 0, 1) := by decide +kernel
theorem dX3_append_111 : decode cX3_append 111 = .ok (.getfield 13, 3) := by decide +kernel
theorem dX3_append_114 : decode cX3_append 114 = .ok (.iload_n 1, 1) := by decide +kernel
theorem dX3_append_115 : decode cX3_append 115 = .ok (.iaload, 1) := by decide +kernel
theorem dX3_append_116 : decode cX3_append 116 = .ok (.ireturn, 1) := by decide +kernel
set_option maxRecDepth 20000 in
theorem ggX3_put_X3_isInode : GoodIn wsX3_put wsX3_isInode := goodIn_r _ [9, 10, 11, 12, 13, 8, 14, 26, 27, 28, 29, 30, 31, 32, 33, 34, 35, 36, 37, 38, 39, 40, 41] (by decide +kernel) (by decide +kernel)
set_option maxRecDepth 20000 in
theorem gX3_put_X3_isInode : GoodIn wsX3_put (wsV RX3 61 RX3 yX3_isInode wsX3_isInode) := goodIn_app (goodIn_of _ (by decide +kernel)) ggX3_put_X3_isInode
set_option maxRecDepth 20000 in
theorem ggX3_put_X3_in : GoodIn wsX3_put wsX3_in := goodIn_r _ [14] (by decide +kernel) (by decide +kernel)
set_option maxRecDepth 20000 in
theorem gX3_put_X3_in : GoodIn wsX3_put (va_wsS RX3 49 yX3_in wsX3_in) := goodIn_app (goodIn_of _ (by decide +kernel)) ggX3_put_X3_in
set_option maxRecDepth 20000 in
theorem ggX3_put_X3_setData : GoodIn wsX3_put wsX3_setData := goodIn_r _ [18, 19, 20, 21, 22, 8, 23, 3, 24, 25, 26, 27, 28, 29, 30, 31, 32, 33, 34, 35, 36, 37, 38, 39, 40, 41] (by decide +kernel) (by decide +kernel)
set_option maxRecDepth 20000 in
theorem gX3_put_X3_setData : GoodIn wsX3_put (wsV RX3 93 RX3 yX3_setData wsX3_setData) := goodIn_app (goodIn_of _ (by decide +kernel)) ggX3_put_X3_setData
theorem dX3_put_0 : decode cX3_put 0 = .ok (.aload_n 0, 1) := by decide +kernel
theorem dX3_put_1 : decode cX3_put 1 = .ok (.iload_n 1, 1) := by decide +kernel
theorem dX3_put_2 : decode cX3_put 2 = .ok (.iconst 2, 1) := by decide +kernel
theorem dX3_put_3 : decode cX3_put 3 = .ok (.invokevirtual 61, 3) := by decide +kernel
theorem dX3_put_6 : decode cX3_put 6 = .ok (.ifCond .eq 33, 3) := by decide +kernel
theorem dX3_put_9 : decode cX3_put 9 = .ok (.iload_n 2, 1) := by decide +kernel
theorem dX3_put_10 : decode cX3_put 10 = .ok (.i2l, 1) := by decide +kernel
theorem dX3_put_11 : decode cX3_put 11 = .ok (.lconst 0, 1) := by decide +kernel
theorem dX3_put_12 : decode cX3_put 12 = .ok (.aload_n 0, 1) := by decide +kernel
theorem dX3_put_13 : decode cX3_put 13 = .ok (.getfield 13, 3) := by decide +kernel
theorem dX3_put_16 : decode cX3_put 16 = .ok (.iload_n 1, 1) := by decide +kernel
theorem dX3_put_17 : decode cX3_put 17 = .ok (.iaload, 1) := by decide +kernel
theorem dX3_put_18 : decode cX3_put 18 = .ok (.iconst 1, 1) := by decide +kernel
theorem dX3_put_19 : decode cX3_put 19 = .ok (.isub, 1) := by decide +kernel
theorem dX3_put_20 : decode cX3_put 20 = .ok (.i2l, 1) := by decide +kernel
theorem dX3_put_21 : decode cX3_put 21 = .ok (.invokestatic 49, 3) := by decide +kernel
theorem dX3_put_24 : decode cX3_put 24 = .ok (.ifCond .eq 15, 3) := by decide +kernel
theorem dX3_put_27 : decode cX3_put 27 = .ok (.iload_n 3, 1) := by decide +kernel
theorem dX3_put_28 : decode cX3_put 28 = .ok (.i2l, 1) := by decide +kernel
theorem dX3_put_29 : decode cX3_put 29 = .ok (.lconst 0, 1) := by decide +kernel
theorem dX3_put_30 : decode cX3_put 30 = .ok (.ldc2_w 68, 3) := by decide +kernel
theorem dX3_put_33 : decode cX3_put 33 = .ok (.invokestatic 49, 3) := by decide +kernel
theorem dX3_put_36 : decode cX3_put 36 = .ok (.ifCond .ne 5, 3) := by decide +kernel
theorem dX3_put_39 : decode cX3_put 39 = .ok (.iconst (-1), 1) := by decide +kernel
theorem dX3_put_40 : decode cX3_put 40 = .ok (.ireturn, 1) := by decide +kernel
theorem dX3_put_41 : decode cX3_put 41 = .ok (.aload_n 0, 1) := by decide +kernel
theorem dX3_put_42 : decode cX3_put 42 = .ok (.getfield 36, 3) := by decide +kernel
theorem dX3_put_45 : decode cX3_put 45 = .ok (.ifCond .eq 6, 3) := by decide +kernel
theorem dX3_put_48 : decode cX3_put 48 = .ok (.bipush (-2), 2) := by decide +kernel
theorem dX3_put_50 : decode cX3_put 50 = .ok (.ireturn, 1) := by decide +kernel
theorem dX3_put_51 : decode cX3_put 51 = .ok (.aload_n 0, 1) := by decide +kernel
theorem dX3_put_52 : decode cX3_put 52 = .ok (.aload_n 0, 1) := by decide +kernel
theorem dX3_put_53 : decode cX3_put 53 = .ok (.getfield 16, 3) := by decide +kernel
theorem dX3_put_56 : decode cX3_put 56 = .ok (.bipush 8, 2) := by decide +kernel
theorem dX3_put_58 : decode cX3_put 58 = .ok (.iload_n 1, 1) := by decide +kernel
theorem dX3_put_59 : decode cX3_put 59 = .ok (.imul, 1) := by decide +kernel
theorem dX3_put_60 : decode cX3_put 60 = .ok (.iload_n 2, 1) := by decide +kernel
theorem dX3_put_61 : decode cX3_put 61 = .ok (.iadd, 1) := by decide +kernel
theorem dX3_put_62 : decode cX3_put 62 = .ok (.iaload, 1) := by decide +kernel
theorem dX3_put_63 : decode cX3_put 63 = .ok (.iload_n 3, 1) := by decide +kernel
theorem dX3_put_64 : decode cX3_put 64 = .ok (.lload 4, 2) := by decide +kernel
theorem dX3_put_66 : decode cX3_put 66 = .ok (.invokevirtual 93, 3) := by decide +kernel
theorem dX3_put_69 : decode cX3_put 69 = .ok (.aload_n 0, 1) := by decide +kernel
theorem dX3_put_70 : decode cX3_put 70 = .ok (.getfield 36, 3) := by decide +kernel
theorem dX3_put_73 : decode cX3_put 73 = .ok (.ifCond .eq 8, 3) := by decide +kernel
theorem dX3_put_76 : decode cX3_put 76 = .ok (.bipush (-2), 2) := by decide +kernel
theorem dX3_put_78 : decode cX3_put 78 = .ok (.goto 4, 3) := by decide +kernel
theorem dX3_put_81 : decode cX3_put 81 = .ok (.iconst 1, 1) := by decide +kernel
theorem dX3_put_82 : decode cX3_put 82 = .ok (.ireturn, 1) := by decide +kernel
theorem dX3_hasEntries_0 : decode cX3_hasEntries 0 = .ok (.iconst 0, 1) := by decide +kernel
theorem dX3_hasEntries_1 : decode cX3_hasEntries 1 = .ok (.istore_n 2, 1) := by decide +kernel
theorem dX3_hasEntries_2 : decode cX3_hasEntries 2 = .ok (.iload_n 2, 1) := by decide +kernel
theorem dX3_hasEntries_3 : decode cX3_hasEntries 3 = .ok (.bipush 8, 2) := by decide +kernel
theorem dX3_hasEntries_5 : decode cX3_hasEntries 5 = .ok (.if_icmp .ge 25, 3) := by decide +kernel
theorem dX3_hasEntries_8 : decode cX3_hasEntries 8 = .ok (.aload_n 0, 1) := by decide +kernel
theorem dX3_hasEntries_9 : decode cX3_hasEntries 9 = .ok (.getfield 16, 3) := by decide +kernel
theorem dX3_hasEntries_12 : decode cX3_hasEntries 12 = .ok (.bipush 8, 2) := by decide +kernel
theorem dX3_hasEntries_14 : decode cX3_hasEntries 14 = .ok (.iload_n 1, 1) := by decide +kernel
theorem dX3_hasEntries_15 : decode cX3_hasEntries 15 = .ok (.imul, 1) := by decide +kernel
theorem dX3_hasEntries_16 : decode cX3_hasEntries 16 = .ok (.iload_n 2, 1) := by decide +kernel
theorem dX3_hasEntries_17 : decode cX3_hasEntries 17 = .ok (.iadd, 1) := by decide +kernel
theorem dX3_hasEntries_18 : decode cX3_hasEntries 18 = .ok (.iaload, 1) := by decide +kernel
theorem dX3_hasEntries_19 : decode cX3_hasEntries 19 = .ok (.ifCond .eq 5, 3) := by decide +kernel
theorem dX3_hasEntries_22 : decode cX3_hasEntries 22 = .ok (.iconst 1, 1) := by decide +kernel
theorem dX3_hasEntries_23 : decode cX3_hasEntries 23 = .ok (.ireturn, 1) := by decide +kernel
theorem dX3_hasEntries_24 : decode cX3_hasEntries 24 = .ok (.iinc 2 1, 3) := by decide +kernel
theorem dX3_hasEntries_27 : decode cX3_hasEntries 27 = .ok (.goto (-25), 3) := by decide +kernel
theorem dX3_hasEntries_30 : decode cX3_hasEntries 30 = .ok (.iconst 0, 1) := by decide +kernel
theorem dX3_hasEntries_31 : decode cX3_hasEntries 31 = .ok (.ireturn, 1) := by decide +kernel
set_option maxRecDepth 20000 in
theorem ggX3_remove_X3_isInode : GoodIn wsX3_remove wsX3_isInode := goodIn_r _ [8, 9, 3, 10, 11, 7, 12, 39, 40, 41, 42, 43, 44, 45, 46, 47, 48, 49, 50, 51, 52, 53, 54] (by decide +kernel) (by decide +kernel)
set_option maxRecDepth 20000 in
theorem gX3_remove_X3_isInode : GoodIn wsX3_remove (wsV RX3 61 RX3 yX3_isInode wsX3_isInode) := goodIn_app (goodIn_of _ (by decide +kernel)) ggX3_remove_X3_isInode
set_option maxRecDepth 20000 in
theorem ggX3_remove_X3_isName : GoodIn wsX3_remove wsX3_isName := goodIn_r _ [15, 16, 10, 11, 7, 12] (by decide +kernel) (by decide +kernel)
set_option maxRecDepth 20000 in
theorem gX3_remove_X3_isName : GoodIn wsX3_remove (va_wsS RX3 65 yX3_isName wsX3_isName) := goodIn_app (goodIn_of _ (by decide +kernel)) ggX3_remove_X3_isName
set_option maxRecDepth 20000 in
theorem ggX3_remove_X3_entry : GoodIn wsX3_remove wsX3_entry := goodIn_r _ [20, 2, 39, 40, 41, 42, 43, 44, 45, 46, 47, 48, 49, 50, 51, 52, 53, 54] (by decide +kernel) (by decide +kernel)
set_option maxRecDepth 20000 in
theorem gX3_remove_X3_entry : GoodIn wsX3_remove (wsV RX3 70 RX3 yX3_entry wsX3_entry) := goodIn_app (goodIn_of _ (by decide +kernel)) ggX3_remove_X3_entry
set_option maxRecDepth 20000 in
theorem ggX3_remove_X3_hasEntries : GoodIn wsX3_remove wsX3_hasEntries := goodIn_r _ [24, 2, 39, 40, 41, 42, 43, 44, 45, 46, 47, 48, 49, 50, 51, 52, 53, 54] (by decide +kernel) (by decide +kernel)
set_option maxRecDepth 20000 in
theorem gX3_remove_X3_hasEntries : GoodIn wsX3_remove (wsV RX3 97 RX3 yX3_hasEntries wsX3_hasEntries) := goodIn_app (goodIn_of _ (by decide +kernel)) ggX3_remove_X3_hasEntries
set_option maxRecDepth 20000 in
theorem ggX3_remove_X3_setPlace : GoodIn wsX3_remove wsX3_setPlace := goodIn_r _ [28, 2, 29, 30, 31, 7, 32, 1, 33, 34, 39, 40, 41, 42, 43, 44, 45, 46, 47, 48, 49, 50, 51, 52, 53, 54] (by decide +kernel) (by decide +kernel)
set_option maxRecDepth 20000 in
theorem gX3_remove_X3_setPlace : GoodIn wsX3_remove (wsV RX3 82 RX3 yX3_setPlace wsX3_setPlace) := goodIn_app (goodIn_of _ (by decide +kernel)) ggX3_remove_X3_setPlace
set_option maxRecDepth 20000 in
theorem ggX3_remove_X3_setKind : GoodIn wsX3_remove wsX3_setKind := goodIn_r _ [38, 3, 29, 30, 31, 7, 32, 1, 33, 34, 39, 40, 41, 42, 43, 44, 45, 46, 47, 48, 49, 50, 51, 52, 53, 54] (by decide +kernel) (by decide +kernel)
set_option maxRecDepth 20000 in
theorem gX3_remove_X3_setKind : GoodIn wsX3_remove (wsV RX3 86 RX3 yX3_setKind wsX3_setKind) := goodIn_app (goodIn_of _ (by decide +kernel)) ggX3_remove_X3_setKind
theorem dX3_remove_0 : decode cX3_remove 0 = .ok (.aload_n 0, 1) := by decide +kernel
theorem dX3_remove_1 : decode cX3_remove 1 = .ok (.iload_n 1, 1) := by decide +kernel
theorem dX3_remove_2 : decode cX3_remove 2 = .ok (.iconst 1, 1) := by decide +kernel
theorem dX3_remove_3 : decode cX3_remove 3 = .ok (.invokevirtual 61, 3) := by decide +kernel
theorem dX3_remove_6 : decode cX3_remove 6 = .ok (.ifCond .eq 10, 3) := by decide +kernel
theorem dX3_remove_9 : decode cX3_remove 9 = .ok (.iload_n 2, 1) := by decide +kernel
theorem dX3_remove_10 : decode cX3_remove 10 = .ok (.invokestatic 65, 3) := by decide +kernel
theorem dX3_remove_13 : decode cX3_remove 13 = .ok (.ifCond .ne 5, 3) := by decide +kernel
theorem dX3_remove_16 : decode cX3_remove 16 = .ok (.iconst (-1), 1) := by decide +kernel
theorem dX3_remove_17 : decode cX3_remove 17 = .ok (.ireturn, 1) := by decide +kernel
theorem dX3_remove_18 : decode cX3_remove 18 = .ok (.aload_n 0, 1) := by decide +kernel
theorem dX3_remove_19 : decode cX3_remove 19 = .ok (.getfield 36, 3) := by decide +kernel
theorem dX3_remove_22 : decode cX3_remove 22 = .ok (.ifCond .eq 6, 3) := by decide +kernel
theorem dX3_remove_25 : decode cX3_remove 25 = .ok (.bipush (-2), 2) := by decide +kernel
theorem dX3_remove_27 : decode cX3_remove 27 = .ok (.ireturn, 1) := by decide +kernel
theorem dX3_remove_28 : decode cX3_remove 28 = .ok (.aload_n 0, 1) := by decide +kernel
theorem dX3_remove_29 : decode cX3_remove 29 = .ok (.iload_n 1, 1) := by decide +kernel
theorem dX3_remove_30 : decode cX3_remove 30 = .ok (.iload_n 2, 1) := by decide +kernel
theorem dX3_remove_31 : decode cX3_remove 31 = .ok (.invokevirtual 70, 3) := by decide +kernel
theorem dX3_remove_34 : decode cX3_remove 34 = .ok (.istore_n 3, 1) := by decide +kernel
theorem dX3_remove_35 : decode cX3_remove 35 = .ok (.iload_n 3, 1) := by decide +kernel
theorem dX3_remove_36 : decode cX3_remove 36 = .ok (.ifCond .ge 6, 3) := by decide +kernel
theorem dX3_remove_39 : decode cX3_remove 39 = .ok (.bipush (-3), 2) := by decide +kernel
theorem dX3_remove_41 : decode cX3_remove 41 = .ok (.ireturn, 1) := by decide +kernel
theorem dX3_remove_42 : decode cX3_remove 42 = .ok (.aload_n 0, 1) := by decide +kernel
theorem dX3_remove_43 : decode cX3_remove 43 = .ok (.getfield 16, 3) := by decide +kernel
theorem dX3_remove_46 : decode cX3_remove 46 = .ok (.bipush 8, 2) := by decide +kernel
theorem dX3_remove_48 : decode cX3_remove 48 = .ok (.iload_n 1, 1) := by decide +kernel
theorem dX3_remove_49 : decode cX3_remove 49 = .ok (.imul, 1) := by decide +kernel
theorem dX3_remove_50 : decode cX3_remove 50 = .ok (.iload_n 3, 1) := by decide +kernel
theorem dX3_remove_51 : decode cX3_remove 51 = .ok (.iadd, 1) := by decide +kernel
theorem dX3_remove_52 : decode cX3_remove 52 = .ok (.iaload, 1) := by decide +kernel
theorem dX3_remove_53 : decode cX3_remove 53 = .ok (.bipush 100, 2) := by decide +kernel
theorem dX3_remove_55 : decode cX3_remove 55 = .ok (.idiv, 1) := by decide +kernel
theorem dX3_remove_56 : decode cX3_remove 56 = .ok (.istore 4, 2) := by decide +kernel
theorem dX3_remove_58 : decode cX3_remove 58 = .ok (.aload_n 0, 1) := by decide +kernel
theorem dX3_remove_59 : decode cX3_remove 59 = .ok (.getfield 7, 3) := by decide +kernel
theorem dX3_remove_62 : decode cX3_remove 62 = .ok (.iload 4, 2) := by decide +kernel
theorem dX3_remove_64 : decode cX3_remove 64 = .ok (.iaload, 1) := by decide +kernel
theorem dX3_remove_65 : decode cX3_remove 65 = .ok (.iconst 1, 1) := by decide +kernel
theorem dX3_remove_66 : decode cX3_remove 66 = .ok (.if_icmp .ne 15, 3) := by decide +kernel
theorem dX3_remove_69 : decode cX3_remove 69 = .ok (.aload_n 0, 1) := by decide +kernel
theorem dX3_remove_70 : decode cX3_remove 70 = .ok (.iload 4, 2) := by decide +kernel
theorem dX3_remove_72 : decode cX3_remove 72 = .ok (.invokevirtual 97, 3) := by decide +kernel
theorem dX3_remove_75 : decode cX3_remove 75 = .ok (.ifCond .eq 6, 3) := by decide +kernel
theorem dX3_remove_78 : decode cX3_remove 78 = .ok (.bipush (-6), 2) := by decide +kernel
theorem dX3_remove_80 : decode cX3_remove 80 = .ok (.ireturn, 1) := by decide +kernel
theorem dX3_remove_81 : decode cX3_remove 81 = .ok (.aload_n 0, 1) := by decide +kernel
theorem dX3_remove_82 : decode cX3_remove 82 = .ok (.iload_n 1, 1) := by decide +kernel
theorem dX3_remove_83 : decode cX3_remove 83 = .ok (.iload_n 3, 1) := by decide +kernel
theorem dX3_remove_84 : decode cX3_remove 84 = .ok (.iconst 0, 1) := by decide +kernel
theorem dX3_remove_85 : decode cX3_remove 85 = .ok (.invokevirtual 82, 3) := by decide +kernel
theorem dX3_remove_88 : decode cX3_remove 88 = .ok (.aload_n 0, 1) := by decide +kernel
theorem dX3_remove_89 : decode cX3_remove 89 = .ok (.iload 4, 2) := by decide +kernel
theorem dX3_remove_91 : decode cX3_remove 91 = .ok (.iconst 0, 1) := by decide +kernel
theorem dX3_remove_92 : decode cX3_remove 92 = .ok (.invokevirtual 86, 3) := by decide +kernel
theorem dX3_remove_95 : decode cX3_remove 95 = .ok (.aload_n 0, 1) := by decide +kernel
theorem dX3_remove_96 : decode cX3_remove 96 = .ok (.getfield 36, 3) := by decide +kernel
theorem dX3_remove_99 : decode cX3_remove 99 = .ok (.ifCond .eq 8, 3) := by decide +kernel
theorem dX3_remove_102 : decode cX3_remove 102 = .ok (.bipush (-2), 2) := by decide +kernel
theorem dX3_remove_104 : decode cX3_remove 104 = .ok (.goto 5, 3) := by decide +kernel
theorem dX3_remove_107 : decode cX3_remove 107 = .ok (.iload 4, 2) := by decide +kernel
theorem dX3_remove_109 : decode cX3_remove 109 = .ok (.ireturn, 1) := by decide +kernel
theorem dX3_isWithin_0 : decode cX3_isWithin 0 = .ok (.iconst 1, 1) := by decide +kernel
theorem dX3_isWithin_1 : decode cX3_isWithin 1 = .ok (.iload_n 2, 1) := by decide +kernel
theorem dX3_isWithin_2 : decode cX3_isWithin 2 = .ok (.ishl, 1) := by decide +kernel
theorem dX3_isWithin_3 : decode cX3_isWithin 3 = .ok (.istore_n 3, 1) := by decide +kernel
theorem dX3_isWithin_4 : decode cX3_isWithin 4 = .ok (.iconst 1, 1) := by decide +kernel
theorem dX3_isWithin_5 : decode cX3_isWithin 5 = .ok (.istore 4, 2) := by decide +kernel
theorem dX3_isWithin_7 : decode cX3_isWithin 7 = .ok (.iload 4, 2) := by decide +kernel
theorem dX3_isWithin_9 : decode cX3_isWithin 9 = .ok (.ifCond .eq 116, 3) := by decide +kernel
theorem dX3_isWithin_12 : decode cX3_isWithin 12 = .ok (.iload_n 3, 1) := by decide +kernel
theorem dX3_isWithin_13 : decode cX3_isWithin 13 = .ok (.istore 5, 2) := by decide +kernel
theorem dX3_isWithin_15 : decode cX3_isWithin 15 = .ok (.iconst 0, 1) := by decide +kernel
theorem dX3_isWithin_16 : decode cX3_isWithin 16 = .ok (.istore 6, 2) := by decide +kernel
theorem dX3_isWithin_18 : decode cX3_isWithin 18 = .ok (.iload 6, 2) := by decide +kernel
theorem dX3_isWithin_20 : decode cX3_isWithin 20 = .ok (.bipush 12, 2) := by decide +kernel
theorem dX3_isWithin_22 : decode cX3_isWithin 22 = .ok (.if_icmp .ge 87, 3) := by decide +kernel
theorem dX3_isWithin_25 : decode cX3_isWithin 25 = .ok (.iconst 0, 1) := by decide +kernel
theorem dX3_isWithin_26 : decode cX3_isWithin 26 = .ok (.istore 7, 2) := by decide +kernel
theorem dX3_isWithin_28 : decode cX3_isWithin 28 = .ok (.iload 7, 2) := by decide +kernel
theorem dX3_isWithin_30 : decode cX3_isWithin 30 = .ok (.bipush 8, 2) := by decide +kernel
theorem dX3_isWithin_32 : decode cX3_isWithin 32 = .ok (.if_icmp .ge 71, 3) := by decide +kernel
theorem dX3_isWithin_35 : decode cX3_isWithin 35 = .ok (.aload_n 0, 1) := by decide +kernel
theorem dX3_isWithin_36 : decode cX3_isWithin 36 = .ok (.getfield 7, 3) := by decide +kernel
theorem dX3_isWithin_39 : decode cX3_isWithin 39 = .ok (.iload 6, 2) := by decide +kernel
theorem dX3_isWithin_41 : decode cX3_isWithin 41 = .ok (.iaload, 1) := by decide +kernel
theorem dX3_isWithin_42 : decode cX3_isWithin 42 = .ok (.iconst 1, 1) := by decide +kernel
theorem dX3_isWithin_43 : decode cX3_isWithin 43 = .ok (.if_icmp .ne 60, 3) := by decide +kernel
theorem dX3_isWithin_46 : decode cX3_isWithin 46 = .ok (.iload_n 3, 1) := by decide +kernel
theorem dX3_isWithin_47 : decode cX3_isWithin 47 = .ok (.iload 6, 2) := by decide +kernel
theorem dX3_isWithin_49 : decode cX3_isWithin 49 = .ok (.ishr, 1) := by decide +kernel
theorem dX3_isWithin_50 : decode cX3_isWithin 50 = .ok (.iconst 1, 1) := by decide +kernel
theorem dX3_isWithin_51 : decode cX3_isWithin 51 = .ok (.iand, 1) := by decide +kernel
theorem dX3_isWithin_52 : decode cX3_isWithin 52 = .ok (.iconst 1, 1) := by decide +kernel
theorem dX3_isWithin_53 : decode cX3_isWithin 53 = .ok (.if_icmp .ne 50, 3) := by decide +kernel
theorem dX3_isWithin_56 : decode cX3_isWithin 56 = .ok (.iload_n 3, 1) := by decide +kernel
theorem dX3_isWithin_57 : decode cX3_isWithin 57 = .ok (.aload_n 0, 1) := by decide +kernel
theorem dX3_isWithin_58 : decode cX3_isWithin 58 = .ok (.getfield 16, 3) := by decide +kernel
theorem dX3_isWithin_61 : decode cX3_isWithin 61 = .ok (.bipush 8, 2) := by decide +kernel
theorem dX3_isWithin_63 : decode cX3_isWithin 63 = .ok (.iload 6, 2) := by decide +kernel
theorem dX3_isWithin_65 : decode cX3_isWithin 65 = .ok (.imul, 1) := by decide +kernel
theorem dX3_isWithin_66 : decode cX3_isWithin 66 = .ok (.iload 7, 2) := by decide +kernel
theorem dX3_isWithin_68 : decode cX3_isWithin 68 = .ok (.iadd, 1) := by decide +kernel
theorem dX3_isWithin_69 : decode cX3_isWithin 69 = .ok (.iaload, 1) := by decide +kernel
theorem dX3_isWithin_70 : decode cX3_isWithin 70 = .ok (.ifCond .le 24, 3) := by decide +kernel
theorem dX3_isWithin_73 : decode cX3_isWithin 73 = .ok (.iconst 1, 1) := by decide +kernel
theorem dX3_isWithin_74 : decode cX3_isWithin 74 = .ok (.aload_n 0, 1) := by decide +kernel
theorem dX3_isWithin_75 : decode cX3_isWithin 75 = .ok (.getfield 16, 3) := by decide +kernel
theorem dX3_isWithin_78 : decode cX3_isWithin 78 = .ok (.bipush 8, 2) := by decide +kernel
theorem dX3_isWithin_80 : decode cX3_isWithin 80 = .ok (.iload 6, 2) := by decide +kernel
theorem dX3_isWithin_82 : decode cX3_isWithin 82 = .ok (.imul, 1) := by decide +kernel
theorem dX3_isWithin_83 : decode cX3_isWithin 83 = .ok (.iload 7, 2) := by decide +kernel
theorem dX3_isWithin_85 : decode cX3_isWithin 85 = .ok (.iadd, 1) := by decide +kernel
theorem dX3_isWithin_86 : decode cX3_isWithin 86 = .ok (.iaload, 1) := by decide +kernel
theorem dX3_isWithin_87 : decode cX3_isWithin 87 = .ok (.bipush 100, 2) := by decide +kernel
theorem dX3_isWithin_89 : decode cX3_isWithin 89 = .ok (.idiv, 1) := by decide +kernel
theorem dX3_isWithin_90 : decode cX3_isWithin 90 = .ok (.ishl, 1) := by decide +kernel
theorem dX3_isWithin_91 : decode cX3_isWithin 91 = .ok (.goto 4, 3) := by decide +kernel
theorem dX3_isWithin_94 : decode cX3_isWithin 94 = .ok (.iconst 0, 1) := by decide +kernel
theorem dX3_isWithin_95 : decode cX3_isWithin 95 = .ok (.ior, 1) := by decide +kernel
theorem dX3_isWithin_96 : decode cX3_isWithin 96 = .ok (.istore_n 3, 1) := by decide +kernel
theorem dX3_isWithin_97 : decode cX3_isWithin 97 = .ok (.iinc 7 1, 3) := by decide +kernel
theorem dX3_isWithin_100 : decode cX3_isWithin 100 = .ok (.goto (-72), 3) := by decide +kernel
theorem dX3_isWithin_103 : decode cX3_isWithin 103 = .ok (.iinc 6 1, 3) := by decide +kernel
theorem dX3_isWithin_106 : decode cX3_isWithin 106 = .ok (.goto (-88), 3) := by decide +kernel
theorem dX3_isWithin_109 : decode cX3_isWithin 109 = .ok (.iload_n 3, 1) := by decide +kernel
theorem dX3_isWithin_110 : decode cX3_isWithin 110 = .ok (.iload 5, 2) := by decide +kernel
theorem dX3_isWithin_112 : decode cX3_isWithin 112 = .ok (.if_icmp .eq 7, 3) := by decide +kernel
theorem dX3_isWithin_115 : decode cX3_isWithin 115 = .ok (.iconst 1, 1) := by decide +kernel
theorem dX3_isWithin_116 : decode cX3_isWithin 116 = .ok (.goto 4, 3) := by decide +kernel
theorem dX3_isWithin_119 : decode cX3_isWithin 119 = .ok (.iconst 0, 1) := by decide +kernel
theorem dX3_isWithin_120 : decode cX3_isWithin 120 = .ok (.istore 4, 2) := by decide +kernel
theorem dX3_isWithin_122 : decode cX3_isWithin 122 = .ok (.goto (-115), 3) := by decide +kernel
theorem dX3_isWithin_125 : decode cX3_isWithin 125 = .ok (.iload_n 3, 1) := by decide +kernel
theorem dX3_isWithin_126 : decode cX3_isWithin 126 = .ok (.iload_n 1, 1) := by decide +kernel
theorem dX3_isWithin_127 : decode cX3_isWithin 127 = .ok (.ishr, 1) := by decide +kernel
theorem dX3_isWithin_128 : decode cX3_isWithin 128 = .ok (.iconst 1, 1) := by decide +kernel
theorem dX3_isWithin_129 : decode cX3_isWithin 129 = .ok (.iand, 1) := by decide +kernel
theorem dX3_isWithin_130 : decode cX3_isWithin 130 = .ok (.iconst 1, 1) := by decide +kernel
theorem dX3_isWithin_131 : decode cX3_isWithin 131 = .ok (.if_icmp .ne 7, 3) := by decide +kernel
theorem dX3_isWithin_134 : decode cX3_isWithin 134 = .ok (.iconst 1, 1) := by decide +kernel
theorem dX3_isWithin_135 : decode cX3_isWithin 135 = .ok (.goto 4, 3) := by decide +kernel
theorem dX3_isWithin_138 : decode cX3_isWithin 138 = .ok (.iconst 0, 1) := by decide +kernel
theorem dX3_isWithin_139 : decode cX3_isWithin 139 = .ok (.ireturn, 1) := by decide +kernel
set_option maxRecDepth 20000 in
theorem ggX3_rename_X3_isInode : GoodIn wsX3_rename wsX3_isInode := goodIn_r _ [8, 9, 3, 10, 11, 7, 12, 39, 40, 41, 42, 43, 44, 45, 46, 47, 48, 49, 50, 51, 52, 53, 54] (by decide +kernel) (by decide +kernel)
set_option maxRecDepth 20000 in
theorem gX3_rename_X3_isInode : GoodIn wsX3_rename (wsV RX3 61 RX3 yX3_isInode wsX3_isInode) := goodIn_app (goodIn_of _ (by decide +kernel)) ggX3_rename_X3_isInode
set_option maxRecDepth 20000 in
theorem ggX3_rename_X3_isName : GoodIn wsX3_rename wsX3_isName := goodIn_r _ [15, 16, 10, 11, 7, 12] (by decide +kernel) (by decide +kernel)
set_option maxRecDepth 20000 in
theorem gX3_rename_X3_isName : GoodIn wsX3_rename (va_wsS RX3 65 yX3_isName wsX3_isName) := goodIn_app (goodIn_of _ (by decide +kernel)) ggX3_rename_X3_isName
set_option maxRecDepth 20000 in
theorem ggX3_rename_X3_entry : GoodIn wsX3_rename wsX3_entry := goodIn_r _ [20, 2, 39, 40, 41, 42, 43, 44, 45, 46, 47, 48, 49, 50, 51, 52, 53, 54] (by decide +kernel) (by decide +kernel)
set_option maxRecDepth 20000 in
theorem gX3_rename_X3_entry : GoodIn wsX3_rename (wsV RX3 70 RX3 yX3_entry wsX3_entry) := goodIn_app (goodIn_of _ (by decide +kernel)) ggX3_rename_X3_entry
set_option maxRecDepth 20000 in
theorem ggX3_rename_X3_noEntry : GoodIn wsX3_rename wsX3_noEntry := goodIn_r _ [24, 2, 39, 40, 41, 42, 43, 44, 45, 46, 47, 48, 49, 50, 51, 52, 53, 54] (by decide +kernel) (by decide +kernel)
set_option maxRecDepth 20000 in
theorem gX3_rename_X3_noEntry : GoodIn wsX3_rename (wsV RX3 74 RX3 yX3_noEntry wsX3_noEntry) := goodIn_app (goodIn_of _ (by decide +kernel)) ggX3_rename_X3_noEntry
set_option maxRecDepth 20000 in
theorem ggX3_rename_X3_isWithin : GoodIn wsX3_rename wsX3_isWithin := goodIn_r _ [28, 3, 2, 39, 40, 41, 42, 43, 44, 45, 46, 47, 48, 49, 50, 51, 52, 53, 54] (by decide +kernel) (by decide +kernel)
set_option maxRecDepth 20000 in
theorem gX3_rename_X3_isWithin : GoodIn wsX3_rename (wsV RX3 100 RX3 yX3_isWithin wsX3_isWithin) := goodIn_app (goodIn_of _ (by decide +kernel)) ggX3_rename_X3_isWithin
set_option maxRecDepth 20000 in
theorem ggX3_rename_X3_setPlace : GoodIn wsX3_rename wsX3_setPlace := goodIn_r _ [32, 2, 33, 34, 35, 7, 36, 1, 37, 38, 39, 40, 41, 42, 43, 44, 45, 46, 47, 48, 49, 50, 51, 52, 53, 54] (by decide +kernel) (by decide +kernel)
set_option maxRecDepth 20000 in
theorem gX3_rename_X3_setPlace : GoodIn wsX3_rename (wsV RX3 82 RX3 yX3_setPlace wsX3_setPlace) := goodIn_app (goodIn_of _ (by decide +kernel)) ggX3_rename_X3_setPlace
theorem dX3_rename_0 : decode cX3_rename 0 = .ok (.aload_n 0, 1) := by decide +kernel
theorem dX3_rename_1 : decode cX3_rename 1 = .ok (.iload_n 1, 1) := by decide +kernel
theorem dX3_rename_2 : decode cX3_rename 2 = .ok (.iconst 1, 1) := by decide +kernel
theorem dX3_rename_3 : decode cX3_rename 3 = .ok (.invokevirtual 61, 3) := by decide +kernel
theorem dX3_rename_6 : decode cX3_rename 6 = .ok (.ifCond .eq 27, 3) := by decide +kernel
theorem dX3_rename_9 : decode cX3_rename 9 = .ok (.iload_n 2, 1) := by decide +kernel
theorem dX3_rename_10 : decode cX3_rename 10 = .ok (.invokestatic 65, 3) := by decide +kernel
theorem dX3_rename_13 : decode cX3_rename 13 = .ok (.ifCond .eq 20, 3) := by decide +kernel
theorem dX3_rename_16 : decode cX3_rename 16 = .ok (.aload_n 0, 1) := by decide +kernel
theorem dX3_rename_17 : decode cX3_rename 17 = .ok (.iload_n 3, 1) := by decide +kernel
theorem dX3_rename_18 : decode cX3_rename 18 = .ok (.iconst 1, 1) := by decide +kernel
theorem dX3_rename_19 : decode cX3_rename 19 = .ok (.invokevirtual 61, 3) := by decide +kernel
theorem dX3_rename_22 : decode cX3_rename 22 = .ok (.ifCond .eq 11, 3) := by decide +kernel
theorem dX3_rename_25 : decode cX3_rename 25 = .ok (.iload 4, 2) := by decide +kernel
theorem dX3_rename_27 : decode cX3_rename 27 = .ok (.invokestatic 65, 3) := by decide +kernel
theorem dX3_rename_30 : decode cX3_rename 30 = .ok (.ifCond .ne 5, 3) := by decide +kernel
theorem dX3_rename_33 : decode cX3_rename 33 = .ok (.iconst (-1), 1) := by decide +kernel
theorem dX3_rename_34 : decode cX3_rename 34 = .ok (.ireturn, 1) := by decide +kernel
theorem dX3_rename_35 : decode cX3_rename 35 = .ok (.aload_n 0, 1) := by decide +kernel
theorem dX3_rename_36 : decode cX3_rename 36 = .ok (.getfield 36, 3) := by decide +kernel
theorem dX3_rename_39 : decode cX3_rename 39 = .ok (.ifCond .eq 6, 3) := by decide +kernel
theorem dX3_rename_42 : decode cX3_rename 42 = .ok (.bipush (-2), 2) := by decide +kernel
theorem dX3_rename_44 : decode cX3_rename 44 = .ok (.ireturn, 1) := by decide +kernel
theorem dX3_rename_45 : decode cX3_rename 45 = .ok (.aload_n 0, 1) := by decide +kernel
theorem dX3_rename_46 : decode cX3_rename 46 = .ok (.iload_n 1, 1) := by decide +kernel
theorem dX3_rename_47 : decode cX3_rename 47 = .ok (.iload_n 2, 1) := by decide +kernel
theorem dX3_rename_48 : decode cX3_rename 48 = .ok (.invokevirtual 70, 3) := by decide +kernel
theorem dX3_rename_51 : decode cX3_rename 51 = .ok (.istore 5, 2) := by decide +kernel
theorem dX3_rename_53 : decode cX3_rename 53 = .ok (.iload 5, 2) := by decide +kernel
theorem dX3_rename_55 : decode cX3_rename 55 = .ok (.ifCond .ge 6, 3) := by decide +kernel
theorem dX3_rename_58 : decode cX3_rename 58 = .ok (.bipush (-3), 2) := by decide +kernel
theorem dX3_rename_60 : decode cX3_rename 60 = .ok (.ireturn, 1) := by decide +kernel
theorem dX3_rename_61 : decode cX3_rename 61 = .ok (.aload_n 0, 1) := by decide +kernel
theorem dX3_rename_62 : decode cX3_rename 62 = .ok (.iload_n 3, 1) := by decide +kernel
theorem dX3_rename_63 : decode cX3_rename 63 = .ok (.iload 4, 2) := by decide +kernel
theorem dX3_rename_65 : decode cX3_rename 65 = .ok (.invokevirtual 70, 3) := by decide +kernel
theorem dX3_rename_68 : decode cX3_rename 68 = .ok (.ifCond .lt 6, 3) := by decide +kernel
theorem dX3_rename_71 : decode cX3_rename 71 = .ok (.bipush (-4), 2) := by decide +kernel
theorem dX3_rename_73 : decode cX3_rename 73 = .ok (.ireturn, 1) := by decide +kernel
theorem dX3_rename_74 : decode cX3_rename 74 = .ok (.aload_n 0, 1) := by decide +kernel
theorem dX3_rename_75 : decode cX3_rename 75 = .ok (.iload_n 3, 1) := by decide +kernel
theorem dX3_rename_76 : decode cX3_rename 76 = .ok (.invokevirtual 74, 3) := by decide +kernel
theorem dX3_rename_79 : decode cX3_rename 79 = .ok (.istore 6, 2) := by decide +kernel
theorem dX3_rename_81 : decode cX3_rename 81 = .ok (.iload 6, 2) := by decide +kernel
theorem dX3_rename_83 : decode cX3_rename 83 = .ok (.ifCond .ge 6, 3) := by decide +kernel
theorem dX3_rename_86 : decode cX3_rename 86 = .ok (.bipush (-5), 2) := by decide +kernel
theorem dX3_rename_88 : decode cX3_rename 88 = .ok (.ireturn, 1) := by decide +kernel
theorem dX3_rename_89 : decode cX3_rename 89 = .ok (.aload_n 0, 1) := by decide +kernel
theorem dX3_rename_90 : decode cX3_rename 90 = .ok (.getfield 16, 3) := by decide +kernel
theorem dX3_rename_93 : decode cX3_rename 93 = .ok (.bipush 8, 2) := by decide +kernel
theorem dX3_rename_95 : decode cX3_rename 95 = .ok (.iload_n 1, 1) := by decide +kernel
theorem dX3_rename_96 : decode cX3_rename 96 = .ok (.imul, 1) := by decide +kernel
theorem dX3_rename_97 : decode cX3_rename 97 = .ok (.iload 5, 2) := by decide +kernel
theorem dX3_rename_99 : decode cX3_rename 99 = .ok (.iadd, 1) := by decide +kernel
theorem dX3_rename_100 : decode cX3_rename 100 = .ok (.iaload, 1) := by decide +kernel
theorem dX3_rename_101 : decode cX3_rename 101 = .ok (.bipush 100, 2) := by decide +kernel
theorem dX3_rename_103 : decode cX3_rename 103 = .ok (.idiv, 1) := by decide +kernel
theorem dX3_rename_104 : decode cX3_rename 104 = .ok (.istore 7, 2) := by decide +kernel
theorem dX3_rename_106 : decode cX3_rename 106 = .ok (.aload_n 0, 1) := by decide +kernel
theorem dX3_rename_107 : decode cX3_rename 107 = .ok (.getfield 7, 3) := by decide +kernel
theorem dX3_rename_110 : decode cX3_rename 110 = .ok (.iload 7, 2) := by decide +kernel
theorem dX3_rename_112 : decode cX3_rename 112 = .ok (.iaload, 1) := by decide +kernel
theorem dX3_rename_113 : decode cX3_rename 113 = .ok (.iconst 1, 1) := by decide +kernel
theorem dX3_rename_114 : decode cX3_rename 114 = .ok (.if_icmp .ne 16, 3) := by decide +kernel
theorem dX3_rename_117 : decode cX3_rename 117 = .ok (.aload_n 0, 1) := by decide +kernel
theorem dX3_rename_118 : decode cX3_rename 118 = .ok (.iload_n 3, 1) := by decide +kernel
theorem dX3_rename_119 : decode cX3_rename 119 = .ok (.iload 7, 2) := by decide +kernel
theorem dX3_rename_121 : decode cX3_rename 121 = .ok (.invokevirtual 100, 3) := by decide +kernel
theorem dX3_rename_124 : decode cX3_rename 124 = .ok (.ifCond .eq 6, 3) := by decide +kernel
theorem dX3_rename_127 : decode cX3_rename 127 = .ok (.bipush (-6), 2) := by decide +kernel
theorem dX3_rename_129 : decode cX3_rename 129 = .ok (.ireturn, 1) := by decide +kernel
theorem dX3_rename_130 : decode cX3_rename 130 = .ok (.aload_n 0, 1) := by decide +kernel
theorem dX3_rename_131 : decode cX3_rename 131 = .ok (.iload_n 3, 1) := by decide +kernel
theorem dX3_rename_132 : decode cX3_rename 132 = .ok (.iload 6, 2) := by decide +kernel
theorem dX3_rename_134 : decode cX3_rename 134 = .ok (.bipush 100, 2) := by decide +kernel
theorem dX3_rename_136 : decode cX3_rename 136 = .ok (.iload 7, 2) := by decide +kernel
theorem dX3_rename_138 : decode cX3_rename 138 = .ok (.imul, 1) := by decide +kernel
theorem dX3_rename_139 : decode cX3_rename 139 = .ok (.iload 4, 2) := by decide +kernel
theorem dX3_rename_141 : decode cX3_rename 141 = .ok (.iadd, 1) := by decide +kernel
theorem dX3_rename_142 : decode cX3_rename 142 = .ok (.invokevirtual 82, 3) := by decide +kernel
theorem dX3_rename_145 : decode cX3_rename 145 = .ok (.aload_n 0, 1) := by decide +kernel
theorem dX3_rename_146 : decode cX3_rename 146 = .ok (.iload_n 1, 1) := by decide +kernel
theorem dX3_rename_147 : decode cX3_rename 147 = .ok (.iload 5, 2) := by decide +kernel
theorem dX3_rename_149 : decode cX3_rename 149 = .ok (.iconst 0, 1) := by decide +kernel
theorem dX3_rename_150 : decode cX3_rename 150 = .ok (.invokevirtual 82, 3) := by decide +kernel
theorem dX3_rename_153 : decode cX3_rename 153 = .ok (.aload_n 0, 1) := by decide +kernel
theorem dX3_rename_154 : decode cX3_rename 154 = .ok (.getfield 36, 3) := by decide +kernel
theorem dX3_rename_157 : decode cX3_rename 157 = .ok (.ifCond .eq 8, 3) := by decide +kernel
theorem dX3_rename_160 : decode cX3_rename 160 = .ok (.bipush (-2), 2) := by decide +kernel
theorem dX3_rename_162 : decode cX3_rename 162 = .ok (.goto 5, 3) := by decide +kernel
theorem dX3_rename_165 : decode cX3_rename 165 = .ok (.iload 7, 2) := by decide +kernel
theorem dX3_rename_167 : decode cX3_rename 167 = .ok (.ireturn, 1) := by decide +kernel
set_option maxRecDepth 20000 in
theorem ggX3_look_X3_lookAt : GoodIn wsX3_look wsX3_lookAt := goodIn_r _ [8, 9, 10, 11, 1, 2, 3, 12, 13, 14, 15, 7, 16, 17, 18, 19, 20, 21, 22, 23, 24, 25, 26, 27, 28, 29, 30, 31, 32, 33, 34, 35, 36] (by decide +kernel) (by decide +kernel)
set_option maxRecDepth 20000 in
theorem gX3_look_X3_lookAt : GoodIn wsX3_look (wsV RX3 103 RX3 yX3_lookAt wsX3_lookAt) := goodIn_app (goodIn_of _ (by decide +kernel)) ggX3_look_X3_lookAt
theorem dX3_look_0 : decode cX3_look 0 = .ok (.iconst 0, 1) := by decide +kernel
theorem dX3_look_1 : decode cX3_look 1 = .ok (.istore_n 1, 1) := by decide +kernel
theorem dX3_look_2 : decode cX3_look 2 = .ok (.iconst 0, 1) := by decide +kernel
theorem dX3_look_3 : decode cX3_look 3 = .ok (.istore_n 2, 1) := by decide +kernel
theorem dX3_look_4 : decode cX3_look 4 = .ok (.iload_n 2, 1) := by decide +kernel
theorem dX3_look_5 : decode cX3_look 5 = .ok (.bipush 12, 2) := by decide +kernel
theorem dX3_look_7 : decode cX3_look 7 = .ok (.if_icmp .ge 63, 3) := by decide +kernel
theorem dX3_look_10 : decode cX3_look 10 = .ok (.iconst 0, 1) := by decide +kernel
theorem dX3_look_11 : decode cX3_look 11 = .ok (.istore_n 3, 1) := by decide +kernel
theorem dX3_look_12 : decode cX3_look 12 = .ok (.aload_n 0, 1) := by decide +kernel
theorem dX3_look_13 : decode cX3_look 13 = .ok (.getfield 7, 3) := by decide +kernel
theorem dX3_look_16 : decode cX3_look 16 = .ok (.iload_n 2, 1) := by decide +kernel
theorem dX3_look_17 : decode cX3_look 17 = .ok (.iaload, 1) := by decide +kernel
theorem dX3_look_18 : decode cX3_look 18 = .ok (.iconst 2, 1) := by decide +kernel
theorem dX3_look_19 : decode cX3_look 19 = .ok (.if_icmp .ne 45, 3) := by decide +kernel
theorem dX3_look_22 : decode cX3_look 22 = .ok (.iload_n 3, 1) := by decide +kernel
theorem dX3_look_23 : decode cX3_look 23 = .ok (.aload_n 0, 1) := by decide +kernel
theorem dX3_look_24 : decode cX3_look 24 = .ok (.getfield 13, 3) := by decide +kernel
theorem dX3_look_27 : decode cX3_look 27 = .ok (.iload_n 2, 1) := by decide +kernel
theorem dX3_look_28 : decode cX3_look 28 = .ok (.iaload, 1) := by decide +kernel
theorem dX3_look_29 : decode cX3_look 29 = .ok (.if_icmp .ge 35, 3) := by decide +kernel
theorem dX3_look_32 : decode cX3_look 32 = .ok (.aload_n 0, 1) := by decide +kernel
theorem dX3_look_33 : decode cX3_look 33 = .ok (.getfield 16, 3) := by decide +kernel
theorem dX3_look_36 : decode cX3_look 36 = .ok (.bipush 8, 2) := by decide +kernel
theorem dX3_look_38 : decode cX3_look 38 = .ok (.iload_n 2, 1) := by decide +kernel
theorem dX3_look_39 : decode cX3_look 39 = .ok (.imul, 1) := by decide +kernel
theorem dX3_look_40 : decode cX3_look 40 = .ok (.iload_n 3, 1) := by decide +kernel
theorem dX3_look_41 : decode cX3_look 41 = .ok (.iadd, 1) := by decide +kernel
theorem dX3_look_42 : decode cX3_look 42 = .ok (.iaload, 1) := by decide +kernel
theorem dX3_look_43 : decode cX3_look 43 = .ok (.iload_n 1, 1) := by decide +kernel
theorem dX3_look_44 : decode cX3_look 44 = .ok (.if_icmp .eq 11, 3) := by decide +kernel
theorem dX3_look_47 : decode cX3_look 47 = .ok (.aload_n 0, 1) := by decide +kernel
theorem dX3_look_48 : decode cX3_look 48 = .ok (.iload_n 2, 1) := by decide +kernel
theorem dX3_look_49 : decode cX3_look 49 = .ok (.iload_n 3, 1) := by decide +kernel
theorem dX3_look_50 : decode cX3_look 50 = .ok (.iload_n 1, 1) := by decide +kernel
theorem dX3_look_51 : decode cX3_look 51 = .ok (.invokevirtual 103, 3) := by decide +kernel
theorem dX3_look_54 : decode cX3_look 54 = .ok (.ireturn, 1) := by decide +kernel
theorem dX3_look_55 : decode cX3_look 55 = .ok (.iinc 1 1, 3) := by decide +kernel
theorem dX3_look_58 : decode cX3_look 58 = .ok (.iinc 3 1, 3) := by decide +kernel
theorem dX3_look_61 : decode cX3_look 61 = .ok (.goto (-49), 3) := by decide +kernel
theorem dX3_look_64 : decode cX3_look 64 = .ok (.iinc 2 1, 3) := by decide +kernel
theorem dX3_look_67 : decode cX3_look 67 = .ok (.goto (-63), 3) := by decide +kernel
theorem dX3_look_70 : decode cX3_look 70 = .ok (.iconst 0, 1) := by decide +kernel
theorem dX3_look_71 : decode cX3_look 71 = .ok (.ireturn, 1) := by decide +kernel
set_option maxRecDepth 20000 in
theorem ggX3_lookAt_X3_isUsed : GoodIn wsX3_lookAt wsX3_isUsed := goodIn_r _ [12, 4, 5, 6, 17, 18, 19, 20, 21, 22, 23, 24, 25, 26, 27, 28, 29, 30, 31, 32] (by decide +kernel) (by decide +kernel)
set_option maxRecDepth 20000 in
theorem gX3_lookAt_X3_isUsed : GoodIn wsX3_lookAt (wsV RX3 57 RX3 yX3_isUsed wsX3_isUsed) := goodIn_app (goodIn_of _ (by decide +kernel)) ggX3_lookAt_X3_isUsed
set_option maxRecDepth 20000 in
theorem ggX3_lookAt_X3_greatestFree : GoodIn wsX3_lookAt wsX3_greatestFree := goodIn_r _ [16, 8, 9, 10, 11, 12, 4, 5, 6, 17, 18, 19, 20, 21, 22, 23, 24, 25, 26, 27, 28, 29, 30, 31, 32] (by decide +kernel) (by decide +kernel)
set_option maxRecDepth 20000 in
theorem gX3_lookAt_X3_greatestFree : GoodIn wsX3_lookAt (wsV RX3 116 RX3 yX3_greatestFree wsX3_greatestFree) := goodIn_app (goodIn_of _ (by decide +kernel)) ggX3_lookAt_X3_greatestFree
theorem dX3_lookAt_0 : decode cX3_lookAt 0 = .ok (.aload_n 0, 1) := by decide +kernel
theorem dX3_lookAt_1 : decode cX3_lookAt 1 = .ok (.iload_n 1, 1) := by decide +kernel
theorem dX3_lookAt_2 : decode cX3_lookAt 2 = .ok (.putfield 107, 3) := by decide +kernel
theorem dX3_lookAt_5 : decode cX3_lookAt 5 = .ok (.aload_n 0, 1) := by decide +kernel
theorem dX3_lookAt_6 : decode cX3_lookAt 6 = .ok (.iload_n 2, 1) := by decide +kernel
theorem dX3_lookAt_7 : decode cX3_lookAt 7 = .ok (.putfield 110, 3) := by decide +kernel
theorem dX3_lookAt_10 : decode cX3_lookAt 10 = .ok (.aload_n 0, 1) := by decide +kernel
theorem dX3_lookAt_11 : decode cX3_lookAt 11 = .ok (.iload_n 3, 1) := by decide +kernel
theorem dX3_lookAt_12 : decode cX3_lookAt 12 = .ok (.putfield 113, 3) := by decide +kernel
theorem dX3_lookAt_15 : decode cX3_lookAt 15 = .ok (.aload_n 0, 1) := by decide +kernel
theorem dX3_lookAt_16 : decode cX3_lookAt 16 = .ok (.iload_n 3, 1) := by decide +kernel
theorem dX3_lookAt_17 : decode cX3_lookAt 17 = .ok (.invokevirtual 57, 3) := by decide +kernel
theorem dX3_lookAt_20 : decode cX3_lookAt 20 = .ok (.ifCond .eq 93, 3) := by decide +kernel
theorem dX3_lookAt_23 : decode cX3_lookAt 23 = .ok (.aload_n 0, 1) := by decide +kernel
theorem dX3_lookAt_24 : decode cX3_lookAt 24 = .ok (.aload_n 0, 1) := by decide +kernel
theorem dX3_lookAt_25 : decode cX3_lookAt 25 = .ok (.invokevirtual 116, 3) := by decide +kernel
theorem dX3_lookAt_28 : decode cX3_lookAt 28 = .ok (.putfield 113, 3) := by decide +kernel
theorem dX3_lookAt_31 : decode cX3_lookAt 31 = .ok (.bipush 11, 2) := by decide +kernel
theorem dX3_lookAt_33 : decode cX3_lookAt 33 = .ok (.istore 4, 2) := by decide +kernel
theorem dX3_lookAt_35 : decode cX3_lookAt 35 = .ok (.iload 4, 2) := by decide +kernel
theorem dX3_lookAt_37 : decode cX3_lookAt 37 = .ok (.ifCond .lt 76, 3) := by decide +kernel
theorem dX3_lookAt_40 : decode cX3_lookAt 40 = .ok (.bipush 7, 2) := by decide +kernel
theorem dX3_lookAt_42 : decode cX3_lookAt 42 = .ok (.istore 5, 2) := by decide +kernel
theorem dX3_lookAt_44 : decode cX3_lookAt 44 = .ok (.iload 5, 2) := by decide +kernel
theorem dX3_lookAt_46 : decode cX3_lookAt 46 = .ok (.ifCond .lt 61, 3) := by decide +kernel
theorem dX3_lookAt_49 : decode cX3_lookAt 49 = .ok (.aload_n 0, 1) := by decide +kernel
theorem dX3_lookAt_50 : decode cX3_lookAt 50 = .ok (.getfield 7, 3) := by decide +kernel
theorem dX3_lookAt_53 : decode cX3_lookAt 53 = .ok (.iload 4, 2) := by decide +kernel
theorem dX3_lookAt_55 : decode cX3_lookAt 55 = .ok (.iaload, 1) := by decide +kernel
theorem dX3_lookAt_56 : decode cX3_lookAt 56 = .ok (.iconst 2, 1) := by decide +kernel
theorem dX3_lookAt_57 : decode cX3_lookAt 57 = .ok (.if_icmp .ne 44, 3) := by decide +kernel
theorem dX3_lookAt_60 : decode cX3_lookAt 60 = .ok (.iload 5, 2) := by decide +kernel
theorem dX3_lookAt_62 : decode cX3_lookAt 62 = .ok (.aload_n 0, 1) := by decide +kernel
theorem dX3_lookAt_63 : decode cX3_lookAt 63 = .ok (.getfield 13, 3) := by decide +kernel
theorem dX3_lookAt_66 : decode cX3_lookAt 66 = .ok (.iload 4, 2) := by decide +kernel
theorem dX3_lookAt_68 : decode cX3_lookAt 68 = .ok (.iaload, 1) := by decide +kernel
theorem dX3_lookAt_69 : decode cX3_lookAt 69 = .ok (.if_icmp .ge 32, 3) := by decide +kernel
theorem dX3_lookAt_72 : decode cX3_lookAt 72 = .ok (.aload_n 0, 1) := by decide +kernel
theorem dX3_lookAt_73 : decode cX3_lookAt 73 = .ok (.getfield 16, 3) := by decide +kernel
theorem dX3_lookAt_76 : decode cX3_lookAt 76 = .ok (.bipush 8, 2) := by decide +kernel
theorem dX3_lookAt_78 : decode cX3_lookAt 78 = .ok (.iload 4, 2) := by decide +kernel
theorem dX3_lookAt_80 : decode cX3_lookAt 80 = .ok (.imul, 1) := by decide +kernel
theorem dX3_lookAt_81 : decode cX3_lookAt 81 = .ok (.iload 5, 2) := by decide +kernel
theorem dX3_lookAt_83 : decode cX3_lookAt 83 = .ok (.iadd, 1) := by decide +kernel
theorem dX3_lookAt_84 : decode cX3_lookAt 84 = .ok (.iaload, 1) := by decide +kernel
theorem dX3_lookAt_85 : decode cX3_lookAt 85 = .ok (.iload_n 3, 1) := by decide +kernel
theorem dX3_lookAt_86 : decode cX3_lookAt 86 = .ok (.if_icmp .ne 15, 3) := by decide +kernel
theorem dX3_lookAt_89 : decode cX3_lookAt 89 = .ok (.aload_n 0, 1) := by decide +kernel
theorem dX3_lookAt_90 : decode cX3_lookAt 90 = .ok (.iload 4, 2) := by decide +kernel
theorem dX3_lookAt_92 : decode cX3_lookAt 92 = .ok (.putfield 107, 3) := by decide +kernel
theorem dX3_lookAt_95 : decode cX3_lookAt 95 = .ok (.aload_n 0, 1) := by decide +kernel
theorem dX3_lookAt_96 : decode cX3_lookAt 96 = .ok (.iload 5, 2) := by decide +kernel
theorem dX3_lookAt_98 : decode cX3_lookAt 98 = .ok (.putfield 110, 3) := by decide +kernel
theorem dX3_lookAt_101 : decode cX3_lookAt 101 = .ok (.iinc 5 (-1), 3) := by decide +kernel
theorem dX3_lookAt_104 : decode cX3_lookAt 104 = .ok (.goto (-60), 3) := by decide +kernel
theorem dX3_lookAt_107 : decode cX3_lookAt 107 = .ok (.iinc 4 (-1), 3) := by decide +kernel
theorem dX3_lookAt_110 : decode cX3_lookAt 110 = .ok (.goto (-75), 3) := by decide +kernel
theorem dX3_lookAt_113 : decode cX3_lookAt 113 = .ok (.aload_n 0, 1) := by decide +kernel
theorem dX3_lookAt_114 : decode cX3_lookAt 114 = .ok (.aload_n 0, 1) := by decide +kernel
theorem dX3_lookAt_115 : decode cX3_lookAt 115 = .ok (.getfield 16, 3) := by decide +kernel
theorem dX3_lookAt_118 : decode cX3_lookAt 118 = .ok (.bipush 8, 2) := by decide +kernel
theorem dX3_lookAt_120 : decode cX3_lookAt 120 = .ok (.aload_n 0, 1) := by decide +kernel
theorem dX3_lookAt_121 : decode cX3_lookAt 121 = .ok (.getfield 107, 3) := by decide +kernel
theorem dX3_lookAt_124 : decode cX3_lookAt 124 = .ok (.imul, 1) := by decide +kernel
theorem dX3_lookAt_125 : decode cX3_lookAt 125 = .ok (.aload_n 0, 1) := by decide +kernel
theorem dX3_lookAt_126 : decode cX3_lookAt 126 = .ok (.getfield 110, 3) := by decide +kernel
theorem dX3_lookAt_129 : decode cX3_lookAt 129 = .ok (.iadd, 1) := by decide +kernel
theorem dX3_lookAt_130 : decode cX3_lookAt 130 = .ok (.iaload, 1) := by decide +kernel
theorem dX3_lookAt_131 : decode cX3_lookAt 131 = .ok (.putfield 119, 3) := by decide +kernel
theorem dX3_lookAt_134 : decode cX3_lookAt 134 = .ok (.aload_n 0, 1) := by decide +kernel
theorem dX3_lookAt_135 : decode cX3_lookAt 135 = .ok (.getfield 113, 3) := by decide +kernel
theorem dX3_lookAt_138 : decode cX3_lookAt 138 = .ok (.ifCond .ge 8, 3) := by decide +kernel
theorem dX3_lookAt_141 : decode cX3_lookAt 141 = .ok (.bipush (-5), 2) := by decide +kernel
theorem dX3_lookAt_143 : decode cX3_lookAt 143 = .ok (.goto 4, 3) := by decide +kernel
theorem dX3_lookAt_146 : decode cX3_lookAt 146 = .ok (.iconst 1, 1) := by decide +kernel
theorem dX3_lookAt_147 : decode cX3_lookAt 147 = .ok (.ireturn, 1) := by decide +kernel
set_option maxRecDepth 20000 in
theorem ggX3_move_X3_setRecord : GoodIn wsX3_move wsX3_setRecord := goodIn_r _ [13, 2, 14, 15, 16, 12, 17, 8, 18, 19, 28, 29, 30, 31, 32, 33, 34, 35, 36, 37, 38, 39, 40, 41, 42, 43] (by decide +kernel) (by decide +kernel)
set_option maxRecDepth 20000 in
theorem gX3_move_X3_setRecord : GoodIn wsX3_move (wsV RX3 122 RX3 yX3_setRecord wsX3_setRecord) := goodIn_app (goodIn_of _ (by decide +kernel)) ggX3_move_X3_setRecord
set_option maxRecDepth 20000 in
theorem ggX3_move_X3_setData : GoodIn wsX3_move wsX3_setData := goodIn_r _ [23, 6, 14, 15, 16, 12, 17, 8, 18, 19, 28, 29, 30, 31, 32, 33, 34, 35, 36, 37, 38, 39, 40, 41, 42, 43] (by decide +kernel) (by decide +kernel)
set_option maxRecDepth 20000 in
theorem gX3_move_X3_setData : GoodIn wsX3_move (wsV RX3 93 RX3 yX3_setData wsX3_setData) := goodIn_app (goodIn_of _ (by decide +kernel)) ggX3_move_X3_setData
set_option maxRecDepth 20000 in
theorem ggX3_move_X3_setPlace : GoodIn wsX3_move wsX3_setPlace := goodIn_r _ [27, 5, 14, 15, 16, 12, 17, 8, 18, 19, 28, 29, 30, 31, 32, 33, 34, 35, 36, 37, 38, 39, 40, 41, 42, 43] (by decide +kernel) (by decide +kernel)
set_option maxRecDepth 20000 in
theorem gX3_move_X3_setPlace : GoodIn wsX3_move (wsV RX3 82 RX3 yX3_setPlace wsX3_setPlace) := goodIn_app (goodIn_of _ (by decide +kernel)) ggX3_move_X3_setPlace
theorem dX3_move_0 : decode cX3_move 0 = .ok (.iload_n 1, 1) := by decide +kernel
theorem dX3_move_1 : decode cX3_move 1 = .ok (.ifCond .ne 10, 3) := by decide +kernel
theorem dX3_move_4 : decode cX3_move 4 = .ok (.aload_n 0, 1) := by decide +kernel
theorem dX3_move_5 : decode cX3_move 5 = .ok (.getfield 107, 3) := by decide +kernel
theorem dX3_move_8 : decode cX3_move 8 = .ok (.goto 9, 3) := by decide +kernel
theorem dX3_move_11 : decode cX3_move 11 = .ok (.aload_n 0, 1) := by decide +kernel
theorem dX3_move_12 : decode cX3_move 12 = .ok (.getfield 23, 3) := by decide +kernel
theorem dX3_move_15 : decode cX3_move 15 = .ok (.iconst 1, 1) := by decide +kernel
theorem dX3_move_16 : decode cX3_move 16 = .ok (.iaload, 1) := by decide +kernel
theorem dX3_move_17 : decode cX3_move 17 = .ok (.istore_n 2, 1) := by decide +kernel
theorem dX3_move_18 : decode cX3_move 18 = .ok (.iload_n 1, 1) := by decide +kernel
theorem dX3_move_19 : decode cX3_move 19 = .ok (.ifCond .ne 10, 3) := by decide +kernel
theorem dX3_move_22 : decode cX3_move 22 = .ok (.aload_n 0, 1) := by decide +kernel
theorem dX3_move_23 : decode cX3_move 23 = .ok (.getfield 110, 3) := by decide +kernel
theorem dX3_move_26 : decode cX3_move 26 = .ok (.goto 9, 3) := by decide +kernel
theorem dX3_move_29 : decode cX3_move 29 = .ok (.aload_n 0, 1) := by decide +kernel
theorem dX3_move_30 : decode cX3_move 30 = .ok (.getfield 23, 3) := by decide +kernel
theorem dX3_move_33 : decode cX3_move 33 = .ok (.iconst 2, 1) := by decide +kernel
theorem dX3_move_34 : decode cX3_move 34 = .ok (.iaload, 1) := by decide +kernel
theorem dX3_move_35 : decode cX3_move 35 = .ok (.istore_n 3, 1) := by decide +kernel
theorem dX3_move_36 : decode cX3_move 36 = .ok (.iload_n 1, 1) := by decide +kernel
theorem dX3_move_37 : decode cX3_move 37 = .ok (.ifCond .ne 10, 3) := by decide +kernel
theorem dX3_move_40 : decode cX3_move 40 = .ok (.aload_n 0, 1) := by decide +kernel
theorem dX3_move_41 : decode cX3_move 41 = .ok (.getfield 113, 3) := by decide +kernel
theorem dX3_move_44 : decode cX3_move 44 = .ok (.goto 9, 3) := by decide +kernel
theorem dX3_move_47 : decode cX3_move 47 = .ok (.aload_n 0, 1) := by decide +kernel
theorem dX3_move_48 : decode cX3_move 48 = .ok (.getfield 23, 3) := by decide +kernel
theorem dX3_move_51 : decode cX3_move 51 = .ok (.iconst 3, 1) := by decide +kernel
theorem dX3_move_52 : decode cX3_move 52 = .ok (.iaload, 1) := by decide +kernel
theorem dX3_move_53 : decode cX3_move 53 = .ok (.istore 4, 2) := by decide +kernel
theorem dX3_move_55 : decode cX3_move 55 = .ok (.iload_n 1, 1) := by decide +kernel
theorem dX3_move_56 : decode cX3_move 56 = .ok (.ifCond .ne 28, 3) := by decide +kernel
theorem dX3_move_59 : decode cX3_move 59 = .ok (.aload_n 0, 1) := by decide +kernel
theorem dX3_move_60 : decode cX3_move 60 = .ok (.iconst 1, 1) := by decide +kernel
theorem dX3_move_61 : decode cX3_move 61 = .ok (.iload_n 2, 1) := by decide +kernel
theorem dX3_move_62 : decode cX3_move 62 = .ok (.invokevirtual 122, 3) := by decide +kernel
theorem dX3_move_65 : decode cX3_move 65 = .ok (.aload_n 0, 1) := by decide +kernel
theorem dX3_move_66 : decode cX3_move 66 = .ok (.iconst 2, 1) := by decide +kernel
theorem dX3_move_67 : decode cX3_move 67 = .ok (.iload_n 3, 1) := by decide +kernel
theorem dX3_move_68 : decode cX3_move 68 = .ok (.invokevirtual 122, 3) := by decide +kernel
theorem dX3_move_71 : decode cX3_move 71 = .ok (.aload_n 0, 1) := by decide +kernel
theorem dX3_move_72 : decode cX3_move 72 = .ok (.iconst 3, 1) := by decide +kernel
theorem dX3_move_73 : decode cX3_move 73 = .ok (.iload 4, 2) := by decide +kernel
theorem dX3_move_75 : decode cX3_move 75 = .ok (.invokevirtual 122, 3) := by decide +kernel
theorem dX3_move_78 : decode cX3_move 78 = .ok (.aload_n 0, 1) := by decide +kernel
theorem dX3_move_79 : decode cX3_move 79 = .ok (.iconst 0, 1) := by decide +kernel
theorem dX3_move_80 : decode cX3_move 80 = .ok (.iconst 1, 1) := by decide +kernel
theorem dX3_move_81 : decode cX3_move 81 = .ok (.invokevirtual 122, 3) := by decide +kernel
theorem dX3_move_84 : decode cX3_move 84 = .ok (.iload_n 1, 1) := by decide +kernel
theorem dX3_move_85 : decode cX3_move 85 = .ok (.iconst 2, 1) := by decide +kernel
theorem dX3_move_86 : decode cX3_move 86 = .ok (.if_icmp .ge 57, 3) := by decide +kernel
theorem dX3_move_89 : decode cX3_move 89 = .ok (.aload_n 0, 1) := by decide +kernel
theorem dX3_move_90 : decode cX3_move 90 = .ok (.getfield 16, 3) := by decide +kernel
theorem dX3_move_93 : decode cX3_move 93 = .ok (.bipush 8, 2) := by decide +kernel
theorem dX3_move_95 : decode cX3_move 95 = .ok (.iload_n 2, 1) := by decide +kernel
theorem dX3_move_96 : decode cX3_move 96 = .ok (.imul, 1) := by decide +kernel
theorem dX3_move_97 : decode cX3_move 97 = .ok (.iload_n 3, 1) := by decide +kernel
theorem dX3_move_98 : decode cX3_move 98 = .ok (.iadd, 1) := by decide +kernel
theorem dX3_move_99 : decode cX3_move 99 = .ok (.iaload, 1) := by decide +kernel
theorem dX3_move_100 : decode cX3_move 100 = .ok (.istore 5, 2) := by decide +kernel
theorem dX3_move_102 : decode cX3_move 102 = .ok (.iconst 0, 1) := by decide +kernel
theorem dX3_move_103 : decode cX3_move 103 = .ok (.istore 6, 2) := by decide +kernel
theorem dX3_move_105 : decode cX3_move 105 = .ok (.iload 6, 2) := by decide +kernel
theorem dX3_move_107 : decode cX3_move 107 = .ok (.iconst 3, 1) := by decide +kernel
theorem dX3_move_108 : decode cX3_move 108 = .ok (.if_icmp .ge 29, 3) := by decide +kernel
theorem dX3_move_111 : decode cX3_move 111 = .ok (.aload_n 0, 1) := by decide +kernel
theorem dX3_move_112 : decode cX3_move 112 = .ok (.iload 4, 2) := by decide +kernel
theorem dX3_move_114 : decode cX3_move 114 = .ok (.iload 6, 2) := by decide +kernel
theorem dX3_move_116 : decode cX3_move 116 = .ok (.aload_n 0, 1) := by decide +kernel
theorem dX3_move_117 : decode cX3_move 117 = .ok (.getfield 19, 3) := by decide +kernel
theorem dX3_move_120 : decode cX3_move 120 = .ok (.iconst 3, 1) := by decide +kernel
theorem dX3_move_121 : decode cX3_move 121 = .ok (.iload 5, 2) := by decide +kernel
theorem dX3_move_123 : decode cX3_move 123 = .ok (.imul, 1) := by decide +kernel
theorem dX3_move_124 : decode cX3_move 124 = .ok (.iload 6, 2) := by decide +kernel
theorem dX3_move_126 : decode cX3_move 126 = .ok (.iadd, 1) := by decide +kernel
theorem dX3_move_127 : decode cX3_move 127 = .ok (.laload, 1) := by decide +kernel
theorem dX3_move_128 : decode cX3_move 128 = .ok (.invokevirtual 93, 3) := by decide +kernel
theorem dX3_move_131 : decode cX3_move 131 = .ok (.iinc 6 1, 3) := by decide +kernel
theorem dX3_move_134 : decode cX3_move 134 = .ok (.goto (-29), 3) := by decide +kernel
theorem dX3_move_137 : decode cX3_move 137 = .ok (.aload_n 0, 1) := by decide +kernel
theorem dX3_move_138 : decode cX3_move 138 = .ok (.iconst 0, 1) := by decide +kernel
theorem dX3_move_139 : decode cX3_move 139 = .ok (.iconst 2, 1) := by decide +kernel
theorem dX3_move_140 : decode cX3_move 140 = .ok (.invokevirtual 122, 3) := by decide +kernel
theorem dX3_move_143 : decode cX3_move 143 = .ok (.aload_n 0, 1) := by decide +kernel
theorem dX3_move_144 : decode cX3_move 144 = .ok (.iload_n 2, 1) := by decide +kernel
theorem dX3_move_145 : decode cX3_move 145 = .ok (.iload_n 3, 1) := by decide +kernel
theorem dX3_move_146 : decode cX3_move 146 = .ok (.iload 4, 2) := by decide +kernel
theorem dX3_move_148 : decode cX3_move 148 = .ok (.invokevirtual 82, 3) := by decide +kernel
theorem dX3_move_151 : decode cX3_move 151 = .ok (.aload_n 0, 1) := by decide +kernel
theorem dX3_move_152 : decode cX3_move 152 = .ok (.iconst 0, 1) := by decide +kernel
theorem dX3_move_153 : decode cX3_move 153 = .ok (.iconst 0, 1) := by decide +kernel
theorem dX3_move_154 : decode cX3_move 154 = .ok (.invokevirtual 122, 3) := by decide +kernel
theorem dX3_move_157 : decode cX3_move 157 = .ok (.aload_n 0, 1) := by decide +kernel
theorem dX3_move_158 : decode cX3_move 158 = .ok (.dup, 1) := by decide +kernel
theorem dX3_move_159 : decode cX3_move 159 = .ok (.getfield 125, 3) := by decide +kernel
theorem dX3_move_162 : decode cX3_move 162 = .ok (.aload_n 0, 1) := by decide +kernel
theorem dX3_move_163 : decode cX3_move 163 = .ok (.getfield 36, 3) := by decide +kernel
theorem dX3_move_166 : decode cX3_move 166 = .ok (.ifCond .eq 7, 3) := by decide +kernel
theorem dX3_move_169 : decode cX3_move 169 = .ok (.iconst 0, 1) := by decide +kernel
theorem dX3_move_170 : decode cX3_move 170 = .ok (.goto 4, 3) := by decide +kernel
theorem dX3_move_173 : decode cX3_move 173 = .ok (.iconst 1, 1) := by decide +kernel
theorem dX3_move_174 : decode cX3_move 174 = .ok (.iadd, 1) := by decide +kernel
theorem dX3_move_175 : decode cX3_move 175 = .ok (.putfield 125, 3) := by decide +kernel
theorem dX3_move_178 : decode cX3_move 178 = .ok (.return_, 1) := by decide +kernel
set_option maxRecDepth 20000 in
theorem ggX3_step_X3_look : GoodIn wsX3_step wsX3_look := goodIn_r _ [6, 7, 8, 9, 10, 11, 12, 5, 13, 14, 15, 16, 17, 18, 19, 20, 21, 22, 23, 24, 25, 51, 52, 53, 54, 55, 56, 57, 58, 59, 60, 61, 62, 63, 64, 65, 66] (by decide +kernel) (by decide +kernel)
set_option maxRecDepth 20000 in
theorem gX3_step_X3_look : GoodIn wsX3_step (wsV RX3 128 RX3 yX3_look wsX3_look) := goodIn_app (goodIn_of _ (by decide +kernel)) ggX3_step_X3_look
set_option maxRecDepth 20000 in
theorem ggX3_step_X3_move : GoodIn wsX3_step wsX3_move := goodIn_r _ [29, 14, 30, 15, 16, 9, 31, 32, 1, 33, 34, 35, 5, 36, 37, 38, 39, 40, 41, 42, 43, 44, 45, 46, 47, 48, 49, 50, 51, 52, 53, 54, 55, 56, 57, 58, 59, 60, 61, 62, 63, 64, 65, 66] (by decide +kernel) (by decide +kernel)
set_option maxRecDepth 20000 in
theorem gX3_step_X3_move : GoodIn wsX3_step (wsV RX3 131 RX3 yX3_move wsX3_move) := goodIn_app (goodIn_of _ (by decide +kernel)) ggX3_step_X3_move
theorem dX3_step_0 : decode cX3_step 0 = .ok (.aload_n 0, 1) := by decide +kernel
theorem dX3_step_1 : decode cX3_step 1 = .ok (.getfield 36, 3) := by decide +kernel
theorem dX3_step_4 : decode cX3_step 4 = .ok (.ifCond .eq 6, 3) := by decide +kernel
theorem dX3_step_7 : decode cX3_step 7 = .ok (.bipush (-2), 2) := by decide +kernel
theorem dX3_step_9 : decode cX3_step 9 = .ok (.ireturn, 1) := by decide +kernel
theorem dX3_step_10 : decode cX3_step 10 = .ok (.aload_n 0, 1) := by decide +kernel
theorem dX3_step_11 : decode cX3_step 11 = .ok (.invokevirtual 128, 3) := by decide +kernel
theorem dX3_step_14 : decode cX3_step 14 = .ok (.istore_n 1, 1) := by decide +kernel
theorem dX3_step_15 : decode cX3_step 15 = .ok (.iload_n 1, 1) := by decide +kernel
theorem dX3_step_16 : decode cX3_step 16 = .ok (.iconst 1, 1) := by decide +kernel
theorem dX3_step_17 : decode cX3_step 17 = .ok (.if_icmp .ge 5, 3) := by decide +kernel
theorem dX3_step_20 : decode cX3_step 20 = .ok (.iload_n 1, 1) := by decide +kernel
theorem dX3_step_21 : decode cX3_step 21 = .ok (.ireturn, 1) := by decide +kernel
theorem dX3_step_22 : decode cX3_step 22 = .ok (.aload_n 0, 1) := by decide +kernel
theorem dX3_step_23 : decode cX3_step 23 = .ok (.iconst 0, 1) := by decide +kernel
theorem dX3_step_24 : decode cX3_step 24 = .ok (.invokevirtual 131, 3) := by decide +kernel
theorem dX3_step_27 : decode cX3_step 27 = .ok (.aload_n 0, 1) := by decide +kernel
theorem dX3_step_28 : decode cX3_step 28 = .ok (.getfield 36, 3) := by decide +kernel
theorem dX3_step_31 : decode cX3_step 31 = .ok (.ifCond .eq 8, 3) := by decide +kernel
theorem dX3_step_34 : decode cX3_step 34 = .ok (.bipush (-2), 2) := by decide +kernel
theorem dX3_step_36 : decode cX3_step 36 = .ok (.goto 4, 3) := by decide +kernel
theorem dX3_step_39 : decode cX3_step 39 = .ok (.iconst 1, 1) := by decide +kernel
theorem dX3_step_40 : decode cX3_step 40 = .ok (.ireturn, 1) := by decide +kernel
theorem dX3_stands_0 : decode cX3_stands 0 = .ok (.iconst 0, 1) := by decide +kernel
theorem dX3_stands_1 : decode cX3_stands 1 = .ok (.istore_n 3, 1) := by decide +kernel
theorem dX3_stands_2 : decode cX3_stands 2 = .ok (.iload_n 3, 1) := by decide +kernel
theorem dX3_stands_3 : decode cX3_stands 3 = .ok (.iload_n 2, 1) := by decide +kernel
theorem dX3_stands_4 : decode cX3_stands 4 = .ok (.if_icmp .ge 46, 3) := by decide +kernel
theorem dX3_stands_7 : decode cX3_stands 7 = .ok (.aload_n 0, 1) := by decide +kernel
theorem dX3_stands_8 : decode cX3_stands 8 = .ok (.getfield 7, 3) := by decide +kernel
theorem dX3_stands_11 : decode cX3_stands 11 = .ok (.iload_n 3, 1) := by decide +kernel
theorem dX3_stands_12 : decode cX3_stands 12 = .ok (.bipush 8, 2) := by decide +kernel
theorem dX3_stands_14 : decode cX3_stands 14 = .ok (.idiv, 1) := by decide +kernel
theorem dX3_stands_15 : decode cX3_stands 15 = .ok (.iaload, 1) := by decide +kernel
theorem dX3_stands_16 : decode cX3_stands 16 = .ok (.iconst 1, 1) := by decide +kernel
theorem dX3_stands_17 : decode cX3_stands 17 = .ok (.if_icmp .ne 27, 3) := by decide +kernel
theorem dX3_stands_20 : decode cX3_stands 20 = .ok (.aload_n 0, 1) := by decide +kernel
theorem dX3_stands_21 : decode cX3_stands 21 = .ok (.getfield 16, 3) := by decide +kernel
theorem dX3_stands_24 : decode cX3_stands 24 = .ok (.iload_n 3, 1) := by decide +kernel
theorem dX3_stands_25 : decode cX3_stands 25 = .ok (.iaload, 1) := by decide +kernel
theorem dX3_stands_26 : decode cX3_stands 26 = .ok (.ifCond .le 18, 3) := by decide +kernel
theorem dX3_stands_29 : decode cX3_stands 29 = .ok (.aload_n 0, 1) := by decide +kernel
theorem dX3_stands_30 : decode cX3_stands 30 = .ok (.getfield 16, 3) := by decide +kernel
theorem dX3_stands_33 : decode cX3_stands 33 = .ok (.iload_n 3, 1) := by decide +kernel
theorem dX3_stands_34 : decode cX3_stands 34 = .ok (.iaload, 1) := by decide +kernel
theorem dX3_stands_35 : decode cX3_stands 35 = .ok (.bipush 100, 2) := by decide +kernel
theorem dX3_stands_37 : decode cX3_stands 37 = .ok (.idiv, 1) := by decide +kernel
theorem dX3_stands_38 : decode cX3_stands 38 = .ok (.iload_n 1, 1) := by decide +kernel
theorem dX3_stands_39 : decode cX3_stands 39 = .ok (.if_icmp .ne 5, 3) := by decide +kernel
theorem dX3_stands_42 : decode cX3_stands 42 = .ok (.iconst 1, 1) := by decide +kernel
theorem dX3_stands_43 : decode cX3_stands 43 = .ok (.ireturn, 1) := by decide +kernel
theorem dX3_stands_44 : decode cX3_stands 44 = .ok (.iinc 3 1, 3) := by decide +kernel
theorem dX3_stands_47 : decode cX3_stands 47 = .ok (.goto (-45), 3) := by decide +kernel
theorem dX3_stands_50 : decode cX3_stands 50 = .ok (.iconst 0, 1) := by decide +kernel
theorem dX3_stands_51 : decode cX3_stands 51 = .ok (.ireturn, 1) := by decide +kernel
set_option maxRecDepth 20000 in
theorem ggX3_restart_X3_move : GoodIn wsX3_restart wsX3_move := goodIn_r _ [10, 11, 3, 12, 13, 5, 14, 15, 2, 16, 17, 18, 9, 19, 20, 21, 22, 23, 24, 1, 25, 26, 27, 28, 29, 30, 31, 32, 41, 42, 43, 44, 45, 46, 47, 48, 49, 50, 51, 52, 53, 54, 55, 56] (by decide +kernel) (by decide +kernel)
set_option maxRecDepth 20000 in
theorem gX3_restart_X3_move : GoodIn wsX3_restart (wsV RX3 131 RX3 yX3_move wsX3_move) := goodIn_app (goodIn_of _ (by decide +kernel)) ggX3_restart_X3_move
set_option maxRecDepth 20000 in
theorem ggX3_restart_X3_stands : GoodIn wsX3_restart wsX3_stands := goodIn_r _ [36, 4, 5, 41, 42, 43, 44, 45, 46, 47, 48, 49, 50, 51, 52, 53, 54, 55, 56] (by decide +kernel) (by decide +kernel)
set_option maxRecDepth 20000 in
theorem gX3_restart_X3_stands : GoodIn wsX3_restart (wsV RX3 135 RX3 yX3_stands wsX3_stands) := goodIn_app (goodIn_of _ (by decide +kernel)) ggX3_restart_X3_stands
set_option maxRecDepth 20000 in
theorem ggX3_restart_X3_setPlace : GoodIn wsX3_restart wsX3_setPlace := goodIn_r _ [32, 5, 20, 21, 22, 9, 23, 2, 24, 1, 41, 42, 43, 44, 45, 46, 47, 48, 49, 50, 51, 52, 53, 54, 55, 56] (by decide +kernel) (by decide +kernel)
set_option maxRecDepth 20000 in
theorem gX3_restart_X3_setPlace : GoodIn wsX3_restart (wsV RX3 82 RX3 yX3_setPlace wsX3_setPlace) := goodIn_app (goodIn_of _ (by decide +kernel)) ggX3_restart_X3_setPlace
set_option maxRecDepth 20000 in
theorem ggX3_restart_X3_setKind : GoodIn wsX3_restart wsX3_setKind := goodIn_r _ [40, 4, 20, 21, 22, 9, 23, 2, 24, 1, 41, 42, 43, 44, 45, 46, 47, 48, 49, 50, 51, 52, 53, 54, 55, 56] (by decide +kernel) (by decide +kernel)
set_option maxRecDepth 20000 in
theorem gX3_restart_X3_setKind : GoodIn wsX3_restart (wsV RX3 86 RX3 yX3_setKind wsX3_setKind) := goodIn_app (goodIn_of _ (by decide +kernel)) ggX3_restart_X3_setKind
theorem dX3_restart_0 : decode cX3_restart 0 = .ok (.aload_n 0, 1) := by decide +kernel
theorem dX3_restart_1 : decode cX3_restart 1 = .ok (.getfield 40, 3) := by decide +kernel
theorem dX3_restart_4 : decode cX3_restart 4 = .ok (.istore_n 1, 1) := by decide +kernel
theorem dX3_restart_5 : decode cX3_restart 5 = .ok (.aload_n 0, 1) := by decide +kernel
theorem dX3_restart_6 : decode cX3_restart 6 = .ok (.iconst 0, 1) := by decide +kernel
theorem dX3_restart_7 : decode cX3_restart 7 = .ok (.putfield 36, 3) := by decide +kernel
theorem dX3_restart_10 : decode cX3_restart 10 = .ok (.aload_n 0, 1) := by decide +kernel
theorem dX3_restart_11 : decode cX3_restart 11 = .ok (.getfield 23, 3) := by decide +kernel
theorem dX3_restart_14 : decode cX3_restart 14 = .ok (.iconst 0, 1) := by decide +kernel
theorem dX3_restart_15 : decode cX3_restart 15 = .ok (.iaload, 1) := by decide +kernel
theorem dX3_restart_16 : decode cX3_restart 16 = .ok (.ifCond .le 13, 3) := by decide +kernel
theorem dX3_restart_19 : decode cX3_restart 19 = .ok (.aload_n 0, 1) := by decide +kernel
theorem dX3_restart_20 : decode cX3_restart 20 = .ok (.aload_n 0, 1) := by decide +kernel
theorem dX3_restart_21 : decode cX3_restart 21 = .ok (.getfield 23, 3) := by decide +kernel
theorem dX3_restart_24 : decode cX3_restart 24 = .ok (.iconst 0, 1) := by decide +kernel
theorem dX3_restart_25 : decode cX3_restart 25 = .ok (.iaload, 1) := by decide +kernel
theorem dX3_restart_26 : decode cX3_restart 26 = .ok (.invokevirtual 131, 3) := by decide +kernel
theorem dX3_restart_29 : decode cX3_restart 29 = .ok (.iconst (-1), 1) := by decide +kernel
theorem dX3_restart_30 : decode cX3_restart 30 = .ok (.istore_n 2, 1) := by decide +kernel
theorem dX3_restart_31 : decode cX3_restart 31 = .ok (.iload_n 2, 1) := by decide +kernel
theorem dX3_restart_32 : decode cX3_restart 32 = .ok (.aload_n 0, 1) := by decide +kernel
theorem dX3_restart_33 : decode cX3_restart 33 = .ok (.getfield 40, 3) := by decide +kernel
theorem dX3_restart_36 : decode cX3_restart 36 = .ok (.if_icmp .eq 154, 3) := by decide +kernel
theorem dX3_restart_39 : decode cX3_restart 39 = .ok (.aload_n 0, 1) := by decide +kernel
theorem dX3_restart_40 : decode cX3_restart 40 = .ok (.getfield 36, 3) := by decide +kernel
theorem dX3_restart_43 : decode cX3_restart 43 = .ok (.ifCond .ne 147, 3) := by decide +kernel
theorem dX3_restart_46 : decode cX3_restart 46 = .ok (.aload_n 0, 1) := by decide +kernel
theorem dX3_restart_47 : decode cX3_restart 47 = .ok (.getfield 40, 3) := by decide +kernel
theorem dX3_restart_50 : decode cX3_restart 50 = .ok (.istore_n 2, 1) := by decide +kernel
theorem dX3_restart_51 : decode cX3_restart 51 = .ok (.iconst 0, 1) := by decide +kernel
theorem dX3_restart_52 : decode cX3_restart 52 = .ok (.istore_n 3, 1) := by decide +kernel
theorem dX3_restart_53 : decode cX3_restart 53 = .ok (.iload_n 3, 1) := by decide +kernel
theorem dX3_restart_54 : decode cX3_restart 54 = .ok (.bipush 96, 2) := by decide +kernel
theorem dX3_restart_56 : decode cX3_restart 56 = .ok (.if_icmp .ge 85, 3) := by decide +kernel
theorem dX3_restart_59 : decode cX3_restart 59 = .ok (.aload_n 0, 1) := by decide +kernel
theorem dX3_restart_60 : decode cX3_restart 60 = .ok (.getfield 36, 3) := by decide +kernel
theorem dX3_restart_63 : decode cX3_restart 63 = .ok (.ifCond .ne 78, 3) := by decide +kernel
theorem dX3_restart_66 : decode cX3_restart 66 = .ok (.aload_n 0, 1) := by decide +kernel
theorem dX3_restart_67 : decode cX3_restart 67 = .ok (.getfield 7, 3) := by decide +kernel
theorem dX3_restart_70 : decode cX3_restart 70 = .ok (.iload_n 3, 1) := by decide +kernel
theorem dX3_restart_71 : decode cX3_restart 71 = .ok (.bipush 8, 2) := by decide +kernel
theorem dX3_restart_73 : decode cX3_restart 73 = .ok (.idiv, 1) := by decide +kernel
theorem dX3_restart_74 : decode cX3_restart 74 = .ok (.iaload, 1) := by decide +kernel
theorem dX3_restart_75 : decode cX3_restart 75 = .ok (.iconst 1, 1) := by decide +kernel
theorem dX3_restart_76 : decode cX3_restart 76 = .ok (.if_icmp .ne 59, 3) := by decide +kernel
theorem dX3_restart_79 : decode cX3_restart 79 = .ok (.aload_n 0, 1) := by decide +kernel
theorem dX3_restart_80 : decode cX3_restart 80 = .ok (.getfield 16, 3) := by decide +kernel
theorem dX3_restart_83 : decode cX3_restart 83 = .ok (.iload_n 3, 1) := by decide +kernel
theorem dX3_restart_84 : decode cX3_restart 84 = .ok (.iaload, 1) := by decide +kernel
theorem dX3_restart_85 : decode cX3_restart 85 = .ok (.ifCond .le 50, 3) := by decide +kernel
theorem dX3_restart_88 : decode cX3_restart 88 = .ok (.aload_n 0, 1) := by decide +kernel
theorem dX3_restart_89 : decode cX3_restart 89 = .ok (.getfield 7, 3) := by decide +kernel
theorem dX3_restart_92 : decode cX3_restart 92 = .ok (.aload_n 0, 1) := by decide +kernel
theorem dX3_restart_93 : decode cX3_restart 93 = .ok (.getfield 16, 3) := by decide +kernel
theorem dX3_restart_96 : decode cX3_restart 96 = .ok (.iload_n 3, 1) := by decide +kernel
theorem dX3_restart_97 : decode cX3_restart 97 = .ok (.iaload, 1) := by decide +kernel
theorem dX3_restart_98 : decode cX3_restart 98 = .ok (.bipush 100, 2) := by decide +kernel
theorem dX3_restart_100 : decode cX3_restart 100 = .ok (.idiv, 1) := by decide +kernel
theorem dX3_restart_101 : decode cX3_restart 101 = .ok (.iaload, 1) := by decide +kernel
theorem dX3_restart_102 : decode cX3_restart 102 = .ok (.ifCond .eq 20, 3) := by decide +kernel
theorem dX3_restart_105 : decode cX3_restart 105 = .ok (.aload_n 0, 1) := by decide +kernel
theorem dX3_restart_106 : decode cX3_restart 106 = .ok (.aload_n 0, 1) := by decide +kernel
theorem dX3_restart_107 : decode cX3_restart 107 = .ok (.getfield 16, 3) := by decide +kernel
theorem dX3_restart_110 : decode cX3_restart 110 = .ok (.iload_n 3, 1) := by decide +kernel
theorem dX3_restart_111 : decode cX3_restart 111 = .ok (.iaload, 1) := by decide +kernel
theorem dX3_restart_112 : decode cX3_restart 112 = .ok (.bipush 100, 2) := by decide +kernel
theorem dX3_restart_114 : decode cX3_restart 114 = .ok (.idiv, 1) := by decide +kernel
theorem dX3_restart_115 : decode cX3_restart 115 = .ok (.iload_n 3, 1) := by decide +kernel
theorem dX3_restart_116 : decode cX3_restart 116 = .ok (.invokevirtual 135, 3) := by decide +kernel
theorem dX3_restart_119 : decode cX3_restart 119 = .ok (.ifCond .eq 16, 3) := by decide +kernel
theorem dX3_restart_122 : decode cX3_restart 122 = .ok (.aload_n 0, 1) := by decide +kernel
theorem dX3_restart_123 : decode cX3_restart 123 = .ok (.iload_n 3, 1) := by decide +kernel
theorem dX3_restart_124 : decode cX3_restart 124 = .ok (.bipush 8, 2) := by decide +kernel
theorem dX3_restart_126 : decode cX3_restart 126 = .ok (.idiv, 1) := by decide +kernel
theorem dX3_restart_127 : decode cX3_restart 127 = .ok (.iload_n 3, 1) := by decide +kernel
theorem dX3_restart_128 : decode cX3_restart 128 = .ok (.bipush 8, 2) := by decide +kernel
theorem dX3_restart_130 : decode cX3_restart 130 = .ok (.irem, 1) := by decide +kernel
theorem dX3_restart_131 : decode cX3_restart 131 = .ok (.iconst 0, 1) := by decide +kernel
theorem dX3_restart_132 : decode cX3_restart 132 = .ok (.invokevirtual 82, 3) := by decide +kernel
theorem dX3_restart_135 : decode cX3_restart 135 = .ok (.iinc 3 1, 3) := by decide +kernel
theorem dX3_restart_138 : decode cX3_restart 138 = .ok (.goto (-85), 3) := by decide +kernel
theorem dX3_restart_141 : decode cX3_restart 141 = .ok (.iconst 1, 1) := by decide +kernel
theorem dX3_restart_142 : decode cX3_restart 142 = .ok (.istore_n 3, 1) := by decide +kernel
theorem dX3_restart_143 : decode cX3_restart 143 = .ok (.iload_n 3, 1) := by decide +kernel
theorem dX3_restart_144 : decode cX3_restart 144 = .ok (.bipush 12, 2) := by decide +kernel
theorem dX3_restart_146 : decode cX3_restart 146 = .ok (.if_icmp .ge 41, 3) := by decide +kernel
theorem dX3_restart_149 : decode cX3_restart 149 = .ok (.aload_n 0, 1) := by decide +kernel
theorem dX3_restart_150 : decode cX3_restart 150 = .ok (.getfield 36, 3) := by decide +kernel
theorem dX3_restart_153 : decode cX3_restart 153 = .ok (.ifCond .ne 34, 3) := by decide +kernel
theorem dX3_restart_156 : decode cX3_restart 156 = .ok (.aload_n 0, 1) := by decide +kernel
theorem dX3_restart_157 : decode cX3_restart 157 = .ok (.getfield 7, 3) := by decide +kernel
theorem dX3_restart_160 : decode cX3_restart 160 = .ok (.iload_n 3, 1) := by decide +kernel
theorem dX3_restart_161 : decode cX3_restart 161 = .ok (.iaload, 1) := by decide +kernel
theorem dX3_restart_162 : decode cX3_restart 162 = .ok (.ifCond .eq 19, 3) := by decide +kernel
theorem dX3_restart_165 : decode cX3_restart 165 = .ok (.aload_n 0, 1) := by decide +kernel
theorem dX3_restart_166 : decode cX3_restart 166 = .ok (.iload_n 3, 1) := by decide +kernel
theorem dX3_restart_167 : decode cX3_restart 167 = .ok (.bipush 96, 2) := by decide +kernel
theorem dX3_restart_169 : decode cX3_restart 169 = .ok (.invokevirtual 135, 3) := by decide +kernel
theorem dX3_restart_172 : decode cX3_restart 172 = .ok (.ifCond .ne 9, 3) := by decide +kernel
theorem dX3_restart_175 : decode cX3_restart 175 = .ok (.aload_n 0, 1) := by decide +kernel
theorem dX3_restart_176 : decode cX3_restart 176 = .ok (.iload_n 3, 1) := by decide +kernel
theorem dX3_restart_177 : decode cX3_restart 177 = .ok (.iconst 0, 1) := by decide +kernel
theorem dX3_restart_178 : decode cX3_restart 178 = .ok (.invokevirtual 86, 3) := by decide +kernel
theorem dX3_restart_181 : decode cX3_restart 181 = .ok (.iinc 3 1, 3) := by decide +kernel
theorem dX3_restart_184 : decode cX3_restart 184 = .ok (.goto (-41), 3) := by decide +kernel
theorem dX3_restart_187 : decode cX3_restart 187 = .ok (.goto (-156), 3) := by decide +kernel
theorem dX3_restart_190 : decode cX3_restart 190 = .ok (.aload_n 0, 1) := by decide +kernel
theorem dX3_restart_191 : decode cX3_restart 191 = .ok (.getfield 36, 3) := by decide +kernel
theorem dX3_restart_194 : decode cX3_restart 194 = .ok (.ifCond .eq 8, 3) := by decide +kernel
theorem dX3_restart_197 : decode cX3_restart 197 = .ok (.bipush (-2), 2) := by decide +kernel
theorem dX3_restart_199 : decode cX3_restart 199 = .ok (.goto 9, 3) := by decide +kernel
theorem dX3_restart_202 : decode cX3_restart 202 = .ok (.aload_n 0, 1) := by decide +kernel
theorem dX3_restart_203 : decode cX3_restart 203 = .ok (.getfield 40, 3) := by decide +kernel
theorem dX3_restart_206 : decode cX3_restart 206 = .ok (.iload_n 1, 1) := by decide +kernel
theorem dX3_restart_207 : decode cX3_restart 207 = .ok (.isub, 1) := by decide +kernel
theorem dX3_restart_208 : decode cX3_restart 208 = .ok (.ireturn, 1) := by decide +kernel
theorem dX3_isDown_0 : decode cX3_isDown 0 = .ok (.aload_n 0, 1) := by decide +kernel
theorem dX3_isDown_1 : decode cX3_isDown 1 = .ok (.getfield 36, 3) := by decide +kernel
theorem dX3_isDown_4 : decode cX3_isDown 4 = .ok (.ifCond .eq 7, 3) := by decide +kernel
theorem dX3_isDown_7 : decode cX3_isDown 7 = .ok (.iconst 1, 1) := by decide +kernel
theorem dX3_isDown_8 : decode cX3_isDown 8 = .ok (.goto 4, 3) := by decide +kernel
theorem dX3_isDown_11 : decode cX3_isDown 11 = .ok (.iconst 0, 1) := by decide +kernel
theorem dX3_isDown_12 : decode cX3_isDown 12 = .ok (.ireturn, 1) := by decide +kernel
set_option maxRecDepth 20000 in
theorem ggX3_find_X3_isInode : GoodIn wsX3_find wsX3_isInode := goodIn_r _ [6, 7, 8, 9, 10, 5, 11, 20, 21, 22, 23, 24, 25, 26, 27, 28, 29, 30, 31, 32, 33, 34, 35] (by decide +kernel) (by decide +kernel)
set_option maxRecDepth 20000 in
theorem gX3_find_X3_isInode : GoodIn wsX3_find (wsV RX3 61 RX3 yX3_isInode wsX3_isInode) := goodIn_app (goodIn_of _ (by decide +kernel)) ggX3_find_X3_isInode
set_option maxRecDepth 20000 in
theorem ggX3_find_X3_isName : GoodIn wsX3_find wsX3_isName := goodIn_r _ [14, 15, 9, 10, 5, 11] (by decide +kernel) (by decide +kernel)
set_option maxRecDepth 20000 in
theorem gX3_find_X3_isName : GoodIn wsX3_find (va_wsS RX3 65 yX3_isName wsX3_isName) := goodIn_app (goodIn_of _ (by decide +kernel)) ggX3_find_X3_isName
set_option maxRecDepth 20000 in
theorem ggX3_find_X3_entry : GoodIn wsX3_find wsX3_entry := goodIn_r _ [19, 1, 20, 21, 22, 23, 24, 25, 26, 27, 28, 29, 30, 31, 32, 33, 34, 35] (by decide +kernel) (by decide +kernel)
set_option maxRecDepth 20000 in
theorem gX3_find_X3_entry : GoodIn wsX3_find (wsV RX3 70 RX3 yX3_entry wsX3_entry) := goodIn_app (goodIn_of _ (by decide +kernel)) ggX3_find_X3_entry
theorem dX3_find_0 : decode cX3_find 0 = .ok (.aload_n 0, 1) := by decide +kernel
theorem dX3_find_1 : decode cX3_find 1 = .ok (.iload_n 1, 1) := by decide +kernel
theorem dX3_find_2 : decode cX3_find 2 = .ok (.iconst 1, 1) := by decide +kernel
theorem dX3_find_3 : decode cX3_find 3 = .ok (.invokevirtual 61, 3) := by decide +kernel
theorem dX3_find_6 : decode cX3_find 6 = .ok (.ifCond .eq 10, 3) := by decide +kernel
theorem dX3_find_9 : decode cX3_find 9 = .ok (.iload_n 2, 1) := by decide +kernel
theorem dX3_find_10 : decode cX3_find 10 = .ok (.invokestatic 65, 3) := by decide +kernel
theorem dX3_find_13 : decode cX3_find 13 = .ok (.ifCond .ne 5, 3) := by decide +kernel
theorem dX3_find_16 : decode cX3_find 16 = .ok (.iconst (-1), 1) := by decide +kernel
theorem dX3_find_17 : decode cX3_find 17 = .ok (.ireturn, 1) := by decide +kernel
theorem dX3_find_18 : decode cX3_find 18 = .ok (.aload_n 0, 1) := by decide +kernel
theorem dX3_find_19 : decode cX3_find 19 = .ok (.iload_n 1, 1) := by decide +kernel
theorem dX3_find_20 : decode cX3_find 20 = .ok (.iload_n 2, 1) := by decide +kernel
theorem dX3_find_21 : decode cX3_find 21 = .ok (.invokevirtual 70, 3) := by decide +kernel
theorem dX3_find_24 : decode cX3_find 24 = .ok (.istore_n 3, 1) := by decide +kernel
theorem dX3_find_25 : decode cX3_find 25 = .ok (.iload_n 3, 1) := by decide +kernel
theorem dX3_find_26 : decode cX3_find 26 = .ok (.ifCond .ge 8, 3) := by decide +kernel
theorem dX3_find_29 : decode cX3_find 29 = .ok (.bipush (-3), 2) := by decide +kernel
theorem dX3_find_31 : decode cX3_find 31 = .ok (.goto 17, 3) := by decide +kernel
theorem dX3_find_34 : decode cX3_find 34 = .ok (.aload_n 0, 1) := by decide +kernel
theorem dX3_find_35 : decode cX3_find 35 = .ok (.getfield 16, 3) := by decide +kernel
theorem dX3_find_38 : decode cX3_find 38 = .ok (.bipush 8, 2) := by decide +kernel
theorem dX3_find_40 : decode cX3_find 40 = .ok (.iload_n 1, 1) := by decide +kernel
theorem dX3_find_41 : decode cX3_find 41 = .ok (.imul, 1) := by decide +kernel
theorem dX3_find_42 : decode cX3_find 42 = .ok (.iload_n 3, 1) := by decide +kernel
theorem dX3_find_43 : decode cX3_find 43 = .ok (.iadd, 1) := by decide +kernel
theorem dX3_find_44 : decode cX3_find 44 = .ok (.iaload, 1) := by decide +kernel
theorem dX3_find_45 : decode cX3_find 45 = .ok (.bipush 100, 2) := by decide +kernel
theorem dX3_find_47 : decode cX3_find 47 = .ok (.idiv, 1) := by decide +kernel
theorem dX3_find_48 : decode cX3_find 48 = .ok (.ireturn, 1) := by decide +kernel
theorem dX3_inodeOf_0 : decode cX3_inodeOf 0 = .ok (.iload_n 2, 1) := by decide +kernel
theorem dX3_inodeOf_1 : decode cX3_inodeOf 1 = .ok (.ifCond .ne 12, 3) := by decide +kernel
theorem dX3_inodeOf_4 : decode cX3_inodeOf 4 = .ok (.aload_n 0, 1) := by decide +kernel
theorem dX3_inodeOf_5 : decode cX3_inodeOf 5 = .ok (.getfield 7, 3) := by decide +kernel
theorem dX3_inodeOf_8 : decode cX3_inodeOf 8 = .ok (.iload_n 1, 1) := by decide +kernel
theorem dX3_inodeOf_9 : decode cX3_inodeOf 9 = .ok (.iaload, 1) := by decide +kernel
theorem dX3_inodeOf_10 : decode cX3_inodeOf 10 = .ok (.goto 30, 3) := by decide +kernel
theorem dX3_inodeOf_13 : decode cX3_inodeOf 13 = .ok (.iload_n 2, 1) := by decide +kernel
theorem dX3_inodeOf_14 : decode cX3_inodeOf 14 = .ok (.iconst 1, 1) := by decide +kernel
theorem dX3_inodeOf_15 : decode cX3_inodeOf 15 = .ok (.if_icmp .ne 12, 3) := by decide +kernel
theorem dX3_inodeOf_18 : decode cX3_inodeOf 18 = .ok (.aload_n 0, 1) := by decide +kernel
theorem dX3_inodeOf_19 : decode cX3_inodeOf 19 = .ok (.getfield 13, 3) := by decide +kernel
theorem dX3_inodeOf_22 : decode cX3_inodeOf 22 = .ok (.iload_n 1, 1) := by decide +kernel
theorem dX3_inodeOf_23 : decode cX3_inodeOf 23 = .ok (.iaload, 1) := by decide +kernel
theorem dX3_inodeOf_24 : decode cX3_inodeOf 24 = .ok (.goto 16, 3) := by decide +kernel
theorem dX3_inodeOf_27 : decode cX3_inodeOf 27 = .ok (.aload_n 0, 1) := by decide +kernel
theorem dX3_inodeOf_28 : decode cX3_inodeOf 28 = .ok (.getfield 16, 3) := by decide +kernel
theorem dX3_inodeOf_31 : decode cX3_inodeOf 31 = .ok (.bipush 8, 2) := by decide +kernel
theorem dX3_inodeOf_33 : decode cX3_inodeOf 33 = .ok (.iload_n 1, 1) := by decide +kernel
theorem dX3_inodeOf_34 : decode cX3_inodeOf 34 = .ok (.imul, 1) := by decide +kernel
theorem dX3_inodeOf_35 : decode cX3_inodeOf 35 = .ok (.iload_n 2, 1) := by decide +kernel
theorem dX3_inodeOf_36 : decode cX3_inodeOf 36 = .ok (.iadd, 1) := by decide +kernel
theorem dX3_inodeOf_37 : decode cX3_inodeOf 37 = .ok (.iconst 2, 1) := by decide +kernel
theorem dX3_inodeOf_38 : decode cX3_inodeOf 38 = .ok (.isub, 1) := by decide +kernel
theorem dX3_inodeOf_39 : decode cX3_inodeOf 39 = .ok (.iaload, 1) := by decide +kernel
theorem dX3_inodeOf_40 : decode cX3_inodeOf 40 = .ok (.ireturn, 1) := by decide +kernel
set_option maxRecDepth 20000 in
theorem ggX3_inode_X3_in : GoodIn wsX3_inode wsX3_in := goodIn_r _ [6] (by decide +kernel) (by decide +kernel)
set_option maxRecDepth 20000 in
theorem gX3_inode_X3_in : GoodIn wsX3_inode (va_wsS RX3 49 yX3_in wsX3_in) := goodIn_app (goodIn_of _ (by decide +kernel)) ggX3_inode_X3_in
set_option maxRecDepth 20000 in
theorem ggX3_inode_X3_inodeOf : GoodIn wsX3_inode wsX3_inodeOf := goodIn_r _ [10, 11, 12, 13, 14, 15, 16, 17, 18, 19, 20, 21, 22, 23, 24, 25, 26, 27, 28, 29] (by decide +kernel) (by decide +kernel)
set_option maxRecDepth 20000 in
theorem gX3_inode_X3_inodeOf : GoodIn wsX3_inode (wsV RX3 140 RX3 yX3_inodeOf wsX3_inodeOf) := goodIn_app (goodIn_of _ (by decide +kernel)) ggX3_inode_X3_inodeOf
theorem dX3_inode_0 : decode cX3_inode 0 = .ok (.iload_n 1, 1) := by decide +kernel
theorem dX3_inode_1 : decode cX3_inode 1 = .ok (.i2l, 1) := by decide +kernel
theorem dX3_inode_2 : decode cX3_inode 2 = .ok (.lconst 0, 1) := by decide +kernel
theorem dX3_inode_3 : decode cX3_inode 3 = .ok (.ldc2_w 53, 3) := by decide +kernel
theorem dX3_inode_6 : decode cX3_inode 6 = .ok (.invokestatic 49, 3) := by decide +kernel
theorem dX3_inode_9 : decode cX3_inode 9 = .ok (.ifCond .eq 24, 3) := by decide +kernel
theorem dX3_inode_12 : decode cX3_inode 12 = .ok (.iload_n 2, 1) := by decide +kernel
theorem dX3_inode_13 : decode cX3_inode 13 = .ok (.i2l, 1) := by decide +kernel
theorem dX3_inode_14 : decode cX3_inode 14 = .ok (.lconst 0, 1) := by decide +kernel
theorem dX3_inode_15 : decode cX3_inode 15 = .ok (.ldc2_w 138, 3) := by decide +kernel
theorem dX3_inode_18 : decode cX3_inode 18 = .ok (.invokestatic 49, 3) := by decide +kernel
theorem dX3_inode_21 : decode cX3_inode 21 = .ok (.ifCond .eq 12, 3) := by decide +kernel
theorem dX3_inode_24 : decode cX3_inode 24 = .ok (.aload_n 0, 1) := by decide +kernel
theorem dX3_inode_25 : decode cX3_inode 25 = .ok (.iload_n 1, 1) := by decide +kernel
theorem dX3_inode_26 : decode cX3_inode 26 = .ok (.iload_n 2, 1) := by decide +kernel
theorem dX3_inode_27 : decode cX3_inode 27 = .ok (.invokevirtual 140, 3) := by decide +kernel
theorem dX3_inode_30 : decode cX3_inode 30 = .ok (.goto 4, 3) := by decide +kernel
theorem dX3_inode_33 : decode cX3_inode 33 = .ok (.iconst (-1), 1) := by decide +kernel
theorem dX3_inode_34 : decode cX3_inode 34 = .ok (.ireturn, 1) := by decide +kernel
set_option maxRecDepth 20000 in
theorem ggX3_data_X3_in : GoodIn wsX3_data wsX3_in := goodIn_r _ [8] (by decide +kernel) (by decide +kernel)
set_option maxRecDepth 20000 in
theorem gX3_data_X3_in : GoodIn wsX3_data (va_wsS RX3 49 yX3_in wsX3_in) := goodIn_app (goodIn_of _ (by decide +kernel)) ggX3_data_X3_in
theorem dX3_data_0 : decode cX3_data 0 = .ok (.iload_n 1, 1) := by decide +kernel
theorem dX3_data_1 : decode cX3_data 1 = .ok (.i2l, 1) := by decide +kernel
theorem dX3_data_2 : decode cX3_data 2 = .ok (.lconst 0, 1) := by decide +kernel
theorem dX3_data_3 : decode cX3_data 3 = .ok (.ldc2_w 143, 3) := by decide +kernel
theorem dX3_data_6 : decode cX3_data 6 = .ok (.invokestatic 49, 3) := by decide +kernel
theorem dX3_data_9 : decode cX3_data 9 = .ok (.ifCond .eq 15, 3) := by decide +kernel
theorem dX3_data_12 : decode cX3_data 12 = .ok (.iload_n 2, 1) := by decide +kernel
theorem dX3_data_13 : decode cX3_data 13 = .ok (.i2l, 1) := by decide +kernel
theorem dX3_data_14 : decode cX3_data 14 = .ok (.lconst 0, 1) := by decide +kernel
theorem dX3_data_15 : decode cX3_data 15 = .ok (.ldc2_w 68, 3) := by decide +kernel
theorem dX3_data_18 : decode cX3_data 18 = .ok (.invokestatic 49, 3) := by decide +kernel
theorem dX3_data_21 : decode cX3_data 21 = .ok (.ifCond .ne 5, 3) := by decide +kernel
theorem dX3_data_24 : decode cX3_data 24 = .ok (.iconst (-1), 1) := by decide +kernel
theorem dX3_data_25 : decode cX3_data 25 = .ok (.ireturn, 1) := by decide +kernel
theorem dX3_data_26 : decode cX3_data 26 = .ok (.aload_n 0, 1) := by decide +kernel
theorem dX3_data_27 : decode cX3_data 27 = .ok (.aload_n 0, 1) := by decide +kernel
theorem dX3_data_28 : decode cX3_data 28 = .ok (.getfield 19, 3) := by decide +kernel
theorem dX3_data_31 : decode cX3_data 31 = .ok (.iconst 3, 1) := by decide +kernel
theorem dX3_data_32 : decode cX3_data 32 = .ok (.iload_n 1, 1) := by decide +kernel
theorem dX3_data_33 : decode cX3_data 33 = .ok (.imul, 1) := by decide +kernel
theorem dX3_data_34 : decode cX3_data 34 = .ok (.iload_n 2, 1) := by decide +kernel
theorem dX3_data_35 : decode cX3_data 35 = .ok (.iadd, 1) := by decide +kernel
theorem dX3_data_36 : decode cX3_data 36 = .ok (.laload, 1) := by decide +kernel
theorem dX3_data_37 : decode cX3_data 37 = .ok (.putfield 145, 3) := by decide +kernel
theorem dX3_data_40 : decode cX3_data 40 = .ok (.iconst 1, 1) := by decide +kernel
theorem dX3_data_41 : decode cX3_data 41 = .ok (.ireturn, 1) := by decide +kernel
set_option maxRecDepth 20000 in
theorem ggX3_read_X3_isInode : GoodIn wsX3_read wsX3_isInode := goodIn_r _ [10, 11, 12, 13, 14, 9, 15, 16, 17, 18, 19, 20, 21, 22, 23, 24, 25, 26, 27, 28, 29, 30, 31] (by decide +kernel) (by decide +kernel)
set_option maxRecDepth 20000 in
theorem gX3_read_X3_isInode : GoodIn wsX3_read (wsV RX3 61 RX3 yX3_isInode wsX3_isInode) := goodIn_app (goodIn_of _ (by decide +kernel)) ggX3_read_X3_isInode
set_option maxRecDepth 20000 in
theorem ggX3_read_X3_in : GoodIn wsX3_read wsX3_in := goodIn_r _ [15] (by decide +kernel) (by decide +kernel)
set_option maxRecDepth 20000 in
theorem gX3_read_X3_in : GoodIn wsX3_read (va_wsS RX3 49 yX3_in wsX3_in) := goodIn_app (goodIn_of _ (by decide +kernel)) ggX3_read_X3_in
theorem dX3_read_0 : decode cX3_read 0 = .ok (.aload_n 0, 1) := by decide +kernel
theorem dX3_read_1 : decode cX3_read 1 = .ok (.iload_n 1, 1) := by decide +kernel
theorem dX3_read_2 : decode cX3_read 2 = .ok (.iconst 2, 1) := by decide +kernel
theorem dX3_read_3 : decode cX3_read 3 = .ok (.invokevirtual 61, 3) := by decide +kernel
theorem dX3_read_6 : decode cX3_read 6 = .ok (.ifCond .eq 33, 3) := by decide +kernel
theorem dX3_read_9 : decode cX3_read 9 = .ok (.iload_n 2, 1) := by decide +kernel
theorem dX3_read_10 : decode cX3_read 10 = .ok (.i2l, 1) := by decide +kernel
theorem dX3_read_11 : decode cX3_read 11 = .ok (.lconst 0, 1) := by decide +kernel
theorem dX3_read_12 : decode cX3_read 12 = .ok (.aload_n 0, 1) := by decide +kernel
theorem dX3_read_13 : decode cX3_read 13 = .ok (.getfield 13, 3) := by decide +kernel
theorem dX3_read_16 : decode cX3_read 16 = .ok (.iload_n 1, 1) := by decide +kernel
theorem dX3_read_17 : decode cX3_read 17 = .ok (.iaload, 1) := by decide +kernel
theorem dX3_read_18 : decode cX3_read 18 = .ok (.iconst 1, 1) := by decide +kernel
theorem dX3_read_19 : decode cX3_read 19 = .ok (.isub, 1) := by decide +kernel
theorem dX3_read_20 : decode cX3_read 20 = .ok (.i2l, 1) := by decide +kernel
theorem dX3_read_21 : decode cX3_read 21 = .ok (.invokestatic 49, 3) := by decide +kernel
theorem dX3_read_24 : decode cX3_read 24 = .ok (.ifCond .eq 15, 3) := by decide +kernel
theorem dX3_read_27 : decode cX3_read 27 = .ok (.iload_n 3, 1) := by decide +kernel
theorem dX3_read_28 : decode cX3_read 28 = .ok (.i2l, 1) := by decide +kernel
theorem dX3_read_29 : decode cX3_read 29 = .ok (.lconst 0, 1) := by decide +kernel
theorem dX3_read_30 : decode cX3_read 30 = .ok (.ldc2_w 68, 3) := by decide +kernel
theorem dX3_read_33 : decode cX3_read 33 = .ok (.invokestatic 49, 3) := by decide +kernel
theorem dX3_read_36 : decode cX3_read 36 = .ok (.ifCond .ne 5, 3) := by decide +kernel
theorem dX3_read_39 : decode cX3_read 39 = .ok (.iconst (-1), 1) := by decide +kernel
theorem dX3_read_40 : decode cX3_read 40 = .ok (.ireturn, 1) := by decide +kernel
theorem dX3_read_41 : decode cX3_read 41 = .ok (.aload_n 0, 1) := by decide +kernel
theorem dX3_read_42 : decode cX3_read 42 = .ok (.aload_n 0, 1) := by decide +kernel
theorem dX3_read_43 : decode cX3_read 43 = .ok (.getfield 19, 3) := by decide +kernel
theorem dX3_read_46 : decode cX3_read 46 = .ok (.iconst 3, 1) := by decide +kernel
theorem dX3_read_47 : decode cX3_read 47 = .ok (.aload_n 0, 1) := by decide +kernel
theorem dX3_read_48 : decode cX3_read 48 = .ok (.getfield 16, 3) := by decide +kernel
theorem dX3_read_51 : decode cX3_read 51 = .ok (.bipush 8, 2) := by decide +kernel
theorem dX3_read_53 : decode cX3_read 53 = .ok (.iload_n 1, 1) := by decide +kernel
theorem dX3_read_54 : decode cX3_read 54 = .ok (.imul, 1) := by decide +kernel
theorem dX3_read_55 : decode cX3_read 55 = .ok (.iload_n 2, 1) := by decide +kernel
theorem dX3_read_56 : decode cX3_read 56 = .ok (.iadd, 1) := by decide +kernel
theorem dX3_read_57 : decode cX3_read 57 = .ok (.iaload, 1) := by decide +kernel
theorem dX3_read_58 : decode cX3_read 58 = .ok (.imul, 1) := by decide +kernel
theorem dX3_read_59 : decode cX3_read 59 = .ok (.iload_n 3, 1) := by decide +kernel
theorem dX3_read_60 : decode cX3_read 60 = .ok (.iadd, 1) := by decide +kernel
theorem dX3_read_61 : decode cX3_read 61 = .ok (.laload, 1) := by decide +kernel
theorem dX3_read_62 : decode cX3_read 62 = .ok (.putfield 145, 3) := by decide +kernel
theorem dX3_read_65 : decode cX3_read 65 = .ok (.iconst 1, 1) := by decide +kernel
theorem dX3_read_66 : decode cX3_read 66 = .ok (.ireturn, 1) := by decide +kernel
theorem dX3_asked_0 : decode cX3_asked 0 = .ok (.aload_n 0, 1) := by decide +kernel
theorem dX3_asked_1 : decode cX3_asked 1 = .ok (.getfield 145, 3) := by decide +kernel
theorem dX3_asked_4 : decode cX3_asked 4 = .ok (.lreturn, 1) := by decide +kernel
set_option maxRecDepth 20000 in
theorem ggX3_record_X3_in : GoodIn wsX3_record wsX3_in := goodIn_r _ [6] (by decide +kernel) (by decide +kernel)
set_option maxRecDepth 20000 in
theorem gX3_record_X3_in : GoodIn wsX3_record (va_wsS RX3 49 yX3_in wsX3_in) := goodIn_app (goodIn_of _ (by decide +kernel)) ggX3_record_X3_in
theorem dX3_record_0 : decode cX3_record 0 = .ok (.iload_n 1, 1) := by decide +kernel
theorem dX3_record_1 : decode cX3_record 1 = .ok (.i2l, 1) := by decide +kernel
theorem dX3_record_2 : decode cX3_record 2 = .ok (.lconst 0, 1) := by decide +kernel
theorem dX3_record_3 : decode cX3_record 3 = .ok (.ldc2_w 149, 3) := by decide +kernel
theorem dX3_record_6 : decode cX3_record 6 = .ok (.invokestatic 49, 3) := by decide +kernel
theorem dX3_record_9 : decode cX3_record 9 = .ok (.ifCond .eq 12, 3) := by decide +kernel
theorem dX3_record_12 : decode cX3_record 12 = .ok (.aload_n 0, 1) := by decide +kernel
theorem dX3_record_13 : decode cX3_record 13 = .ok (.getfield 23, 3) := by decide +kernel
theorem dX3_record_16 : decode cX3_record 16 = .ok (.iload_n 1, 1) := by decide +kernel
theorem dX3_record_17 : decode cX3_record 17 = .ok (.iaload, 1) := by decide +kernel
theorem dX3_record_18 : decode cX3_record 18 = .ok (.goto 4, 3) := by decide +kernel
theorem dX3_record_21 : decode cX3_record 21 = .ok (.iconst (-1), 1) := by decide +kernel
theorem dX3_record_22 : decode cX3_record 22 = .ok (.ireturn, 1) := by decide +kernel
set_option maxRecDepth 20000 in
theorem ggX3_plan_X3_in : GoodIn wsX3_plan wsX3_in := goodIn_r _ [9] (by decide +kernel) (by decide +kernel)
set_option maxRecDepth 20000 in
theorem gX3_plan_X3_in : GoodIn wsX3_plan (va_wsS RX3 49 yX3_in wsX3_in) := goodIn_app (goodIn_of _ (by decide +kernel)) ggX3_plan_X3_in
set_option maxRecDepth 20000 in
theorem ggX3_plan_X3_look : GoodIn wsX3_plan wsX3_look := goodIn_r _ [13, 14, 15, 16, 17, 18, 19, 8, 20, 4, 5, 3, 2, 21, 22, 23, 24, 25, 26, 27, 28, 29, 30, 31, 32, 33, 34, 35, 36, 37, 38, 39, 40, 41, 42, 43, 44] (by decide +kernel) (by decide +kernel)
set_option maxRecDepth 20000 in
theorem gX3_plan_X3_look : GoodIn wsX3_plan (wsV RX3 128 RX3 yX3_look wsX3_look) := goodIn_app (goodIn_of _ (by decide +kernel)) ggX3_plan_X3_look
theorem dX3_plan_0 : decode cX3_plan 0 = .ok (.iload_n 1, 1) := by decide +kernel
theorem dX3_plan_1 : decode cX3_plan 1 = .ok (.i2l, 1) := by decide +kernel
theorem dX3_plan_2 : decode cX3_plan 2 = .ok (.lconst 0, 1) := by decide +kernel
theorem dX3_plan_3 : decode cX3_plan 3 = .ok (.ldc2_w 149, 3) := by decide +kernel
theorem dX3_plan_6 : decode cX3_plan 6 = .ok (.invokestatic 49, 3) := by decide +kernel
theorem dX3_plan_9 : decode cX3_plan 9 = .ok (.ifCond .ne 5, 3) := by decide +kernel
theorem dX3_plan_12 : decode cX3_plan 12 = .ok (.iconst (-1), 1) := by decide +kernel
theorem dX3_plan_13 : decode cX3_plan 13 = .ok (.ireturn, 1) := by decide +kernel
theorem dX3_plan_14 : decode cX3_plan 14 = .ok (.aload_n 0, 1) := by decide +kernel
theorem dX3_plan_15 : decode cX3_plan 15 = .ok (.invokevirtual 128, 3) := by decide +kernel
theorem dX3_plan_18 : decode cX3_plan 18 = .ok (.istore_n 2, 1) := by decide +kernel
theorem dX3_plan_19 : decode cX3_plan 19 = .ok (.iload_n 2, 1) := by decide +kernel
theorem dX3_plan_20 : decode cX3_plan 20 = .ok (.iconst 1, 1) := by decide +kernel
theorem dX3_plan_21 : decode cX3_plan 21 = .ok (.if_icmp .ge 15, 3) := by decide +kernel
theorem dX3_plan_24 : decode cX3_plan 24 = .ok (.iload_n 2, 1) := by decide +kernel
theorem dX3_plan_25 : decode cX3_plan 25 = .ok (.ifCond .ne 8, 3) := by decide +kernel
theorem dX3_plan_28 : decode cX3_plan 28 = .ok (.bipush (-3), 2) := by decide +kernel
theorem dX3_plan_30 : decode cX3_plan 30 = .ok (.goto 5, 3) := by decide +kernel
theorem dX3_plan_33 : decode cX3_plan 33 = .ok (.bipush (-5), 2) := by decide +kernel
theorem dX3_plan_35 : decode cX3_plan 35 = .ok (.ireturn, 1) := by decide +kernel
theorem dX3_plan_36 : decode cX3_plan 36 = .ok (.iload_n 1, 1) := by decide +kernel
theorem dX3_plan_37 : decode cX3_plan 37 = .ok (.ifCond .ne 10, 3) := by decide +kernel
theorem dX3_plan_40 : decode cX3_plan 40 = .ok (.aload_n 0, 1) := by decide +kernel
theorem dX3_plan_41 : decode cX3_plan 41 = .ok (.getfield 119, 3) := by decide +kernel
theorem dX3_plan_44 : decode cX3_plan 44 = .ok (.goto 31, 3) := by decide +kernel
theorem dX3_plan_47 : decode cX3_plan 47 = .ok (.iload_n 1, 1) := by decide +kernel
theorem dX3_plan_48 : decode cX3_plan 48 = .ok (.iconst 1, 1) := by decide +kernel
theorem dX3_plan_49 : decode cX3_plan 49 = .ok (.if_icmp .ne 10, 3) := by decide +kernel
theorem dX3_plan_52 : decode cX3_plan 52 = .ok (.aload_n 0, 1) := by decide +kernel
theorem dX3_plan_53 : decode cX3_plan 53 = .ok (.getfield 113, 3) := by decide +kernel
theorem dX3_plan_56 : decode cX3_plan 56 = .ok (.goto 19, 3) := by decide +kernel
theorem dX3_plan_59 : decode cX3_plan 59 = .ok (.iload_n 1, 1) := by decide +kernel
theorem dX3_plan_60 : decode cX3_plan 60 = .ok (.iconst 2, 1) := by decide +kernel
theorem dX3_plan_61 : decode cX3_plan 61 = .ok (.if_icmp .ne 10, 3) := by decide +kernel
theorem dX3_plan_64 : decode cX3_plan 64 = .ok (.aload_n 0, 1) := by decide +kernel
theorem dX3_plan_65 : decode cX3_plan 65 = .ok (.getfield 107, 3) := by decide +kernel
theorem dX3_plan_68 : decode cX3_plan 68 = .ok (.goto 7, 3) := by decide +kernel
theorem dX3_plan_71 : decode cX3_plan 71 = .ok (.aload_n 0, 1) := by decide +kernel
theorem dX3_plan_72 : decode cX3_plan 72 = .ok (.getfield 110, 3) := by decide +kernel
theorem dX3_plan_75 : decode cX3_plan 75 = .ok (.ireturn, 1) := by decide +kernel
set_option maxRecDepth 20000 in
theorem ggX3_runs_X3_isInode : GoodIn wsX3_runs wsX3_isInode := goodIn_r _ [7, 8, 9, 10, 11, 6, 12, 13, 14, 15, 16, 17, 18, 19, 20, 21, 22, 23, 24, 25, 26, 27, 28] (by decide +kernel) (by decide +kernel)
set_option maxRecDepth 20000 in
theorem gX3_runs_X3_isInode : GoodIn wsX3_runs (wsV RX3 61 RX3 yX3_isInode wsX3_isInode) := goodIn_app (goodIn_of _ (by decide +kernel)) ggX3_runs_X3_isInode
theorem dX3_runs_0 : decode cX3_runs 0 = .ok (.aload_n 0, 1) := by decide +kernel
theorem dX3_runs_1 : decode cX3_runs 1 = .ok (.iload_n 1, 1) := by decide +kernel
theorem dX3_runs_2 : decode cX3_runs 2 = .ok (.iconst 2, 1) := by decide +kernel
theorem dX3_runs_3 : decode cX3_runs 3 = .ok (.invokevirtual 61, 3) := by decide +kernel
theorem dX3_runs_6 : decode cX3_runs 6 = .ok (.ifCond .ne 5, 3) := by decide +kernel
theorem dX3_runs_9 : decode cX3_runs 9 = .ok (.iconst (-1), 1) := by decide +kernel
theorem dX3_runs_10 : decode cX3_runs 10 = .ok (.ireturn, 1) := by decide +kernel
theorem dX3_runs_11 : decode cX3_runs 11 = .ok (.iconst 0, 1) := by decide +kernel
end
section
theorem dX3_runs_12 : decode cX3_runs 12 = .ok (.istore_n 2, 1) := by decide +kernel
theorem dX3_runs_13 : decode cX3_runs 13 = .ok (.iconst 0, 1) := by decide +kernel
theorem dX3_runs_14 : decode cX3_runs 14 = .ok (.istore_n 3, 1) := by decide +kernel
theorem dX3_runs_15 : decode cX3_runs 15 = .ok (.iload_n 3, 1) := by decide +kernel
theorem dX3_runs_16 : decode cX3_runs 16 = .ok (.aload_n 0, 1) := by decide +kernel
theorem dX3_runs_17 : decode cX3_runs 17 = .ok (.getfield 13, 3) := by decide +kernel
theorem dX3_runs_20 : decode cX3_runs 20 = .ok (.iload_n 1, 1) := by decide +kernel
theorem dX3_runs_21 : decode cX3_runs 21 = .ok (.iaload, 1) := by decide +kernel
theorem dX3_runs_22 : decode cX3_runs 22 = .ok (.if_icmp .ge 50, 3) := by decide +kernel
theorem dX3_runs_25 : decode cX3_runs 25 = .ok (.iload_n 2, 1) := by decide +kernel
theorem dX3_runs_26 : decode cX3_runs 26 = .ok (.iload_n 3, 1) := by decide +kernel
theorem dX3_runs_27 : decode cX3_runs 27 = .ok (.ifCond .eq 32, 3) := by decide +kernel
theorem dX3_runs_30 : decode cX3_runs 30 = .ok (.aload_n 0, 1) := by decide +kernel
theorem dX3_runs_31 : decode cX3_runs 31 = .ok (.getfield 16, 3) := by decide +kernel
theorem dX3_runs_34 : decode cX3_runs 34 = .ok (.bipush 8, 2) := by decide +kernel
theorem dX3_runs_36 : decode cX3_runs 36 = .ok (.iload_n 1, 1) := by decide +kernel
theorem dX3_runs_37 : decode cX3_runs 37 = .ok (.imul, 1) := by decide +kernel
theorem dX3_runs_38 : decode cX3_runs 38 = .ok (.iload_n 3, 1) := by decide +kernel
theorem dX3_runs_39 : decode cX3_runs 39 = .ok (.iadd, 1) := by decide +kernel
theorem dX3_runs_40 : decode cX3_runs 40 = .ok (.iaload, 1) := by decide +kernel
theorem dX3_runs_41 : decode cX3_runs 41 = .ok (.aload_n 0, 1) := by decide +kernel
theorem dX3_runs_42 : decode cX3_runs 42 = .ok (.getfield 16, 3) := by decide +kernel
theorem dX3_runs_45 : decode cX3_runs 45 = .ok (.bipush 8, 2) := by decide +kernel
theorem dX3_runs_47 : decode cX3_runs 47 = .ok (.iload_n 1, 1) := by decide +kernel
theorem dX3_runs_48 : decode cX3_runs 48 = .ok (.imul, 1) := by decide +kernel
theorem dX3_runs_49 : decode cX3_runs 49 = .ok (.iload_n 3, 1) := by decide +kernel
theorem dX3_runs_50 : decode cX3_runs 50 = .ok (.iadd, 1) := by decide +kernel
theorem dX3_runs_51 : decode cX3_runs 51 = .ok (.iconst 1, 1) := by decide +kernel
theorem dX3_runs_52 : decode cX3_runs 52 = .ok (.isub, 1) := by decide +kernel
theorem dX3_runs_53 : decode cX3_runs 53 = .ok (.iaload, 1) := by decide +kernel
theorem dX3_runs_54 : decode cX3_runs 54 = .ok (.iconst 1, 1) := by decide +kernel
theorem dX3_runs_55 : decode cX3_runs 55 = .ok (.iadd, 1) := by decide +kernel
theorem dX3_runs_56 : decode cX3_runs 56 = .ok (.if_icmp .eq 7, 3) := by decide +kernel
theorem dX3_runs_59 : decode cX3_runs 59 = .ok (.iconst 1, 1) := by decide +kernel
theorem dX3_runs_60 : decode cX3_runs 60 = .ok (.goto 4, 3) := by decide +kernel
theorem dX3_runs_63 : decode cX3_runs 63 = .ok (.iconst 0, 1) := by decide +kernel
theorem dX3_runs_64 : decode cX3_runs 64 = .ok (.iadd, 1) := by decide +kernel
theorem dX3_runs_65 : decode cX3_runs 65 = .ok (.istore_n 2, 1) := by decide +kernel
theorem dX3_runs_66 : decode cX3_runs 66 = .ok (.iinc 3 1, 3) := by decide +kernel
theorem dX3_runs_69 : decode cX3_runs 69 = .ok (.goto (-54), 3) := by decide +kernel
theorem dX3_runs_72 : decode cX3_runs 72 = .ok (.iload_n 2, 1) := by decide +kernel
theorem dX3_runs_73 : decode cX3_runs 73 = .ok (.ireturn, 1) := by decide +kernel
set_option maxRecDepth 20000 in
theorem ggX3_count_X3_isUsed : GoodIn wsX3_count wsX3_isUsed := goodIn_r _ [10, 1, 4, 5, 11, 12, 13, 14, 15, 16, 17, 18, 19, 20, 21, 22, 23, 24, 25, 26] (by decide +kernel) (by decide +kernel)
set_option maxRecDepth 20000 in
theorem gX3_count_X3_isUsed : GoodIn wsX3_count (wsV RX3 57 RX3 yX3_isUsed wsX3_isUsed) := goodIn_app (goodIn_of _ (by decide +kernel)) ggX3_count_X3_isUsed
theorem dX3_count_0 : decode cX3_count 0 = .ok (.iconst 0, 1) := by decide +kernel
theorem dX3_count_1 : decode cX3_count 1 = .ok (.istore_n 2, 1) := by decide +kernel
theorem dX3_count_2 : decode cX3_count 2 = .ok (.iconst 0, 1) := by decide +kernel
theorem dX3_count_3 : decode cX3_count 3 = .ok (.istore_n 3, 1) := by decide +kernel
theorem dX3_count_4 : decode cX3_count 4 = .ok (.iload_n 1, 1) := by decide +kernel
theorem dX3_count_5 : decode cX3_count 5 = .ok (.tableswitch 248 0 5 #[39, 74, 110, 115, 120, 198], 39) := by decide +kernel
theorem dX3_count_44 : decode cX3_count 44 = .ok (.iconst 0, 1) := by decide +kernel
theorem dX3_count_45 : decode cX3_count 45 = .ok (.istore 4, 2) := by decide +kernel
theorem dX3_count_47 : decode cX3_count 47 = .ok (.iload 4, 2) := by decide +kernel
theorem dX3_count_49 : decode cX3_count 49 = .ok (.bipush 40, 2) := by decide +kernel
theorem dX3_count_51 : decode cX3_count 51 = .ok (.if_icmp .ge 26, 3) := by decide +kernel
theorem dX3_count_54 : decode cX3_count 54 = .ok (.iload_n 2, 1) := by decide +kernel
theorem dX3_count_55 : decode cX3_count 55 = .ok (.aload_n 0, 1) := by decide +kernel
theorem dX3_count_56 : decode cX3_count 56 = .ok (.iload 4, 2) := by decide +kernel
theorem dX3_count_58 : decode cX3_count 58 = .ok (.invokevirtual 57, 3) := by decide +kernel
theorem dX3_count_61 : decode cX3_count 61 = .ok (.ifCond .eq 7, 3) := by decide +kernel
theorem dX3_count_64 : decode cX3_count 64 = .ok (.iconst 1, 1) := by decide +kernel
theorem dX3_count_65 : decode cX3_count 65 = .ok (.goto 4, 3) := by decide +kernel
theorem dX3_count_68 : decode cX3_count 68 = .ok (.iconst 0, 1) := by decide +kernel
theorem dX3_count_69 : decode cX3_count 69 = .ok (.iadd, 1) := by decide +kernel
theorem dX3_count_70 : decode cX3_count 70 = .ok (.istore_n 2, 1) := by decide +kernel
theorem dX3_count_71 : decode cX3_count 71 = .ok (.iinc 4 1, 3) := by decide +kernel
theorem dX3_count_74 : decode cX3_count 74 = .ok (.goto (-27), 3) := by decide +kernel
theorem dX3_count_77 : decode cX3_count 77 = .ok (.iload_n 2, 1) := by decide +kernel
theorem dX3_count_78 : decode cX3_count 78 = .ok (.ireturn, 1) := by decide +kernel
theorem dX3_count_79 : decode cX3_count 79 = .ok (.iconst 0, 1) := by decide +kernel
theorem dX3_count_80 : decode cX3_count 80 = .ok (.istore 4, 2) := by decide +kernel
theorem dX3_count_82 : decode cX3_count 82 = .ok (.iload 4, 2) := by decide +kernel
theorem dX3_count_84 : decode cX3_count 84 = .ok (.bipush 12, 2) := by decide +kernel
theorem dX3_count_86 : decode cX3_count 86 = .ok (.if_icmp .ge 27, 3) := by decide +kernel
theorem dX3_count_89 : decode cX3_count 89 = .ok (.iload_n 2, 1) := by decide +kernel
theorem dX3_count_90 : decode cX3_count 90 = .ok (.aload_n 0, 1) := by decide +kernel
theorem dX3_count_91 : decode cX3_count 91 = .ok (.getfield 7, 3) := by decide +kernel
theorem dX3_count_94 : decode cX3_count 94 = .ok (.iload 4, 2) := by decide +kernel
theorem dX3_count_96 : decode cX3_count 96 = .ok (.iaload, 1) := by decide +kernel
theorem dX3_count_97 : decode cX3_count 97 = .ok (.ifCond .eq 7, 3) := by decide +kernel
theorem dX3_count_100 : decode cX3_count 100 = .ok (.iconst 1, 1) := by decide +kernel
theorem dX3_count_101 : decode cX3_count 101 = .ok (.goto 4, 3) := by decide +kernel
theorem dX3_count_104 : decode cX3_count 104 = .ok (.iconst 0, 1) := by decide +kernel
theorem dX3_count_105 : decode cX3_count 105 = .ok (.iadd, 1) := by decide +kernel
theorem dX3_count_106 : decode cX3_count 106 = .ok (.istore_n 2, 1) := by decide +kernel
theorem dX3_count_107 : decode cX3_count 107 = .ok (.iinc 4 1, 3) := by decide +kernel
theorem dX3_count_110 : decode cX3_count 110 = .ok (.goto (-28), 3) := by decide +kernel
theorem dX3_count_113 : decode cX3_count 113 = .ok (.iload_n 2, 1) := by decide +kernel
theorem dX3_count_114 : decode cX3_count 114 = .ok (.ireturn, 1) := by decide +kernel
theorem dX3_count_115 : decode cX3_count 115 = .ok (.aload_n 0, 1) := by decide +kernel
theorem dX3_count_116 : decode cX3_count 116 = .ok (.getfield 40, 3) := by decide +kernel
theorem dX3_count_119 : decode cX3_count 119 = .ok (.ireturn, 1) := by decide +kernel
theorem dX3_count_120 : decode cX3_count 120 = .ok (.aload_n 0, 1) := by decide +kernel
theorem dX3_count_121 : decode cX3_count 121 = .ok (.getfield 125, 3) := by decide +kernel
theorem dX3_count_124 : decode cX3_count 124 = .ok (.ireturn, 1) := by decide +kernel
theorem dX3_count_125 : decode cX3_count 125 = .ok (.iconst 0, 1) := by decide +kernel
theorem dX3_count_126 : decode cX3_count 126 = .ok (.istore 4, 2) := by decide +kernel
theorem dX3_count_128 : decode cX3_count 128 = .ok (.iload 4, 2) := by decide +kernel
theorem dX3_count_130 : decode cX3_count 130 = .ok (.bipush 12, 2) := by decide +kernel
theorem dX3_count_132 : decode cX3_count 132 = .ok (.if_icmp .ge 69, 3) := by decide +kernel
theorem dX3_count_135 : decode cX3_count 135 = .ok (.iconst 0, 1) := by decide +kernel
theorem dX3_count_136 : decode cX3_count 136 = .ok (.istore 5, 2) := by decide +kernel
theorem dX3_count_138 : decode cX3_count 138 = .ok (.aload_n 0, 1) := by decide +kernel
theorem dX3_count_139 : decode cX3_count 139 = .ok (.getfield 7, 3) := by decide +kernel
theorem dX3_count_142 : decode cX3_count 142 = .ok (.iload 4, 2) := by decide +kernel
theorem dX3_count_144 : decode cX3_count 144 = .ok (.iaload, 1) := by decide +kernel
theorem dX3_count_145 : decode cX3_count 145 = .ok (.iconst 2, 1) := by decide +kernel
theorem dX3_count_146 : decode cX3_count 146 = .ok (.if_icmp .ne 49, 3) := by decide +kernel
theorem dX3_count_149 : decode cX3_count 149 = .ok (.iload 5, 2) := by decide +kernel
theorem dX3_count_151 : decode cX3_count 151 = .ok (.aload_n 0, 1) := by decide +kernel
theorem dX3_count_152 : decode cX3_count 152 = .ok (.getfield 13, 3) := by decide +kernel
theorem dX3_count_155 : decode cX3_count 155 = .ok (.iload 4, 2) := by decide +kernel
theorem dX3_count_157 : decode cX3_count 157 = .ok (.iaload, 1) := by decide +kernel
theorem dX3_count_158 : decode cX3_count 158 = .ok (.if_icmp .ge 37, 3) := by decide +kernel
theorem dX3_count_161 : decode cX3_count 161 = .ok (.iload_n 2, 1) := by decide +kernel
theorem dX3_count_162 : decode cX3_count 162 = .ok (.aload_n 0, 1) := by decide +kernel
theorem dX3_count_163 : decode cX3_count 163 = .ok (.getfield 16, 3) := by decide +kernel
theorem dX3_count_166 : decode cX3_count 166 = .ok (.bipush 8, 2) := by decide +kernel
theorem dX3_count_168 : decode cX3_count 168 = .ok (.iload 4, 2) := by decide +kernel
theorem dX3_count_170 : decode cX3_count 170 = .ok (.imul, 1) := by decide +kernel
theorem dX3_count_171 : decode cX3_count 171 = .ok (.iload 5, 2) := by decide +kernel
theorem dX3_count_173 : decode cX3_count 173 = .ok (.iadd, 1) := by decide +kernel
theorem dX3_count_174 : decode cX3_count 174 = .ok (.iaload, 1) := by decide +kernel
theorem dX3_count_175 : decode cX3_count 175 = .ok (.iload_n 3, 1) := by decide +kernel
theorem dX3_count_176 : decode cX3_count 176 = .ok (.if_icmp .eq 7, 3) := by decide +kernel
theorem dX3_count_179 : decode cX3_count 179 = .ok (.iconst 1, 1) := by decide +kernel
theorem dX3_count_180 : decode cX3_count 180 = .ok (.goto 4, 3) := by decide +kernel
theorem dX3_count_183 : decode cX3_count 183 = .ok (.iconst 0, 1) := by decide +kernel
theorem dX3_count_184 : decode cX3_count 184 = .ok (.iadd, 1) := by decide +kernel
theorem dX3_count_185 : decode cX3_count 185 = .ok (.istore_n 2, 1) := by decide +kernel
theorem dX3_count_186 : decode cX3_count 186 = .ok (.iinc 3 1, 3) := by decide +kernel
theorem dX3_count_189 : decode cX3_count 189 = .ok (.iinc 5 1, 3) := by decide +kernel
theorem dX3_count_192 : decode cX3_count 192 = .ok (.goto (-54), 3) := by decide +kernel
theorem dX3_count_195 : decode cX3_count 195 = .ok (.iinc 4 1, 3) := by decide +kernel
theorem dX3_count_198 : decode cX3_count 198 = .ok (.goto (-70), 3) := by decide +kernel
theorem dX3_count_201 : decode cX3_count 201 = .ok (.iload_n 2, 1) := by decide +kernel
theorem dX3_count_202 : decode cX3_count 202 = .ok (.ireturn, 1) := by decide +kernel
theorem dX3_count_203 : decode cX3_count 203 = .ok (.iconst 0, 1) := by decide +kernel
theorem dX3_count_204 : decode cX3_count 204 = .ok (.istore 4, 2) := by decide +kernel
theorem dX3_count_206 : decode cX3_count 206 = .ok (.iload 4, 2) := by decide +kernel
theorem dX3_count_208 : decode cX3_count 208 = .ok (.bipush 96, 2) := by decide +kernel
theorem dX3_count_210 : decode cX3_count 210 = .ok (.if_icmp .ge 41, 3) := by decide +kernel
theorem dX3_count_213 : decode cX3_count 213 = .ok (.iload_n 2, 1) := by decide +kernel
theorem dX3_count_214 : decode cX3_count 214 = .ok (.aload_n 0, 1) := by decide +kernel
theorem dX3_count_215 : decode cX3_count 215 = .ok (.getfield 7, 3) := by decide +kernel
theorem dX3_count_218 : decode cX3_count 218 = .ok (.iload 4, 2) := by decide +kernel
theorem dX3_count_220 : decode cX3_count 220 = .ok (.bipush 8, 2) := by decide +kernel
theorem dX3_count_222 : decode cX3_count 222 = .ok (.idiv, 1) := by decide +kernel
theorem dX3_count_223 : decode cX3_count 223 = .ok (.iaload, 1) := by decide +kernel
theorem dX3_count_224 : decode cX3_count 224 = .ok (.iconst 1, 1) := by decide +kernel
theorem dX3_count_225 : decode cX3_count 225 = .ok (.if_icmp .ne 17, 3) := by decide +kernel
theorem dX3_count_228 : decode cX3_count 228 = .ok (.aload_n 0, 1) := by decide +kernel
theorem dX3_count_229 : decode cX3_count 229 = .ok (.getfield 16, 3) := by decide +kernel
theorem dX3_count_232 : decode cX3_count 232 = .ok (.iload 4, 2) := by decide +kernel
theorem dX3_count_234 : decode cX3_count 234 = .ok (.iaload, 1) := by decide +kernel
theorem dX3_count_235 : decode cX3_count 235 = .ok (.ifCond .eq 7, 3) := by decide +kernel
theorem dX3_count_238 : decode cX3_count 238 = .ok (.iconst 1, 1) := by decide +kernel
theorem dX3_count_239 : decode cX3_count 239 = .ok (.goto 4, 3) := by decide +kernel
theorem dX3_count_242 : decode cX3_count 242 = .ok (.iconst 0, 1) := by decide +kernel
theorem dX3_count_243 : decode cX3_count 243 = .ok (.iadd, 1) := by decide +kernel
theorem dX3_count_244 : decode cX3_count 244 = .ok (.istore_n 2, 1) := by decide +kernel
theorem dX3_count_245 : decode cX3_count 245 = .ok (.iinc 4 1, 3) := by decide +kernel
theorem dX3_count_248 : decode cX3_count 248 = .ok (.goto (-42), 3) := by decide +kernel
theorem dX3_count_251 : decode cX3_count 251 = .ok (.iload_n 2, 1) := by decide +kernel
theorem dX3_count_252 : decode cX3_count 252 = .ok (.ireturn, 1) := by decide +kernel
theorem dX3_count_253 : decode cX3_count 253 = .ok (.iconst (-1), 1) := by decide +kernel
theorem dX3_count_254 : decode cX3_count 254 = .ok (.ireturn, 1) := by decide +kernel
theorem dX3_nextEntry_0 : decode cX3_nextEntry 0 = .ok (.iconst (-1), 1) := by decide +kernel
theorem dX3_nextEntry_1 : decode cX3_nextEntry 1 = .ok (.istore_n 3, 1) := by decide +kernel
theorem dX3_nextEntry_2 : decode cX3_nextEntry 2 = .ok (.iconst 0, 1) := by decide +kernel
theorem dX3_nextEntry_3 : decode cX3_nextEntry 3 = .ok (.istore 4, 2) := by decide +kernel
theorem dX3_nextEntry_5 : decode cX3_nextEntry 5 = .ok (.iload 4, 2) := by decide +kernel
theorem dX3_nextEntry_7 : decode cX3_nextEntry 7 = .ok (.bipush 8, 2) := by decide +kernel
theorem dX3_nextEntry_9 : decode cX3_nextEntry 9 = .ok (.if_icmp .ge 82, 3) := by decide +kernel
theorem dX3_nextEntry_12 : decode cX3_nextEntry 12 = .ok (.aload_n 0, 1) := by decide +kernel
theorem dX3_nextEntry_13 : decode cX3_nextEntry 13 = .ok (.getfield 16, 3) := by decide +kernel
theorem dX3_nextEntry_16 : decode cX3_nextEntry 16 = .ok (.bipush 8, 2) := by decide +kernel
theorem dX3_nextEntry_18 : decode cX3_nextEntry 18 = .ok (.iload_n 1, 1) := by decide +kernel
theorem dX3_nextEntry_19 : decode cX3_nextEntry 19 = .ok (.imul, 1) := by decide +kernel
theorem dX3_nextEntry_20 : decode cX3_nextEntry 20 = .ok (.iload 4, 2) := by decide +kernel
theorem dX3_nextEntry_22 : decode cX3_nextEntry 22 = .ok (.iadd, 1) := by decide +kernel
theorem dX3_nextEntry_23 : decode cX3_nextEntry 23 = .ok (.iaload, 1) := by decide +kernel
theorem dX3_nextEntry_24 : decode cX3_nextEntry 24 = .ok (.istore 5, 2) := by decide +kernel
theorem dX3_nextEntry_26 : decode cX3_nextEntry 26 = .ok (.iload 5, 2) := by decide +kernel
theorem dX3_nextEntry_28 : decode cX3_nextEntry 28 = .ok (.ifCond .le 16, 3) := by decide +kernel
theorem dX3_nextEntry_31 : decode cX3_nextEntry 31 = .ok (.iload 5, 2) := by decide +kernel
theorem dX3_nextEntry_33 : decode cX3_nextEntry 33 = .ok (.bipush 100, 2) := by decide +kernel
theorem dX3_nextEntry_35 : decode cX3_nextEntry 35 = .ok (.irem, 1) := by decide +kernel
theorem dX3_nextEntry_36 : decode cX3_nextEntry 36 = .ok (.iload_n 2, 1) := by decide +kernel
theorem dX3_nextEntry_37 : decode cX3_nextEntry 37 = .ok (.if_icmp .le 7, 3) := by decide +kernel
theorem dX3_nextEntry_40 : decode cX3_nextEntry 40 = .ok (.iconst 1, 1) := by decide +kernel
theorem dX3_nextEntry_41 : decode cX3_nextEntry 41 = .ok (.goto 4, 3) := by decide +kernel
theorem dX3_nextEntry_44 : decode cX3_nextEntry 44 = .ok (.iconst 0, 1) := by decide +kernel
theorem dX3_nextEntry_45 : decode cX3_nextEntry 45 = .ok (.istore 6, 2) := by decide +kernel
theorem dX3_nextEntry_47 : decode cX3_nextEntry 47 = .ok (.iload 6, 2) := by decide +kernel
theorem dX3_nextEntry_49 : decode cX3_nextEntry 49 = .ok (.ifCond .eq 34, 3) := by decide +kernel
theorem dX3_nextEntry_52 : decode cX3_nextEntry 52 = .ok (.iload_n 3, 1) := by decide +kernel
theorem dX3_nextEntry_53 : decode cX3_nextEntry 53 = .ok (.ifCond .lt 25, 3) := by decide +kernel
theorem dX3_nextEntry_56 : decode cX3_nextEntry 56 = .ok (.iload 5, 2) := by decide +kernel
theorem dX3_nextEntry_58 : decode cX3_nextEntry 58 = .ok (.bipush 100, 2) := by decide +kernel
theorem dX3_nextEntry_60 : decode cX3_nextEntry 60 = .ok (.irem, 1) := by decide +kernel
theorem dX3_nextEntry_61 : decode cX3_nextEntry 61 = .ok (.aload_n 0, 1) := by decide +kernel
theorem dX3_nextEntry_62 : decode cX3_nextEntry 62 = .ok (.getfield 16, 3) := by decide +kernel
theorem dX3_nextEntry_65 : decode cX3_nextEntry 65 = .ok (.bipush 8, 2) := by decide +kernel
theorem dX3_nextEntry_67 : decode cX3_nextEntry 67 = .ok (.iload_n 1, 1) := by decide +kernel
theorem dX3_nextEntry_68 : decode cX3_nextEntry 68 = .ok (.imul, 1) := by decide +kernel
theorem dX3_nextEntry_69 : decode cX3_nextEntry 69 = .ok (.iload_n 3, 1) := by decide +kernel
theorem dX3_nextEntry_70 : decode cX3_nextEntry 70 = .ok (.iadd, 1) := by decide +kernel
theorem dX3_nextEntry_71 : decode cX3_nextEntry 71 = .ok (.iaload, 1) := by decide +kernel
theorem dX3_nextEntry_72 : decode cX3_nextEntry 72 = .ok (.bipush 100, 2) := by decide +kernel
theorem dX3_nextEntry_74 : decode cX3_nextEntry 74 = .ok (.irem, 1) := by decide +kernel
theorem dX3_nextEntry_75 : decode cX3_nextEntry 75 = .ok (.if_icmp .ge 8, 3) := by decide +kernel
theorem dX3_nextEntry_78 : decode cX3_nextEntry 78 = .ok (.iload 4, 2) := by decide +kernel
theorem dX3_nextEntry_80 : decode cX3_nextEntry 80 = .ok (.goto 4, 3) := by decide +kernel
theorem dX3_nextEntry_83 : decode cX3_nextEntry 83 = .ok (.iload_n 3, 1) := by decide +kernel
theorem dX3_nextEntry_84 : decode cX3_nextEntry 84 = .ok (.istore_n 3, 1) := by decide +kernel
theorem dX3_nextEntry_85 : decode cX3_nextEntry 85 = .ok (.iinc 4 1, 3) := by decide +kernel
theorem dX3_nextEntry_88 : decode cX3_nextEntry 88 = .ok (.goto (-83), 3) := by decide +kernel
theorem dX3_nextEntry_91 : decode cX3_nextEntry 91 = .ok (.iload_n 3, 1) := by decide +kernel
theorem dX3_nextEntry_92 : decode cX3_nextEntry 92 = .ok (.ireturn, 1) := by decide +kernel
set_option maxRecDepth 20000 in
theorem ggX3_tree_X3_nextEntry : GoodIn wsX3_tree wsX3_nextEntry := goodIn_r _ [15, 6, 16, 17, 18, 19, 20, 21, 22, 23, 24, 25, 26, 27, 28, 29, 30, 31] (by decide +kernel) (by decide +kernel)
set_option maxRecDepth 20000 in
theorem gX3_tree_X3_nextEntry : GoodIn wsX3_tree (wsV RX3 153 RX3 yX3_nextEntry wsX3_nextEntry) := goodIn_app (goodIn_of _ (by decide +kernel)) ggX3_tree_X3_nextEntry
theorem dX3_tree_0 : decode cX3_tree 0 = .ok (.ldc2_w 151, 3) := by decide +kernel
theorem dX3_tree_3 : decode cX3_tree 3 = .ok (.lstore_n 1, 1) := by decide +kernel
theorem dX3_tree_4 : decode cX3_tree 4 = .ok (.iconst 1, 1) := by decide +kernel
theorem dX3_tree_5 : decode cX3_tree 5 = .ok (.istore_n 3, 1) := by decide +kernel
theorem dX3_tree_6 : decode cX3_tree 6 = .ok (.iconst 1, 1) := by decide +kernel
theorem dX3_tree_7 : decode cX3_tree 7 = .ok (.istore 4, 2) := by decide +kernel
theorem dX3_tree_9 : decode cX3_tree 9 = .ok (.aload_n 0, 1) := by decide +kernel
theorem dX3_tree_10 : decode cX3_tree 10 = .ok (.getfield 30, 3) := by decide +kernel
theorem dX3_tree_13 : decode cX3_tree 13 = .ok (.iconst 0, 1) := by decide +kernel
theorem dX3_tree_14 : decode cX3_tree 14 = .ok (.iconst 0, 1) := by decide +kernel
theorem dX3_tree_15 : decode cX3_tree 15 = .ok (.iastore, 1) := by decide +kernel
theorem dX3_tree_16 : decode cX3_tree 16 = .ok (.aload_n 0, 1) := by decide +kernel
theorem dX3_tree_17 : decode cX3_tree 17 = .ok (.getfield 33, 3) := by decide +kernel
theorem dX3_tree_20 : decode cX3_tree 20 = .ok (.iconst 0, 1) := by decide +kernel
theorem dX3_tree_21 : decode cX3_tree 21 = .ok (.iconst 0, 1) := by decide +kernel
theorem dX3_tree_22 : decode cX3_tree 22 = .ok (.iastore, 1) := by decide +kernel
theorem dX3_tree_23 : decode cX3_tree 23 = .ok (.iload 4, 2) := by decide +kernel
theorem dX3_tree_25 : decode cX3_tree 25 = .ok (.ifCond .le 252, 3) := by decide +kernel
theorem dX3_tree_28 : decode cX3_tree 28 = .ok (.aload_n 0, 1) := by decide +kernel
theorem dX3_tree_29 : decode cX3_tree 29 = .ok (.getfield 30, 3) := by decide +kernel
theorem dX3_tree_32 : decode cX3_tree 32 = .ok (.iload 4, 2) := by decide +kernel
theorem dX3_tree_34 : decode cX3_tree 34 = .ok (.iconst 1, 1) := by decide +kernel
theorem dX3_tree_35 : decode cX3_tree 35 = .ok (.isub, 1) := by decide +kernel
theorem dX3_tree_36 : decode cX3_tree 36 = .ok (.iaload, 1) := by decide +kernel
theorem dX3_tree_37 : decode cX3_tree 37 = .ok (.istore 5, 2) := by decide +kernel
theorem dX3_tree_39 : decode cX3_tree 39 = .ok (.aload_n 0, 1) := by decide +kernel
theorem dX3_tree_40 : decode cX3_tree 40 = .ok (.iload 5, 2) := by decide +kernel
theorem dX3_tree_42 : decode cX3_tree 42 = .ok (.aload_n 0, 1) := by decide +kernel
theorem dX3_tree_43 : decode cX3_tree 43 = .ok (.getfield 33, 3) := by decide +kernel
theorem dX3_tree_46 : decode cX3_tree 46 = .ok (.iload 4, 2) := by decide +kernel
theorem dX3_tree_48 : decode cX3_tree 48 = .ok (.iconst 1, 1) := by decide +kernel
theorem dX3_tree_49 : decode cX3_tree 49 = .ok (.isub, 1) := by decide +kernel
theorem dX3_tree_50 : decode cX3_tree 50 = .ok (.iaload, 1) := by decide +kernel
theorem dX3_tree_51 : decode cX3_tree 51 = .ok (.invokevirtual 153, 3) := by decide +kernel
theorem dX3_tree_54 : decode cX3_tree 54 = .ok (.istore 6, 2) := by decide +kernel
theorem dX3_tree_56 : decode cX3_tree 56 = .ok (.iload 6, 2) := by decide +kernel
theorem dX3_tree_58 : decode cX3_tree 58 = .ok (.ifCond .ge 19, 3) := by decide +kernel
theorem dX3_tree_61 : decode cX3_tree 61 = .ok (.ldc2_w 156, 3) := by decide +kernel
theorem dX3_tree_64 : decode cX3_tree 64 = .ok (.lload_n 1, 1) := by decide +kernel
theorem dX3_tree_65 : decode cX3_tree 65 = .ok (.lmul, 1) := by decide +kernel
theorem dX3_tree_66 : decode cX3_tree 66 = .ok (.ldc2_w 138, 3) := by decide +kernel
theorem dX3_tree_69 : decode cX3_tree 69 = .ok (.ladd, 1) := by decide +kernel
theorem dX3_tree_70 : decode cX3_tree 70 = .ok (.lstore_n 1, 1) := by decide +kernel
theorem dX3_tree_71 : decode cX3_tree 71 = .ok (.iinc 4 (-1), 3) := by decide +kernel
theorem dX3_tree_74 : decode cX3_tree 74 = .ok (.goto 200, 3) := by decide +kernel
theorem dX3_tree_77 : decode cX3_tree 77 = .ok (.aload_n 0, 1) := by decide +kernel
theorem dX3_tree_78 : decode cX3_tree 78 = .ok (.getfield 16, 3) := by decide +kernel
theorem dX3_tree_81 : decode cX3_tree 81 = .ok (.bipush 8, 2) := by decide +kernel
theorem dX3_tree_83 : decode cX3_tree 83 = .ok (.iload 5, 2) := by decide +kernel
theorem dX3_tree_85 : decode cX3_tree 85 = .ok (.imul, 1) := by decide +kernel
theorem dX3_tree_86 : decode cX3_tree 86 = .ok (.iload 6, 2) := by decide +kernel
theorem dX3_tree_88 : decode cX3_tree 88 = .ok (.iadd, 1) := by decide +kernel
theorem dX3_tree_89 : decode cX3_tree 89 = .ok (.iaload, 1) := by decide +kernel
theorem dX3_tree_90 : decode cX3_tree 90 = .ok (.istore 7, 2) := by decide +kernel
theorem dX3_tree_92 : decode cX3_tree 92 = .ok (.iload 7, 2) := by decide +kernel
theorem dX3_tree_94 : decode cX3_tree 94 = .ok (.bipush 100, 2) := by decide +kernel
theorem dX3_tree_96 : decode cX3_tree 96 = .ok (.idiv, 1) := by decide +kernel
theorem dX3_tree_97 : decode cX3_tree 97 = .ok (.istore 8, 2) := by decide +kernel
theorem dX3_tree_99 : decode cX3_tree 99 = .ok (.aload_n 0, 1) := by decide +kernel
theorem dX3_tree_100 : decode cX3_tree 100 = .ok (.getfield 33, 3) := by decide +kernel
theorem dX3_tree_103 : decode cX3_tree 103 = .ok (.iload 4, 2) := by decide +kernel
theorem dX3_tree_105 : decode cX3_tree 105 = .ok (.iconst 1, 1) := by decide +kernel
theorem dX3_tree_106 : decode cX3_tree 106 = .ok (.isub, 1) := by decide +kernel
theorem dX3_tree_107 : decode cX3_tree 107 = .ok (.iload 7, 2) := by decide +kernel
theorem dX3_tree_109 : decode cX3_tree 109 = .ok (.bipush 100, 2) := by decide +kernel
theorem dX3_tree_111 : decode cX3_tree 111 = .ok (.irem, 1) := by decide +kernel
theorem dX3_tree_112 : decode cX3_tree 112 = .ok (.iastore, 1) := by decide +kernel
theorem dX3_tree_113 : decode cX3_tree 113 = .ok (.aload_n 0, 1) := by decide +kernel
theorem dX3_tree_114 : decode cX3_tree 114 = .ok (.getfield 7, 3) := by decide +kernel
theorem dX3_tree_117 : decode cX3_tree 117 = .ok (.iload 8, 2) := by decide +kernel
theorem dX3_tree_119 : decode cX3_tree 119 = .ok (.iaload, 1) := by decide +kernel
theorem dX3_tree_120 : decode cX3_tree 120 = .ok (.ifCond .eq 154, 3) := by decide +kernel
theorem dX3_tree_123 : decode cX3_tree 123 = .ok (.iload_n 3, 1) := by decide +kernel
theorem dX3_tree_124 : decode cX3_tree 124 = .ok (.iload 8, 2) := by decide +kernel
theorem dX3_tree_126 : decode cX3_tree 126 = .ok (.ishr, 1) := by decide +kernel
theorem dX3_tree_127 : decode cX3_tree 127 = .ok (.iconst 1, 1) := by decide +kernel
theorem dX3_tree_128 : decode cX3_tree 128 = .ok (.iand, 1) := by decide +kernel
theorem dX3_tree_129 : decode cX3_tree 129 = .ok (.ifCond .ne 145, 3) := by decide +kernel
theorem dX3_tree_132 : decode cX3_tree 132 = .ok (.iload_n 3, 1) := by decide +kernel
theorem dX3_tree_133 : decode cX3_tree 133 = .ok (.iconst 1, 1) := by decide +kernel
theorem dX3_tree_134 : decode cX3_tree 134 = .ok (.iload 8, 2) := by decide +kernel
theorem dX3_tree_136 : decode cX3_tree 136 = .ok (.ishl, 1) := by decide +kernel
theorem dX3_tree_137 : decode cX3_tree 137 = .ok (.ior, 1) := by decide +kernel
theorem dX3_tree_138 : decode cX3_tree 138 = .ok (.istore_n 3, 1) := by decide +kernel
theorem dX3_tree_139 : decode cX3_tree 139 = .ok (.ldc2_w 156, 3) := by decide +kernel
theorem dX3_tree_142 : decode cX3_tree 142 = .ok (.lload_n 1, 1) := by decide +kernel
theorem dX3_tree_143 : decode cX3_tree 143 = .ok (.lmul, 1) := by decide +kernel
theorem dX3_tree_144 : decode cX3_tree 144 = .ok (.iload 7, 2) := by decide +kernel
theorem dX3_tree_146 : decode cX3_tree 146 = .ok (.bipush 100, 2) := by decide +kernel
theorem dX3_tree_148 : decode cX3_tree 148 = .ok (.irem, 1) := by decide +kernel
theorem dX3_tree_149 : decode cX3_tree 149 = .ok (.i2l, 1) := by decide +kernel
theorem dX3_tree_150 : decode cX3_tree 150 = .ok (.ladd, 1) := by decide +kernel
theorem dX3_tree_151 : decode cX3_tree 151 = .ok (.lstore_n 1, 1) := by decide +kernel
theorem dX3_tree_152 : decode cX3_tree 152 = .ok (.aload_n 0, 1) := by decide +kernel
theorem dX3_tree_153 : decode cX3_tree 153 = .ok (.getfield 7, 3) := by decide +kernel
theorem dX3_tree_156 : decode cX3_tree 156 = .ok (.iload 8, 2) := by decide +kernel
theorem dX3_tree_158 : decode cX3_tree 158 = .ok (.iaload, 1) := by decide +kernel
theorem dX3_tree_159 : decode cX3_tree 159 = .ok (.iconst 1, 1) := by decide +kernel
theorem dX3_tree_160 : decode cX3_tree 160 = .ok (.if_icmp .ne 34, 3) := by decide +kernel
theorem dX3_tree_163 : decode cX3_tree 163 = .ok (.ldc2_w 156, 3) := by decide +kernel
theorem dX3_tree_166 : decode cX3_tree 166 = .ok (.lload_n 1, 1) := by decide +kernel
theorem dX3_tree_167 : decode cX3_tree 167 = .ok (.lmul, 1) := by decide +kernel
theorem dX3_tree_168 : decode cX3_tree 168 = .ok (.lconst 1, 1) := by decide +kernel
theorem dX3_tree_169 : decode cX3_tree 169 = .ok (.ladd, 1) := by decide +kernel
theorem dX3_tree_170 : decode cX3_tree 170 = .ok (.lstore_n 1, 1) := by decide +kernel
theorem dX3_tree_171 : decode cX3_tree 171 = .ok (.aload_n 0, 1) := by decide +kernel
theorem dX3_tree_172 : decode cX3_tree 172 = .ok (.getfield 30, 3) := by decide +kernel
theorem dX3_tree_175 : decode cX3_tree 175 = .ok (.iload 4, 2) := by decide +kernel
theorem dX3_tree_177 : decode cX3_tree 177 = .ok (.iload 8, 2) := by decide +kernel
theorem dX3_tree_179 : decode cX3_tree 179 = .ok (.iastore, 1) := by decide +kernel
theorem dX3_tree_180 : decode cX3_tree 180 = .ok (.aload_n 0, 1) := by decide +kernel
theorem dX3_tree_181 : decode cX3_tree 181 = .ok (.getfield 33, 3) := by decide +kernel
theorem dX3_tree_184 : decode cX3_tree 184 = .ok (.iload 4, 2) := by decide +kernel
theorem dX3_tree_186 : decode cX3_tree 186 = .ok (.iconst 0, 1) := by decide +kernel
theorem dX3_tree_187 : decode cX3_tree 187 = .ok (.iastore, 1) := by decide +kernel
theorem dX3_tree_188 : decode cX3_tree 188 = .ok (.iinc 4 1, 3) := by decide +kernel
theorem dX3_tree_191 : decode cX3_tree 191 = .ok (.goto 83, 3) := by decide +kernel
theorem dX3_tree_194 : decode cX3_tree 194 = .ok (.ldc2_w 156, 3) := by decide +kernel
theorem dX3_tree_197 : decode cX3_tree 197 = .ok (.ldc2_w 156, 3) := by decide +kernel
theorem dX3_tree_200 : decode cX3_tree 200 = .ok (.lload_n 1, 1) := by decide +kernel
theorem dX3_tree_201 : decode cX3_tree 201 = .ok (.lmul, 1) := by decide +kernel
theorem dX3_tree_202 : decode cX3_tree 202 = .ok (.ldc2_w 68, 3) := by decide +kernel
theorem dX3_tree_205 : decode cX3_tree 205 = .ok (.ladd, 1) := by decide +kernel
theorem dX3_tree_206 : decode cX3_tree 206 = .ok (.lmul, 1) := by decide +kernel
theorem dX3_tree_207 : decode cX3_tree 207 = .ok (.aload_n 0, 1) := by decide +kernel
theorem dX3_tree_208 : decode cX3_tree 208 = .ok (.getfield 13, 3) := by decide +kernel
theorem dX3_tree_211 : decode cX3_tree 211 = .ok (.iload 8, 2) := by decide +kernel
theorem dX3_tree_213 : decode cX3_tree 213 = .ok (.iaload, 1) := by decide +kernel
theorem dX3_tree_214 : decode cX3_tree 214 = .ok (.i2l, 1) := by decide +kernel
theorem dX3_tree_215 : decode cX3_tree 215 = .ok (.ladd, 1) := by decide +kernel
theorem dX3_tree_216 : decode cX3_tree 216 = .ok (.lstore_n 1, 1) := by decide +kernel
theorem dX3_tree_217 : decode cX3_tree 217 = .ok (.iconst 0, 1) := by decide +kernel
theorem dX3_tree_218 : decode cX3_tree 218 = .ok (.istore 9, 2) := by decide +kernel
theorem dX3_tree_220 : decode cX3_tree 220 = .ok (.iload 9, 2) := by decide +kernel
theorem dX3_tree_222 : decode cX3_tree 222 = .ok (.iconst 3, 1) := by decide +kernel
theorem dX3_tree_223 : decode cX3_tree 223 = .ok (.aload_n 0, 1) := by decide +kernel
theorem dX3_tree_224 : decode cX3_tree 224 = .ok (.getfield 13, 3) := by decide +kernel
theorem dX3_tree_227 : decode cX3_tree 227 = .ok (.iload 8, 2) := by decide +kernel
theorem dX3_tree_229 : decode cX3_tree 229 = .ok (.iaload, 1) := by decide +kernel
theorem dX3_tree_230 : decode cX3_tree 230 = .ok (.imul, 1) := by decide +kernel
theorem dX3_tree_231 : decode cX3_tree 231 = .ok (.if_icmp .ge 43, 3) := by decide +kernel
theorem dX3_tree_234 : decode cX3_tree 234 = .ok (.ldc2_w 156, 3) := by decide +kernel
theorem dX3_tree_237 : decode cX3_tree 237 = .ok (.lload_n 1, 1) := by decide +kernel
theorem dX3_tree_238 : decode cX3_tree 238 = .ok (.lmul, 1) := by decide +kernel
theorem dX3_tree_239 : decode cX3_tree 239 = .ok (.aload_n 0, 1) := by decide +kernel
theorem dX3_tree_240 : decode cX3_tree 240 = .ok (.getfield 19, 3) := by decide +kernel
theorem dX3_tree_243 : decode cX3_tree 243 = .ok (.iconst 3, 1) := by decide +kernel
theorem dX3_tree_244 : decode cX3_tree 244 = .ok (.aload_n 0, 1) := by decide +kernel
theorem dX3_tree_245 : decode cX3_tree 245 = .ok (.getfield 16, 3) := by decide +kernel
theorem dX3_tree_248 : decode cX3_tree 248 = .ok (.bipush 8, 2) := by decide +kernel
theorem dX3_tree_250 : decode cX3_tree 250 = .ok (.iload 8, 2) := by decide +kernel
theorem dX3_tree_252 : decode cX3_tree 252 = .ok (.imul, 1) := by decide +kernel
theorem dX3_tree_253 : decode cX3_tree 253 = .ok (.iload 9, 2) := by decide +kernel
theorem dX3_tree_255 : decode cX3_tree 255 = .ok (.iconst 3, 1) := by decide +kernel
theorem dX3_tree_256 : decode cX3_tree 256 = .ok (.idiv, 1) := by decide +kernel
theorem dX3_tree_257 : decode cX3_tree 257 = .ok (.iadd, 1) := by decide +kernel
theorem dX3_tree_258 : decode cX3_tree 258 = .ok (.iaload, 1) := by decide +kernel
theorem dX3_tree_259 : decode cX3_tree 259 = .ok (.imul, 1) := by decide +kernel
theorem dX3_tree_260 : decode cX3_tree 260 = .ok (.iload 9, 2) := by decide +kernel
theorem dX3_tree_262 : decode cX3_tree 262 = .ok (.iconst 3, 1) := by decide +kernel
theorem dX3_tree_263 : decode cX3_tree 263 = .ok (.irem, 1) := by decide +kernel
theorem dX3_tree_264 : decode cX3_tree 264 = .ok (.iadd, 1) := by decide +kernel
theorem dX3_tree_265 : decode cX3_tree 265 = .ok (.laload, 1) := by decide +kernel
theorem dX3_tree_266 : decode cX3_tree 266 = .ok (.ladd, 1) := by decide +kernel
theorem dX3_tree_267 : decode cX3_tree 267 = .ok (.lstore_n 1, 1) := by decide +kernel
theorem dX3_tree_268 : decode cX3_tree 268 = .ok (.iinc 9 1, 3) := by decide +kernel
theorem dX3_tree_271 : decode cX3_tree 271 = .ok (.goto (-51), 3) := by decide +kernel
theorem dX3_tree_274 : decode cX3_tree 274 = .ok (.goto (-251), 3) := by decide +kernel
theorem dX3_tree_277 : decode cX3_tree 277 = .ok (.lload_n 1, 1) := by decide +kernel
theorem dX3_tree_278 : decode cX3_tree 278 = .ok (.lreturn, 1) := by decide +kernel
set_option maxRecDepth 20000 in
theorem ggX3_digest_X3_inodeOf : GoodIn wsX3_digest wsX3_inodeOf := goodIn_r _ [9, 10, 11, 12, 18, 19, 20, 21, 22, 23, 24, 25, 26, 27, 28, 29, 30, 31, 32, 33] (by decide +kernel) (by decide +kernel)
set_option maxRecDepth 20000 in
theorem gX3_digest_X3_inodeOf : GoodIn wsX3_digest (wsV RX3 140 RX3 yX3_inodeOf wsX3_inodeOf) := goodIn_app (goodIn_of _ (by decide +kernel)) ggX3_digest_X3_inodeOf
set_option maxRecDepth 20000 in
theorem ggX3_digest_X3_isDown : GoodIn wsX3_digest wsX3_isDown := goodIn_r _ [16, 17, 18, 19, 20, 21, 22, 23, 24, 25, 26, 27, 28, 29, 30, 31, 32, 33] (by decide +kernel) (by decide +kernel)
set_option maxRecDepth 20000 in
theorem gX3_digest_X3_isDown : GoodIn wsX3_digest (wsV RX3 158 RX3 yX3_isDown wsX3_isDown) := goodIn_app (goodIn_of _ (by decide +kernel)) ggX3_digest_X3_isDown
theorem dX3_digest_0 : decode cX3_digest 0 = .ok (.ldc2_w 149, 3) := by decide +kernel
theorem dX3_digest_3 : decode cX3_digest 3 = .ok (.lstore_n 1, 1) := by decide +kernel
theorem dX3_digest_4 : decode cX3_digest 4 = .ok (.iconst 0, 1) := by decide +kernel
theorem dX3_digest_5 : decode cX3_digest 5 = .ok (.istore_n 3, 1) := by decide +kernel
theorem dX3_digest_6 : decode cX3_digest 6 = .ok (.iload_n 3, 1) := by decide +kernel
theorem dX3_digest_7 : decode cX3_digest 7 = .ok (.bipush 12, 2) := by decide +kernel
theorem dX3_digest_9 : decode cX3_digest 9 = .ok (.if_icmp .ge 40, 3) := by decide +kernel
theorem dX3_digest_12 : decode cX3_digest 12 = .ok (.iconst 0, 1) := by decide +kernel
theorem dX3_digest_13 : decode cX3_digest 13 = .ok (.istore 4, 2) := by decide +kernel
theorem dX3_digest_15 : decode cX3_digest 15 = .ok (.iload 4, 2) := by decide +kernel
theorem dX3_digest_17 : decode cX3_digest 17 = .ok (.bipush 10, 2) := by decide +kernel
theorem dX3_digest_19 : decode cX3_digest 19 = .ok (.if_icmp .ge 24, 3) := by decide +kernel
theorem dX3_digest_22 : decode cX3_digest 22 = .ok (.ldc2_w 156, 3) := by decide +kernel
theorem dX3_digest_25 : decode cX3_digest 25 = .ok (.lload_n 1, 1) := by decide +kernel
theorem dX3_digest_26 : decode cX3_digest 26 = .ok (.lmul, 1) := by decide +kernel
theorem dX3_digest_27 : decode cX3_digest 27 = .ok (.aload_n 0, 1) := by decide +kernel
theorem dX3_digest_28 : decode cX3_digest 28 = .ok (.iload_n 3, 1) := by decide +kernel
theorem dX3_digest_29 : decode cX3_digest 29 = .ok (.iload 4, 2) := by decide +kernel
theorem dX3_digest_31 : decode cX3_digest 31 = .ok (.invokevirtual 140, 3) := by decide +kernel
theorem dX3_digest_34 : decode cX3_digest 34 = .ok (.i2l, 1) := by decide +kernel
theorem dX3_digest_35 : decode cX3_digest 35 = .ok (.ladd, 1) := by decide +kernel
theorem dX3_digest_36 : decode cX3_digest 36 = .ok (.lstore_n 1, 1) := by decide +kernel
theorem dX3_digest_37 : decode cX3_digest 37 = .ok (.iinc 4 1, 3) := by decide +kernel
theorem dX3_digest_40 : decode cX3_digest 40 = .ok (.goto (-25), 3) := by decide +kernel
theorem dX3_digest_43 : decode cX3_digest 43 = .ok (.iinc 3 1, 3) := by decide +kernel
theorem dX3_digest_46 : decode cX3_digest 46 = .ok (.goto (-40), 3) := by decide +kernel
theorem dX3_digest_49 : decode cX3_digest 49 = .ok (.iconst 0, 1) := by decide +kernel
theorem dX3_digest_50 : decode cX3_digest 50 = .ok (.istore_n 3, 1) := by decide +kernel
theorem dX3_digest_51 : decode cX3_digest 51 = .ok (.iload_n 3, 1) := by decide +kernel
theorem dX3_digest_52 : decode cX3_digest 52 = .ok (.bipush 120, 2) := by decide +kernel
theorem dX3_digest_54 : decode cX3_digest 54 = .ok (.if_icmp .ge 22, 3) := by decide +kernel
theorem dX3_digest_57 : decode cX3_digest 57 = .ok (.ldc2_w 156, 3) := by decide +kernel
theorem dX3_digest_60 : decode cX3_digest 60 = .ok (.lload_n 1, 1) := by decide +kernel
theorem dX3_digest_61 : decode cX3_digest 61 = .ok (.lmul, 1) := by decide +kernel
theorem dX3_digest_62 : decode cX3_digest 62 = .ok (.aload_n 0, 1) := by decide +kernel
theorem dX3_digest_63 : decode cX3_digest 63 = .ok (.getfield 19, 3) := by decide +kernel
theorem dX3_digest_66 : decode cX3_digest 66 = .ok (.iload_n 3, 1) := by decide +kernel
theorem dX3_digest_67 : decode cX3_digest 67 = .ok (.laload, 1) := by decide +kernel
theorem dX3_digest_68 : decode cX3_digest 68 = .ok (.ladd, 1) := by decide +kernel
theorem dX3_digest_69 : decode cX3_digest 69 = .ok (.lstore_n 1, 1) := by decide +kernel
theorem dX3_digest_70 : decode cX3_digest 70 = .ok (.iinc 3 1, 3) := by decide +kernel
theorem dX3_digest_73 : decode cX3_digest 73 = .ok (.goto (-22), 3) := by decide +kernel
theorem dX3_digest_76 : decode cX3_digest 76 = .ok (.iconst 0, 1) := by decide +kernel
theorem dX3_digest_77 : decode cX3_digest 77 = .ok (.istore_n 3, 1) := by decide +kernel
theorem dX3_digest_78 : decode cX3_digest 78 = .ok (.iload_n 3, 1) := by decide +kernel
theorem dX3_digest_79 : decode cX3_digest 79 = .ok (.iconst 4, 1) := by decide +kernel
theorem dX3_digest_80 : decode cX3_digest 80 = .ok (.if_icmp .ge 23, 3) := by decide +kernel
theorem dX3_digest_83 : decode cX3_digest 83 = .ok (.ldc2_w 156, 3) := by decide +kernel
theorem dX3_digest_86 : decode cX3_digest 86 = .ok (.lload_n 1, 1) := by decide +kernel
theorem dX3_digest_87 : decode cX3_digest 87 = .ok (.lmul, 1) := by decide +kernel
theorem dX3_digest_88 : decode cX3_digest 88 = .ok (.aload_n 0, 1) := by decide +kernel
theorem dX3_digest_89 : decode cX3_digest 89 = .ok (.getfield 23, 3) := by decide +kernel
theorem dX3_digest_92 : decode cX3_digest 92 = .ok (.iload_n 3, 1) := by decide +kernel
theorem dX3_digest_93 : decode cX3_digest 93 = .ok (.iaload, 1) := by decide +kernel
theorem dX3_digest_94 : decode cX3_digest 94 = .ok (.i2l, 1) := by decide +kernel
theorem dX3_digest_95 : decode cX3_digest 95 = .ok (.ladd, 1) := by decide +kernel
theorem dX3_digest_96 : decode cX3_digest 96 = .ok (.lstore_n 1, 1) := by decide +kernel
theorem dX3_digest_97 : decode cX3_digest 97 = .ok (.iinc 3 1, 3) := by decide +kernel
theorem dX3_digest_100 : decode cX3_digest 100 = .ok (.goto (-22), 3) := by decide +kernel
theorem dX3_digest_103 : decode cX3_digest 103 = .ok (.ldc2_w 156, 3) := by decide +kernel
theorem dX3_digest_106 : decode cX3_digest 106 = .ok (.lload_n 1, 1) := by decide +kernel
theorem dX3_digest_107 : decode cX3_digest 107 = .ok (.lmul, 1) := by decide +kernel
theorem dX3_digest_108 : decode cX3_digest 108 = .ok (.aload_n 0, 1) := by decide +kernel
theorem dX3_digest_109 : decode cX3_digest 109 = .ok (.invokevirtual 158, 3) := by decide +kernel
theorem dX3_digest_112 : decode cX3_digest 112 = .ok (.i2l, 1) := by decide +kernel
theorem dX3_digest_113 : decode cX3_digest 113 = .ok (.ladd, 1) := by decide +kernel
theorem dX3_digest_114 : decode cX3_digest 114 = .ok (.lreturn, 1) := by decide +kernel
theorem dJ13_bitCount_95d88_0 : decode cJ13_bitCount_95d88 0 = .ok (.lload_n 0, 1) := by decide +kernel
theorem dJ13_bitCount_95d88_1 : decode cJ13_bitCount_95d88 1 = .ok (.lload_n 0, 1) := by decide +kernel
theorem dJ13_bitCount_95d88_2 : decode cJ13_bitCount_95d88 2 = .ok (.iconst 1, 1) := by decide +kernel
theorem dJ13_bitCount_95d88_3 : decode cJ13_bitCount_95d88 3 = .ok (.lushr, 1) := by decide +kernel
theorem dJ13_bitCount_95d88_4 : decode cJ13_bitCount_95d88 4 = .ok (.ldc2_w 314, 3) := by decide +kernel
theorem dJ13_bitCount_95d88_7 : decode cJ13_bitCount_95d88 7 = .ok (.land, 1) := by decide +kernel
theorem dJ13_bitCount_95d88_8 : decode cJ13_bitCount_95d88 8 = .ok (.lsub, 1) := by decide +kernel
theorem dJ13_bitCount_95d88_9 : decode cJ13_bitCount_95d88 9 = .ok (.lstore_n 0, 1) := by decide +kernel
theorem dJ13_bitCount_95d88_10 : decode cJ13_bitCount_95d88 10 = .ok (.lload_n 0, 1) := by decide +kernel
theorem dJ13_bitCount_95d88_11 : decode cJ13_bitCount_95d88 11 = .ok (.ldc2_w 316, 3) := by decide +kernel
theorem dJ13_bitCount_95d88_14 : decode cJ13_bitCount_95d88 14 = .ok (.land, 1) := by decide +kernel
theorem dJ13_bitCount_95d88_15 : decode cJ13_bitCount_95d88 15 = .ok (.lload_n 0, 1) := by decide +kernel
theorem dJ13_bitCount_95d88_16 : decode cJ13_bitCount_95d88 16 = .ok (.iconst 2, 1) := by decide +kernel
theorem dJ13_bitCount_95d88_17 : decode cJ13_bitCount_95d88 17 = .ok (.lushr, 1) := by decide +kernel
theorem dJ13_bitCount_95d88_18 : decode cJ13_bitCount_95d88 18 = .ok (.ldc2_w 316, 3) := by decide +kernel
theorem dJ13_bitCount_95d88_21 : decode cJ13_bitCount_95d88 21 = .ok (.land, 1) := by decide +kernel
theorem dJ13_bitCount_95d88_22 : decode cJ13_bitCount_95d88 22 = .ok (.ladd, 1) := by decide +kernel
theorem dJ13_bitCount_95d88_23 : decode cJ13_bitCount_95d88 23 = .ok (.lstore_n 0, 1) := by decide +kernel
theorem dJ13_bitCount_95d88_24 : decode cJ13_bitCount_95d88 24 = .ok (.lload_n 0, 1) := by decide +kernel
theorem dJ13_bitCount_95d88_25 : decode cJ13_bitCount_95d88 25 = .ok (.lload_n 0, 1) := by decide +kernel
theorem dJ13_bitCount_95d88_26 : decode cJ13_bitCount_95d88 26 = .ok (.iconst 4, 1) := by decide +kernel
theorem dJ13_bitCount_95d88_27 : decode cJ13_bitCount_95d88 27 = .ok (.lushr, 1) := by decide +kernel
theorem dJ13_bitCount_95d88_28 : decode cJ13_bitCount_95d88 28 = .ok (.ladd, 1) := by decide +kernel
theorem dJ13_bitCount_95d88_29 : decode cJ13_bitCount_95d88 29 = .ok (.ldc2_w 318, 3) := by decide +kernel
theorem dJ13_bitCount_95d88_32 : decode cJ13_bitCount_95d88 32 = .ok (.land, 1) := by decide +kernel
theorem dJ13_bitCount_95d88_33 : decode cJ13_bitCount_95d88 33 = .ok (.lstore_n 0, 1) := by decide +kernel
theorem dJ13_bitCount_95d88_34 : decode cJ13_bitCount_95d88 34 = .ok (.lload_n 0, 1) := by decide +kernel
theorem dJ13_bitCount_95d88_35 : decode cJ13_bitCount_95d88 35 = .ok (.lload_n 0, 1) := by decide +kernel
theorem dJ13_bitCount_95d88_36 : decode cJ13_bitCount_95d88 36 = .ok (.bipush 8, 2) := by decide +kernel
theorem dJ13_bitCount_95d88_38 : decode cJ13_bitCount_95d88 38 = .ok (.lushr, 1) := by decide +kernel
theorem dJ13_bitCount_95d88_39 : decode cJ13_bitCount_95d88 39 = .ok (.ladd, 1) := by decide +kernel
theorem dJ13_bitCount_95d88_40 : decode cJ13_bitCount_95d88 40 = .ok (.lstore_n 0, 1) := by decide +kernel
theorem dJ13_bitCount_95d88_41 : decode cJ13_bitCount_95d88 41 = .ok (.lload_n 0, 1) := by decide +kernel
theorem dJ13_bitCount_95d88_42 : decode cJ13_bitCount_95d88 42 = .ok (.lload_n 0, 1) := by decide +kernel
theorem dJ13_bitCount_95d88_43 : decode cJ13_bitCount_95d88 43 = .ok (.bipush 16, 2) := by decide +kernel
theorem dJ13_bitCount_95d88_45 : decode cJ13_bitCount_95d88 45 = .ok (.lushr, 1) := by decide +kernel
theorem dJ13_bitCount_95d88_46 : decode cJ13_bitCount_95d88 46 = .ok (.ladd, 1) := by decide +kernel
theorem dJ13_bitCount_95d88_47 : decode cJ13_bitCount_95d88 47 = .ok (.lstore_n 0, 1) := by decide +kernel
theorem dJ13_bitCount_95d88_48 : decode cJ13_bitCount_95d88 48 = .ok (.lload_n 0, 1) := by decide +kernel
theorem dJ13_bitCount_95d88_49 : decode cJ13_bitCount_95d88 49 = .ok (.lload_n 0, 1) := by decide +kernel
theorem dJ13_bitCount_95d88_50 : decode cJ13_bitCount_95d88 50 = .ok (.bipush 32, 2) := by decide +kernel
theorem dJ13_bitCount_95d88_52 : decode cJ13_bitCount_95d88 52 = .ok (.lushr, 1) := by decide +kernel
theorem dJ13_bitCount_95d88_53 : decode cJ13_bitCount_95d88 53 = .ok (.ladd, 1) := by decide +kernel
theorem dJ13_bitCount_95d88_54 : decode cJ13_bitCount_95d88 54 = .ok (.lstore_n 0, 1) := by decide +kernel
theorem dJ13_bitCount_95d88_55 : decode cJ13_bitCount_95d88 55 = .ok (.lload_n 0, 1) := by decide +kernel
theorem dJ13_bitCount_95d88_56 : decode cJ13_bitCount_95d88 56 = .ok (.l2i, 1) := by decide +kernel
theorem dJ13_bitCount_95d88_57 : decode cJ13_bitCount_95d88 57 = .ok (.bipush 127, 2) := by decide +kernel
theorem dJ13_bitCount_95d88_59 : decode cJ13_bitCount_95d88 59 = .ok (.iand, 1) := by decide +kernel
theorem dJ13_bitCount_95d88_60 : decode cJ13_bitCount_95d88 60 = .ok (.ireturn, 1) := by decide +kernel
end
section
/-! base: worlds that a call leaves at their addresses; contracts with an exact end; loops as iterated bodies -/
abbrev vwCl : List vw_C := [(RX0, TX0, 5), (RX1, TX1, 3), (RX2, TX2, 5), (RX3, TX3, 16)]
def gG (D : va_G) (A : Nat → Prop) (H0 : Heap) (w : va_W) (H : Heap) (locs : List Loc) : Prop := va_P D vwCl w H ∧ va_D A w ∧ va_S A H0 H locs
abbrev gT (cI cJ : ClassId) : List (ClassId × FieldType) := [(cI, .int), (cJ, .long)]
abbrev gPc (D : va_G) (tys : List (ClassId × FieldType)) (sz : Nat) (w : va_W) (av : List Value) : Array Value → State → Prop := va_Pc av (fun U => U.heap.size = sz ∧ va_P D vwCl w U.heap ∧ va_K D vwCl tys U ∧ va_D (fun _ => True) w)
def gB (D : va_G) (tys : List (ClassId × FieldType)) (A : Nat → Prop) (w1 : va_W) (t : State) : Prop := va_P D vwCl w1 t.heap ∧ va_K D vwCl tys t ∧ va_D A w1
abbrev gQi (D : va_G) (tys : List (ClassId × FieldType)) (A : Nat → Prop) (r : Int32) (w1 : va_W) : Array Value → State → Outcome → State → Prop := va_Qi (S := Unit) (fun x _ => x = r) (fun _ t => gB D tys A w1 t) A
abbrev gQl (D : va_G) (tys : List (ClassId × FieldType)) (A : Nat → Prop) (r : Int64) (w1 : va_W) : Array Value → State → Outcome → State → Prop := va_Ql (S := Unit) (fun x _ => x = r) (fun _ t => gB D tys A w1 t) A
abbrev gQv (D : va_G) (tys : List (ClassId × FieldType)) (A : Nat → Prop) (w1 : va_W) : Array Value → State → Outcome → State → Prop := va_Qv (S := Unit) (fun _ => True) (fun _ t => gB D tys A w1 t) A
theorem ob {α β : Type} {o : Option α} {k : α → Option β} {x : β} (h : o.bind k = some x) : ∃ a, o = some a ∧ k a = some x := by
  cases o with
  | none => cases h
  | some a => exact ⟨a, rfl, h⟩
theorem ifT {α : Type} {c : Prop} [Decidable c] {a b x : α} (hc : c) (h : (if c then a else b) = x) : a = x := by rwa [if_pos hc] at h
theorem ifF {α : Type} {c : Prop} [Decidable c] {a b x : α} (hc : ¬ c) (h : (if c then a else b) = x) : b = x := by rwa [if_neg hc] at h
abbrev inR (i : Int32) (n : Nat) : Prop := 0 ≤ i ∧ i.toNatClampNeg < n
theorem inR_vp {i : Int32} {n : Nat} (h : inR i n) : vp_in i n := fun q => q.elim (fun a => absurd h.1 (Int32.not_le.mpr a)) (fun a => Nat.not_le.mpr h.2 a)
def chk {α : Type} (i : Int32) (n : Nat) (k : Option α) : Option α := if inR i n then k else none
theorem chk_s {α : Type} {i : Int32} {n : Nat} {k : Option α} {x : α} (h : chk i n k = some x) : vp_in i n ∧ k = some x := by
  unfold chk at h
  by_cases hc : inR i n
  · rw [if_pos hc] at h
    exact ⟨inR_vp hc, h⟩
  · rw [if_neg hc] at h
    cases h
theorem se_r {α β γ : Type} {f : α → γ} {g : β → γ} {e : β} {x : γ} (h : Sum.elim f g (.inr e) = x) : g e = x := h
theorem se_l {α β γ : Type} {f : α → γ} {g : β → γ} {e : α} {x : γ} (h : Sum.elim f g (.inl e) = x) : f e = x := h
def itl {α β : Type} (b : α → Option (β ⊕ α)) : Nat → α → Option β
  | 0, _ => none
  | n + 1, a => (b a).bind (fun o => match o with
    | .inl x => some x
    | .inr a' => itl b n a')
theorem itl_0 {α β : Type} {b : α → Option (β ⊕ α)} {a : α} {x : β} (h : itl b 0 a = some x) : False := by cases h
theorem itl_s {α β : Type} {b : α → Option (β ⊕ α)} {n : Nat} {a : α} {x : β} (h : itl b (n + 1) a = some x) : ∃ o, b a = some o ∧ (∀ y, o = .inl y → y = x) ∧ (∀ a', o = .inr a' → itl b n a' = some x) := by
  obtain ⟨o, h1, h2⟩ := ob h
  refine ⟨o, h1, ?_, ?_⟩
  · intro y e
    subst e
    exact Option.some.inj h2
  · intro a' e
    subst e
    exact h2
end
section
section GM
variable {l : Launch} {D : va_G} {tys : List (ClassId × FieldType)} {w : va_W} {sz : Nat}
/-- a contract out of a walk from the entry -/
theorem gMet {y : MethodName} {ws ws' : List Cond} {rm : Room} {Qc : Array Value → State → Outcome → State → Prop} {cc : ByteArray} {maxL : Nat} {ret : Option FieldType} {av : List Value}
    (hy : plainName y.cls = true) (hw : ws = Cond.code y cc maxL ret :: ws')
    (body : ∀ (p : Program) (e : Env) (s : State) (m : MethodId) (below : List Frame) (meth : Method) (c : Code) (ls : Array Slot), CallFix p m c cc maxL s av.toArray ws y.cls → meth.sig.returnType = ret → meth.locks = false → s.heap.size = sz → va_K D vwCl tys s → gG D (va_A w sz) s.heap w s.heap [] → lv_has ls maxL (lv_args 0 av) →
      W p l e rm s m av.toArray below meth c s.heap [] 0 0 (MQ below Qc av.toArray s 0 0 (va_A w sz)) (F0 m 0 ls [])) (hlen : (lg_sl av).length ≤ maxL) : Met l y ws rm (gPc D tys sz w av) Qc 0 0 (va_A w sz) := by
  refine Met.ofW (cc := cc) (maxL := maxL) (ret := ret) hy hw ?_
  intro p e s m args below meth c s₁ B hml hv
  obtain ⟨rfl, hsz, hP, hK, hD0⟩ := hv
  have hts := atoms_spec (ws := ws) B.pre
  have hown : s.vm.findClass y.cls = some m.cls := findClass_of_methodNamed B.named
  have hl := lv_entry av hlen
  rw [lg_entry_eq]
  exact body p e s m below meth c _ ⟨B.exec, B.bytes, hml, hown, hts⟩ B.returns B.notSynchronized hsz hK ⟨hP, by subst hsz; exact hD0.self, va_S.rf⟩ hl
end GM
section GC
variable {p : Program} {l : Launch} {e : Env} {R : Room} {s : State} {m : MethodId} {args : Array Value} {below : List Frame} {meth : Method} {c : Code} {H : Heap} {locs : List Loc} {cells slots : Nat} {Q : State → Prop}
variable {cc : ByteArray} {nL : Nat} {Ts : List Cond} {own : String} {D : va_G} {tys : List (ClassId × FieldType)} {A : Nat → Prop} {w w1 : va_W} {pc : Nat} {ls : Array Slot} {rest st0 As : List Value}
variable {y : MethodName} {bytes : ByteArray} {maxL n index : Nat} {ret : Option FieldType} {ws : List Cond} {rm : Room} {C : String} {b : Addr}
theorem gF (hA : ∀ q : Nat, s.heap.size ≤ q → A q) (hG : gG D A s.heap w H locs) : ∀ q, va_A w H.size q → A q := by
  intro q h
  rcases h with ⟨k, e, h⟩ | h
  · exact hG.2.1.2 k (q, e) h
  · exact hA q (Nat.le_trans hG.2.2.1 h)
theorem gBlind {sz : Nat} {av : List Value} : FrameBlind (gPc D tys sz w av) := fun a U g mk q => by
  obtain ⟨q0, q1, qP, qK, qD⟩ := q
  exact ⟨q0, q1, qP, va_K.moved (u := U) (U := U.calling g mk a) (Vm.Alike.refl U.vm) qK, qD⟩
theorem gPre (hK : va_K D vwCl tys s) (hG : gG D A s.heap w H locs) {av : List Value} : ∀ U : State, U.heap = H → s.WarmedH U.vm → gPc D tys H.size w av av.toArray U := fun U hU hW => ⟨rfl, by rw [hU], by rw [hU]; exact hG.1, va_K.moved hW.alike hK, hG.2.1.weaken (fun _ _ _ _ => trivial)⟩
theorem gc_Vi {r : Int32} (hA : ∀ q : Nat, s.heap.size ≤ q → A q) (hK : va_K D vwCl tys s) (hl : ls.size = nL) (hG : gG D A s.heap w H locs) (B : CallFix p m c cc nL s args Ts own)
    (hM : Met l y ws rm (gPc D tys H.size w (.ref b :: As)) (gQi D tys (va_A w H.size) r w1) 0 0 (va_A w H.size)) (cw : CallW R s args own C index y bytes maxL ret ws rm 0 0 n)
    (q0 : Nat) {ci : Nat} {fs : List Value} {qc : vw_C} (he : w[q0]? = some (b, .inr (ci, fs))) (hc : vwCl[ci]? = some qc) (hC : qc.1 = C) (hn : As.length = n) (hst : st0 = As.reverse ++ .ref b :: rest) (hroom : (rest.map fun v => v.category).sum ≤ 8)
    (hdg : decode cc pc = .ok (.invokevirtual index, 3)) (hf : cells ≤ R.cells ∧ slots ≤ R.slots)
    (kk : ∀ (H1 : Heap) (locs1 : List Loc), gG D A s.heap w1 H1 locs1 → W p l e R s m args below meth c H1 locs1 cells slots Q (F0 m (pc + 3) ls (.int r :: rest))) : W p l e R s m args below meth c H locs cells slots Q (F0 m pc ls st0) := by
  have hF := gF hA hG
  subst hC
  subst hst
  refine va_calli (va_runV (As := As) (rest := rest) B hM cw ⟨gBlind, va_recv hK hG.1 hc he, gPre hK hG⟩ rfl hn hl rfl (lv_room hroom) hdg ⟨hf.1, hf.2⟩) hG.2.2 (fun q _ h => hF q h) hF (fun r' u t H1 locs1 ht hvm hw hB hz1 hk1 hS1 => ?_)
  obtain ⟨hP1, hK1, hD1⟩ := hB
  rw [ht] at hP1
  have hw : r' = r := hw
  subst hw
  exact kk H1 locs1 ⟨hP1, hD1.weaken (fun k q _ h => hF q.1 h), hS1⟩
theorem gc_Vl {r : Int64} (hA : ∀ q : Nat, s.heap.size ≤ q → A q) (hK : va_K D vwCl tys s) (hl : ls.size = nL) (hG : gG D A s.heap w H locs) (B : CallFix p m c cc nL s args Ts own)
    (hM : Met l y ws rm (gPc D tys H.size w (.ref b :: As)) (gQl D tys (va_A w H.size) r w1) 0 0 (va_A w H.size)) (cw : CallW R s args own C index y bytes maxL ret ws rm 0 0 n)
    (q0 : Nat) {ci : Nat} {fs : List Value} {qc : vw_C} (he : w[q0]? = some (b, .inr (ci, fs))) (hc : vwCl[ci]? = some qc) (hC : qc.1 = C) (hn : As.length = n) (hst : st0 = As.reverse ++ .ref b :: rest) (hroom : (rest.map fun v => v.category).sum ≤ 8)
    (hdg : decode cc pc = .ok (.invokevirtual index, 3)) (hf : cells ≤ R.cells ∧ slots ≤ R.slots)
    (kk : ∀ (H1 : Heap) (locs1 : List Loc), gG D A s.heap w1 H1 locs1 → W p l e R s m args below meth c H1 locs1 cells slots Q (F0 m (pc + 3) ls (.long r :: rest))) : W p l e R s m args below meth c H locs cells slots Q (F0 m pc ls st0) := by
  have hF := gF hA hG
  subst hC
  subst hst
  refine va_calll (va_runV (As := As) (rest := rest) B hM cw ⟨gBlind, va_recv hK hG.1 hc he, gPre hK hG⟩ rfl hn hl rfl (lv_room hroom) hdg ⟨hf.1, hf.2⟩) hG.2.2 (fun q _ h => hF q h) hF (fun r' u t H1 locs1 ht hvm hw hB hz1 hk1 hS1 => ?_)
  obtain ⟨hP1, hK1, hD1⟩ := hB
  rw [ht] at hP1
  have hw : r' = r := hw
  subst hw
  exact kk H1 locs1 ⟨hP1, hD1.weaken (fun k q _ h => hF q.1 h), hS1⟩
theorem gc_Vv (hA : ∀ q : Nat, s.heap.size ≤ q → A q) (hK : va_K D vwCl tys s) (hl : ls.size = nL) (hG : gG D A s.heap w H locs) (B : CallFix p m c cc nL s args Ts own)
    (hM : Met l y ws rm (gPc D tys H.size w (.ref b :: As)) (gQv D tys (va_A w H.size) w1) 0 0 (va_A w H.size)) (cw : CallW R s args own C index y bytes maxL ret ws rm 0 0 n)
    (q0 : Nat) {ci : Nat} {fs : List Value} {qc : vw_C} (he : w[q0]? = some (b, .inr (ci, fs))) (hc : vwCl[ci]? = some qc) (hC : qc.1 = C) (hn : As.length = n) (hst : st0 = As.reverse ++ .ref b :: rest) (hroom : (rest.map fun v => v.category).sum ≤ 8)
    (hdg : decode cc pc = .ok (.invokevirtual index, 3)) (hf : cells ≤ R.cells ∧ slots ≤ R.slots)
    (kk : ∀ (H1 : Heap) (locs1 : List Loc), gG D A s.heap w1 H1 locs1 → W p l e R s m args below meth c H1 locs1 cells slots Q (F0 m (pc + 3) ls rest)) : W p l e R s m args below meth c H locs cells slots Q (F0 m pc ls st0) := by
  have hF := gF hA hG
  subst hC
  subst hst
  refine va_callv (va_runV (As := As) (rest := rest) B hM cw ⟨gBlind, va_recv hK hG.1 hc he, gPre hK hG⟩ rfl hn hl rfl (lv_room hroom) hdg ⟨hf.1, hf.2⟩) hG.2.2 (fun q _ h => hF q h) hF (fun u t H1 locs1 ht hvm hw hB hz1 hk1 hS1 => ?_)
  obtain ⟨hP1, hK1, hD1⟩ := hB
  rw [ht] at hP1
  exact kk H1 locs1 ⟨hP1, hD1.weaken (fun k q _ h => hF q.1 h), hS1⟩
theorem gc_Si {r : Int32} (hA : ∀ q : Nat, s.heap.size ≤ q → A q) (hK : va_K D vwCl tys s) (hl : ls.size = nL) (hG : gG D A s.heap w H locs) (B : CallFix p m c cc nL s args Ts own)
    (hM : Met l y ws rm (gPc D tys H.size w As) (gQi D tys (va_A w H.size) r w1) 0 0 (va_A w H.size)) (cw : CallB R s args own index y bytes maxL ret ws rm 0 0 n ∧ (Cond.static y).before args s = true)
    (hn : As.length = n) (hst : st0 = As.reverse ++ rest) (hroom : (rest.map fun v => v.category).sum ≤ 8)
    (hdg : decode cc pc = .ok (.invokestatic index, 3)) (hf : cells ≤ R.cells ∧ slots ≤ R.slots)
    (kk : ∀ (H1 : Heap) (locs1 : List Loc), gG D A s.heap w1 H1 locs1 → W p l e R s m args below meth c H1 locs1 cells slots Q (F0 m (pc + 3) ls (.int r :: rest))) : W p l e R s m args below meth c H locs cells slots Q (F0 m pc ls st0) := by
  have hF := gF hA hG
  subst hst
  refine va_calli (va_runS (As := As) (rest := rest) B hM cw ⟨gBlind, gPre hK hG⟩ rfl hn hl rfl (lv_room hroom) hdg ⟨hf.1, hf.2⟩) hG.2.2 (fun q _ h => hF q h) hF (fun r' u t H1 locs1 ht hvm hw hB hz1 hk1 hS1 => ?_)
  obtain ⟨hP1, hK1, hD1⟩ := hB
  rw [ht] at hP1
  have hw : r' = r := hw
  subst hw
  exact kk H1 locs1 ⟨hP1, hD1.weaken (fun k q _ h => hF q.1 h), hS1⟩
theorem g_iret {r x : Int32} {t : FieldType} (hr : meth.sig.returnType = some t) (hlk : meth.locks = false) (hK : va_K D vwCl tys s) (hG : gG D A s.heap w1 H locs) (B : CallFix p m c cc nL s args Ts own) (hn : narrow t (.int x) = .int x) (ex : x = r) (hdg : decode cc pc = .ok (.ireturn, 1)) :
    W p l e R s m args below meth c H locs cells slots (MQ below (gQi D tys A r w1) args s cells slots A) (F0 m pc ls [.int x]) := by
  obtain ⟨hP, hD, hS⟩ := hG
  subst ex
  exact W.zret B.1 B.2.1 hr hn (fun t ht hW => ⟨⟨x, (), rfl, rfl, by rw [ht]; exact hP, va_K.moved hW.alike hK, hD⟩, hS.F ht⟩) hS.2.2 hdg hlk
theorem g_lret {r x : Int64} (hr : meth.sig.returnType = some .long) (hlk : meth.locks = false) (hK : va_K D vwCl tys s) (hG : gG D A s.heap w1 H locs) (B : CallFix p m c cc nL s args Ts own) (ex : x = r) (hdg : decode cc pc = .ok (.lreturn, 1)) :
    W p l e R s m args below meth c H locs cells slots (MQ below (gQl D tys A r w1) args s cells slots A) (F0 m pc ls [.long x]) := by
  obtain ⟨hP, hD, hS⟩ := hG
  subst ex
  exact W.lret B.1 B.2.1 hr (fun t ht hW => ⟨⟨x, (), rfl, rfl, by rw [ht]; exact hP, va_K.moved hW.alike hK, hD⟩, hS.F ht⟩) hS.2.2 hdg hlk
theorem g_vret (hr : meth.sig.returnType = none) (hlk : meth.locks = false) (hK : va_K D vwCl tys s) (hG : gG D A s.heap w1 H locs) (B : CallFix p m c cc nL s args Ts own) (hdg : decode cc pc = .ok (.return_, 1)) :
    W p l e R s m args below meth c H locs cells slots (MQ below (gQv D tys A w1) args s cells slots A) (F0 m pc ls []) := by
  obtain ⟨hP, hD, hS⟩ := hG
  exact W.vret B.1 B.2.1 hr (fun t ht hW => ⟨⟨(), rfl, trivial, by rw [ht]; exact hP, va_K.moved hW.alike hK, hD⟩, hS.F ht⟩) hS.2.2 hdg hlk
theorem g_get {T : u_T} {N ci : Nat} {a : Nat} {fs : List Value} {v : Value} (hK : va_K D vwCl tys s) (hG : gG D A s.heap w H locs) (B : CallFix p m c cc nL s args Ts own) (hin : ∀ x ∈ u_ws C T N, x ∈ Ts) (q0 : Nat) (he : w[q0]? = some (a, .inr (ci, fs))) (hc : vwCl[ci]? = some (C, T, N)) (k : Nat) (hk : k < N) (hm : Cond.fieldLink own index (T k).1 (T k).2.1 (T k).2.2.1 ∈ Ts) (hv : fs[k]? = some v) (hdg : decode cc pc = .ok (.getfield index, 3))
    (kk : W p l e R s m args below meth c H locs cells slots Q (F0 m (pc + 3) ls (v :: rest))) : W p l e R s m args below meth c H locs cells slots Q (F0 m pc ls (.ref a :: rest)) :=
  va_get (D := D) (ci := ci) (v := v) (C := C) (T := T) (N := N) B.1 B.2.1 B.2.2.2.2 hin B.2.2.2.1 hK hG.1 q0 he hc k hk (B.2.2.2.2 _ hm) (fun _ h => h) hv hdg kk
theorem g_put {T : u_T} {N ci : Nat} {a : Nat} {fs : List Value} {v : Value} {ty0 : Nat → FieldType} {ty : FieldType} (hK : va_K D vwCl tys s) (hG : gG D A s.heap w H locs) (B : CallFix p m c cc nL s args Ts own) (hin : ∀ x ∈ u_ws C T N, x ∈ Ts) (hty : ∀ k, k < N → parseFieldDescriptor (T k).2.2.1 = some (ty0 k)) (hnm : ∀ a, a < N → ∀ b, b < N → a ≠ b → (T a).2.1 ≠ (T b).2.1)
    (q0 : Nat) (he : w[q0]? = some (a, .inr (ci, fs))) (hc : vwCl[ci]? = some (C, T, N)) (k : Nat) (hk : k < N) (hm : Cond.fieldLink own index (T k).1 (T k).2.1 (T k).2.2.1 ∈ Ts) (hfin : (T k).2.2.2 = false) (hd : ty0 k = ty) (hnr : narrow ty v = v) (hfit : fits ty v = true) (hlen : k < fs.length) (hdg : decode cc pc = .ok (.putfield index, 3))
    (kk : ∀ (H1 : Heap) (locs1 : List Loc), gG D A s.heap (w.set q0 (a, .inr (ci, fs.set k v))) H1 locs1 → W p l e R s m args below meth c H1 locs1 cells slots Q (F0 m (pc + 3) ls rest)) : W p l e R s m args below meth c H locs cells slots Q (F0 m pc ls (v :: .ref a :: rest)) :=
  va_put (D := D) (ci := ci) (v := v) (ty := ty) (C := C) (T := T) (N := N) B.1 B.2.1 B.2.2.2.2 hin ty0 hty hnm B.2.2.2.1 hK hG.1 hG.2.1 hG.2.2 q0 he hc k hk (B.2.2.2.2 _ hm) (fun _ h => h) hfin (by rw [hty k hk, hd]) hnr hfit hlen hdg (fun H1 l1 h1 h2 h3 => kk H1 l1 ⟨h1, h2, h3⟩)
end GC
section GA
variable {p : Program} {l : Launch} {e : Env} {R : Room} {s : State} {m : MethodId} {args : Array Value} {below : List Frame} {meth : Method} {c : Code} {H : Heap} {locs : List Loc} {cells slots : Nat} {Q : State → Prop}
variable {cc : ByteArray} {nL : Nat} {Ts : List Cond} {own : String} {D : va_G} {cI cJ : ClassId} {A : Nat → Prop} {w : va_W} {pc a n : Nat} {ls : Array Slot} {rest : List Value}
theorem g_iald {f : Nat → Int32} {i : Int32} (hK : va_K D vwCl (gT cI cJ) s) (hG : gG D A s.heap w H locs) (B : CallFix p m c cc nL s args Ts own) (q0 : Nat) (ha : w[q0]? = some (a, .inl (cI, n, .inl f))) (hin : vp_in i n) (hdg : decode cc pc = .ok (.iaload, 1))
    (kk : W p l e R s m args below meth c H locs cells slots Q (F0 m (pc + 1) ls (.int (f i.toNatClampNeg) :: rest))) : W p l e R s m args below meth c H locs cells slots Q (F0 m pc ls (.int i :: .ref a :: rest)) := va_iald B.1 B.2.1 hK hG.1 q0 0 ha rfl hin hdg kk
theorem g_lald {f : Nat → Int64} {i : Int32} (hK : va_K D vwCl (gT cI cJ) s) (hG : gG D A s.heap w H locs) (B : CallFix p m c cc nL s args Ts own) (q0 : Nat) (ha : w[q0]? = some (a, .inl (cJ, n, .inr (.inl f)))) (hin : vp_in i n) (hdg : decode cc pc = .ok (.laload, 1))
    (kk : W p l e R s m args below meth c H locs cells slots Q (F0 m (pc + 1) ls (.long (f i.toNatClampNeg) :: rest))) : W p l e R s m args below meth c H locs cells slots Q (F0 m pc ls (.int i :: .ref a :: rest)) := va_lald B.1 B.2.1 hK hG.1 q0 1 ha rfl hin hdg kk
theorem g_iast {f : Nat → Int32} {i x : Int32} (hK : va_K D vwCl (gT cI cJ) s) (hG : gG D A s.heap w H locs) (B : CallFix p m c cc nL s args Ts own) (q0 : Nat) (ha : w[q0]? = some (a, .inl (cI, n, .inl f))) (hin : vp_in i n) (hdg : decode cc pc = .ok (.iastore, 1))
    (kk : ∀ (H1 : Heap) (locs1 : List Loc), gG D A s.heap (w.set q0 (a, .inl (cI, n, .inl (upd f i.toNatClampNeg x)))) H1 locs1 → W p l e R s m args below meth c H1 locs1 cells slots Q (F0 m (pc + 1) ls rest)) : W p l e R s m args below meth c H locs cells slots Q (F0 m pc ls (.int x :: .int i :: .ref a :: rest)) :=
  va_iast B.1 B.2.1 hK hG.1 hG.2.1 hG.2.2 q0 0 ha rfl hin hdg (fun H1 l1 h1 h2 h3 => kk H1 l1 ⟨h1, h2, h3⟩)
theorem g_last {f : Nat → Int64} {i : Int32} {x : Int64} (hK : va_K D vwCl (gT cI cJ) s) (hG : gG D A s.heap w H locs) (B : CallFix p m c cc nL s args Ts own) (q0 : Nat) (ha : w[q0]? = some (a, .inl (cJ, n, .inr (.inl f)))) (hin : vp_in i n) (hdg : decode cc pc = .ok (.lastore, 1))
    (kk : ∀ (H1 : Heap) (locs1 : List Loc), gG D A s.heap (w.set q0 (a, .inl (cJ, n, .inr (.inl (vp_updL f i.toNatClampNeg x))))) H1 locs1 → W p l e R s m args below meth c H1 locs1 cells slots Q (F0 m (pc + 1) ls rest)) : W p l e R s m args below meth c H locs cells slots Q (F0 m pc ls (.long x :: .int i :: .ref a :: rest)) :=
  va_last B.1 B.2.1 hK hG.1 hG.2.1 hG.2.2 q0 1 ha rfl hin hdg (fun H1 l1 h1 h2 h3 => kk H1 l1 ⟨h1, h2, h3⟩)
theorem g_alenJ {f : Nat → Int64} {v : Int32} (hK : va_K D vwCl (gT cI cJ) s) (hG : gG D A s.heap w H locs) (B : CallFix p m c cc nL s args Ts own) (q0 : Nat) (ha : w[q0]? = some (a, .inl (cJ, n, .inr (.inl f)))) (hv : Int32.ofNat n = v) (hdg : decode cc pc = .ok (.arraylength, 1))
    (kk : W p l e R s m args below meth c H locs cells slots Q (F0 m (pc + 1) ls (.int v :: rest))) : W p l e R s m args below meth c H locs cells slots Q (F0 m pc ls (.ref a :: rest)) := va_alen B.1 B.2.1 hK hG.1 q0 1 ha rfl hv hdg kk
theorem in_of {i : Int32} {n : Nat} {N : Int32} (hN : N = Int32.ofNat n) (hn : n < 2 ^ 31) (h0 : ¬ i < 0) (h1 : ¬ N ≤ i) : vp_in i n := by
  rintro (h | h)
  · exact h0 h
  · obtain ⟨j, hj, rfl⟩ := nI_of h0
    rw [nI_clamp hj] at h
    exact h1 (hN ▸ nI_le h hj)
end GA
end
section
abbrev CS : Type := (Int64) × (Int32) × (Int32) × (Int32) × (Int32) × (Int32) × (Int32) × (Int32) × (Int32) × (Int32) × (Nat → Int64)
def C_asked (g : CS) : Int64 := g.1
def C_mv (g : CS) : Int32 := g.2.1
def C_met (g : CS) : Int32 := g.2.2.1
def C_left (g : CS) : Int32 := g.2.2.2.1
def C_wr (g : CS) : Int32 := g.2.2.2.2.1
def C_down (g : CS) : Int32 := g.2.2.2.2.2.1
def C_failed (g : CS) : Int32 := g.2.2.2.2.2.2.1
def C_pi (g : CS) : Int32 := g.2.2.2.2.2.2.2.1
def C_pp (g : CS) : Int32 := g.2.2.2.2.2.2.2.2.1
def C_pt (g : CS) : Int32 := g.2.2.2.2.2.2.2.2.2.1
def C_ws (g : CS) : Nat → Int64 := g.2.2.2.2.2.2.2.2.2.2
def sC_asked (v : Int64) (g : CS) : CS := (v, C_mv g, C_met g, C_left g, C_wr g, C_down g, C_failed g, C_pi g, C_pp g, C_pt g, C_ws g)
def sC_mv (v : Int32) (g : CS) : CS := (C_asked g, v, C_met g, C_left g, C_wr g, C_down g, C_failed g, C_pi g, C_pp g, C_pt g, C_ws g)
def sC_met (v : Int32) (g : CS) : CS := (C_asked g, C_mv g, v, C_left g, C_wr g, C_down g, C_failed g, C_pi g, C_pp g, C_pt g, C_ws g)
def sC_left (v : Int32) (g : CS) : CS := (C_asked g, C_mv g, C_met g, v, C_wr g, C_down g, C_failed g, C_pi g, C_pp g, C_pt g, C_ws g)
def sC_wr (v : Int32) (g : CS) : CS := (C_asked g, C_mv g, C_met g, C_left g, v, C_down g, C_failed g, C_pi g, C_pp g, C_pt g, C_ws g)
def sC_down (v : Int32) (g : CS) : CS := (C_asked g, C_mv g, C_met g, C_left g, C_wr g, v, C_failed g, C_pi g, C_pp g, C_pt g, C_ws g)
def sC_failed (v : Int32) (g : CS) : CS := (C_asked g, C_mv g, C_met g, C_left g, C_wr g, C_down g, v, C_pi g, C_pp g, C_pt g, C_ws g)
def sC_pi (v : Int32) (g : CS) : CS := (C_asked g, C_mv g, C_met g, C_left g, C_wr g, C_down g, C_failed g, v, C_pp g, C_pt g, C_ws g)
def sC_pp (v : Int32) (g : CS) : CS := (C_asked g, C_mv g, C_met g, C_left g, C_wr g, C_down g, C_failed g, C_pi g, v, C_pt g, C_ws g)
def sC_pt (v : Int32) (g : CS) : CS := (C_asked g, C_mv g, C_met g, C_left g, C_wr g, C_down g, C_failed g, C_pi g, C_pp g, v, C_ws g)
def sC_ws (v : Nat → Int64) (g : CS) : CS := (C_asked g, C_mv g, C_met g, C_left g, C_wr g, C_down g, C_failed g, C_pi g, C_pp g, C_pt g, v)
abbrev RS : Type := (Nat → Int32) × (Nat → Int32) × (Nat → Int32) × (Nat → Int64) × (Nat → Int32) × (Int32) × (Int32) × (Int32) × (Int32) × (Int32) × (Int32) × (Int32) × (Int32) × (Int64) × (Nat → Int32) × (Nat → Int32)
def R_kind (g : RS) : Nat → Int32 := g.1
def R_size (g : RS) : Nat → Int32 := g.2.1
def R_pl (g : RS) : Nat → Int32 := g.2.2.1
def R_ws (g : RS) : Nat → Int64 := g.2.2.2.1
def R_rec (g : RS) : Nat → Int32 := g.2.2.2.2.1
def R_down (g : RS) : Int32 := g.2.2.2.2.2.1
def R_left (g : RS) : Int32 := g.2.2.2.2.2.2.1
def R_wr (g : RS) : Int32 := g.2.2.2.2.2.2.2.1
def R_mv (g : RS) : Int32 := g.2.2.2.2.2.2.2.2.1
def R_pf (g : RS) : Int32 := g.2.2.2.2.2.2.2.2.2.1
def R_pt (g : RS) : Int32 := g.2.2.2.2.2.2.2.2.2.2.1
def R_pi (g : RS) : Int32 := g.2.2.2.2.2.2.2.2.2.2.2.1
def R_pp (g : RS) : Int32 := g.2.2.2.2.2.2.2.2.2.2.2.2.1
def R_lat (g : RS) : Int64 := g.2.2.2.2.2.2.2.2.2.2.2.2.2.1
def R_op (g : RS) : Nat → Int32 := g.2.2.2.2.2.2.2.2.2.2.2.2.2.2.1
def R_ln (g : RS) : Nat → Int32 := g.2.2.2.2.2.2.2.2.2.2.2.2.2.2.2
def sR_kind (v : Nat → Int32) (g : RS) : RS := (v, R_size g, R_pl g, R_ws g, R_rec g, R_down g, R_left g, R_wr g, R_mv g, R_pf g, R_pt g, R_pi g, R_pp g, R_lat g, R_op g, R_ln g)
def sR_size (v : Nat → Int32) (g : RS) : RS := (R_kind g, v, R_pl g, R_ws g, R_rec g, R_down g, R_left g, R_wr g, R_mv g, R_pf g, R_pt g, R_pi g, R_pp g, R_lat g, R_op g, R_ln g)
def sR_pl (v : Nat → Int32) (g : RS) : RS := (R_kind g, R_size g, v, R_ws g, R_rec g, R_down g, R_left g, R_wr g, R_mv g, R_pf g, R_pt g, R_pi g, R_pp g, R_lat g, R_op g, R_ln g)
def sR_ws (v : Nat → Int64) (g : RS) : RS := (R_kind g, R_size g, R_pl g, v, R_rec g, R_down g, R_left g, R_wr g, R_mv g, R_pf g, R_pt g, R_pi g, R_pp g, R_lat g, R_op g, R_ln g)
def sR_rec (v : Nat → Int32) (g : RS) : RS := (R_kind g, R_size g, R_pl g, R_ws g, v, R_down g, R_left g, R_wr g, R_mv g, R_pf g, R_pt g, R_pi g, R_pp g, R_lat g, R_op g, R_ln g)
def sR_down (v : Int32) (g : RS) : RS := (R_kind g, R_size g, R_pl g, R_ws g, R_rec g, v, R_left g, R_wr g, R_mv g, R_pf g, R_pt g, R_pi g, R_pp g, R_lat g, R_op g, R_ln g)
def sR_left (v : Int32) (g : RS) : RS := (R_kind g, R_size g, R_pl g, R_ws g, R_rec g, R_down g, v, R_wr g, R_mv g, R_pf g, R_pt g, R_pi g, R_pp g, R_lat g, R_op g, R_ln g)
def sR_wr (v : Int32) (g : RS) : RS := (R_kind g, R_size g, R_pl g, R_ws g, R_rec g, R_down g, R_left g, v, R_mv g, R_pf g, R_pt g, R_pi g, R_pp g, R_lat g, R_op g, R_ln g)
def sR_mv (v : Int32) (g : RS) : RS := (R_kind g, R_size g, R_pl g, R_ws g, R_rec g, R_down g, R_left g, R_wr g, v, R_pf g, R_pt g, R_pi g, R_pp g, R_lat g, R_op g, R_ln g)
def sR_pf (v : Int32) (g : RS) : RS := (R_kind g, R_size g, R_pl g, R_ws g, R_rec g, R_down g, R_left g, R_wr g, R_mv g, v, R_pt g, R_pi g, R_pp g, R_lat g, R_op g, R_ln g)
def sR_pt (v : Int32) (g : RS) : RS := (R_kind g, R_size g, R_pl g, R_ws g, R_rec g, R_down g, R_left g, R_wr g, R_mv g, R_pf g, v, R_pi g, R_pp g, R_lat g, R_op g, R_ln g)
def sR_pi (v : Int32) (g : RS) : RS := (R_kind g, R_size g, R_pl g, R_ws g, R_rec g, R_down g, R_left g, R_wr g, R_mv g, R_pf g, R_pt g, v, R_pp g, R_lat g, R_op g, R_ln g)
def sR_pp (v : Int32) (g : RS) : RS := (R_kind g, R_size g, R_pl g, R_ws g, R_rec g, R_down g, R_left g, R_wr g, R_mv g, R_pf g, R_pt g, R_pi g, v, R_lat g, R_op g, R_ln g)
def sR_lat (v : Int64) (g : RS) : RS := (R_kind g, R_size g, R_pl g, R_ws g, R_rec g, R_down g, R_left g, R_wr g, R_mv g, R_pf g, R_pt g, R_pi g, R_pp g, v, R_op g, R_ln g)
def sR_op (v : Nat → Int32) (g : RS) : RS := (R_kind g, R_size g, R_pl g, R_ws g, R_rec g, R_down g, R_left g, R_wr g, R_mv g, R_pf g, R_pt g, R_pi g, R_pp g, R_lat g, v, R_ln g)
def sR_ln (v : Nat → Int32) (g : RS) : RS := (R_kind g, R_size g, R_pl g, R_ws g, R_rec g, R_down g, R_left g, R_wr g, R_mv g, R_pf g, R_pt g, R_pi g, R_pp g, R_lat g, R_op g, v)
abbrev wC (h0 q1 q2 q3 : Nat) (cJ : ClassId) (g : CS) : va_W := [(h0, .inr (2, [.ref q1, .ref q2, .long (C_asked g), .int (C_mv g), .int (C_met g)])), (q1, .inr (0, [.ref q3, .int (C_left g), .int (C_wr g), .int (C_down g), .int (C_failed g)])), (q2, .inr (1, [.int (C_pi g), .int (C_pp g), .int (C_pt g)])), (q3, .inl (cJ, 244, .inr (.inl (C_ws g))))]
abbrev wR (h0 qk qs qp qw qr qo qn : Nat) (cI cJ : ClassId) (g : RS) : va_W := [(h0, .inr (3, [.ref qk, .ref qs, .ref qp, .ref qw, .ref qr, .int (R_down g), .int (R_left g), .int (R_wr g), .int (R_mv g), .int (R_pf g), .int (R_pt g), .int (R_pi g), .int (R_pp g), .long (R_lat g), .ref qo, .ref qn])), (qk, .inl (cI, 12, .inl (R_kind g))), (qs, .inl (cI, 12, .inl (R_size g))), (qp, .inl (cI, 96, .inl (R_pl g))), (qw, .inl (cJ, 120, .inr (.inl (R_ws g)))), (qr, .inl (cI, 4, .inl (R_rec g))), (qo, .inl (cI, 12, .inl (R_op g))), (qn, .inl (cI, 12, .inl (R_ln g)))]
end
