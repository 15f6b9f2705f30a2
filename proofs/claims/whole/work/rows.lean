section
-- ===== PART A: goes FIRST, ahead of the names: the tables' words, and 'selects' of the private methods out of them =====
/-- a private method of a class that the tables say can be made, by its rows of tables_1 -/
def lw_okq (q : MethodName × Nat) : Prop := (q.1.cls ≠ "java/lang/invoke/MethodHandle" ∧ q.1.cls ≠ "java/lang/invoke/VarHandle") ∧ Cond.instantiable q.1.cls q.2 ∈ tables_1 ∧ Cond.privateMethod q.1 ∈ tables_1 ∧ Cond.instanceMethod q.1 ∈ tables_1
theorem lw_p0 : lw_okq (⟨"SandKeepers$Sheet", "faultOfCells", "(III)I"⟩, 4) := ⟨⟨by decide +kernel, by decide +kernel⟩, List.mem_of_getElem? (i := 118) (by decide +kernel), List.mem_of_getElem? (i := 175) (by decide +kernel), List.mem_of_getElem? (i := 176) (by decide +kernel)⟩
theorem lw_p1 : lw_okq (⟨"SandKeepers$Sheet", "faultOfRow", "(I)I"⟩, 4) := ⟨⟨by decide +kernel, by decide +kernel⟩, List.mem_of_getElem? (i := 118) (by decide +kernel), List.mem_of_getElem? (i := 179) (by decide +kernel), List.mem_of_getElem? (i := 180) (by decide +kernel)⟩
theorem lw_p2 : lw_okq (⟨"SandKeepers$Sheet", "hasCells", "(II)Z"⟩, 4) := ⟨⟨by decide +kernel, by decide +kernel⟩, List.mem_of_getElem? (i := 118) (by decide +kernel), List.mem_of_getElem? (i := 183) (by decide +kernel), List.mem_of_getElem? (i := 184) (by decide +kernel)⟩
theorem lw_p3 : lw_okq (⟨"SandKeepers", "failBy", "(I)I"⟩, 8) := ⟨⟨by decide +kernel, by decide +kernel⟩, List.mem_of_getElem? (i := 12) (by decide +kernel), List.mem_of_getElem? (i := 187) (by decide +kernel), List.mem_of_getElem? (i := 188) (by decide +kernel)⟩
theorem lw_p4 : lw_okq (⟨"SandKeepers$Town", "readText", "(LSandKeepers$Sheet;II)I"⟩, 9) := ⟨⟨by decide +kernel, by decide +kernel⟩, List.mem_of_getElem? (i := 20) (by decide +kernel), List.mem_of_getElem? (i := 191) (by decide +kernel), List.mem_of_getElem? (i := 192) (by decide +kernel)⟩
theorem lw_p5 : lw_okq (⟨"SandKeepers$Town", "takesCode", "(II)Z"⟩, 9) := ⟨⟨by decide +kernel, by decide +kernel⟩, List.mem_of_getElem? (i := 20) (by decide +kernel), List.mem_of_getElem? (i := 195) (by decide +kernel), List.mem_of_getElem? (i := 196) (by decide +kernel)⟩
theorem lw_p6 : lw_okq (⟨"SandKeepers$Town", "has", "(I)Z"⟩, 9) := ⟨⟨by decide +kernel, by decide +kernel⟩, List.mem_of_getElem? (i := 20) (by decide +kernel), List.mem_of_getElem? (i := 202) (by decide +kernel), List.mem_of_getElem? (i := 203) (by decide +kernel)⟩
theorem lw_p7 : lw_okq (⟨"SandKeepers$Town", "takesCodeOfHouse", "(III)Z"⟩, 9) := ⟨⟨by decide +kernel, by decide +kernel⟩, List.mem_of_getElem? (i := 20) (by decide +kernel), List.mem_of_getElem? (i := 207) (by decide +kernel), List.mem_of_getElem? (i := 208) (by decide +kernel)⟩
theorem lw_p8 : lw_okq (⟨"SandKeepers$Town", "becomeLike", "(LSandKeepers$Town;)V"⟩, 9) := ⟨⟨by decide +kernel, by decide +kernel⟩, List.mem_of_getElem? (i := 20) (by decide +kernel), List.mem_of_getElem? (i := 214) (by decide +kernel), List.mem_of_getElem? (i := 215) (by decide +kernel)⟩
theorem lw_p9 : lw_okq (⟨"SandKeepers$Town", "rateKeptBy", "(II)I"⟩, 9) := ⟨⟨by decide +kernel, by decide +kernel⟩, List.mem_of_getElem? (i := 20) (by decide +kernel), List.mem_of_getElem? (i := 223) (by decide +kernel), List.mem_of_getElem? (i := 224) (by decide +kernel)⟩
theorem lw_p10 : lw_okq (⟨"SandKeepers$Town", "setKeptBy", "(I)I"⟩, 9) := ⟨⟨by decide +kernel, by decide +kernel⟩, List.mem_of_getElem? (i := 20) (by decide +kernel), List.mem_of_getElem? (i := 231) (by decide +kernel), List.mem_of_getElem? (i := 232) (by decide +kernel)⟩
theorem lw_p11 : lw_okq (⟨"SandKeepers$Town", "setOfLiving", "()I"⟩, 9) := ⟨⟨by decide +kernel, by decide +kernel⟩, List.mem_of_getElem? (i := 20) (by decide +kernel), List.mem_of_getElem? (i := 251) (by decide +kernel), List.mem_of_getElem? (i := 252) (by decide +kernel)⟩
theorem lw_p12 : lw_okq (⟨"SandKeepers$Town", "isAlive", "(I)Z"⟩, 9) := ⟨⟨by decide +kernel, by decide +kernel⟩, List.mem_of_getElem? (i := 20) (by decide +kernel), List.mem_of_getElem? (i := 255) (by decide +kernel), List.mem_of_getElem? (i := 256) (by decide +kernel)⟩
theorem lw_p13 : lw_okq (⟨"SandKeepers$Town", "setOfStiff", "()I"⟩, 9) := ⟨⟨by decide +kernel, by decide +kernel⟩, List.mem_of_getElem? (i := 20) (by decide +kernel), List.mem_of_getElem? (i := 259) (by decide +kernel), List.mem_of_getElem? (i := 260) (by decide +kernel)⟩
theorem lw_p14 : lw_okq (⟨"SandKeepers", "actNow", "(II)I"⟩, 8) := ⟨⟨by decide +kernel, by decide +kernel⟩, List.mem_of_getElem? (i := 12) (by decide +kernel), List.mem_of_getElem? (i := 267) (by decide +kernel), List.mem_of_getElem? (i := 268) (by decide +kernel)⟩
theorem lw_p15 : lw_okq (⟨"SandKeepers$Town", "doAct", "(II)Z"⟩, 9) := ⟨⟨by decide +kernel, by decide +kernel⟩, List.mem_of_getElem? (i := 20) (by decide +kernel), List.mem_of_getElem? (i := 271) (by decide +kernel), List.mem_of_getElem? (i := 272) (by decide +kernel)⟩
def lw_privs_1 : List (MethodName × Nat) := [(⟨"SandKeepers$Sheet", "faultOfCells", "(III)I"⟩, 4), (⟨"SandKeepers$Sheet", "faultOfRow", "(I)I"⟩, 4), (⟨"SandKeepers$Sheet", "hasCells", "(II)Z"⟩, 4), (⟨"SandKeepers", "failBy", "(I)I"⟩, 8), (⟨"SandKeepers$Town", "readText", "(LSandKeepers$Sheet;II)I"⟩, 9), (⟨"SandKeepers$Town", "takesCode", "(II)Z"⟩, 9), (⟨"SandKeepers$Town", "has", "(I)Z"⟩, 9), (⟨"SandKeepers$Town", "takesCodeOfHouse", "(III)Z"⟩, 9), (⟨"SandKeepers$Town", "becomeLike", "(LSandKeepers$Town;)V"⟩, 9), (⟨"SandKeepers$Town", "rateKeptBy", "(II)I"⟩, 9), (⟨"SandKeepers$Town", "setKeptBy", "(I)I"⟩, 9), (⟨"SandKeepers$Town", "setOfLiving", "()I"⟩, 9), (⟨"SandKeepers$Town", "isAlive", "(I)Z"⟩, 9), (⟨"SandKeepers$Town", "setOfStiff", "()I"⟩, 9), (⟨"SandKeepers", "actNow", "(II)I"⟩, 8), (⟨"SandKeepers$Town", "doAct", "(II)Z"⟩, 9)]
theorem lw_r1 : ∀ q ∈ lw_privs_1, lw_okq q := List.forall_mem_cons.mpr ⟨lw_p0, List.forall_mem_cons.mpr ⟨lw_p1, List.forall_mem_cons.mpr ⟨lw_p2, List.forall_mem_cons.mpr ⟨lw_p3, List.forall_mem_cons.mpr ⟨lw_p4, List.forall_mem_cons.mpr ⟨lw_p5, List.forall_mem_cons.mpr ⟨lw_p6, List.forall_mem_cons.mpr ⟨lw_p7, List.forall_mem_cons.mpr ⟨lw_p8, List.forall_mem_cons.mpr ⟨lw_p9, List.forall_mem_cons.mpr ⟨lw_p10, List.forall_mem_cons.mpr ⟨lw_p11, List.forall_mem_cons.mpr ⟨lw_p12, List.forall_mem_cons.mpr ⟨lw_p13, List.forall_mem_cons.mpr ⟨lw_p14, List.forall_mem_cons.mpr ⟨lw_p15, fun _ h => absurd h List.not_mem_nil⟩⟩⟩⟩⟩⟩⟩⟩⟩⟩⟩⟩⟩⟩⟩⟩
theorem lw_p16 : lw_okq (⟨"SandKeepers$Town", "isHand", "(I)Z"⟩, 9) := ⟨⟨by decide +kernel, by decide +kernel⟩, List.mem_of_getElem? (i := 20) (by decide +kernel), List.mem_of_getElem? (i := 275) (by decide +kernel), List.mem_of_getElem? (i := 276) (by decide +kernel)⟩
theorem lw_p17 : lw_okq (⟨"SandKeepers$Town", "passYear", "()V"⟩, 9) := ⟨⟨by decide +kernel, by decide +kernel⟩, List.mem_of_getElem? (i := 20) (by decide +kernel), List.mem_of_getElem? (i := 297) (by decide +kernel), List.mem_of_getElem? (i := 298) (by decide +kernel)⟩
theorem lw_p18 : lw_okq (⟨"SandKeepers$Town", "sandBehind", "(II)I"⟩, 9) := ⟨⟨by decide +kernel, by decide +kernel⟩, List.mem_of_getElem? (i := 20) (by decide +kernel), List.mem_of_getElem? (i := 301) (by decide +kernel), List.mem_of_getElem? (i := 302) (by decide +kernel)⟩
theorem lw_p19 : lw_okq (⟨"SandKeepers$Town", "lifeOf", "(I)I"⟩, 9) := ⟨⟨by decide +kernel, by decide +kernel⟩, List.mem_of_getElem? (i := 20) (by decide +kernel), List.mem_of_getElem? (i := 313) (by decide +kernel), List.mem_of_getElem? (i := 314) (by decide +kernel)⟩
theorem lw_p20 : lw_okq (⟨"SandKeepers$Town", "lifeKeptBy", "(II)I"⟩, 9) := ⟨⟨by decide +kernel, by decide +kernel⟩, List.mem_of_getElem? (i := 20) (by decide +kernel), List.mem_of_getElem? (i := 317) (by decide +kernel), List.mem_of_getElem? (i := 318) (by decide +kernel)⟩
theorem lw_p21 : lw_okq (⟨"SandKeepers", "refusalOfPairs", "(LSandKeepers$Sheet;II)I"⟩, 8) := ⟨⟨by decide +kernel, by decide +kernel⟩, List.mem_of_getElem? (i := 12) (by decide +kernel), List.mem_of_getElem? (i := 328) (by decide +kernel), List.mem_of_getElem? (i := 329) (by decide +kernel)⟩
theorem lw_p22 : lw_okq (⟨"SandKeepers$Tale", "play", "(LSandKeepers$Town;LSandKeepers$Sheet;II)I"⟩, 3) := ⟨⟨by decide +kernel, by decide +kernel⟩, List.mem_of_getElem? (i := 68) (by decide +kernel), List.mem_of_getElem? (i := 332) (by decide +kernel), List.mem_of_getElem? (i := 333) (by decide +kernel)⟩
theorem lw_p23 : lw_okq (⟨"SandKeepers$Tale", "playPair", "(II)Z"⟩, 3) := ⟨⟨by decide +kernel, by decide +kernel⟩, List.mem_of_getElem? (i := 68) (by decide +kernel), List.mem_of_getElem? (i := 337) (by decide +kernel), List.mem_of_getElem? (i := 338) (by decide +kernel)⟩
theorem lw_p24 : lw_okq (⟨"SandKeepers$Tale", "playYears", "(I)Z"⟩, 3) := ⟨⟨by decide +kernel, by decide +kernel⟩, List.mem_of_getElem? (i := 68) (by decide +kernel), List.mem_of_getElem? (i := 341) (by decide +kernel), List.mem_of_getElem? (i := 342) (by decide +kernel)⟩
theorem lw_p25 : lw_okq (⟨"SandKeepers$Tale", "noteDeaths", "(I)V"⟩, 3) := ⟨⟨by decide +kernel, by decide +kernel⟩, List.mem_of_getElem? (i := 68) (by decide +kernel), List.mem_of_getElem? (i := 347) (by decide +kernel), List.mem_of_getElem? (i := 348) (by decide +kernel)⟩
theorem lw_p26 : lw_okq (⟨"SandKeepers$Tale", "answerTo", "(I)I"⟩, 3) := ⟨⟨by decide +kernel, by decide +kernel⟩, List.mem_of_getElem? (i := 68) (by decide +kernel), List.mem_of_getElem? (i := 353) (by decide +kernel), List.mem_of_getElem? (i := 354) (by decide +kernel)⟩
theorem lw_p27 : lw_okq (⟨"SandKeepers$Town", "keepersUpTo", "(II)I"⟩, 9) := ⟨⟨by decide +kernel, by decide +kernel⟩, List.mem_of_getElem? (i := 20) (by decide +kernel), List.mem_of_getElem? (i := 363) (by decide +kernel), List.mem_of_getElem? (i := 364) (by decide +kernel)⟩
theorem lw_p28 : lw_okq (⟨"SandKeepers$Seating", "weigh", "(LSandKeepers$Town;)V"⟩, 1) := ⟨⟨by decide +kernel, by decide +kernel⟩, List.mem_of_getElem? (i := 86) (by decide +kernel), List.mem_of_getElem? (i := 375) (by decide +kernel), List.mem_of_getElem? (i := 376) (by decide +kernel)⟩
theorem lw_p29 : lw_okq (⟨"SandKeepers$Seating", "livesBy", "(LSandKeepers$Town;III)I"⟩, 1) := ⟨⟨by decide +kernel, by decide +kernel⟩, List.mem_of_getElem? (i := 86) (by decide +kernel), List.mem_of_getElem? (i := 380) (by decide +kernel), List.mem_of_getElem? (i := 381) (by decide +kernel)⟩
theorem lw_p30 : lw_okq (⟨"SandKeepers$Seating", "keeperFor", "(ILSandKeepers$Town;)I"⟩, 1) := ⟨⟨by decide +kernel, by decide +kernel⟩, List.mem_of_getElem? (i := 86) (by decide +kernel), List.mem_of_getElem? (i := 386) (by decide +kernel), List.mem_of_getElem? (i := 387) (by decide +kernel)⟩
theorem lw_p31 : lw_okq (⟨"SandKeepers$Seating", "firstOfMost", "(LSandKeepers$Town;II)I"⟩, 1) := ⟨⟨by decide +kernel, by decide +kernel⟩, List.mem_of_getElem? (i := 86) (by decide +kernel), List.mem_of_getElem? (i := 390) (by decide +kernel), List.mem_of_getElem? (i := 391) (by decide +kernel)⟩
def lw_privs_2 : List (MethodName × Nat) := [(⟨"SandKeepers$Town", "isHand", "(I)Z"⟩, 9), (⟨"SandKeepers$Town", "passYear", "()V"⟩, 9), (⟨"SandKeepers$Town", "sandBehind", "(II)I"⟩, 9), (⟨"SandKeepers$Town", "lifeOf", "(I)I"⟩, 9), (⟨"SandKeepers$Town", "lifeKeptBy", "(II)I"⟩, 9), (⟨"SandKeepers", "refusalOfPairs", "(LSandKeepers$Sheet;II)I"⟩, 8), (⟨"SandKeepers$Tale", "play", "(LSandKeepers$Town;LSandKeepers$Sheet;II)I"⟩, 3), (⟨"SandKeepers$Tale", "playPair", "(II)Z"⟩, 3), (⟨"SandKeepers$Tale", "playYears", "(I)Z"⟩, 3), (⟨"SandKeepers$Tale", "noteDeaths", "(I)V"⟩, 3), (⟨"SandKeepers$Tale", "answerTo", "(I)I"⟩, 3), (⟨"SandKeepers$Town", "keepersUpTo", "(II)I"⟩, 9), (⟨"SandKeepers$Seating", "weigh", "(LSandKeepers$Town;)V"⟩, 1), (⟨"SandKeepers$Seating", "livesBy", "(LSandKeepers$Town;III)I"⟩, 1), (⟨"SandKeepers$Seating", "keeperFor", "(ILSandKeepers$Town;)I"⟩, 1), (⟨"SandKeepers$Seating", "firstOfMost", "(LSandKeepers$Town;II)I"⟩, 1)]
theorem lw_r2 : ∀ q ∈ lw_privs_2, lw_okq q := List.forall_mem_cons.mpr ⟨lw_p16, List.forall_mem_cons.mpr ⟨lw_p17, List.forall_mem_cons.mpr ⟨lw_p18, List.forall_mem_cons.mpr ⟨lw_p19, List.forall_mem_cons.mpr ⟨lw_p20, List.forall_mem_cons.mpr ⟨lw_p21, List.forall_mem_cons.mpr ⟨lw_p22, List.forall_mem_cons.mpr ⟨lw_p23, List.forall_mem_cons.mpr ⟨lw_p24, List.forall_mem_cons.mpr ⟨lw_p25, List.forall_mem_cons.mpr ⟨lw_p26, List.forall_mem_cons.mpr ⟨lw_p27, List.forall_mem_cons.mpr ⟨lw_p28, List.forall_mem_cons.mpr ⟨lw_p29, List.forall_mem_cons.mpr ⟨lw_p30, List.forall_mem_cons.mpr ⟨lw_p31, fun _ h => absurd h List.not_mem_nil⟩⟩⟩⟩⟩⟩⟩⟩⟩⟩⟩⟩⟩⟩⟩⟩
theorem lw_p32 : lw_okq (⟨"SandKeepers$Town", "gainOfExchange", "(II)I"⟩, 9) := ⟨⟨by decide +kernel, by decide +kernel⟩, List.mem_of_getElem? (i := 20) (by decide +kernel), List.mem_of_getElem? (i := 398) (by decide +kernel), List.mem_of_getElem? (i := 399) (by decide +kernel)⟩
theorem lw_p33 : lw_okq (⟨"SandKeepers$Town", "runsAs", "(ILSandKeepers$Sheet;II)Z"⟩, 9) := ⟨⟨by decide +kernel, by decide +kernel⟩, List.mem_of_getElem? (i := 20) (by decide +kernel), List.mem_of_getElem? (i := 412) (by decide +kernel), List.mem_of_getElem? (i := 413) (by decide +kernel)⟩
theorem lw_p34 : lw_okq (⟨"SandKeepers$Readings", "add", "(III)I"⟩, 4) := ⟨⟨by decide +kernel, by decide +kernel⟩, List.mem_of_getElem? (i := 97) (by decide +kernel), List.mem_of_getElem? (i := 420) (by decide +kernel), List.mem_of_getElem? (i := 421) (by decide +kernel)⟩
theorem lw_p35 : lw_okq (⟨"SandKeepers$Readings", "setThatFits", "(LSandKeepers$Town;[III)I"⟩, 4) := ⟨⟨by decide +kernel, by decide +kernel⟩, List.mem_of_getElem? (i := 97) (by decide +kernel), List.mem_of_getElem? (i := 432) (by decide +kernel), List.mem_of_getElem? (i := 433) (by decide +kernel)⟩
theorem lw_p36 : lw_okq (⟨"SandKeepers$Readings", "areSo", "(LSandKeepers$Town;)Z"⟩, 4) := ⟨⟨by decide +kernel, by decide +kernel⟩, List.mem_of_getElem? (i := 97) (by decide +kernel), List.mem_of_getElem? (i := 436) (by decide +kernel), List.mem_of_getElem? (i := 437) (by decide +kernel)⟩
theorem lw_p37 : lw_okq (⟨"SandKeepers$Sheet", "begin", "(II)V"⟩, 4) := ⟨⟨by decide +kernel, by decide +kernel⟩, List.mem_of_getElem? (i := 118) (by decide +kernel), List.mem_of_getElem? (i := 462) (by decide +kernel), List.mem_of_getElem? (i := 463) (by decide +kernel)⟩
theorem lw_p38 : lw_okq (⟨"SandKeepers$Sheet", "cutToLane", "(I)I"⟩, 4) := ⟨⟨by decide +kernel, by decide +kernel⟩, List.mem_of_getElem? (i := 118) (by decide +kernel), List.mem_of_getElem? (i := 474) (by decide +kernel), List.mem_of_getElem? (i := 475) (by decide +kernel)⟩
theorem lw_p39 : lw_okq (⟨"SandKeepers", "tellAsPlain", "(I)I"⟩, 8) := ⟨⟨by decide +kernel, by decide +kernel⟩, List.mem_of_getElem? (i := 12) (by decide +kernel), List.mem_of_getElem? (i := 495) (by decide +kernel), List.mem_of_getElem? (i := 496) (by decide +kernel)⟩
theorem lw_p40 : lw_okq (⟨"SandKeepers", "leaveTrace", "(I)V"⟩, 8) := ⟨⟨by decide +kernel, by decide +kernel⟩, List.mem_of_getElem? (i := 12) (by decide +kernel), List.mem_of_getElem? (i := 499) (by decide +kernel), List.mem_of_getElem? (i := 500) (by decide +kernel)⟩
theorem lw_p41 : lw_okq (⟨"SandKeepers", "tellAsWide", "(I)I"⟩, 8) := ⟨⟨by decide +kernel, by decide +kernel⟩, List.mem_of_getElem? (i := 12) (by decide +kernel), List.mem_of_getElem? (i := 503) (by decide +kernel), List.mem_of_getElem? (i := 504) (by decide +kernel)⟩
theorem lw_p42 : lw_okq (⟨"SandKeepers", "tellAsCracked", "(I)I"⟩, 8) := ⟨⟨by decide +kernel, by decide +kernel⟩, List.mem_of_getElem? (i := 12) (by decide +kernel), List.mem_of_getElem? (i := 507) (by decide +kernel), List.mem_of_getElem? (i := 508) (by decide +kernel)⟩
theorem lw_p43 : lw_okq (⟨"SandKeepersModel", "refused", "(I)I"⟩, 32) := ⟨⟨by decide +kernel, by decide +kernel⟩, List.mem_of_getElem? (i := 531) (by decide +kernel), List.mem_of_getElem? (i := 645) (by decide +kernel), List.mem_of_getElem? (i := 646) (by decide +kernel)⟩
theorem lw_p44 : lw_okq (⟨"SandKeepersModel", "cellsBarred", "(IIIJ)I"⟩, 32) := ⟨⟨by decide +kernel, by decide +kernel⟩, List.mem_of_getElem? (i := 531) (by decide +kernel), List.mem_of_getElem? (i := 650) (by decide +kernel), List.mem_of_getElem? (i := 651) (by decide +kernel)⟩
theorem lw_p45 : lw_okq (⟨"SandKeepersModel", "failed", "(I)I"⟩, 32) := ⟨⟨by decide +kernel, by decide +kernel⟩, List.mem_of_getElem? (i := 531) (by decide +kernel), List.mem_of_getElem? (i := 654) (by decide +kernel), List.mem_of_getElem? (i := 655) (by decide +kernel)⟩
theorem lw_p46 : lw_okq (⟨"SandKeepersModel", "readsSee", "(II)Z"⟩, 32) := ⟨⟨by decide +kernel, by decide +kernel⟩, List.mem_of_getElem? (i := 531) (by decide +kernel), List.mem_of_getElem? (i := 661) (by decide +kernel), List.mem_of_getElem? (i := 662) (by decide +kernel)⟩
theorem lw_p47 : lw_okq (⟨"SandKeepersModel", "codeAt", "(II)I"⟩, 32) := ⟨⟨by decide +kernel, by decide +kernel⟩, List.mem_of_getElem? (i := 531) (by decide +kernel), List.mem_of_getElem? (i := 665) (by decide +kernel), List.mem_of_getElem? (i := 666) (by decide +kernel)⟩
def lw_privs_3 : List (MethodName × Nat) := [(⟨"SandKeepers$Town", "gainOfExchange", "(II)I"⟩, 9), (⟨"SandKeepers$Town", "runsAs", "(ILSandKeepers$Sheet;II)Z"⟩, 9), (⟨"SandKeepers$Readings", "add", "(III)I"⟩, 4), (⟨"SandKeepers$Readings", "setThatFits", "(LSandKeepers$Town;[III)I"⟩, 4), (⟨"SandKeepers$Readings", "areSo", "(LSandKeepers$Town;)Z"⟩, 4), (⟨"SandKeepers$Sheet", "begin", "(II)V"⟩, 4), (⟨"SandKeepers$Sheet", "cutToLane", "(I)I"⟩, 4), (⟨"SandKeepers", "tellAsPlain", "(I)I"⟩, 8), (⟨"SandKeepers", "leaveTrace", "(I)V"⟩, 8), (⟨"SandKeepers", "tellAsWide", "(I)I"⟩, 8), (⟨"SandKeepers", "tellAsCracked", "(I)I"⟩, 8), (⟨"SandKeepersModel", "refused", "(I)I"⟩, 32), (⟨"SandKeepersModel", "cellsBarred", "(IIIJ)I"⟩, 32), (⟨"SandKeepersModel", "failed", "(I)I"⟩, 32), (⟨"SandKeepersModel", "readsSee", "(II)Z"⟩, 32), (⟨"SandKeepersModel", "codeAt", "(II)I"⟩, 32)]
theorem lw_r3 : ∀ q ∈ lw_privs_3, lw_okq q := List.forall_mem_cons.mpr ⟨lw_p32, List.forall_mem_cons.mpr ⟨lw_p33, List.forall_mem_cons.mpr ⟨lw_p34, List.forall_mem_cons.mpr ⟨lw_p35, List.forall_mem_cons.mpr ⟨lw_p36, List.forall_mem_cons.mpr ⟨lw_p37, List.forall_mem_cons.mpr ⟨lw_p38, List.forall_mem_cons.mpr ⟨lw_p39, List.forall_mem_cons.mpr ⟨lw_p40, List.forall_mem_cons.mpr ⟨lw_p41, List.forall_mem_cons.mpr ⟨lw_p42, List.forall_mem_cons.mpr ⟨lw_p43, List.forall_mem_cons.mpr ⟨lw_p44, List.forall_mem_cons.mpr ⟨lw_p45, List.forall_mem_cons.mpr ⟨lw_p46, List.forall_mem_cons.mpr ⟨lw_p47, fun _ h => absurd h List.not_mem_nil⟩⟩⟩⟩⟩⟩⟩⟩⟩⟩⟩⟩⟩⟩⟩⟩
theorem lw_p48 : lw_okq (⟨"SandKeepersModel", "figure", "(IIIII)I"⟩, 32) := ⟨⟨by decide +kernel, by decide +kernel⟩, List.mem_of_getElem? (i := 531) (by decide +kernel), List.mem_of_getElem? (i := 669) (by decide +kernel), List.mem_of_getElem? (i := 670) (by decide +kernel)⟩
theorem lw_p49 : lw_okq (⟨"SandKeepersModel", "readsHouse", "(III)Z"⟩, 32) := ⟨⟨by decide +kernel, by decide +kernel⟩, List.mem_of_getElem? (i := 531) (by decide +kernel), List.mem_of_getElem? (i := 673) (by decide +kernel), List.mem_of_getElem? (i := 674) (by decide +kernel)⟩
theorem lw_p50 : lw_okq (⟨"SandKeepersModel", "noHouse", "(I)Z"⟩, 32) := ⟨⟨by decide +kernel, by decide +kernel⟩, List.mem_of_getElem? (i := 531) (by decide +kernel), List.mem_of_getElem? (i := 681) (by decide +kernel), List.mem_of_getElem? (i := 682) (by decide +kernel)⟩
theorem lw_p51 : lw_okq (⟨"SandKeepersModel", "rateOf", "(I)I"⟩, 32) := ⟨⟨by decide +kernel, by decide +kernel⟩, List.mem_of_getElem? (i := 531) (by decide +kernel), List.mem_of_getElem? (i := 685) (by decide +kernel), List.mem_of_getElem? (i := 686) (by decide +kernel)⟩
theorem lw_p52 : lw_okq (⟨"SandKeepersModel", "aliveNow", "()I"⟩, 32) := ⟨⟨by decide +kernel, by decide +kernel⟩, List.mem_of_getElem? (i := 531) (by decide +kernel), List.mem_of_getElem? (i := 710) (by decide +kernel), List.mem_of_getElem? (i := 711) (by decide +kernel)⟩
theorem lw_p53 : lw_okq (⟨"SandKeepersModel", "isAlive", "(I)Z"⟩, 32) := ⟨⟨by decide +kernel, by decide +kernel⟩, List.mem_of_getElem? (i := 531) (by decide +kernel), List.mem_of_getElem? (i := 714) (by decide +kernel), List.mem_of_getElem? (i := 715) (by decide +kernel)⟩
theorem lw_p54 : lw_okq (⟨"SandKeepersModel", "done", "(II)I"⟩, 32) := ⟨⟨by decide +kernel, by decide +kernel⟩, List.mem_of_getElem? (i := 531) (by decide +kernel), List.mem_of_getElem? (i := 722) (by decide +kernel), List.mem_of_getElem? (i := 723) (by decide +kernel)⟩
theorem lw_p55 : lw_okq (⟨"SandKeepersModel", "can", "(II)Z"⟩, 32) := ⟨⟨by decide +kernel, by decide +kernel⟩, List.mem_of_getElem? (i := 531) (by decide +kernel), List.mem_of_getElem? (i := 726) (by decide +kernel), List.mem_of_getElem? (i := 727) (by decide +kernel)⟩
theorem lw_p56 : lw_okq (⟨"SandKeepersModel", "oneYear", "()V"⟩, 32) := ⟨⟨by decide +kernel, by decide +kernel⟩, List.mem_of_getElem? (i := 531) (by decide +kernel), List.mem_of_getElem? (i := 749) (by decide +kernel), List.mem_of_getElem? (i := 750) (by decide +kernel)⟩
theorem lw_p57 : lw_okq (⟨"SandKeepersModel", "sandBehind", "(II)I"⟩, 32) := ⟨⟨by decide +kernel, by decide +kernel⟩, List.mem_of_getElem? (i := 531) (by decide +kernel), List.mem_of_getElem? (i := 753) (by decide +kernel), List.mem_of_getElem? (i := 754) (by decide +kernel)⟩
theorem lw_p58 : lw_okq (⟨"SandKeepersModel", "lifeOf", "(I)I"⟩, 32) := ⟨⟨by decide +kernel, by decide +kernel⟩, List.mem_of_getElem? (i := 531) (by decide +kernel), List.mem_of_getElem? (i := 761) (by decide +kernel), List.mem_of_getElem? (i := 762) (by decide +kernel)⟩
theorem lw_p59 : lw_okq (⟨"SandKeepersModel", "pairsBarred", "(II)I"⟩, 32) := ⟨⟨by decide +kernel, by decide +kernel⟩, List.mem_of_getElem? (i := 531) (by decide +kernel), List.mem_of_getElem? (i := 773) (by decide +kernel), List.mem_of_getElem? (i := 774) (by decide +kernel)⟩
theorem lw_p60 : lw_okq (⟨"SandKeepersModel", "chronicleBy", "(III)I"⟩, 32) := ⟨⟨by decide +kernel, by decide +kernel⟩, List.mem_of_getElem? (i := 531) (by decide +kernel), List.mem_of_getElem? (i := 777) (by decide +kernel), List.mem_of_getElem? (i := 778) (by decide +kernel)⟩
theorem lw_p61 : lw_okq (⟨"SandKeepersModel", "didPair", "(II)Z"⟩, 32) := ⟨⟨by decide +kernel, by decide +kernel⟩, List.mem_of_getElem? (i := 531) (by decide +kernel), List.mem_of_getElem? (i := 781) (by decide +kernel), List.mem_of_getElem? (i := 782) (by decide +kernel)⟩
theorem lw_p62 : lw_okq (⟨"SandKeepersModel", "whoDied", "()V"⟩, 32) := ⟨⟨by decide +kernel, by decide +kernel⟩, List.mem_of_getElem? (i := 531) (by decide +kernel), List.mem_of_getElem? (i := 785) (by decide +kernel), List.mem_of_getElem? (i := 786) (by decide +kernel)⟩
theorem lw_p63 : lw_okq (⟨"SandKeepersModel", "bestLives", "()I"⟩, 32) := ⟨⟨by decide +kernel, by decide +kernel⟩, List.mem_of_getElem? (i := 531) (by decide +kernel), List.mem_of_getElem? (i := 804) (by decide +kernel), List.mem_of_getElem? (i := 805) (by decide +kernel)⟩
def lw_privs_4 : List (MethodName × Nat) := [(⟨"SandKeepersModel", "figure", "(IIIII)I"⟩, 32), (⟨"SandKeepersModel", "readsHouse", "(III)Z"⟩, 32), (⟨"SandKeepersModel", "noHouse", "(I)Z"⟩, 32), (⟨"SandKeepersModel", "rateOf", "(I)I"⟩, 32), (⟨"SandKeepersModel", "aliveNow", "()I"⟩, 32), (⟨"SandKeepersModel", "isAlive", "(I)Z"⟩, 32), (⟨"SandKeepersModel", "done", "(II)I"⟩, 32), (⟨"SandKeepersModel", "can", "(II)Z"⟩, 32), (⟨"SandKeepersModel", "oneYear", "()V"⟩, 32), (⟨"SandKeepersModel", "sandBehind", "(II)I"⟩, 32), (⟨"SandKeepersModel", "lifeOf", "(I)I"⟩, 32), (⟨"SandKeepersModel", "pairsBarred", "(II)I"⟩, 32), (⟨"SandKeepersModel", "chronicleBy", "(III)I"⟩, 32), (⟨"SandKeepersModel", "didPair", "(II)Z"⟩, 32), (⟨"SandKeepersModel", "whoDied", "()V"⟩, 32), (⟨"SandKeepersModel", "bestLives", "()I"⟩, 32)]
theorem lw_r4 : ∀ q ∈ lw_privs_4, lw_okq q := List.forall_mem_cons.mpr ⟨lw_p48, List.forall_mem_cons.mpr ⟨lw_p49, List.forall_mem_cons.mpr ⟨lw_p50, List.forall_mem_cons.mpr ⟨lw_p51, List.forall_mem_cons.mpr ⟨lw_p52, List.forall_mem_cons.mpr ⟨lw_p53, List.forall_mem_cons.mpr ⟨lw_p54, List.forall_mem_cons.mpr ⟨lw_p55, List.forall_mem_cons.mpr ⟨lw_p56, List.forall_mem_cons.mpr ⟨lw_p57, List.forall_mem_cons.mpr ⟨lw_p58, List.forall_mem_cons.mpr ⟨lw_p59, List.forall_mem_cons.mpr ⟨lw_p60, List.forall_mem_cons.mpr ⟨lw_p61, List.forall_mem_cons.mpr ⟨lw_p62, List.forall_mem_cons.mpr ⟨lw_p63, fun _ h => absurd h List.not_mem_nil⟩⟩⟩⟩⟩⟩⟩⟩⟩⟩⟩⟩⟩⟩⟩⟩
theorem lw_p64 : lw_okq (⟨"SandKeepersModel", "noneOwn", "()Z"⟩, 32) := ⟨⟨by decide +kernel, by decide +kernel⟩, List.mem_of_getElem? (i := 531) (by decide +kernel), List.mem_of_getElem? (i := 808) (by decide +kernel), List.mem_of_getElem? (i := 809) (by decide +kernel)⟩
theorem lw_p65 : lw_okq (⟨"SandKeepersModel", "lives", "()I"⟩, 32) := ⟨⟨by decide +kernel, by decide +kernel⟩, List.mem_of_getElem? (i := 531) (by decide +kernel), List.mem_of_getElem? (i := 812) (by decide +kernel), List.mem_of_getElem? (i := 813) (by decide +kernel)⟩
theorem lw_p66 : lw_okq (⟨"SandKeepersModel", "nextRow", "()Z"⟩, 32) := ⟨⟨by decide +kernel, by decide +kernel⟩, List.mem_of_getElem? (i := 531) (by decide +kernel), List.mem_of_getElem? (i := 816) (by decide +kernel), List.mem_of_getElem? (i := 817) (by decide +kernel)⟩
theorem lw_p67 : lw_okq (⟨"SandKeepersModel", "exchange", "(II)V"⟩, 32) := ⟨⟨by decide +kernel, by decide +kernel⟩, List.mem_of_getElem? (i := 531) (by decide +kernel), List.mem_of_getElem? (i := 820) (by decide +kernel), List.mem_of_getElem? (i := 821) (by decide +kernel)⟩
theorem lw_p68 : lw_okq (⟨"SandKeepersModel", "areSo", "()Z"⟩, 32) := ⟨⟨by decide +kernel, by decide +kernel⟩, List.mem_of_getElem? (i := 531) (by decide +kernel), List.mem_of_getElem? (i := 849) (by decide +kernel), List.mem_of_getElem? (i := 850) (by decide +kernel)⟩
theorem lw_p69 : lw_okq (⟨"SandKeepersModel", "noCell", "(II)I"⟩, 32) := ⟨⟨by decide +kernel, by decide +kernel⟩, List.mem_of_getElem? (i := 531) (by decide +kernel), List.mem_of_getElem? (i := 884) (by decide +kernel), List.mem_of_getElem? (i := 885) (by decide +kernel)⟩
theorem lw_p70 : lw_okq (⟨"SandKeepersModel", "failedLong", "(I)J"⟩, 32) := ⟨⟨by decide +kernel, by decide +kernel⟩, List.mem_of_getElem? (i := 531) (by decide +kernel), List.mem_of_getElem? (i := 892) (by decide +kernel), List.mem_of_getElem? (i := 893) (by decide +kernel)⟩
theorem lw_p71 : lw_okq (⟨"SandKeepersModel", "traced", "(I)V"⟩, 32) := ⟨⟨by decide +kernel, by decide +kernel⟩, List.mem_of_getElem? (i := 531) (by decide +kernel), List.mem_of_getElem? (i := 904) (by decide +kernel), List.mem_of_getElem? (i := 905) (by decide +kernel)⟩
def lw_privs_5 : List (MethodName × Nat) := [(⟨"SandKeepersModel", "noneOwn", "()Z"⟩, 32), (⟨"SandKeepersModel", "lives", "()I"⟩, 32), (⟨"SandKeepersModel", "nextRow", "()Z"⟩, 32), (⟨"SandKeepersModel", "exchange", "(II)V"⟩, 32), (⟨"SandKeepersModel", "areSo", "()Z"⟩, 32), (⟨"SandKeepersModel", "noCell", "(II)I"⟩, 32), (⟨"SandKeepersModel", "failedLong", "(I)J"⟩, 32), (⟨"SandKeepersModel", "traced", "(I)V"⟩, 32)]
theorem lw_r5 : ∀ q ∈ lw_privs_5, lw_okq q := List.forall_mem_cons.mpr ⟨lw_p64, List.forall_mem_cons.mpr ⟨lw_p65, List.forall_mem_cons.mpr ⟨lw_p66, List.forall_mem_cons.mpr ⟨lw_p67, List.forall_mem_cons.mpr ⟨lw_p68, List.forall_mem_cons.mpr ⟨lw_p69, List.forall_mem_cons.mpr ⟨lw_p70, List.forall_mem_cons.mpr ⟨lw_p71, fun _ h => absurd h List.not_mem_nil⟩⟩⟩⟩⟩⟩⟩⟩
def lw_privs : List (MethodName × Nat) := lw_privs_1 ++ (lw_privs_2 ++ (lw_privs_3 ++ (lw_privs_4 ++ (lw_privs_5))))
def lw_tbl : List Cond := k2_sels lw_privs ++ tables_1
theorem lw_privs_ok : ∀ q ∈ lw_privs, lw_okq q := by
  show ∀ q ∈ lw_privs_1 ++ (lw_privs_2 ++ (lw_privs_3 ++ (lw_privs_4 ++ (lw_privs_5)))), lw_okq q
  exact List.forall_mem_append.mpr ⟨lw_r1, List.forall_mem_append.mpr ⟨lw_r2, List.forall_mem_append.mpr ⟨lw_r3, List.forall_mem_append.mpr ⟨lw_r4, lw_r5⟩⟩⟩⟩
end
section
def RX0 : String := "SandKeepers$Readings"
def TX0 : u_T := fun k => match k with
  | 0 => ("SandKeepers$Readings", "glass", "[I", true)
  | 1 => ("SandKeepers$Readings", "years", "[I", true)
  | 2 => ("SandKeepers$Readings", "left", "[I", true)
  | _ => ("SandKeepers$Readings", "count", "I", false)
def tyX0 : Nat → FieldType := fun k => match k with
  | 0 => .array .int
  | 1 => .array .int
  | 2 => .array .int
  | _ => .int
abbrev wsX00 : List Cond := u_ws RX0 TX0 4
theorem nmX0 : ∀ a, a < 4 → ∀ b, b < 4 → a ≠ b → (TX0 a).2.1 ≠ (TX0 b).2.1 := by decide +kernel
theorem tyX0_ok : ∀ k, k < 4 → parseFieldDescriptor (TX0 k).2.2.1 = some (tyX0 k) := by decide +kernel
abbrev cX0_init : ByteArray := prog_2_method_1_code
def yX0_init : MethodName := ⟨RX0, "<init>", "()V"⟩
abbrev cX0_add : ByteArray := prog_2_method_2_code
def yX0_add : MethodName := ⟨RX0, "add", "(III)I"⟩
abbrev cX0_areSo : ByteArray := prog_2_method_3_code
def yX0_areSo : MethodName := ⟨RX0, "areSo", "(LSandKeepers$Town;)Z"⟩
abbrev cX0_setThatFits : ByteArray := prog_2_method_4_code
def yX0_setThatFits : MethodName := ⟨RX0, "setThatFits", "(LSandKeepers$Town;[III)I"⟩
def RX1 : String := "SandKeepers$Seating"
def TX1 : u_T := fun k => match k with
  | _ => ("SandKeepers$Seating", "most", "[I", true)
def tyX1 : Nat → FieldType := fun k => match k with
  | _ => .array .int
abbrev wsX10 : List Cond := u_ws RX1 TX1 1
theorem nmX1 : ∀ a, a < 1 → ∀ b, b < 1 → a ≠ b → (TX1 a).2.1 ≠ (TX1 b).2.1 := by decide +kernel
theorem tyX1_ok : ∀ k, k < 1 → parseFieldDescriptor (TX1 k).2.2.1 = some (tyX1 k) := by decide +kernel
abbrev cX1_init : ByteArray := prog_3_method_1_code
def yX1_init : MethodName := ⟨RX1, "<init>", "()V"⟩
abbrev cX1_weigh : ByteArray := prog_3_method_2_code
def yX1_weigh : MethodName := ⟨RX1, "weigh", "(LSandKeepers$Town;)V"⟩
abbrev cX1_livesBy : ByteArray := prog_3_method_3_code
def yX1_livesBy : MethodName := ⟨RX1, "livesBy", "(LSandKeepers$Town;III)I"⟩
abbrev cX1_keeperFor : ByteArray := prog_3_method_4_code
def yX1_keeperFor : MethodName := ⟨RX1, "keeperFor", "(ILSandKeepers$Town;)I"⟩
abbrev cX1_firstOfMost : ByteArray := prog_3_method_5_code
def yX1_firstOfMost : MethodName := ⟨RX1, "firstOfMost", "(LSandKeepers$Town;II)I"⟩
def RX2 : String := "SandKeepers$Sheet"
def TX2 : u_T := fun k => match k with
  | 0 => ("SandKeepers$Sheet", "cells", "[I", true)
  | 1 => ("SandKeepers$Sheet", "hasRow", "Z", false)
  | 2 => ("SandKeepers$Sheet", "lane", "I", false)
  | _ => ("SandKeepers$Sheet", "size", "I", false)
def tyX2 : Nat → FieldType := fun k => match k with
  | 0 => .array .int
  | 1 => .boolean
  | 2 => .int
  | _ => .int
abbrev wsX20 : List Cond := u_ws RX2 TX2 4
theorem nmX2 : ∀ a, a < 4 → ∀ b, b < 4 → a ≠ b → (TX2 a).2.1 ≠ (TX2 b).2.1 := by decide +kernel
theorem tyX2_ok : ∀ k, k < 4 → parseFieldDescriptor (TX2 k).2.2.1 = some (tyX2 k) := by decide +kernel
abbrev cX2_init : ByteArray := prog_4_method_1_code
def yX2_init : MethodName := ⟨RX2, "<init>", "()V"⟩
abbrev cX2_begin : ByteArray := prog_4_method_2_code
def yX2_begin : MethodName := ⟨RX2, "begin", "(II)V"⟩
abbrev cX2_cutToLane : ByteArray := prog_4_method_3_code
def yX2_cutToLane : MethodName := ⟨RX2, "cutToLane", "(I)I"⟩
abbrev cX2_hasCells : ByteArray := prog_4_method_4_code
def yX2_hasCells : MethodName := ⟨RX2, "hasCells", "(II)Z"⟩
abbrev cX2_faultOfRow : ByteArray := prog_4_method_5_code
def yX2_faultOfRow : MethodName := ⟨RX2, "faultOfRow", "(I)I"⟩
abbrev cX2_faultOfCells : ByteArray := prog_4_method_6_code
def yX2_faultOfCells : MethodName := ⟨RX2, "faultOfCells", "(III)I"⟩
def RX3 : String := "SandKeepers$Tale"
def TX3 : u_T := fun k => match k with
  | 0 => ("SandKeepers$Tale", "played", "LSandKeepers$Town;", true)
  | 1 => ("SandKeepers$Tale", "diedBehind", "[I", true)
  | _ => ("SandKeepers$Tale", "years", "I", false)
def tyX3 : Nat → FieldType := fun k => match k with
  | 0 => .object "SandKeepers$Town"
  | 1 => .array .int
  | _ => .int
abbrev wsX30 : List Cond := u_ws RX3 TX3 3
theorem nmX3 : ∀ a, a < 3 → ∀ b, b < 3 → a ≠ b → (TX3 a).2.1 ≠ (TX3 b).2.1 := by decide +kernel
theorem tyX3_ok : ∀ k, k < 3 → parseFieldDescriptor (TX3 k).2.2.1 = some (tyX3 k) := by decide +kernel
abbrev cX3_init : ByteArray := prog_5_method_1_code
def yX3_init : MethodName := ⟨RX3, "<init>", "()V"⟩
abbrev cX3_play : ByteArray := prog_5_method_2_code
def yX3_play : MethodName := ⟨RX3, "play", "(LSandKeepers$Town;LSandKeepers$Sheet;II)I"⟩
abbrev cX3_playPair : ByteArray := prog_5_method_3_code
def yX3_playPair : MethodName := ⟨RX3, "playPair", "(II)Z"⟩
abbrev cX3_playYears : ByteArray := prog_5_method_4_code
def yX3_playYears : MethodName := ⟨RX3, "playYears", "(I)Z"⟩
abbrev cX3_noteDeaths : ByteArray := prog_5_method_5_code
def yX3_noteDeaths : MethodName := ⟨RX3, "noteDeaths", "(I)V"⟩
abbrev cX3_answerTo : ByteArray := prog_5_method_6_code
def yX3_answerTo : MethodName := ⟨RX3, "answerTo", "(I)I"⟩
def RX4 : String := "SandKeepers$Town"
def TX4 : u_T := fun k => match k with
  | 0 => ("SandKeepers$Town", "kind", "[I", true)
  | 1 => ("SandKeepers$Town", "sand", "[I", true)
  | 2 => ("SandKeepers$Town", "full", "[I", true)
  | 3 => ("SandKeepers$Town", "neck", "[I", true)
  | 4 => ("SandKeepers$Town", "heat", "[I", true)
  | 5 => ("SandKeepers$Town", "keeper", "[I", true)
  | 6 => ("SandKeepers$Town", "laid", "[Z", true)
  | 7 => ("SandKeepers$Town", "houses", "I", false)
  | _ => ("SandKeepers$Town", "year", "I", false)
def tyX4 : Nat → FieldType := fun k => match k with
  | 0 => .array .int
  | 1 => .array .int
  | 2 => .array .int
  | 3 => .array .int
  | 4 => .array .int
  | 5 => .array .int
  | 6 => .array .boolean
  | 7 => .int
  | _ => .int
abbrev wsX40 : List Cond := u_ws RX4 TX4 9
theorem nmX4 : ∀ a, a < 9 → ∀ b, b < 9 → a ≠ b → (TX4 a).2.1 ≠ (TX4 b).2.1 := by decide +kernel
theorem tyX4_ok : ∀ k, k < 9 → parseFieldDescriptor (TX4 k).2.2.1 = some (tyX4 k) := by decide +kernel
abbrev cX4_init : ByteArray := prog_6_method_1_code
def yX4_init : MethodName := ⟨RX4, "<init>", "()V"⟩
abbrev cX4_has : ByteArray := prog_6_method_2_code
def yX4_has : MethodName := ⟨RX4, "has", "(I)Z"⟩
abbrev cX4_becomeLike : ByteArray := prog_6_method_3_code
def yX4_becomeLike : MethodName := ⟨RX4, "becomeLike", "(LSandKeepers$Town;)V"⟩
abbrev cX4_readText : ByteArray := prog_6_method_4_code
def yX4_readText : MethodName := ⟨RX4, "readText", "(LSandKeepers$Sheet;II)I"⟩
abbrev cX4_takesCode : ByteArray := prog_6_method_5_code
def yX4_takesCode : MethodName := ⟨RX4, "takesCode", "(II)Z"⟩
abbrev cX4_takesCodeOfHouse : ByteArray := prog_6_method_6_code
def yX4_takesCodeOfHouse : MethodName := ⟨RX4, "takesCodeOfHouse", "(III)Z"⟩
abbrev cX4_digitOf : ByteArray := prog_6_method_7_code
def yX4_digitOf : MethodName := ⟨RX4, "digitOf", "(I)I"⟩
abbrev cX4_kindOf : ByteArray := prog_6_method_8_code
def yX4_kindOf : MethodName := ⟨RX4, "kindOf", "(I)I"⟩
abbrev cX4_rateKeptBy : ByteArray := prog_6_method_9_code
def yX4_rateKeptBy : MethodName := ⟨RX4, "rateKeptBy", "(II)I"⟩
abbrev cX4_isAlive : ByteArray := prog_6_method_10_code
def yX4_isAlive : MethodName := ⟨RX4, "isAlive", "(I)Z"⟩
abbrev cX4_isHand : ByteArray := prog_6_method_11_code
def yX4_isHand : MethodName := ⟨RX4, "isHand", "(I)Z"⟩
abbrev cX4_setOfLiving : ByteArray := prog_6_method_12_code
def yX4_setOfLiving : MethodName := ⟨RX4, "setOfLiving", "()I"⟩
abbrev cX4_setOfStiff : ByteArray := prog_6_method_13_code
def yX4_setOfStiff : MethodName := ⟨RX4, "setOfStiff", "()I"⟩
abbrev cX4_setKeptBy : ByteArray := prog_6_method_14_code
def yX4_setKeptBy : MethodName := ⟨RX4, "setKeptBy", "(I)I"⟩
abbrev cX4_sandBehind : ByteArray := prog_6_method_15_code
def yX4_sandBehind : MethodName := ⟨RX4, "sandBehind", "(II)I"⟩
abbrev cX4_passYear : ByteArray := prog_6_method_16_code
def yX4_passYear : MethodName := ⟨RX4, "passYear", "()V"⟩
abbrev cX4_doAct : ByteArray := prog_6_method_17_code
def yX4_doAct : MethodName := ⟨RX4, "doAct", "(II)Z"⟩
abbrev cX4_lifeOf : ByteArray := prog_6_method_18_code
def yX4_lifeOf : MethodName := ⟨RX4, "lifeOf", "(I)I"⟩
abbrev cX4_lifeKeptBy : ByteArray := prog_6_method_19_code
def yX4_lifeKeptBy : MethodName := ⟨RX4, "lifeKeptBy", "(II)I"⟩
abbrev cX4_gainOfExchange : ByteArray := prog_6_method_20_code
def yX4_gainOfExchange : MethodName := ⟨RX4, "gainOfExchange", "(II)I"⟩
abbrev cX4_keepersUpTo : ByteArray := prog_6_method_21_code
def yX4_keepersUpTo : MethodName := ⟨RX4, "keepersUpTo", "(II)I"⟩
abbrev cX4_runsAs : ByteArray := prog_6_method_22_code
def yX4_runsAs : MethodName := ⟨RX4, "runsAs", "(ILSandKeepers$Sheet;II)Z"⟩
def RX5 : String := "SandKeepers"
def TX5 : u_T := fun k => match k with
  | 0 => ("SandKeepers", "town", "LSandKeepers$Town;", true)
  | 1 => ("SandKeepers", "draft", "LSandKeepers$Town;", true)
  | 2 => ("SandKeepers", "tale", "LSandKeepers$Tale;", true)
  | 3 => ("SandKeepers", "seating", "LSandKeepers$Seating;", true)
  | 4 => ("SandKeepers", "readings", "LSandKeepers$Readings;", true)
  | 5 => ("SandKeepers", "sheets", "[LSandKeepers$Sheet;", true)
  | 6 => ("SandKeepers", "lastTrace", "I", false)
  | _ => ("SandKeepers", "lastFault", "I", false)
def tyX5 : Nat → FieldType := fun k => match k with
  | 0 => .object "SandKeepers$Town"
  | 1 => .object "SandKeepers$Town"
  | 2 => .object "SandKeepers$Tale"
  | 3 => .object "SandKeepers$Seating"
  | 4 => .object "SandKeepers$Readings"
  | 5 => .array (.object "SandKeepers$Sheet")
  | 6 => .int
  | _ => .int
abbrev wsX50 : List Cond := u_ws RX5 TX5 8
theorem nmX5 : ∀ a, a < 8 → ∀ b, b < 8 → a ≠ b → (TX5 a).2.1 ≠ (TX5 b).2.1 := by decide +kernel
theorem tyX5_ok : ∀ k, k < 8 → parseFieldDescriptor (TX5 k).2.2.1 = some (tyX5 k) := by decide +kernel
abbrev cX5_init : ByteArray := prog_1_method_1_code
def yX5_init : MethodName := ⟨RX5, "<init>", "()V"⟩
abbrev cX5_see : ByteArray := prog_1_method_2_code
def yX5_see : MethodName := ⟨RX5, "see", "(IIII)I"⟩
abbrev cX5_ofGlass : ByteArray := prog_1_method_3_code
def yX5_ofGlass : MethodName := ⟨RX5, "ofGlass", "(II)I"⟩
abbrev cX5_keeps : ByteArray := prog_1_method_4_code
def yX5_keeps : MethodName := ⟨RX5, "keeps", "(I)I"⟩
abbrev cX5_chafe : ByteArray := prog_1_method_5_code
def yX5_chafe : MethodName := ⟨RX5, "chafe", "(II)I"⟩
abbrev cX5_warm : ByteArray := prog_1_method_6_code
def yX5_warm : MethodName := ⟨RX5, "warm", "(II)I"⟩
abbrev cX5_give : ByteArray := prog_1_method_7_code
def yX5_give : MethodName := ⟨RX5, "give", "(II)I"⟩
abbrev cX5_alive : ByteArray := prog_1_method_8_code
def yX5_alive : MethodName := ⟨RX5, "alive", "(I)I"⟩
abbrev cX5_lay : ByteArray := prog_1_method_9_code
def yX5_lay : MethodName := ⟨RX5, "lay", "(I)I"⟩
abbrev cX5_raise : ByteArray := prog_1_method_10_code
def yX5_raise : MethodName := ⟨RX5, "raise", "(I)I"⟩
abbrev cX5_turn : ByteArray := prog_1_method_11_code
def yX5_turn : MethodName := ⟨RX5, "turn", "(I)I"⟩
abbrev cX5_go : ByteArray := prog_1_method_12_code
def yX5_go : MethodName := ⟨RX5, "go", "(I)I"⟩
abbrev cX5_life : ByteArray := prog_1_method_13_code
def yX5_life : MethodName := ⟨RX5, "life", "(I)I"⟩
abbrev cX5_chronicle : ByteArray := prog_1_method_14_code
def yX5_chronicle : MethodName := ⟨RX5, "chronicle", "(IIIII)I"⟩
abbrev cX5_ring : ByteArray := prog_1_method_15_code
def yX5_ring : MethodName := ⟨RX5, "ring", "(I)I"⟩
abbrev cX5_reach : ByteArray := prog_1_method_16_code
def yX5_reach : MethodName := ⟨RX5, "reach", "(II)I"⟩
abbrev cX5_keeping : ByteArray := prog_1_method_17_code
def yX5_keeping : MethodName := ⟨RX5, "keeping", "(I)I"⟩
abbrev cX5_trade : ByteArray := prog_1_method_18_code
def yX5_trade : MethodName := ⟨RX5, "trade", "(I)I"⟩
abbrev cX5_first : ByteArray := prog_1_method_19_code
def yX5_first : MethodName := ⟨RX5, "first", "(I)I"⟩
abbrev cX5_found : ByteArray := prog_1_method_20_code
def yX5_found : MethodName := ⟨RX5, "found", "(IIII)I"⟩
abbrev cX5_reading : ByteArray := prog_1_method_21_code
def yX5_reading : MethodName := ⟨RX5, "reading", "(III)I"⟩
abbrev cX5_back : ByteArray := prog_1_method_22_code
def yX5_back : MethodName := ⟨RX5, "back", "(I)I"⟩
abbrev cX5_necks : ByteArray := prog_1_method_23_code
def yX5_necks : MethodName := ⟨RX5, "necks", "(I)I"⟩
abbrev cX5_kinds : ByteArray := prog_1_method_24_code
def yX5_kinds : MethodName := ⟨RX5, "kinds", "(I)I"⟩
abbrev cX5_keepers : ByteArray := prog_1_method_25_code
def yX5_keepers : MethodName := ⟨RX5, "keepers", "(I)I"⟩
abbrev cX5_odds : ByteArray := prog_1_method_26_code
def yX5_odds : MethodName := ⟨RX5, "odds", "(III)J"⟩
abbrev cX5_sheet : ByteArray := prog_1_method_27_code
def yX5_sheet : MethodName := ⟨RX5, "sheet", "(III)I"⟩
abbrev cX5_lose : ByteArray := prog_1_method_28_code
def yX5_lose : MethodName := ⟨RX5, "lose", "(I)I"⟩
abbrev cX5_put : ByteArray := prog_1_method_29_code
def yX5_put : MethodName := ⟨RX5, "put", "(III)I"⟩
abbrev cX5_cell : ByteArray := prog_1_method_30_code
def yX5_cell : MethodName := ⟨RX5, "cell", "(III)J"⟩
abbrev cX5_copy : ByteArray := prog_1_method_31_code
def yX5_copy : MethodName := ⟨RX5, "copy", "(IIIII)I"⟩
abbrev cX5_tell : ByteArray := prog_1_method_32_code
def yX5_tell : MethodName := ⟨RX5, "tell", "(I)I"⟩
abbrev cX5_dust : ByteArray := prog_1_method_33_code
def yX5_dust : MethodName := ⟨RX5, "dust", "(I)I"⟩
abbrev cX5_as : ByteArray := prog_1_method_34_code
def yX5_as : MethodName := ⟨RX5, "as", "(II)I"⟩
abbrev cX5_trace : ByteArray := prog_1_method_35_code
def yX5_trace : MethodName := ⟨RX5, "trace", "()I"⟩
abbrev cX5_fault : ByteArray := prog_1_method_36_code
def yX5_fault : MethodName := ⟨RX5, "fault", "()I"⟩
abbrev cX5_many : ByteArray := prog_1_method_37_code
def yX5_many : MethodName := ⟨RX5, "many", "(I)I"⟩
abbrev cX5_isWithin : ByteArray := prog_1_method_38_code
def yX5_isWithin : MethodName := ⟨RX5, "isWithin", "(II)Z"⟩
abbrev cX5_greatestDivisor : ByteArray := prog_1_method_39_code
def yX5_greatestDivisor : MethodName := ⟨RX5, "greatestDivisor", "(II)I"⟩
abbrev cX5_failBy : ByteArray := prog_1_method_40_code
def yX5_failBy : MethodName := ⟨RX5, "failBy", "(I)I"⟩
abbrev cX5_actNow : ByteArray := prog_1_method_41_code
def yX5_actNow : MethodName := ⟨RX5, "actNow", "(II)I"⟩
abbrev cX5_isAskedOfChronicle : ByteArray := prog_1_method_42_code
def yX5_isAskedOfChronicle : MethodName := ⟨RX5, "isAskedOfChronicle", "(I)Z"⟩
abbrev cX5_refusalOfPairs : ByteArray := prog_1_method_43_code
def yX5_refusalOfPairs : MethodName := ⟨RX5, "refusalOfPairs", "(LSandKeepers$Sheet;II)I"⟩
abbrev cX5_leaveTrace : ByteArray := prog_1_method_44_code
def yX5_leaveTrace : MethodName := ⟨RX5, "leaveTrace", "(I)V"⟩
abbrev cX5_tellAsPlain : ByteArray := prog_1_method_45_code
def yX5_tellAsPlain : MethodName := ⟨RX5, "tellAsPlain", "(I)I"⟩
abbrev cX5_tellAsWide : ByteArray := prog_1_method_46_code
def yX5_tellAsWide : MethodName := ⟨RX5, "tellAsWide", "(I)I"⟩
abbrev cX5_tellAsCracked : ByteArray := prog_1_method_47_code
def yX5_tellAsCracked : MethodName := ⟨RX5, "tellAsCracked", "(I)I"⟩
def RX6 : String := "SandKeepersModel"
def TX6 : u_T := fun k => match k with
  | 0 => ("SandKeepersModel", "fault", "I", false)
  | 1 => ("SandKeepersModel", "houses", "I", false)
  | 2 => ("SandKeepersModel", "year", "I", false)
  | 3 => ("SandKeepersModel", "kindOf", "[I", true)
  | 4 => ("SandKeepersModel", "sandOf", "[I", true)
  | 5 => ("SandKeepersModel", "fullOf", "[I", true)
  | 6 => ("SandKeepersModel", "neckOf", "[I", true)
  | 7 => ("SandKeepersModel", "heatOf", "[I", true)
  | 8 => ("SandKeepersModel", "keeperOf", "[I", true)
  | 9 => ("SandKeepersModel", "laid", "I", false)
  | 10 => ("SandKeepersModel", "readAt", "I", false)
  | 11 => ("SandKeepersModel", "readHouses", "I", false)
  | 12 => ("SandKeepersModel", "readKind", "[I", true)
  | 13 => ("SandKeepersModel", "readSand", "[I", true)
  | 14 => ("SandKeepersModel", "readNeck", "[I", true)
  | 15 => ("SandKeepersModel", "readHeat", "[I", true)
  | 16 => ("SandKeepersModel", "readKeeper", "[I", true)
  | 17 => ("SandKeepersModel", "sandKept", "[I", true)
  | 18 => ("SandKeepersModel", "laidKept", "I", false)
  | 19 => ("SandKeepersModel", "yearKept", "I", false)
  | 20 => ("SandKeepersModel", "diedBehind", "[I", true)
  | 21 => ("SandKeepersModel", "keeperKept", "[I", true)
  | 22 => ("SandKeepersModel", "keeperBest", "[I", true)
  | 23 => ("SandKeepersModel", "readings", "I", false)
  | 24 => ("SandKeepersModel", "readingOf", "[I", true)
  | 25 => ("SandKeepersModel", "readingIn", "[I", true)
  | 26 => ("SandKeepersModel", "readingWas", "[I", true)
  | 27 => ("SandKeepersModel", "sheetSize", "[I", true)
  | 28 => ("SandKeepersModel", "sheetLane", "[I", true)
  | 29 => ("SandKeepersModel", "sheet", "[I", true)
  | 30 => ("SandKeepersModel", "hands", "[I", true)
  | _ => ("SandKeepersModel", "traceNow", "I", false)
def tyX6 : Nat → FieldType := fun k => match k with
  | 0 => .int
  | 1 => .int
  | 2 => .int
  | 3 => .array .int
  | 4 => .array .int
  | 5 => .array .int
  | 6 => .array .int
  | 7 => .array .int
  | 8 => .array .int
  | 9 => .int
  | 10 => .int
  | 11 => .int
  | 12 => .array .int
  | 13 => .array .int
  | 14 => .array .int
  | 15 => .array .int
  | 16 => .array .int
  | 17 => .array .int
  | 18 => .int
  | 19 => .int
  | 20 => .array .int
  | 21 => .array .int
  | 22 => .array .int
  | 23 => .int
  | 24 => .array .int
  | 25 => .array .int
  | 26 => .array .int
  | 27 => .array .int
  | 28 => .array .int
  | 29 => .array .int
  | 30 => .array .int
  | _ => .int
abbrev wsX60 : List Cond := u_ws RX6 TX6 32
theorem nmX6 : ∀ a, a < 32 → ∀ b, b < 32 → a ≠ b → (TX6 a).2.1 ≠ (TX6 b).2.1 := by decide +kernel
theorem tyX6_ok : ∀ k, k < 32 → parseFieldDescriptor (TX6 k).2.2.1 = some (tyX6 k) := by decide +kernel
abbrev cX6_init : ByteArray := prog_8_method_1_code
def yX6_init : MethodName := ⟨RX6, "<init>", "()V"⟩
abbrev cX6_in : ByteArray := prog_8_method_2_code
def yX6_in : MethodName := ⟨RX6, "in", "(JJJ)Z"⟩
abbrev cX6_lost : ByteArray := prog_8_method_3_code
def yX6_lost : MethodName := ⟨RX6, "lost", "()J"⟩
abbrev cX6_isIn : ByteArray := prog_8_method_4_code
def yX6_isIn : MethodName := ⟨RX6, "isIn", "(II)Z"⟩
abbrev cX6_bits : ByteArray := prog_8_method_5_code
def yX6_bits : MethodName := ⟨RX6, "bits", "(I)I"⟩
abbrev cX6_share : ByteArray := prog_8_method_6_code
def yX6_share : MethodName := ⟨RX6, "share", "(JJI)J"⟩
abbrev cX6_refused : ByteArray := prog_8_method_7_code
def yX6_refused : MethodName := ⟨RX6, "refused", "(I)I"⟩
abbrev cX6_failed : ByteArray := prog_8_method_8_code
def yX6_failed : MethodName := ⟨RX6, "failed", "(I)I"⟩
abbrev cX6_failedLong : ByteArray := prog_8_method_9_code
def yX6_failedLong : MethodName := ⟨RX6, "failedLong", "(I)J"⟩
abbrev cX6_noHouse : ByteArray := prog_8_method_10_code
def yX6_noHouse : MethodName := ⟨RX6, "noHouse", "(I)Z"⟩
abbrev cX6_codeAt : ByteArray := prog_8_method_11_code
def yX6_codeAt : MethodName := ⟨RX6, "codeAt", "(II)I"⟩
abbrev cX6_figure : ByteArray := prog_8_method_12_code
def yX6_figure : MethodName := ⟨RX6, "figure", "(IIIII)I"⟩
abbrev cX6_readsHouse : ByteArray := prog_8_method_13_code
def yX6_readsHouse : MethodName := ⟨RX6, "readsHouse", "(III)Z"⟩
abbrev cX6_readsSee : ByteArray := prog_8_method_14_code
def yX6_readsSee : MethodName := ⟨RX6, "readsSee", "(II)Z"⟩
abbrev cX6_cellsBarred : ByteArray := prog_8_method_15_code
def yX6_cellsBarred : MethodName := ⟨RX6, "cellsBarred", "(IIIJ)I"⟩
abbrev cX6_see : ByteArray := prog_8_method_16_code
def yX6_see : MethodName := ⟨RX6, "see", "(IIII)I"⟩
abbrev cX6_rateOf : ByteArray := prog_8_method_17_code
def yX6_rateOf : MethodName := ⟨RX6, "rateOf", "(I)I"⟩
abbrev cX6_isAlive : ByteArray := prog_8_method_18_code
def yX6_isAlive : MethodName := ⟨RX6, "isAlive", "(I)Z"⟩
abbrev cX6_ofGlass : ByteArray := prog_8_method_19_code
def yX6_ofGlass : MethodName := ⟨RX6, "ofGlass", "(II)I"⟩
abbrev cX6_keeps : ByteArray := prog_8_method_20_code
def yX6_keeps : MethodName := ⟨RX6, "keeps", "(I)I"⟩
abbrev cX6_chafe : ByteArray := prog_8_method_21_code
def yX6_chafe : MethodName := ⟨RX6, "chafe", "(II)I"⟩
abbrev cX6_warm : ByteArray := prog_8_method_22_code
def yX6_warm : MethodName := ⟨RX6, "warm", "(II)I"⟩
abbrev cX6_give : ByteArray := prog_8_method_23_code
def yX6_give : MethodName := ⟨RX6, "give", "(II)I"⟩
abbrev cX6_aliveNow : ByteArray := prog_8_method_24_code
def yX6_aliveNow : MethodName := ⟨RX6, "aliveNow", "()I"⟩
abbrev cX6_alive : ByteArray := prog_8_method_25_code
def yX6_alive : MethodName := ⟨RX6, "alive", "(I)I"⟩
abbrev cX6_can : ByteArray := prog_8_method_26_code
def yX6_can : MethodName := ⟨RX6, "can", "(II)Z"⟩
abbrev cX6_done : ByteArray := prog_8_method_27_code
def yX6_done : MethodName := ⟨RX6, "done", "(II)I"⟩
abbrev cX6_lay : ByteArray := prog_8_method_28_code
def yX6_lay : MethodName := ⟨RX6, "lay", "(I)I"⟩
abbrev cX6_raise : ByteArray := prog_8_method_29_code
def yX6_raise : MethodName := ⟨RX6, "raise", "(I)I"⟩
abbrev cX6_turn : ByteArray := prog_8_method_30_code
def yX6_turn : MethodName := ⟨RX6, "turn", "(I)I"⟩
abbrev cX6_sandBehind : ByteArray := prog_8_method_31_code
def yX6_sandBehind : MethodName := ⟨RX6, "sandBehind", "(II)I"⟩
abbrev cX6_oneYear : ByteArray := prog_8_method_32_code
def yX6_oneYear : MethodName := ⟨RX6, "oneYear", "()V"⟩
abbrev cX6_go : ByteArray := prog_8_method_33_code
def yX6_go : MethodName := ⟨RX6, "go", "(I)I"⟩
abbrev cX6_lifeOf : ByteArray := prog_8_method_34_code
def yX6_lifeOf : MethodName := ⟨RX6, "lifeOf", "(I)I"⟩
abbrev cX6_life : ByteArray := prog_8_method_35_code
def yX6_life : MethodName := ⟨RX6, "life", "(I)I"⟩
abbrev cX6_whoDied : ByteArray := prog_8_method_36_code
def yX6_whoDied : MethodName := ⟨RX6, "whoDied", "()V"⟩
abbrev cX6_didPair : ByteArray := prog_8_method_37_code
def yX6_didPair : MethodName := ⟨RX6, "didPair", "(II)Z"⟩
abbrev cX6_chronicleBy : ByteArray := prog_8_method_38_code
def yX6_chronicleBy : MethodName := ⟨RX6, "chronicleBy", "(III)I"⟩
abbrev cX6_pairsBarred : ByteArray := prog_8_method_39_code
def yX6_pairsBarred : MethodName := ⟨RX6, "pairsBarred", "(II)I"⟩
abbrev cX6_chronicle : ByteArray := prog_8_method_40_code
def yX6_chronicle : MethodName := ⟨RX6, "chronicle", "(IIIII)I"⟩
abbrev cX6_reach : ByteArray := prog_8_method_41_code
def yX6_reach : MethodName := ⟨RX6, "reach", "(II)I"⟩
abbrev cX6_ring : ByteArray := prog_8_method_42_code
def yX6_ring : MethodName := ⟨RX6, "ring", "(I)I"⟩
abbrev cX6_lives : ByteArray := prog_8_method_43_code
def yX6_lives : MethodName := ⟨RX6, "lives", "()I"⟩
abbrev cX6_noneOwn : ByteArray := prog_8_method_44_code
def yX6_noneOwn : MethodName := ⟨RX6, "noneOwn", "()Z"⟩
abbrev cX6_exchange : ByteArray := prog_8_method_45_code
def yX6_exchange : MethodName := ⟨RX6, "exchange", "(II)V"⟩
abbrev cX6_nextRow : ByteArray := prog_8_method_46_code
def yX6_nextRow : MethodName := ⟨RX6, "nextRow", "()Z"⟩
abbrev cX6_bestLives : ByteArray := prog_8_method_47_code
def yX6_bestLives : MethodName := ⟨RX6, "bestLives", "()I"⟩
abbrev cX6_keeping : ByteArray := prog_8_method_48_code
def yX6_keeping : MethodName := ⟨RX6, "keeping", "(I)I"⟩
abbrev cX6_trade : ByteArray := prog_8_method_49_code
def yX6_trade : MethodName := ⟨RX6, "trade", "(I)I"⟩
abbrev cX6_first : ByteArray := prog_8_method_50_code
def yX6_first : MethodName := ⟨RX6, "first", "(I)I"⟩
abbrev cX6_found : ByteArray := prog_8_method_51_code
def yX6_found : MethodName := ⟨RX6, "found", "(IIII)I"⟩
abbrev cX6_reading : ByteArray := prog_8_method_52_code
def yX6_reading : MethodName := ⟨RX6, "reading", "(III)I"⟩
abbrev cX6_back : ByteArray := prog_8_method_53_code
def yX6_back : MethodName := ⟨RX6, "back", "(I)I"⟩
abbrev cX6_areSo : ByteArray := prog_8_method_54_code
def yX6_areSo : MethodName := ⟨RX6, "areSo", "()Z"⟩
abbrev cX6_necks : ByteArray := prog_8_method_55_code
def yX6_necks : MethodName := ⟨RX6, "necks", "(I)I"⟩
abbrev cX6_kinds : ByteArray := prog_8_method_56_code
def yX6_kinds : MethodName := ⟨RX6, "kinds", "(I)I"⟩
abbrev cX6_keepers : ByteArray := prog_8_method_57_code
def yX6_keepers : MethodName := ⟨RX6, "keepers", "(I)I"⟩
abbrev cX6_odds : ByteArray := prog_8_method_58_code
def yX6_odds : MethodName := ⟨RX6, "odds", "(III)J"⟩
abbrev cX6_noSheet : ByteArray := prog_8_method_59_code
def yX6_noSheet : MethodName := ⟨RX6, "noSheet", "(I)Z"⟩
abbrev cX6_sheet : ByteArray := prog_8_method_60_code
def yX6_sheet : MethodName := ⟨RX6, "sheet", "(III)I"⟩
abbrev cX6_lose : ByteArray := prog_8_method_61_code
def yX6_lose : MethodName := ⟨RX6, "lose", "(I)I"⟩
abbrev cX6_noCell : ByteArray := prog_8_method_62_code
def yX6_noCell : MethodName := ⟨RX6, "noCell", "(II)I"⟩
abbrev cX6_put : ByteArray := prog_8_method_63_code
def yX6_put : MethodName := ⟨RX6, "put", "(III)I"⟩
abbrev cX6_cell : ByteArray := prog_8_method_64_code
def yX6_cell : MethodName := ⟨RX6, "cell", "(III)J"⟩
abbrev cX6_isBeyond : ByteArray := prog_8_method_65_code
def yX6_isBeyond : MethodName := ⟨RX6, "isBeyond", "(IJI)Z"⟩
abbrev cX6_copy : ByteArray := prog_8_method_66_code
def yX6_copy : MethodName := ⟨RX6, "copy", "(IIIII)I"⟩
abbrev cX6_traced : ByteArray := prog_8_method_67_code
def yX6_traced : MethodName := ⟨RX6, "traced", "(I)V"⟩
abbrev cX6_tell : ByteArray := prog_8_method_68_code
def yX6_tell : MethodName := ⟨RX6, "tell", "(I)I"⟩
abbrev cX6_dust : ByteArray := prog_8_method_69_code
def yX6_dust : MethodName := ⟨RX6, "dust", "(I)I"⟩
abbrev cX6_as : ByteArray := prog_8_method_70_code
def yX6_as : MethodName := ⟨RX6, "as", "(II)I"⟩
abbrev cX6_trace : ByteArray := prog_8_method_71_code
def yX6_trace : MethodName := ⟨RX6, "trace", "()I"⟩
abbrev cX6_fault : ByteArray := prog_8_method_72_code
def yX6_fault : MethodName := ⟨RX6, "fault", "()I"⟩
abbrev cX6_many : ByteArray := prog_8_method_73_code
def yX6_many : MethodName := ⟨RX6, "many", "(I)I"⟩
def RJ6 : String := "java/lang/Integer"
def TJ6 : u_T := fun k => match k with
  | _ => ("", "", "", false)
def tyJ6 : Nat → FieldType := fun k => match k with
  | _ => .int
abbrev wsJ60 : List Cond := u_ws RJ6 TJ6 0
theorem nmJ6 : ∀ a, a < 0 → ∀ b, b < 0 → a ≠ b → (TJ6 a).2.1 ≠ (TJ6 b).2.1 := by decide +kernel
theorem tyJ6_ok : ∀ k, k < 0 → parseFieldDescriptor (TJ6 k).2.2.1 = some (tyJ6 k) := by decide +kernel
abbrev cJ6_bitCount_0f7a4 : ByteArray := prog_9_method_49_code
def yJ6_bitCount_0f7a4 : MethodName := ⟨RJ6, "bitCount", "(I)I"⟩
def RJ9 : String := "java/lang/Math"
def TJ9 : u_T := fun k => match k with
  | _ => ("", "", "", false)
def tyJ9 : Nat → FieldType := fun k => match k with
  | _ => .int
abbrev wsJ90 : List Cond := u_ws RJ9 TJ9 0
theorem nmJ9 : ∀ a, a < 0 → ∀ b, b < 0 → a ≠ b → (TJ9 a).2.1 ≠ (TJ9 b).2.1 := by decide +kernel
theorem tyJ9_ok : ∀ k, k < 0 → parseFieldDescriptor (TJ9 k).2.2.1 = some (tyJ9 k) := by decide +kernel
abbrev cJ9_max_7cf53 : ByteArray := prog_10_method_65_code
def yJ9_max_7cf53 : MethodName := ⟨RJ9, "max", "(II)I"⟩
def RJ10 : String := "java/lang/System"
def TJ10 : u_T := fun k => match k with
  | _ => ("", "", "", false)
def tyJ10 : Nat → FieldType := fun k => match k with
  | _ => .int
abbrev wsJ100 : List Cond := u_ws RJ10 TJ10 0
theorem nmJ10 : ∀ a, a < 0 → ∀ b, b < 0 → a ≠ b → (TJ10 a).2.1 ≠ (TJ10 b).2.1 := by decide +kernel
theorem tyJ10_ok : ∀ k, k < 0 → parseFieldDescriptor (TJ10 k).2.2.1 = some (tyJ10 k) := by decide +kernel
def RL : String := "SandKeepersLaw"
abbrev cL_law : ByteArray := code
def yL_law : MethodName := ⟨RL, "law", "([I)Z"⟩
abbrev vwCl : List vw_C := [(RX0, TX0, 4), (RX1, TX1, 1), (RX2, TX2, 4), (RX3, TX3, 3), (RX4, TX4, 9), (RX5, TX5, 8), (RX6, TX6, 32)]
end
section
-- tables by program (wip/whole/gen.py): methods, links, code
abbrev zNM : Nat := 157
def zyL : List MethodName := [yX0_add, yX0_areSo, yX0_setThatFits, yX1_weigh, yX1_livesBy, yX1_keeperFor, yX1_firstOfMost, yX2_begin, yX2_cutToLane, yX2_hasCells, yX2_faultOfRow, yX2_faultOfCells, yX3_play, yX3_playPair, yX3_playYears, yX3_noteDeaths, yX3_answerTo, yX4_has, yX4_becomeLike, yX4_readText, yX4_takesCode, yX4_takesCodeOfHouse, yX4_digitOf, yX4_kindOf, yX4_rateKeptBy, yX4_isAlive, yX4_isHand, yX4_setOfLiving, yX4_setOfStiff, yX4_setKeptBy, yX4_sandBehind, yX4_passYear, yX4_doAct, yX4_lifeOf, yX4_lifeKeptBy, yX4_gainOfExchange, yX4_keepersUpTo, yX4_runsAs, yX5_see, yX5_ofGlass, yX5_keeps, yX5_chafe, yX5_warm, yX5_give, yX5_alive, yX5_lay, yX5_raise, yX5_turn, yX5_go, yX5_life, yX5_chronicle, yX5_ring, yX5_reach, yX5_keeping, yX5_trade, yX5_first, yX5_found, yX5_reading, yX5_back, yX5_necks, yX5_kinds, yX5_keepers, yX5_odds, yX5_sheet, yX5_lose, yX5_put, yX5_cell, yX5_copy, yX5_tell, yX5_dust, yX5_as, yX5_trace, yX5_fault, yX5_many, yX5_isWithin, yX5_greatestDivisor, yX5_failBy, yX5_actNow, yX5_isAskedOfChronicle, yX5_refusalOfPairs, yX5_leaveTrace, yX5_tellAsPlain, yX5_tellAsWide, yX5_tellAsCracked, yX6_in, yX6_lost, yX6_isIn, yX6_bits, yX6_share, yX6_refused, yX6_failed, yX6_failedLong, yX6_noHouse, yX6_codeAt, yX6_figure, yX6_readsHouse, yX6_readsSee, yX6_cellsBarred, yX6_see, yX6_rateOf, yX6_isAlive, yX6_ofGlass, yX6_keeps, yX6_chafe, yX6_warm, yX6_give, yX6_aliveNow, yX6_alive, yX6_can, yX6_done, yX6_lay, yX6_raise, yX6_turn, yX6_sandBehind, yX6_oneYear, yX6_go, yX6_lifeOf, yX6_life, yX6_whoDied, yX6_didPair, yX6_chronicleBy, yX6_pairsBarred, yX6_chronicle, yX6_reach, yX6_ring, yX6_lives, yX6_noneOwn, yX6_exchange, yX6_nextRow, yX6_bestLives, yX6_keeping, yX6_trade, yX6_first, yX6_found, yX6_reading, yX6_back, yX6_areSo, yX6_necks, yX6_kinds, yX6_keepers, yX6_odds, yX6_noSheet, yX6_sheet, yX6_lose, yX6_noCell, yX6_put, yX6_cell, yX6_isBeyond, yX6_copy, yX6_traced, yX6_tell, yX6_dust, yX6_as, yX6_trace, yX6_fault, yX6_many, yJ6_bitCount_0f7a4]
def znlL : List Nat := [4, 3, 8, 6, 6, 6, 6, 4, 2, 3, 2, 5, 6, 4, 4, 4, 2, 2, 3, 5, 4, 5, 1, 1, 4, 2, 2, 3, 3, 4, 3, 2, 3, 2, 4, 4, 5, 6, 8, 3, 2, 4, 4, 4, 2, 2, 2, 2, 4, 2, 10, 2, 3, 2, 8, 5, 9, 4, 2, 2, 2, 2, 7, 4, 3, 5, 6, 8, 2, 2, 3, 1, 1, 2, 2, 3, 2, 3, 1, 7, 2, 2, 2, 3, 6, 0, 2, 3, 11, 2, 2, 2, 2, 3, 8, 10, 5, 6, 7, 3, 2, 3, 4, 4, 4, 4, 3, 2, 5, 3, 2, 2, 2, 4, 2, 4, 3, 2, 3, 4, 6, 6, 10, 5, 2, 3, 3, 4, 5, 5, 3, 9, 6, 10, 4, 2, 3, 5, 5, 5, 8, 1, 5, 3, 3, 4, 4, 4, 7, 2, 4, 2, 3, 1, 1, 2, 1]
def zretL : List (Option FieldType) := [(some .int), (some .boolean), (some .int), none, (some .int), (some .int), (some .int), none, (some .int), (some .boolean), (some .int), (some .int), (some .int), (some .boolean), (some .boolean), none, (some .int), (some .boolean), none, (some .int), (some .boolean), (some .boolean), (some .int), (some .int), (some .int), (some .boolean), (some .boolean), (some .int), (some .int), (some .int), (some .int), none, (some .boolean), (some .int), (some .int), (some .int), (some .int), (some .boolean), (some .int), (some .int), (some .int), (some .int), (some .int), (some .int), (some .int), (some .int), (some .int), (some .int), (some .int), (some .int), (some .int), (some .int), (some .int), (some .int), (some .int), (some .int), (some .int), (some .int), (some .int), (some .int), (some .int), (some .int), (some .long), (some .int), (some .int), (some .int), (some .long), (some .int), (some .int), (some .int), (some .int), (some .int), (some .int), (some .int), (some .boolean), (some .int), (some .int), (some .int), (some .boolean), (some .int), none, (some .int), (some .int), (some .int), (some .boolean), (some .long), (some .boolean), (some .int), (some .long), (some .int), (some .int), (some .long), (some .boolean), (some .int), (some .int), (some .boolean), (some .boolean), (some .int), (some .int), (some .int), (some .boolean), (some .int), (some .int), (some .int), (some .int), (some .int), (some .int), (some .int), (some .boolean), (some .int), (some .int), (some .int), (some .int), (some .int), none, (some .int), (some .int), (some .int), none, (some .boolean), (some .int), (some .int), (some .int), (some .int), (some .int), (some .int), (some .boolean), none, (some .boolean), (some .int), (some .int), (some .int), (some .int), (some .int), (some .int), (some .int), (some .boolean), (some .int), (some .int), (some .int), (some .long), (some .boolean), (some .int), (some .int), (some .int), (some .int), (some .long), (some .boolean), (some .int), none, (some .int), (some .int), (some .int), (some .int), (some .int), (some .int), (some .int)]
def zclL : List Nat := [0, 0, 0, 1, 1, 1, 1, 2, 2, 2, 2, 2, 3, 3, 3, 3, 3, 4, 4, 4, 4, 4, 4, 4, 4, 4, 4, 4, 4, 4, 4, 4, 4, 4, 4, 4, 4, 4, 5, 5, 5, 5, 5, 5, 5, 5, 5, 5, 5, 5, 5, 5, 5, 5, 5, 5, 5, 5, 5, 5, 5, 5, 5, 5, 5, 5, 5, 5, 5, 5, 5, 5, 5, 5, 5, 5, 5, 5, 5, 5, 5, 5, 5, 5, 6, 6, 6, 6, 6, 6, 6, 6, 6, 6, 6, 6, 6, 6, 6, 6, 6, 6, 6, 6, 6, 6, 6, 6, 6, 6, 6, 6, 6, 6, 6, 6, 6, 6, 6, 6, 6, 6, 6, 6, 6, 6, 6, 6, 6, 6, 6, 6, 6, 6, 6, 6, 6, 6, 6, 6, 6, 6, 6, 6, 6, 6, 6, 6, 6, 6, 6, 6, 6, 6, 6, 6, 7]
def zpnL : List Nat := [3, 1, 4, 1, 4, 2, 3, 2, 1, 2, 1, 3, 4, 2, 1, 1, 1, 1, 1, 3, 2, 3, 1, 1, 2, 1, 1, 0, 0, 1, 2, 0, 2, 1, 2, 2, 2, 4, 4, 2, 1, 2, 2, 2, 1, 1, 1, 1, 1, 1, 5, 1, 2, 1, 1, 1, 4, 3, 1, 1, 1, 1, 3, 3, 1, 3, 3, 5, 1, 1, 2, 0, 0, 1, 2, 2, 1, 2, 1, 3, 1, 1, 1, 1, 3, 0, 2, 1, 3, 1, 1, 1, 1, 2, 5, 3, 2, 4, 4, 1, 1, 2, 1, 2, 2, 2, 0, 1, 2, 2, 1, 1, 1, 2, 0, 1, 1, 1, 0, 2, 3, 2, 5, 2, 1, 0, 0, 2, 0, 0, 1, 1, 1, 4, 3, 1, 0, 1, 1, 1, 3, 1, 3, 1, 2, 3, 3, 3, 5, 1, 1, 1, 2, 0, 0, 1, 1]
def zstL : List Bool := [false, false, false, false, false, false, false, false, false, false, false, false, false, false, false, false, false, false, false, false, false, false, true, true, false, false, false, false, false, false, false, false, false, false, false, false, false, false, false, false, false, false, false, false, false, false, false, false, false, false, false, false, false, false, false, false, false, false, false, false, false, false, false, false, false, false, false, false, false, false, false, false, false, false, true, true, false, false, true, false, false, false, false, false, true, true, true, true, true, false, false, false, false, false, false, false, false, false, false, false, false, false, false, false, false, false, false, false, false, false, false, false, false, false, false, false, false, false, false, false, false, false, false, false, false, false, false, false, false, false, false, false, false, false, false, false, false, false, false, false, false, true, false, false, false, false, false, true, false, false, false, false, false, false, false, false, true]
def zfrL : List Nat := [0, 2, 3, 3, 2, 4, 3, 0, 0, 0, 0, 1, 5, 4, 3, 2, 2, 1, 0, 4, 3, 2, 0, 0, 0, 0, 1, 1, 1, 0, 1, 2, 2, 2, 1, 3, 0, 2, 5, 2, 2, 2, 2, 2, 2, 4, 4, 4, 3, 3, 6, 2, 2, 5, 4, 3, 3, 2, 0, 4, 4, 4, 2, 1, 1, 1, 1, 1, 4, 2, 2, 0, 0, 2, 0, 0, 0, 3, 1, 2, 0, 1, 2, 3, 0, 0, 0, 0, 0, 0, 0, 1, 1, 0, 1, 2, 3, 1, 4, 0, 0, 2, 2, 2, 2, 2, 1, 2, 1, 2, 3, 3, 3, 1, 2, 3, 1, 2, 1, 3, 4, 2, 5, 2, 3, 2, 0, 0, 1, 3, 4, 3, 2, 2, 2, 1, 2, 3, 3, 3, 2, 1, 2, 2, 1, 2, 2, 0, 2, 0, 2, 2, 2, 0, 0, 2, 0]
def zloL : List Nat := [0, 45, 67, 71, 46, 96, 71, 0, 0, 0, 0, 22, 112, 89, 66, 43, 43, 21, 0, 89, 66, 42, 0, 0, 0, 0, 21, 21, 21, 0, 23, 45, 42, 46, 23, 67, 0, 45, 113, 42, 42, 42, 42, 42, 43, 86, 86, 86, 66, 67, 137, 42, 42, 121, 90, 67, 70, 42, 0, 94, 94, 94, 46, 23, 21, 21, 21, 48, 85, 42, 42, 0, 0, 43, 0, 0, 0, 64, 21, 42, 0, 21, 42, 63, 0, 0, 0, 0, 0, 0, 0, 19, 25, 0, 25, 52, 81, 23, 105, 0, 0, 46, 46, 46, 46, 46, 21, 43, 21, 45, 67, 67, 67, 22, 45, 66, 22, 46, 21, 67, 90, 46, 115, 46, 70, 44, 0, 0, 23, 66, 90, 66, 44, 48, 46, 25, 45, 67, 67, 67, 46, 25, 45, 45, 25, 47, 47, 0, 45, 0, 46, 46, 46, 0, 0, 43, 0]
def zcnL : List String := [RX0, RX1, RX2, RX3, RX4, RX5, RX6, RJ6]
def zC0 : List (Nat × Instr) := [(0, .aload_n 0), (1, .getfield 9), (4, .aload_n 0), (5, .getfield 21), (8, .iload_n 1), (9, .iastore), (10, .aload_n 0), (11, .getfield 15), (14, .aload_n 0), (15, .getfield 21), (18, .iload_n 2), (19, .iastore), (20, .aload_n 0), (21, .getfield 18), (24, .aload_n 0), (25, .getfield 21), (28, .iload_n 3), (29, .iastore), (30, .aload_n 0), (31, .dup), (32, .getfield 21), (35, .iconst 1), (36, .iadd), (37, .putfield 21), (40, .aload_n 0), (41, .getfield 21), (44, .iconst 1), (45, .isub), (46, .ireturn)]
def zC1 : List (Nat × Instr) := [(0, .iconst 0), (1, .istore_n 2), (2, .iload_n 2), (3, .aload_n 0), (4, .getfield 21), (7, .if_icmp .ge 36), (10, .aload_n 1), (11, .aload_n 0), (12, .getfield 9), (15, .iload_n 2), (16, .iaload), (17, .aload_n 0), (18, .getfield 15), (21, .iload_n 2), (22, .iaload), (23, .invokevirtual 25), (26, .aload_n 0), (27, .getfield 18), (30, .iload_n 2), (31, .iaload), (32, .if_icmp .eq 5), (35, .iconst 0), (36, .ireturn), (37, .iinc 2 1), (40, .goto (-38)), (43, .iconst 1), (44, .ireturn)]
def zC2 : List (Nat × Instr) := [(0, .aload_n 2), (1, .iload_n 3), (2, .iaload), (3, .istore 5), (5, .iconst 0), (6, .istore 6), (8, .iconst 0), (9, .istore 7), (11, .iload 7), (13, .iload 4), (15, .if_icmp .ge 31), (18, .aload_n 2), (19, .iload_n 3), (20, .iload 7), (22, .iastore), (23, .aload_n 0), (24, .aload_n 1), (25, .invokevirtual 31), (28, .ifCond .eq 12), (31, .iload 6), (33, .iconst 1), (34, .iload 7), (36, .ishl), (37, .ior), (38, .istore 6), (40, .iinc 7 1), (43, .goto (-32)), (46, .aload_n 2), (47, .iload_n 3), (48, .iload 5), (50, .iastore), (51, .iload 6), (53, .ireturn)]
def zC3 : List (Nat × Instr) := [(0, .iconst 1), (1, .aload_n 1), (2, .getfield 15), (5, .ishl), (6, .iconst 1), (7, .isub), (8, .istore_n 2), (9, .aload_n 0), (10, .getfield 9), (13, .iload_n 2), (14, .iconst 0), (15, .iastore), (16, .iload_n 2), (17, .iconst 1), (18, .isub), (19, .istore_n 3), (20, .iload_n 3), (21, .ifCond .lt 65), (24, .iload_n 3), (25, .invokestatic 21), (28, .istore 4), (30, .aload_n 0), (31, .getfield 9), (34, .iload_n 3), (35, .iconst (-1)), (36, .iastore), (37, .iconst 0), (38, .istore 5), (40, .iload 5), (42, .aload_n 1), (43, .getfield 15), (46, .if_icmp .ge 34), (49, .aload_n 0), (50, .getfield 9), (53, .iload_n 3), (54, .aload_n 0), (55, .getfield 9), (58, .iload_n 3), (59, .iaload), (60, .aload_n 0), (61, .aload_n 1), (62, .iload 4), (64, .iload 5), (66, .iload_n 3), (67, .invokevirtual 27), (70, .invokestatic 31), (73, .iastore), (74, .iinc 5 1), (77, .goto (-37)), (80, .iinc 3 (-1)), (83, .goto (-63)), (86, .return_)]
def zC4 : List (Nat × Instr) := [(0, .iload_n 3), (1, .iload_n 2), (2, .if_icmp .eq 12), (5, .iload 4), (7, .iload_n 3), (8, .ishr), (9, .iconst 1), (10, .iand), (11, .ifCond .eq 5), (14, .iconst (-1)), (15, .ireturn), (16, .aload_n 0), (17, .getfield 9), (20, .iload 4), (22, .iconst 1), (23, .iload_n 3), (24, .ishl), (25, .ior), (26, .iaload), (27, .istore 5), (29, .iload 5), (31, .iconst (-1)), (32, .if_icmp .ne 7), (35, .iconst (-1)), (36, .goto 12), (39, .iload 5), (41, .aload_n 1), (42, .iload_n 2), (43, .iload_n 3), (44, .invokevirtual 37), (47, .iadd), (48, .ireturn)]
def zC5 : List (Nat × Instr) := [(0, .iconst 0), (1, .istore_n 3), (2, .bipush (-9)), (4, .istore 4), (6, .iconst 0), (7, .istore 5), (9, .iload 5), (11, .iload_n 1), (12, .if_icmp .gt 36), (15, .aload_n 0), (16, .aload_n 2), (17, .iload 5), (19, .iload_n 3), (20, .invokevirtual 40), (23, .istore 4), (25, .iload 4), (27, .bipush (-9)), (29, .if_icmp .ne 6), (32, .bipush (-9)), (34, .ireturn), (35, .iload_n 3), (36, .iconst 1), (37, .iload 4), (39, .ishl), (40, .ior), (41, .istore_n 3), (42, .iinc 5 1), (45, .goto (-36)), (48, .iload 4), (50, .ireturn)]
def zC6 : List (Nat × Instr) := [(0, .iconst 0), (1, .istore 4), (3, .iload 4), (5, .aload_n 1), (6, .getfield 15), (9, .if_icmp .ge 40), (12, .aload_n 0), (13, .aload_n 1), (14, .iload_n 2), (15, .iload 4), (17, .iload_n 3), (18, .invokevirtual 27), (21, .istore 5), (23, .iload 5), (25, .iconst (-1)), (26, .if_icmp .eq 17), (29, .iload 5), (31, .aload_n 0), (32, .getfield 9), (35, .iload_n 3), (36, .iaload), (37, .if_icmp .ne 6), (40, .iload 4), (42, .ireturn), (43, .iinc 4 1), (46, .goto (-43)), (49, .bipush (-9)), (51, .ireturn)]
def zC7 : List (Nat × Instr) := [(0, .aload_n 0), (1, .iconst 1), (2, .putfield 15), (5, .aload_n 0), (6, .iload_n 1), (7, .putfield 19), (10, .aload_n 0), (11, .iload_n 2), (12, .putfield 23), (15, .iconst 0), (16, .istore_n 3), (17, .iload_n 3), (18, .bipush 60), (20, .if_icmp .ge 16), (23, .aload_n 0), (24, .getfield 9), (27, .iload_n 3), (28, .iconst 0), (29, .iastore), (30, .iinc 3 1), (33, .goto (-16)), (36, .return_)]
def zC8 : List (Nat × Instr) := [(0, .aload_n 0), (1, .getfield 19), (4, .lookupswitch 34 #[(0, 28), (1, 31)]), (32, .iload_n 1), (33, .i2b), (34, .ireturn), (35, .iload_n 1), (36, .i2s), (37, .ireturn), (38, .iload_n 1), (39, .ireturn)]
def zC9 : List (Nat × Instr) := [(0, .iload_n 1), (1, .ifCond .lt 25), (4, .iload_n 1), (5, .aload_n 0), (6, .getfield 23), (9, .if_icmp .gt 17), (12, .iload_n 2), (13, .aload_n 0), (14, .getfield 23), (17, .iload_n 1), (18, .isub), (19, .if_icmp .gt 7), (22, .iconst 1), (23, .goto 4), (26, .iconst 0), (27, .ireturn)]
def zC10 : List (Nat × Instr) := [(0, .aload_n 0), (1, .getfield 15), (4, .ifCond .ne 5), (7, .iconst 1), (8, .ireturn), (9, .aload_n 0), (10, .getfield 19), (13, .iload_n 1), (14, .if_icmp .ne 7), (17, .iconst 0), (18, .goto 4), (21, .iconst 2), (22, .ireturn)]
def zC11 : List (Nat × Instr) := [(0, .aload_n 0), (1, .iload_n 1), (2, .invokevirtual 26), (5, .istore 4), (7, .iload 4), (9, .ifCond .eq 6), (12, .iload 4), (14, .ireturn), (15, .iload_n 3), (16, .ifCond .ge 5), (19, .iconst 4), (20, .ireturn), (21, .aload_n 0), (22, .iload_n 2), (23, .iload_n 3), (24, .invokevirtual 30), (27, .ifCond .eq 7), (30, .iconst 0), (31, .goto 4), (34, .iconst 3), (35, .ireturn)]
def zC12 : List (Nat × Instr) := [(0, .aload_n 0), (1, .getfield 12), (4, .aload_n 1), (5, .invokevirtual 22), (8, .aload_n 0), (9, .iconst 0), (10, .putfield 26), (13, .iconst 0), (14, .istore 5), (16, .iload 5), (18, .bipush 6), (20, .if_icmp .ge 18), (23, .aload_n 0), (24, .getfield 18), (27, .iload 5), (29, .bipush (-9)), (31, .iastore), (32, .iinc 5 1), (35, .goto (-19)), (38, .iconst 0), (39, .istore 5), (41, .iload 5), (43, .iload 4), (45, .if_icmp .ge 43), (48, .aload_n 0), (49, .aload_n 2), (50, .getfield 30), (53, .iload_n 3), (54, .iconst 2), (55, .iload 5), (57, .imul), (58, .iadd), (59, .iaload), (60, .aload_n 2), (61, .getfield 30), (64, .iload_n 3), (65, .iconst 2), (66, .iload 5), (68, .imul), (69, .iadd), (70, .iconst 1), (71, .iadd), (72, .iaload), (73, .invokevirtual 35), (76, .ifCond .ne 6), (79, .iload 5), (81, .ireturn), (82, .iinc 5 1), (85, .goto (-44)), (88, .bipush (-9)), (90, .ireturn)]
def zC13 : List (Nat × Instr) := [(0, .iload_n 2), (1, .bipush 9), (3, .if_icmp .ne 9), (6, .aload_n 0), (7, .iload_n 1), (8, .invokevirtual 39), (11, .ireturn), (12, .aload_n 0), (13, .getfield 12), (16, .invokevirtual 43), (19, .istore_n 3), (20, .aload_n 0), (21, .getfield 12), (24, .iload_n 1), (25, .invokevirtual 47), (28, .ifCond .eq 15), (31, .aload_n 0), (32, .getfield 12), (35, .iload_n 1), (36, .iload_n 2), (37, .invokevirtual 50), (40, .ifCond .ne 5), (43, .iconst 0), (44, .ireturn), (45, .aload_n 0), (46, .iload_n 3), (47, .invokevirtual 53), (50, .iconst 1), (51, .ireturn)]
def zC14 : List (Nat × Instr) := [(0, .aload_n 0), (1, .getfield 12), (4, .getfield 57), (7, .iload_n 1), (8, .iadd), (9, .sipush 999), (12, .if_icmp .le 5), (15, .iconst 0), (16, .ireturn), (17, .iconst 0), (18, .istore_n 2), (19, .iload_n 2), (20, .iload_n 1), (21, .if_icmp .ge 39), (24, .aload_n 0), (25, .getfield 12), (28, .invokevirtual 43), (31, .istore_n 3), (32, .aload_n 0), (33, .getfield 12), (36, .invokevirtual 60), (39, .aload_n 0), (40, .dup), (41, .getfield 26), (44, .iconst 1), (45, .iadd), (46, .putfield 26), (49, .aload_n 0), (50, .iload_n 3), (51, .invokevirtual 53), (54, .iinc 2 1), (57, .goto (-38)), (60, .iconst 1), (61, .ireturn)]
def zC15 : List (Nat × Instr) := [(0, .iload_n 1), (1, .aload_n 0), (2, .getfield 12), (5, .invokevirtual 43), (8, .iconst (-1)), (9, .ixor), (10, .iand), (11, .istore_n 2), (12, .iconst 0), (13, .istore_n 3), (14, .iload_n 3), (15, .bipush 6), (17, .if_icmp .ge 27), (20, .iload_n 2), (21, .iload_n 3), (22, .ishr), (23, .iconst 1), (24, .iand), (25, .ifCond .eq 13), (28, .aload_n 0), (29, .getfield 18), (32, .iload_n 3), (33, .aload_n 0), (34, .getfield 26), (37, .iastore), (38, .iinc 3 1), (41, .goto (-27)), (44, .return_)]
def zC16 : List (Nat × Instr) := [(0, .iload_n 1), (1, .ifCond .ne 14), (4, .aload_n 0), (5, .getfield 12), (8, .invokevirtual 43), (11, .invokestatic 63), (14, .ireturn), (15, .iload_n 1), (16, .iconst 2), (17, .if_icmp .ne 8), (20, .aload_n 0), (21, .getfield 26), (24, .ireturn), (25, .iload_n 1), (26, .iconst 3), (27, .if_icmp .ne 11), (30, .aload_n 0), (31, .getfield 12), (34, .invokevirtual 43), (37, .ireturn), (38, .iload_n 1), (39, .bipush 20), (41, .isub), (42, .bipush 6), (44, .invokestatic 69), (47, .ifCond .eq 13), (50, .aload_n 0), (51, .getfield 18), (54, .iload_n 1), (55, .bipush 20), (57, .isub), (58, .iaload), (59, .ireturn), (60, .aload_n 0), (61, .getfield 12), (64, .iload_n 1), (65, .bipush 10), (67, .isub), (68, .invokevirtual 47), (71, .ifCond .eq 18), (74, .aload_n 0), (75, .getfield 12), (78, .getfield 72), (81, .iload_n 1), (82, .bipush 10), (84, .isub), (85, .iaload), (86, .goto 5), (89, .bipush (-9)), (91, .ireturn)]
def zC17 : List (Nat × Instr) := [(0, .iload_n 1), (1, .aload_n 0), (2, .getfield 34), (5, .invokestatic 38), (8, .ireturn)]
def zC18 : List (Nat × Instr) := [(0, .aload_n 0), (1, .aload_n 1), (2, .getfield 34), (5, .putfield 34), (8, .aload_n 0), (9, .aload_n 1), (10, .getfield 42), (13, .putfield 42), (16, .iconst 0), (17, .istore_n 2), (18, .iload_n 2), (19, .bipush 6), (21, .if_icmp .ge 93), (24, .aload_n 0), (25, .getfield 9), (28, .iload_n 2), (29, .aload_n 1), (30, .getfield 9), (33, .iload_n 2), (34, .iaload), (35, .iastore), (36, .aload_n 0), (37, .getfield 15), (40, .iload_n 2), (41, .aload_n 1), (42, .getfield 15), (45, .iload_n 2), (46, .iaload), (47, .iastore), (48, .aload_n 0), (49, .getfield 18), (52, .iload_n 2), (53, .aload_n 1), (54, .getfield 18), (57, .iload_n 2), (58, .iaload), (59, .iastore), (60, .aload_n 0), (61, .getfield 21), (64, .iload_n 2), (65, .aload_n 1), (66, .getfield 21), (69, .iload_n 2), (70, .iaload), (71, .iastore), (72, .aload_n 0), (73, .getfield 24), (76, .iload_n 2), (77, .aload_n 1), (78, .getfield 24), (81, .iload_n 2), (82, .iaload), (83, .iastore), (84, .aload_n 0), (85, .getfield 27), (88, .iload_n 2), (89, .aload_n 1), (90, .getfield 27), (93, .iload_n 2), (94, .iaload), (95, .iastore), (96, .aload_n 0), (97, .getfield 30), (100, .iload_n 2), (101, .aload_n 1), (102, .getfield 30), (105, .iload_n 2), (106, .baload), (107, .bastore), (108, .iinc 2 1), (111, .goto (-93)), (114, .return_)]
def zC19 : List (Nat × Instr) := [(0, .iconst 0), (1, .istore 4), (3, .iload 4), (5, .iload_n 3), (6, .if_icmp .ge 30), (9, .aload_n 0), (10, .iload 4), (12, .aload_n 1), (13, .getfield 45), (16, .iload_n 2), (17, .iload 4), (19, .iadd), (20, .iaload), (21, .invokevirtual 50), (24, .ifCond .ne 6), (27, .iload 4), (29, .ireturn), (30, .iinc 4 1), (33, .goto (-30)), (36, .iload_n 3), (37, .iconst 2), (38, .if_icmp .lt 16), (41, .iload_n 3), (42, .iconst 2), (43, .bipush 7), (45, .aload_n 0), (46, .getfield 34), (49, .imul), (50, .iadd), (51, .if_icmp .ge 5), (54, .iload_n 3), (55, .ireturn), (56, .aload_n 0), (57, .iconst 0), (58, .putfield 42), (61, .iconst 0), (62, .istore 4), (64, .iload 4), (66, .aload_n 0), (67, .getfield 34), (70, .if_icmp .ge 31), (73, .aload_n 0), (74, .getfield 15), (77, .iload 4), (79, .aload_n 0), (80, .getfield 18), (83, .iload 4), (85, .iaload), (86, .iastore), (87, .aload_n 0), (88, .getfield 30), (91, .iload 4), (93, .iconst 0), (94, .bastore), (95, .iinc 4 1), (98, .goto (-34)), (101, .iconst (-1)), (102, .ireturn)]
def zC20 : List (Nat × Instr) := [(0, .iload_n 1), (1, .ifCond .ne 15), (4, .iload_n 2), (5, .bipush 115), (7, .if_icmp .ne 7), (10, .iconst 1), (11, .goto 4), (14, .iconst 0), (15, .ireturn), (16, .iload_n 1), (17, .iconst 1), (18, .if_icmp .ne 34), (21, .aload_n 0), (22, .iload_n 2), (23, .invokestatic 53), (26, .putfield 34), (29, .aload_n 0), (30, .getfield 34), (33, .iconst 2), (34, .if_icmp .lt 16), (37, .aload_n 0), (38, .getfield 34), (41, .bipush 6), (43, .if_icmp .gt 7), (46, .iconst 1), (47, .goto 4), (50, .iconst 0), (51, .ireturn), (52, .iload_n 1), (53, .iconst 2), (54, .isub), (55, .bipush 7), (57, .idiv), (58, .istore_n 3), (59, .aload_n 0), (60, .iload_n 3), (61, .invokevirtual 57), (64, .ifCond .eq 22), (67, .aload_n 0), (68, .iload_n 3), (69, .iload_n 1), (70, .iconst 2), (71, .isub), (72, .bipush 7), (74, .irem), (75, .iload_n 2), (76, .invokevirtual 61), (79, .ifCond .eq 7), (82, .iconst 1), (83, .goto 4), (86, .iconst 0), (87, .ireturn)]
def zC21 : List (Nat × Instr) := [(0, .iload_n 3), (1, .invokestatic 53), (4, .istore 4), (6, .iload_n 2), (7, .tableswitch 161 0 5 #[37, 49, 74, 96, 127, 146]), (44, .iload_n 3), (45, .bipush 59), (47, .if_icmp .ne 7), (50, .iconst 1), (51, .goto 4), (54, .iconst 0), (55, .ireturn), (56, .aload_n 0), (57, .getfield 9), (60, .iload_n 1), (61, .iload_n 3), (62, .invokestatic 65), (65, .iastore), (66, .aload_n 0), (67, .getfield 9), (70, .iload_n 1), (71, .iaload), (72, .ifCond .lt 7), (75, .iconst 1), (76, .goto 4), (79, .iconst 0), (80, .ireturn), (81, .aload_n 0), (82, .getfield 18), (85, .iload_n 1), (86, .bipush 10), (88, .iload 4), (90, .imul), (91, .iastore), (92, .iload 4), (94, .ifCond .lt 7), (97, .iconst 1), (98, .goto 4), (101, .iconst 0), (102, .ireturn), (103, .aload_n 0), (104, .getfield 18), (107, .iload_n 1), (108, .dup2), (109, .iaload), (110, .iload 4), (112, .iadd), (113, .iastore), (114, .iload 4), (116, .ifCond .lt 16), (119, .aload_n 0), (120, .getfield 18), (123, .iload_n 1), (124, .iaload), (125, .ifCond .le 7), (128, .iconst 1), (129, .goto 4), (132, .iconst 0), (133, .ireturn), (134, .aload_n 0), (135, .getfield 21), (138, .iload_n 1), (139, .iload 4), (141, .iastore), (142, .iload 4), (144, .ifCond .lt 7), (147, .iconst 1), (148, .goto 4), (151, .iconst 0), (152, .ireturn), (153, .aload_n 0), (154, .getfield 24), (157, .iload_n 1), (158, .iload 4), (160, .iastore), (161, .iload 4), (163, .iconst 4), (164, .invokestatic 38), (167, .ireturn), (168, .aload_n 0), (169, .getfield 27), (172, .iload_n 1), (173, .iload 4), (175, .iastore), (176, .aload_n 0), (177, .iload 4), (179, .invokevirtual 57), (182, .ireturn)]
def zC22 : List (Nat × Instr) := [(0, .iload_n 0), (1, .bipush 48), (3, .if_icmp .lt 16), (6, .iload_n 0), (7, .bipush 57), (9, .if_icmp .gt 10), (12, .iload_n 0), (13, .bipush 48), (15, .isub), (16, .goto 4), (19, .iconst (-1)), (20, .ireturn)]
def zC23 : List (Nat × Instr) := [(0, .iload_n 0), (1, .lookupswitch 41 #[(99, 39), (112, 35), (119, 37)]), (36, .iconst 0), (37, .ireturn), (38, .iconst 1), (39, .ireturn), (40, .iconst 2), (41, .ireturn), (42, .iconst (-1)), (43, .ireturn)]
def zC24 : List (Nat × Instr) := [(0, .aload_n 0), (1, .getfield 21), (4, .iload_n 1), (5, .iaload), (6, .aload_n 0), (7, .getfield 24), (10, .iload_n 2), (11, .iaload), (12, .iadd), (13, .istore_n 3), (14, .aload_n 0), (15, .getfield 9), (18, .iload_n 1), (19, .iaload), (20, .lookupswitch 34 #[(0, 28), (1, 30)]), (48, .iload_n 3), (49, .ireturn), (50, .iload_n 3), (51, .iconst 1), (52, .iadd), (53, .ireturn), (54, .iload_n 3), (55, .iconst 1), (56, .iadd), (57, .iconst 2), (58, .idiv), (59, .ireturn)]
def zC25 : List (Nat × Instr) := [(0, .aload_n 0), (1, .getfield 15), (4, .iload_n 1), (5, .iaload), (6, .ifCond .le 7), (9, .iconst 1), (10, .goto 4), (13, .iconst 0), (14, .ireturn)]
def zC26 : List (Nat × Instr) := [(0, .aload_n 0), (1, .iload_n 1), (2, .invokevirtual 68), (5, .ifCond .eq 16), (8, .aload_n 0), (9, .getfield 30), (12, .iload_n 1), (13, .baload), (14, .ifCond .ne 7), (17, .iconst 1), (18, .goto 4), (21, .iconst 0), (22, .ireturn)]
def zC27 : List (Nat × Instr) := [(0, .iconst 0), (1, .istore_n 1), (2, .iconst 0), (3, .istore_n 2), (4, .iload_n 2), (5, .aload_n 0), (6, .getfield 34), (9, .if_icmp .ge 23), (12, .aload_n 0), (13, .iload_n 2), (14, .invokevirtual 68), (17, .ifCond .eq 9), (20, .iload_n 1), (21, .iconst 1), (22, .iload_n 2), (23, .ishl), (24, .ior), (25, .istore_n 1), (26, .iinc 2 1), (29, .goto (-25)), (32, .iload_n 1), (33, .ireturn)]
def zC28 : List (Nat × Instr) := [(0, .iconst 0), (1, .istore_n 1), (2, .iconst 0), (3, .istore_n 2), (4, .iload_n 2), (5, .aload_n 0), (6, .getfield 34), (9, .if_icmp .ge 32), (12, .aload_n 0), (13, .iload_n 2), (14, .invokevirtual 68), (17, .ifCond .eq 18), (20, .aload_n 0), (21, .getfield 30), (24, .iload_n 2), (25, .baload), (26, .ifCond .eq 9), (29, .iload_n 1), (30, .iconst 1), (31, .iload_n 2), (32, .ishl), (33, .ior), (34, .istore_n 1), (35, .iinc 2 1), (38, .goto (-34)), (41, .iload_n 1), (42, .ireturn)]
def zC29 : List (Nat × Instr) := [(0, .iconst 0), (1, .istore_n 2), (2, .iconst 0), (3, .istore_n 3), (4, .iload_n 3), (5, .aload_n 0), (6, .getfield 34), (9, .if_icmp .ge 25), (12, .aload_n 0), (13, .getfield 27), (16, .iload_n 3), (17, .iaload), (18, .iload_n 1), (19, .if_icmp .ne 9), (22, .iload_n 2), (23, .iconst 1), (24, .iload_n 3), (25, .ishl), (26, .ior), (27, .istore_n 2), (28, .iinc 3 1), (31, .goto (-27)), (34, .iload_n 2), (35, .ireturn)]
def zC30 : List (Nat × Instr) := [(0, .aload_n 0), (1, .getfield 30), (4, .iload_n 1), (5, .baload), (6, .ifCond .eq 12), (9, .aload_n 0), (10, .getfield 15), (13, .iload_n 1), (14, .iaload), (15, .goto 27), (18, .iconst 0), (19, .aload_n 0), (20, .getfield 15), (23, .iload_n 1), (24, .iaload), (25, .iload_n 2), (26, .aload_n 0), (27, .iload_n 1), (28, .aload_n 0), (29, .getfield 27), (32, .iload_n 1), (33, .iaload), (34, .invokevirtual 71), (37, .imul), (38, .isub), (39, .invokestatic 75), (42, .ireturn)]
def zC31 : List (Nat × Instr) := [(0, .iconst 0), (1, .istore_n 1), (2, .iload_n 1), (3, .aload_n 0), (4, .getfield 34), (7, .if_icmp .ge 21), (10, .aload_n 0), (11, .getfield 15), (14, .iload_n 1), (15, .aload_n 0), (16, .iload_n 1), (17, .iconst 1), (18, .invokevirtual 80), (21, .iastore), (22, .iinc 1 1), (25, .goto (-23)), (28, .aload_n 0), (29, .dup), (30, .getfield 42), (33, .iconst 1), (34, .iadd), (35, .putfield 42), (38, .return_)]
def zC32 : List (Nat × Instr) := [(0, .aload_n 0), (1, .iload_n 1), (2, .invokevirtual 68), (5, .ifCond .eq 35), (8, .aload_n 0), (9, .aload_n 0), (10, .getfield 27), (13, .iload_n 1), (14, .iaload), (15, .invokevirtual 83), (18, .ifCond .eq 22), (21, .aload_n 0), (22, .getfield 30), (25, .iload_n 1), (26, .baload), (27, .iload_n 2), (28, .iconst 1), (29, .if_icmp .ne 7), (32, .iconst 1), (33, .goto 4), (36, .iconst 0), (37, .if_icmp .eq 5), (40, .iconst 0), (41, .ireturn), (42, .iload_n 2), (43, .iconst 2), (44, .if_icmp .ne 25), (47, .aload_n 0), (48, .getfield 15), (51, .iload_n 1), (52, .aload_n 0), (53, .getfield 18), (56, .iload_n 1), (57, .iaload), (58, .aload_n 0), (59, .getfield 15), (62, .iload_n 1), (63, .iaload), (64, .isub), (65, .iastore), (66, .goto 18), (69, .aload_n 0), (70, .getfield 30), (73, .iload_n 1), (74, .iload_n 2), (75, .ifCond .ne 7), (78, .iconst 1), (79, .goto 4), (82, .iconst 0), (83, .bastore), (84, .iconst 1), (85, .ireturn)]
def zC33 : List (Nat × Instr) := [(0, .aload_n 0), (1, .iload_n 1), (2, .aload_n 0), (3, .getfield 27), (6, .iload_n 1), (7, .iaload), (8, .invokevirtual 86), (11, .ireturn)]
def zC34 : List (Nat × Instr) := [(0, .aload_n 0), (1, .iload_n 1), (2, .invokevirtual 68), (5, .ifCond .ne 5), (8, .iconst 0), (9, .ireturn), (10, .aload_n 0), (11, .iload_n 1), (12, .iload_n 2), (13, .invokevirtual 71), (16, .istore_n 3), (17, .aload_n 0), (18, .getfield 30), (21, .iload_n 1), (22, .baload), (23, .ifCond .ne 7), (26, .iload_n 3), (27, .ifCond .gt 6), (30, .bipush 99), (32, .ireturn), (33, .aload_n 0), (34, .getfield 15), (37, .iload_n 1), (38, .iaload), (39, .iload_n 3), (40, .iadd), (41, .iconst 1), (42, .isub), (43, .iload_n 3), (44, .idiv), (45, .ireturn)]
def zC35 : List (Nat × Instr) := [(0, .aload_n 0), (1, .iload_n 1), (2, .aload_n 0), (3, .getfield 27), (6, .iload_n 2), (7, .iaload), (8, .invokevirtual 86), (11, .aload_n 0), (12, .iload_n 2), (13, .aload_n 0), (14, .getfield 27), (17, .iload_n 1), (18, .iaload), (19, .invokevirtual 86), (22, .iadd), (23, .istore_n 3), (24, .iload_n 3), (25, .aload_n 0), (26, .iload_n 1), (27, .invokevirtual 89), (30, .isub), (31, .aload_n 0), (32, .iload_n 2), (33, .invokevirtual 89), (36, .isub), (37, .ireturn)]
def zC36 : List (Nat × Instr) := [(0, .iload_n 2), (1, .istore_n 3), (2, .iconst 1), (3, .istore 4), (5, .iload 4), (7, .aload_n 0), (8, .getfield 34), (11, .if_icmp .gt 24), (14, .aload_n 0), (15, .getfield 27), (18, .iload_n 3), (19, .iaload), (20, .istore_n 3), (21, .iload_n 3), (22, .iload_n 1), (23, .if_icmp .ne 6), (26, .iload 4), (28, .ireturn), (29, .iinc 4 1), (32, .goto (-27)), (35, .bipush (-9)), (37, .ireturn)]
def zC37 : List (Nat × Instr) := [(0, .iconst 0), (1, .istore 5), (3, .iload 5), (5, .iload 4), (7, .if_icmp .ge 30), (10, .aload_n 2), (11, .getfield 45), (14, .iload_n 3), (15, .iload 5), (17, .iadd), (18, .iaload), (19, .aload_n 0), (20, .iload_n 1), (21, .iload 5), (23, .invokevirtual 80), (26, .if_icmp .eq 5), (29, .iconst 0), (30, .ireturn), (31, .iinc 5 1), (34, .goto (-31)), (37, .iconst 1), (38, .ireturn)]
def zC38 : List (Nat × Instr) := [(0, .aload_n 0), (1, .iconst 0), (2, .putfield 49), (5, .iload_n 1), (6, .iconst 4), (7, .invokestatic 53), (10, .ifCond .ne 5), (13, .iconst (-1)), (14, .ireturn), (15, .iload_n 2), (16, .iconst 3), (17, .invokestatic 53), (20, .ifCond .ne 6), (23, .bipush (-2)), (25, .ireturn), (26, .aload_n 0), (27, .getfield 44), (30, .iload_n 1), (31, .aaload), (32, .astore 5), (34, .aload 5), (36, .iload_n 2), (37, .iload_n 3), (38, .iload 4), (40, .invokevirtual 57), (43, .istore 6), (45, .iload 6), (47, .ifCond .eq 10), (50, .aload_n 0), (51, .iload 6), (53, .invokevirtual 61), (56, .ireturn), (57, .aload_n 0), (58, .getfield 18), (61, .aload 5), (63, .iload_n 3), (64, .iload 4), (66, .invokevirtual 65), (69, .istore 7), (71, .iload 7), (73, .iconst (-1)), (74, .if_icmp .eq 9), (77, .bipush (-100)), (79, .iload 7), (81, .isub), (82, .ireturn), (83, .aload_n 0), (84, .getfield 12), (87, .aload_n 0), (88, .getfield 18), (91, .invokevirtual 69), (94, .aload_n 0), (95, .getfield 38), (98, .iconst 0), (99, .putfield 73), (102, .aload_n 0), (103, .getfield 12), (106, .getfield 76), (109, .ireturn)]
def zC39 : List (Nat × Instr) := [(0, .aload_n 0), (1, .getfield 12), (4, .iload_n 1), (5, .invokevirtual 79), (8, .ifCond .ne 5), (11, .iconst (-1)), (12, .ireturn), (13, .iload_n 2), (14, .tableswitch 142 0 7 #[46, 56, 66, 76, 86, 96, 114, 132]), (60, .aload_n 0), (61, .getfield 12), (64, .getfield 83), (67, .iload_n 1), (68, .iaload), (69, .ireturn), (70, .aload_n 0), (71, .getfield 12), (74, .getfield 87), (77, .iload_n 1), (78, .iaload), (79, .ireturn), (80, .aload_n 0), (81, .getfield 12), (84, .getfield 90), (87, .iload_n 1), (88, .iaload), (89, .ireturn), (90, .aload_n 0), (91, .getfield 12), (94, .getfield 93), (97, .iload_n 1), (98, .iaload), (99, .ireturn), (100, .aload_n 0), (101, .getfield 12), (104, .getfield 96), (107, .iload_n 1), (108, .iaload), (109, .ireturn), (110, .aload_n 0), (111, .getfield 12), (114, .iload_n 1), (115, .aload_n 0), (116, .getfield 12), (119, .getfield 96), (122, .iload_n 1), (123, .iaload), (124, .invokevirtual 99), (127, .ireturn), (128, .aload_n 0), (129, .getfield 12), (132, .getfield 103), (135, .iload_n 1), (136, .baload), (137, .ifCond .eq 7), (140, .iconst 1), (141, .goto 4), (144, .iconst 0), (145, .ireturn), (146, .aload_n 0), (147, .getfield 12), (150, .getfield 107), (153, .iload_n 1), (154, .iaload), (155, .ireturn), (156, .bipush (-2)), (158, .ireturn)]
def zC40 : List (Nat × Instr) := [(0, .aload_n 0), (1, .getfield 12), (4, .iload_n 1), (5, .invokevirtual 79), (8, .ifCond .eq 14), (11, .aload_n 0), (12, .getfield 12), (15, .iload_n 1), (16, .invokevirtual 110), (19, .goto 4), (22, .iconst (-1)), (23, .ireturn)]
def zC41 : List (Nat × Instr) := [(0, .aload_n 0), (1, .getfield 12), (4, .iload_n 1), (5, .invokevirtual 79), (8, .ifCond .ne 5), (11, .iconst (-1)), (12, .ireturn), (13, .iload_n 2), (14, .bipush 10), (16, .invokestatic 53), (19, .ifCond .ne 6), (22, .bipush (-2)), (24, .ireturn), (25, .aload_n 0), (26, .getfield 12), (29, .getfield 90), (32, .iload_n 1), (33, .iaload), (34, .istore_n 3), (35, .aload_n 0), (36, .getfield 12), (39, .getfield 90), (42, .iload_n 1), (43, .iload_n 2), (44, .iastore), (45, .iload_n 3), (46, .ireturn)]
def zC42 : List (Nat × Instr) := [(0, .aload_n 0), (1, .getfield 12), (4, .iload_n 1), (5, .invokevirtual 79), (8, .ifCond .ne 5), (11, .iconst (-1)), (12, .ireturn), (13, .iload_n 2), (14, .iconst 4), (15, .invokestatic 53), (18, .ifCond .ne 6), (21, .bipush (-2)), (23, .ireturn), (24, .aload_n 0), (25, .getfield 12), (28, .getfield 93), (31, .iload_n 1), (32, .iaload), (33, .istore_n 3), (34, .aload_n 0), (35, .getfield 12), (38, .getfield 93), (41, .iload_n 1), (42, .iload_n 2), (43, .iastore), (44, .iload_n 3), (45, .ireturn)]
def zC43 : List (Nat × Instr) := [(0, .aload_n 0), (1, .getfield 12), (4, .iload_n 1), (5, .invokevirtual 79), (8, .ifCond .eq 14), (11, .aload_n 0), (12, .getfield 12), (15, .iload_n 2), (16, .invokevirtual 79), (19, .ifCond .ne 5), (22, .iconst (-1)), (23, .ireturn), (24, .aload_n 0), (25, .getfield 12), (28, .getfield 96), (31, .iload_n 1), (32, .iaload), (33, .istore_n 3), (34, .aload_n 0), (35, .getfield 12), (38, .getfield 96), (41, .iload_n 1), (42, .iload_n 2), (43, .iastore), (44, .iload_n 3), (45, .ireturn)]
def zC44 : List (Nat × Instr) := [(0, .aload_n 0), (1, .getfield 12), (4, .getfield 76), (7, .ifCond .ne 6), (10, .bipush (-3)), (12, .ireturn), (13, .iload_n 1), (14, .iconst 2), (15, .invokestatic 53), (18, .ifCond .ne 6), (21, .bipush (-2)), (23, .ireturn), (24, .iload_n 1), (25, .ifCond .ne 13), (28, .aload_n 0), (29, .getfield 12), (32, .invokevirtual 113), (35, .goto 10), (38, .aload_n 0), (39, .getfield 12), (42, .invokevirtual 117), (45, .ireturn)]
def zC45 : List (Nat × Instr) := [(0, .aload_n 0), (1, .iload_n 1), (2, .iconst 0), (3, .invokevirtual 120), (6, .ireturn)]
def zC46 : List (Nat × Instr) := [(0, .aload_n 0), (1, .iload_n 1), (2, .iconst 1), (3, .invokevirtual 120), (6, .ireturn)]
def zC47 : List (Nat × Instr) := [(0, .aload_n 0), (1, .iload_n 1), (2, .iconst 2), (3, .invokevirtual 120), (6, .ireturn)]
def zC48 : List (Nat × Instr) := [(0, .aload_n 0), (1, .getfield 12), (4, .getfield 76), (7, .ifCond .ne 6), (10, .bipush (-3)), (12, .ireturn), (13, .iload_n 1), (14, .iconst 1), (15, .if_icmp .lt 9), (18, .iload_n 1), (19, .bipush 99), (21, .if_icmp .le 6), (24, .bipush (-2)), (26, .ireturn), (27, .aload_n 0), (28, .getfield 12), (31, .getfield 123), (34, .iload_n 1), (35, .iadd), (36, .sipush 999), (39, .if_icmp .le 6), (42, .bipush (-3)), (44, .ireturn), (45, .aload_n 0), (46, .getfield 12), (49, .invokevirtual 113), (52, .invokestatic 126), (55, .istore_n 2), (56, .iconst 0), (57, .istore_n 3), (58, .iload_n 3), (59, .iload_n 1), (60, .if_icmp .ge 16), (63, .aload_n 0), (64, .getfield 12), (67, .invokevirtual 131), (70, .iinc 3 1), (73, .goto (-15)), (76, .iload_n 2), (77, .aload_n 0), (78, .getfield 12), (81, .invokevirtual 113), (84, .invokestatic 126), (87, .isub), (88, .ireturn)]
def zC49 : List (Nat × Instr) := [(0, .aload_n 0), (1, .getfield 12), (4, .iload_n 1), (5, .invokevirtual 79), (8, .ifCond .eq 14), (11, .aload_n 0), (12, .getfield 12), (15, .iload_n 1), (16, .invokevirtual 134), (19, .goto 4), (22, .iconst (-1)), (23, .ireturn)]
def zC50 : List (Nat × Instr) := [(0, .aload_n 0), (1, .iconst 0), (2, .putfield 49), (5, .iload_n 1), (6, .iconst 4), (7, .invokestatic 53), (10, .ifCond .ne 5), (13, .iconst (-1)), (14, .ireturn), (15, .iload_n 2), (16, .iconst 3), (17, .invokestatic 53), (20, .ifCond .eq 21), (23, .iload 4), (25, .bipush 21), (27, .invokestatic 53), (30, .ifCond .eq 11), (33, .iload 5), (35, .invokestatic 137), (38, .ifCond .ne 6), (41, .bipush (-2)), (43, .ireturn), (44, .aload_n 0), (45, .getfield 12), (48, .getfield 76), (51, .ifCond .ne 6), (54, .bipush (-3)), (56, .ireturn), (57, .aload_n 0), (58, .getfield 44), (61, .iload_n 1), (62, .aaload), (63, .astore 6), (65, .aload 6), (67, .iload_n 2), (68, .iload_n 3), (69, .iconst 2), (70, .iload 4), (72, .imul), (73, .invokevirtual 57), (76, .istore 7), (78, .iload 7), (80, .ifCond .eq 10), (83, .aload_n 0), (84, .iload 7), (86, .invokevirtual 61), (89, .ireturn), (90, .aload_n 0), (91, .aload 6), (93, .iload_n 3), (94, .iload 4), (96, .invokevirtual 140), (99, .istore 8), (101, .iload 8), (103, .ifCond .eq 6), (106, .iload 8), (108, .ireturn), (109, .aload_n 0), (110, .getfield 24), (113, .aload_n 0), (114, .getfield 12), (117, .aload 6), (119, .iload_n 3), (120, .iload 4), (122, .invokevirtual 143), (125, .istore 9), (127, .iload 5), (129, .iconst 1), (130, .if_icmp .ne 6), (133, .iload 9), (135, .ireturn), (136, .iload 9), (138, .bipush (-9)), (140, .if_icmp .ne 15), (143, .aload_n 0), (144, .getfield 24), (147, .iload 5), (149, .invokevirtual 147), (152, .goto 8), (155, .bipush (-100)), (157, .iload 9), (159, .isub), (160, .ireturn)]
def zC51 : List (Nat × Instr) := [(0, .aload_n 0), (1, .getfield 12), (4, .iload_n 1), (5, .invokevirtual 79), (8, .ifCond .eq 15), (11, .aload_n 0), (12, .getfield 12), (15, .iload_n 1), (16, .iload_n 1), (17, .invokevirtual 150), (20, .goto 4), (23, .iconst (-1)), (24, .ireturn)]
def zC52 : List (Nat × Instr) := [(0, .aload_n 0), (1, .getfield 12), (4, .iload_n 1), (5, .invokevirtual 79), (8, .ifCond .eq 26), (11, .aload_n 0), (12, .getfield 12), (15, .iload_n 2), (16, .invokevirtual 79), (19, .ifCond .eq 15), (22, .aload_n 0), (23, .getfield 12), (26, .iload_n 1), (27, .iload_n 2), (28, .invokevirtual 150), (31, .goto 4), (34, .iconst (-1)), (35, .ireturn)]
def zC53 : List (Nat × Instr) := [(0, .iload_n 1), (1, .iconst (-1)), (2, .if_icmp .lt 9), (5, .iload_n 1), (6, .bipush 6), (8, .if_icmp .lt 6), (11, .bipush (-2)), (13, .ireturn), (14, .aload_n 0), (15, .getfield 12), (18, .getfield 76), (21, .ifCond .ne 6), (24, .bipush (-3)), (26, .ireturn), (27, .iload_n 1), (28, .aload_n 0), (29, .getfield 12), (32, .getfield 76), (35, .if_icmp .lt 6), (38, .bipush (-9)), (40, .ireturn), (41, .aload_n 0), (42, .getfield 31), (45, .aload_n 0), (46, .getfield 12), (49, .invokevirtual 153), (52, .iload_n 1), (53, .iconst (-1)), (54, .if_icmp .ne 15), (57, .aload_n 0), (58, .getfield 31), (61, .getfield 156), (64, .iconst 0), (65, .iaload), (66, .goto 15), (69, .aload_n 0), (70, .getfield 31), (73, .iload_n 1), (74, .aload_n 0), (75, .getfield 12), (78, .invokevirtual 159), (81, .ireturn)]
def zC54 : List (Nat × Instr) := [(0, .iload_n 1), (1, .iconst 3), (2, .invokestatic 53), (5, .ifCond .ne 6), (8, .bipush (-2)), (10, .ireturn), (11, .aload_n 0), (12, .getfield 12), (15, .getfield 76), (18, .ifCond .ne 6), (21, .bipush (-3)), (23, .ireturn), (24, .iconst 0), (25, .istore_n 2), (26, .bipush (-9)), (28, .istore_n 3), (29, .bipush (-9)), (31, .istore 4), (33, .iconst 0), (34, .istore 5), (36, .iload 5), (38, .aload_n 0), (39, .getfield 12), (42, .getfield 76), (45, .if_icmp .ge 62), (48, .iload 5), (50, .iconst 1), (51, .iadd), (52, .istore 6), (54, .iload 6), (56, .aload_n 0), (57, .getfield 12), (60, .getfield 76), (63, .if_icmp .ge 38), (66, .aload_n 0), (67, .getfield 12), (70, .iload 5), (72, .iload 6), (74, .invokevirtual 163), (77, .istore 7), (79, .iload 7), (81, .iload_n 2), (82, .if_icmp .le 13), (85, .iload 7), (87, .istore_n 2), (88, .iload 5), (90, .istore_n 3), (91, .iload 6), (93, .istore 4), (95, .iinc 6 1), (98, .goto (-44)), (101, .iinc 5 1), (104, .goto (-68)), (107, .iload_n 1), (108, .ifCond .ne 14), (111, .iload_n 2), (112, .ifCond .le 7), (115, .iload_n 2), (116, .goto 5), (119, .bipush (-9)), (121, .ireturn), (122, .iload_n 1), (123, .iconst 1), (124, .if_icmp .ne 7), (127, .iload_n 3), (128, .goto 5), (131, .iload 4), (133, .ireturn)]
def zC55 : List (Nat × Instr) := [(0, .iload_n 1), (1, .iconst 2), (2, .invokestatic 53), (5, .ifCond .ne 6), (8, .bipush (-2)), (10, .ireturn), (11, .aload_n 0), (12, .getfield 12), (15, .getfield 76), (18, .ifCond .ne 6), (21, .bipush (-3)), (23, .ireturn), (24, .bipush (-9)), (26, .istore_n 2), (27, .bipush 99), (29, .istore_n 3), (30, .iconst 0), (31, .istore 4), (33, .iload 4), (35, .aload_n 0), (36, .getfield 12), (39, .getfield 76), (42, .if_icmp .ge 47), (45, .aload_n 0), (46, .getfield 12), (49, .iload 4), (51, .invokevirtual 166), (54, .ifCond .eq 29), (57, .aload_n 0), (58, .getfield 12), (61, .iload 4), (63, .invokevirtual 134), (66, .iload_n 3), (67, .if_icmp .ge 16), (70, .iload 4), (72, .istore_n 2), (73, .aload_n 0), (74, .getfield 12), (77, .iload 4), (79, .invokevirtual 134), (82, .istore_n 3), (83, .iinc 4 1), (86, .goto (-53)), (89, .iload_n 1), (90, .ifCond .eq 9), (93, .iload_n 2), (94, .bipush (-9)), (96, .if_icmp .ne 7), (99, .iload_n 2), (100, .goto 4), (103, .iload_n 3), (104, .ireturn)]
def zC56 : List (Nat × Instr) := [(0, .aload_n 0), (1, .iconst 0), (2, .putfield 49), (5, .iload_n 1), (6, .iconst 4), (7, .invokestatic 53), (10, .ifCond .ne 5), (13, .iconst (-1)), (14, .ireturn), (15, .iload_n 2), (16, .iconst 3), (17, .invokestatic 53), (20, .ifCond .eq 13), (23, .iload 4), (25, .bipush 41), (27, .invokestatic 53), (30, .ifCond .ne 6), (33, .bipush (-2)), (35, .ireturn), (36, .aload_n 0), (37, .getfield 12), (40, .getfield 76), (43, .ifCond .ne 6), (46, .bipush (-3)), (48, .ireturn), (49, .aload_n 0), (50, .getfield 44), (53, .iload_n 1), (54, .aaload), (55, .astore 5), (57, .aload 5), (59, .iload_n 2), (60, .iload_n 3), (61, .iload 4), (63, .invokevirtual 57), (66, .istore 6), (68, .iload 6), (70, .ifCond .eq 10), (73, .aload_n 0), (74, .iload 6), (76, .invokevirtual 61), (79, .ireturn), (80, .iconst 0), (81, .istore 7), (83, .iconst 0), (84, .istore 8), (86, .iload 8), (88, .aload_n 0), (89, .getfield 12), (92, .getfield 76), (95, .if_icmp .ge 35), (98, .aload_n 0), (99, .getfield 12), (102, .iload 8), (104, .aload 5), (106, .iload_n 3), (107, .iload 4), (109, .invokevirtual 169), (112, .ifCond .eq 12), (115, .iload 7), (117, .iconst 1), (118, .iload 8), (120, .ishl), (121, .ior), (122, .istore 7), (124, .iinc 8 1), (127, .goto (-41)), (130, .iload 7), (132, .ireturn)]
def zC57 : List (Nat × Instr) := [(0, .aload_n 0), (1, .getfield 12), (4, .iload_n 1), (5, .invokevirtual 79), (8, .ifCond .ne 5), (11, .iconst (-1)), (12, .ireturn), (13, .iload_n 2), (14, .bipush 100), (16, .invokestatic 53), (19, .ifCond .eq 12), (22, .iload_n 3), (23, .bipush 100), (25, .invokestatic 53), (28, .ifCond .ne 6), (31, .bipush (-2)), (33, .ireturn), (34, .aload_n 0), (35, .getfield 38), (38, .getfield 73), (41, .bipush 8), (43, .if_icmp .ge 16), (46, .aload_n 0), (47, .getfield 38), (50, .iload_n 1), (51, .iload_n 2), (52, .iload_n 3), (53, .invokevirtual 173), (56, .goto 5), (59, .bipush (-4)), (61, .ireturn)]
def zC58 : List (Nat × Instr) := [(0, .iload_n 1), (1, .ifCond .lt 14), (4, .iload_n 1), (5, .aload_n 0), (6, .getfield 38), (9, .getfield 73), (12, .if_icmp .le 6), (15, .bipush (-2)), (17, .ireturn), (18, .aload_n 0), (19, .getfield 38), (22, .dup), (23, .getfield 73), (26, .iload_n 1), (27, .isub), (28, .putfield 73), (31, .aload_n 0), (32, .getfield 38), (35, .getfield 73), (38, .ireturn)]
def zC59 : List (Nat × Instr) := [(0, .aload_n 0), (1, .getfield 12), (4, .iload_n 1), (5, .invokevirtual 79), (8, .ifCond .eq 27), (11, .aload_n 0), (12, .getfield 38), (15, .aload_n 0), (16, .getfield 12), (19, .aload_n 0), (20, .getfield 12), (23, .getfield 90), (26, .iload_n 1), (27, .bipush 10), (29, .invokevirtual 176), (32, .goto 4), (35, .iconst (-1)), (36, .ireturn)]
def zC60 : List (Nat × Instr) := [(0, .aload_n 0), (1, .getfield 12), (4, .iload_n 1), (5, .invokevirtual 79), (8, .ifCond .eq 26), (11, .aload_n 0), (12, .getfield 38), (15, .aload_n 0), (16, .getfield 12), (19, .aload_n 0), (20, .getfield 12), (23, .getfield 83), (26, .iload_n 1), (27, .iconst 3), (28, .invokevirtual 176), (31, .goto 4), (34, .iconst (-1)), (35, .ireturn)]
def zC61 : List (Nat × Instr) := [(0, .aload_n 0), (1, .getfield 12), (4, .iload_n 1), (5, .invokevirtual 79), (8, .ifCond .eq 32), (11, .aload_n 0), (12, .getfield 38), (15, .aload_n 0), (16, .getfield 12), (19, .aload_n 0), (20, .getfield 12), (23, .getfield 96), (26, .iload_n 1), (27, .aload_n 0), (28, .getfield 12), (31, .getfield 76), (34, .invokevirtual 176), (37, .goto 4), (40, .iconst (-1)), (41, .ireturn)]
def zC62 : List (Nat × Instr) := [(0, .aload_n 0), (1, .getfield 12), (4, .iload_n 1), (5, .invokevirtual 79), (8, .ifCond .eq 20), (11, .iload_n 2), (12, .bipush 100), (14, .invokestatic 53), (17, .ifCond .eq 11), (20, .iload_n 3), (21, .iconst 2), (22, .invokestatic 53), (25, .ifCond .ne 7), (28, .ldc2_w 180), (31, .lreturn), (32, .aload_n 0), (33, .getfield 12), (36, .getfield 76), (39, .iconst 1), (40, .isub), (41, .istore 4), (43, .iconst 0), (44, .istore 5), (46, .iconst 0), (47, .istore 6), (49, .iload 6), (51, .aload_n 0), (52, .getfield 12), (55, .getfield 76), (58, .if_icmp .ge 32), (61, .iload 6), (63, .iload_n 1), (64, .if_icmp .eq 20), (67, .aload_n 0), (68, .getfield 12), (71, .iload_n 1), (72, .iload 6), (74, .invokevirtual 182), (77, .iload_n 2), (78, .if_icmp .lt 6), (81, .iinc 5 1), (84, .iinc 6 1), (87, .goto (-38)), (90, .iload 4), (92, .iload 5), (94, .invokestatic 185), (97, .istore 6), (99, .iload_n 3), (100, .ifCond .ne 12), (103, .iload 5), (105, .iload 6), (107, .idiv), (108, .i2l), (109, .goto 9), (112, .iload 4), (114, .iload 6), (116, .idiv), (117, .i2l), (118, .lreturn)]
def zC63 : List (Nat × Instr) := [(0, .aload_n 0), (1, .iconst 0), (2, .putfield 49), (5, .iload_n 1), (6, .iconst 4), (7, .invokestatic 53), (10, .ifCond .ne 5), (13, .iconst (-1)), (14, .ireturn), (15, .iload_n 2), (16, .iconst 3), (17, .invokestatic 53), (20, .ifCond .eq 9), (23, .iload_n 3), (24, .bipush 60), (26, .if_icmp .le 6), (29, .bipush (-2)), (31, .ireturn), (32, .iload_n 3), (33, .ifCond .ge 9), (36, .aload_n 0), (37, .iconst 4), (38, .invokevirtual 61), (41, .ireturn), (42, .aload_n 0), (43, .getfield 44), (46, .iload_n 1), (47, .aaload), (48, .iload_n 2), (49, .iload_n 3), (50, .invokevirtual 188), (53, .iconst 1), (54, .ireturn)]
def zC64 : List (Nat × Instr) := [(0, .iload_n 1), (1, .iconst 4), (2, .invokestatic 53), (5, .ifCond .ne 5), (8, .iconst (-1)), (9, .ireturn), (10, .aload_n 0), (11, .getfield 44), (14, .iload_n 1), (15, .aaload), (16, .getfield 192), (19, .istore_n 2), (20, .aload_n 0), (21, .getfield 44), (24, .iload_n 1), (25, .aaload), (26, .iconst 0), (27, .putfield 192), (30, .iload_n 2), (31, .ifCond .eq 7), (34, .iconst 1), (35, .goto 4), (38, .iconst 0), (39, .ireturn)]
def zC65 : List (Nat × Instr) := [(0, .aload_n 0), (1, .iconst 0), (2, .putfield 49), (5, .iload_n 1), (6, .iconst 4), (7, .invokestatic 53), (10, .ifCond .ne 5), (13, .iconst (-1)), (14, .ireturn), (15, .aload_n 0), (16, .getfield 44), (19, .iload_n 1), (20, .aaload), (21, .astore 4), (23, .aload 4), (25, .getfield 192), (28, .ifCond .ne 9), (31, .aload_n 0), (32, .iconst 1), (33, .invokevirtual 61), (36, .ireturn), (37, .iload_n 2), (38, .aload 4), (40, .getfield 196), (43, .invokestatic 53), (46, .ifCond .ne 9), (49, .aload_n 0), (50, .iconst 3), (51, .invokevirtual 61), (54, .ireturn), (55, .aload 4), (57, .getfield 199), (60, .iload_n 2), (61, .aload 4), (63, .iload_n 3), (64, .invokevirtual 202), (67, .iastore), (68, .iconst 1), (69, .ireturn)]
def zC66 : List (Nat × Instr) := [(0, .aload_n 0), (1, .iconst 0), (2, .putfield 49), (5, .iload_n 1), (6, .iconst 4), (7, .invokestatic 53), (10, .ifCond .eq 11), (13, .iload_n 3), (14, .iconst 3), (15, .invokestatic 53), (18, .ifCond .ne 7), (21, .ldc2_w 180), (24, .lreturn), (25, .aload_n 0), (26, .getfield 44), (29, .iload_n 1), (30, .aaload), (31, .astore 4), (33, .aload 4), (35, .iload_n 3), (36, .invokevirtual 205), (39, .istore 5), (41, .iload 5), (43, .ifCond .ne 18), (46, .iload_n 2), (47, .aload 4), (49, .getfield 196), (52, .invokestatic 53), (55, .ifCond .ne 6), (58, .iconst 3), (59, .istore 5), (61, .iload 5), (63, .ifCond .eq 13), (66, .aload_n 0), (67, .iload 5), (69, .putfield 49), (72, .ldc2_w 180), (75, .lreturn), (76, .aload 4), (78, .getfield 199), (81, .iload_n 2), (82, .iaload), (83, .i2l), (84, .lreturn)]
def zC67 : List (Nat × Instr) := [(0, .aload_n 0), (1, .iconst 0), (2, .putfield 49), (5, .iload_n 1), (6, .iconst 4), (7, .invokestatic 53), (10, .ifCond .eq 11), (13, .iload_n 3), (14, .iconst 4), (15, .invokestatic 53), (18, .ifCond .ne 5), (21, .iconst (-1)), (22, .ireturn), (23, .aload_n 0), (24, .getfield 44), (27, .iload_n 1), (28, .aaload), (29, .astore 6), (31, .aload_n 0), (32, .getfield 44), (35, .iload_n 3), (36, .aaload), (37, .astore 7), (39, .aload 6), (41, .getfield 192), (44, .ifCond .eq 11), (47, .aload 7), (49, .getfield 192), (52, .ifCond .ne 9), (55, .aload_n 0), (56, .iconst 1), (57, .invokevirtual 61), (60, .ireturn), (61, .aload 6), (63, .getfield 208), (66, .aload 7), (68, .getfield 208), (71, .if_icmp .eq 9), (74, .aload_n 0), (75, .iconst 2), (76, .invokevirtual 61), (79, .ireturn), (80, .iload 5), (82, .ifCond .lt 26), (85, .aload 6), (87, .iload_n 2), (88, .iload 5), (90, .invokevirtual 211), (93, .ifCond .eq 15), (96, .aload 7), (98, .iload 4), (100, .iload 5), (102, .invokevirtual 211), (105, .ifCond .ne 9), (108, .aload_n 0), (109, .iconst 3), (110, .invokevirtual 61), (113, .ireturn), (114, .aload 6), (116, .getfield 199), (119, .iload_n 2), (120, .aload 7), (122, .getfield 199), (125, .iload 4), (127, .iload 5), (129, .invokestatic 214), (132, .iload 5), (134, .ireturn)]
def zC68 : List (Nat × Instr) := [(0, .aload_n 0), (1, .getfield 12), (4, .iload_n 1), (5, .invokevirtual 79), (8, .ifCond .ne 5), (11, .iconst (-1)), (12, .ireturn), (13, .aload_n 0), (14, .getfield 12), (17, .getfield 83), (20, .iload_n 1), (21, .iaload), (22, .lookupswitch 38 #[(0, 26), (1, 32)]), (48, .aload_n 0), (49, .iload_n 1), (50, .invokevirtual 220), (53, .ireturn), (54, .aload_n 0), (55, .iload_n 1), (56, .invokevirtual 223), (59, .ireturn), (60, .aload_n 0), (61, .iload_n 1), (62, .invokevirtual 226), (65, .ireturn)]
def zC69 : List (Nat × Instr) := [(0, .aload_n 0), (1, .getfield 12), (4, .iload_n 1), (5, .invokevirtual 79), (8, .ifCond .ne 5), (11, .iconst (-1)), (12, .ireturn), (13, .aload_n 0), (14, .getfield 12), (17, .getfield 83), (20, .iload_n 1), (21, .iaload), (22, .iconst 2), (23, .if_icmp .ne 11), (26, .aload_n 0), (27, .iconst 5), (28, .invokevirtual 229), (31, .bipush 50), (33, .ireturn), (34, .aload_n 0), (35, .iconst 4), (36, .invokevirtual 229), (39, .iload_n 1), (40, .ireturn)]
def zC70 : List (Nat × Instr) := [(0, .aload_n 0), (1, .iconst 0), (2, .putfield 49), (5, .aload_n 0), (6, .getfield 12), (9, .iload_n 1), (10, .invokevirtual 79), (13, .ifCond .ne 5), (16, .iconst (-1)), (17, .ireturn), (18, .iload_n 2), (19, .iconst 3), (20, .invokestatic 53), (23, .ifCond .ne 6), (26, .bipush (-2)), (28, .ireturn), (29, .aload_n 0), (30, .getfield 12), (33, .getfield 83), (36, .iload_n 1), (37, .iaload), (38, .iload_n 2), (39, .if_icmp .lt 7), (42, .iconst 1), (43, .goto 8), (46, .aload_n 0), (47, .iconst 2), (48, .invokevirtual 61), (51, .ireturn)]
def zC71 : List (Nat × Instr) := [(0, .aload_n 0), (1, .getfield 233), (4, .ireturn)]
def zC72 : List (Nat × Instr) := [(0, .aload_n 0), (1, .getfield 49), (4, .ireturn)]
def zC73 : List (Nat × Instr) := [(0, .iload_n 1), (1, .tableswitch 66 0 3 #[31, 39, 50, 58]), (32, .aload_n 0), (33, .getfield 12), (36, .getfield 76), (39, .ireturn), (40, .aload_n 0), (41, .getfield 12), (44, .invokevirtual 113), (47, .invokestatic 126), (50, .ireturn), (51, .aload_n 0), (52, .getfield 12), (55, .getfield 123), (58, .ireturn), (59, .aload_n 0), (60, .getfield 38), (63, .getfield 73), (66, .ireturn), (67, .bipush (-2)), (69, .ireturn)]
def zC74 : List (Nat × Instr) := [(0, .iload_n 0), (1, .ifCond .lt 12), (4, .iload_n 0), (5, .iload_n 1), (6, .if_icmp .ge 7), (9, .iconst 1), (10, .goto 4), (13, .iconst 0), (14, .ireturn)]
def zC75 : List (Nat × Instr) := [(0, .iload_n 0), (1, .istore_n 2), (2, .iload_n 2), (3, .iconst 1), (4, .if_icmp .le 23), (7, .iload_n 0), (8, .iload_n 2), (9, .irem), (10, .ifCond .ne 11), (13, .iload_n 1), (14, .iload_n 2), (15, .irem), (16, .ifCond .ne 5), (19, .iload_n 2), (20, .ireturn), (21, .iinc 2 (-1)), (24, .goto (-22)), (27, .iconst 1), (28, .ireturn)]
def zC76 : List (Nat × Instr) := [(0, .aload_n 0), (1, .iload_n 1), (2, .putfield 49), (5, .bipush (-10)), (7, .iload_n 1), (8, .isub), (9, .ireturn)]
def zC77 : List (Nat × Instr) := [(0, .aload_n 0), (1, .getfield 12), (4, .iload_n 1), (5, .invokevirtual 79), (8, .ifCond .ne 5), (11, .iconst (-1)), (12, .ireturn), (13, .aload_n 0), (14, .getfield 12), (17, .iload_n 1), (18, .iload_n 2), (19, .invokevirtual 236), (22, .ifCond .eq 15), (25, .aload_n 0), (26, .getfield 12), (29, .getfield 87), (32, .iload_n 1), (33, .iaload), (34, .goto 5), (37, .bipush (-3)), (39, .ireturn)]
def zC78 : List (Nat × Instr) := [(0, .iload_n 0), (1, .iconst 4), (2, .invokestatic 53), (5, .ifCond .ne 27), (8, .iload_n 0), (9, .bipush 10), (11, .isub), (12, .bipush 6), (14, .invokestatic 53), (17, .ifCond .ne 15), (20, .iload_n 0), (21, .bipush 20), (23, .isub), (24, .bipush 6), (26, .invokestatic 53), (29, .ifCond .eq 7), (32, .iconst 1), (33, .goto 4), (36, .iconst 0), (37, .ireturn)]
def zC79 : List (Nat × Instr) := [(0, .iconst 0), (1, .istore 4), (3, .iload 4), (5, .iload_n 3), (6, .if_icmp .ge 83), (9, .aload_n 1), (10, .getfield 199), (13, .iload_n 2), (14, .iconst 2), (15, .iload 4), (17, .imul), (18, .iadd), (19, .iaload), (20, .istore 5), (22, .aload_n 1), (23, .getfield 199), (26, .iload_n 2), (27, .iconst 2), (28, .iload 4), (30, .imul), (31, .iadd), (32, .iconst 1), (33, .iadd), (34, .iaload), (35, .istore 6), (37, .iload 6), (39, .bipush 9), (41, .if_icmp .ne 16), (44, .iload 5), (46, .bipush 10), (48, .invokestatic 53), (51, .ifCond .ne 32), (54, .bipush (-2)), (56, .ireturn), (57, .iload 6), (59, .iconst 3), (60, .invokestatic 53), (63, .ifCond .ne 6), (66, .bipush (-2)), (68, .ireturn), (69, .aload_n 0), (70, .getfield 12), (73, .iload 5), (75, .invokevirtual 79), (78, .ifCond .ne 5), (81, .iconst (-1)), (82, .ireturn), (83, .iinc 4 1), (86, .goto (-83)), (89, .iconst 0), (90, .ireturn)]
def zC80 : List (Nat × Instr) := [(0, .aload_n 0), (1, .bipush 31), (3, .aload_n 0), (4, .getfield 233), (7, .imul), (8, .iload_n 1), (9, .iadd), (10, .putfield 233), (13, .return_)]
def zC81 : List (Nat × Instr) := [(0, .aload_n 0), (1, .iconst 1), (2, .invokevirtual 229), (5, .aload_n 0), (6, .getfield 12), (9, .getfield 90), (12, .iload_n 1), (13, .iaload), (14, .ireturn)]
def zC82 : List (Nat × Instr) := [(0, .aload_n 0), (1, .iconst 2), (2, .invokevirtual 229), (5, .aload_n 0), (6, .iload_n 1), (7, .invokevirtual 220), (10, .bipush 100), (12, .iadd), (13, .ireturn)]
def zC83 : List (Nat × Instr) := [(0, .aload_n 0), (1, .iconst 3), (2, .invokevirtual 229), (5, .aload_n 0), (6, .iload_n 1), (7, .invokevirtual 223), (10, .istore_n 2), (11, .iload_n 2), (12, .aload_n 0), (13, .iload_n 1), (14, .invokevirtual 220), (17, .iadd), (18, .ireturn)]
def zC84 : List (Nat × Instr) := [(0, .lload_n 0), (1, .lload_n 2), (2, .lcmp), (3, .ifCond .lt 14), (6, .lload_n 0), (7, .lload 4), (9, .lcmp), (10, .ifCond .gt 7), (13, .iconst 1), (14, .goto 4), (17, .iconst 0), (18, .ireturn)]
def zC85 : List (Nat × Instr) := [(0, .ldc2_w 76), (3, .lreturn)]
def zC86 : List (Nat × Instr) := [(0, .iload_n 0), (1, .iload_n 1), (2, .ishr), (3, .iconst 1), (4, .iand), (5, .iconst 1), (6, .if_icmp .ne 7), (9, .iconst 1), (10, .goto 4), (13, .iconst 0), (14, .ireturn)]
def zC87 : List (Nat × Instr) := [(0, .iconst 0), (1, .istore_n 1), (2, .iload_n 0), (3, .istore_n 2), (4, .iload_n 2), (5, .ifCond .le 16), (8, .iload_n 1), (9, .iload_n 2), (10, .iconst 1), (11, .iand), (12, .iadd), (13, .istore_n 1), (14, .iload_n 2), (15, .iconst 1), (16, .ishr), (17, .istore_n 2), (18, .goto (-14)), (21, .iload_n 1), (22, .ireturn)]
def zC88 : List (Nat × Instr) := [(0, .lload_n 0), (1, .lstore 5), (3, .lload_n 2), (4, .lstore 7), (6, .lload 7), (8, .lconst 0), (9, .lcmp), (10, .ifCond .eq 21), (13, .lload 5), (15, .lload 7), (17, .lrem), (18, .lstore 9), (20, .lload 7), (22, .lstore 5), (24, .lload 9), (26, .lstore 7), (28, .goto (-22)), (31, .iload 4), (33, .ifCond .ne 7), (36, .lload_n 0), (37, .goto 4), (40, .lload_n 2), (41, .lload 5), (43, .ldiv), (44, .lreturn)]
def zC89 : List (Nat × Instr) := [(0, .aload_n 0), (1, .iconst 0), (2, .putfield 78), (5, .iload_n 1), (6, .ireturn)]
def zC90 : List (Nat × Instr) := [(0, .aload_n 0), (1, .iload_n 1), (2, .putfield 78), (5, .bipush (-10)), (7, .iload_n 1), (8, .isub), (9, .ireturn)]
def zC91 : List (Nat × Instr) := [(0, .aload_n 0), (1, .iload_n 1), (2, .putfield 78), (5, .invokestatic 82), (8, .lreturn)]
def zC92 : List (Nat × Instr) := [(0, .iload_n 1), (1, .i2l), (2, .lconst 0), (3, .aload_n 0), (4, .getfield 86), (7, .i2l), (8, .lconst 1), (9, .lsub), (10, .invokestatic 89), (13, .ifCond .ne 7), (16, .iconst 1), (17, .goto 4), (20, .iconst 0), (21, .ireturn)]
def zC93 : List (Nat × Instr) := [(0, .aload_n 0), (1, .getfield 93), (4, .iload_n 2), (5, .if_icmp .ge 17), (8, .aload_n 0), (9, .getfield 70), (12, .iload_n 1), (13, .aload_n 0), (14, .getfield 93), (17, .iadd), (18, .iaload), (19, .goto 5), (22, .bipush (-9)), (24, .ireturn)]
def zC94 : List (Nat × Instr) := [(0, .iload_n 3), (1, .ifCond .ge 8), (4, .bipush (-9)), (6, .goto 12), (9, .aload_n 0), (10, .iload_n 1), (11, .iload_n 2), (12, .invokevirtual 96), (15, .bipush 48), (17, .isub), (18, .istore 6), (20, .iload 6), (22, .i2l), (23, .iload 4), (25, .i2l), (26, .iload 5), (28, .i2l), (29, .invokestatic 89), (32, .istore 7), (34, .aload_n 0), (35, .dup), (36, .getfield 93), (39, .iload 7), (41, .ifCond .eq 7), (44, .iconst 1), (45, .goto 4), (48, .iconst 0), (49, .iadd), (50, .putfield 93), (53, .iload 7), (55, .ifCond .eq 8), (58, .iload 6), (60, .goto 5), (63, .bipush (-9)), (65, .ireturn)]
def zC95 : List (Nat × Instr) := [(0, .aload_n 0), (1, .iload_n 1), (2, .iload_n 2), (3, .invokevirtual 96), (6, .bipush 59), (8, .if_icmp .eq 5), (11, .iconst 0), (12, .ireturn), (13, .aload_n 0), (14, .dup), (15, .getfield 93), (18, .iconst 1), (19, .iadd), (20, .putfield 93), (23, .aload_n 0), (24, .iload_n 1), (25, .iload_n 2), (26, .invokevirtual 96), (29, .istore 4), (31, .iload 4), (33, .bipush 112), (35, .if_icmp .eq 19), (38, .iload 4), (40, .bipush 119), (42, .if_icmp .eq 12), (45, .iload 4), (47, .bipush 99), (49, .if_icmp .eq 5), (52, .iconst 0), (53, .ireturn), (54, .aload_n 0), (55, .dup), (56, .getfield 93), (59, .iconst 1), (60, .iadd), (61, .putfield 93), (64, .aload_n 0), (65, .iload_n 1), (66, .iload_n 2), (67, .iconst 0), (68, .iconst 0), (69, .bipush 9), (71, .invokevirtual 100), (74, .istore 5), (76, .aload_n 0), (77, .iload_n 1), (78, .iload_n 2), (79, .iload 5), (81, .iload 5), (83, .ifCond .ne 7), (86, .iconst 1), (87, .goto 4), (90, .iconst 0), (91, .bipush 9), (93, .invokevirtual 100), (96, .istore 6), (98, .aload_n 0), (99, .iload_n 1), (100, .iload_n 2), (101, .iload 6), (103, .iconst 0), (104, .bipush 9), (106, .invokevirtual 100), (109, .istore 7), (111, .aload_n 0), (112, .iload_n 1), (113, .iload_n 2), (114, .iload 7), (116, .iconst 0), (117, .iconst 3), (118, .invokevirtual 100), (121, .istore 8), (123, .aload_n 0), (124, .iload_n 1), (125, .iload_n 2), (126, .iload 8), (128, .iconst 0), (129, .aload_n 0), (130, .getfield 104), (133, .iconst 1), (134, .isub), (135, .invokevirtual 100), (138, .istore 9), (140, .aload_n 0), (141, .getfield 28), (144, .iload_n 3), (145, .iload 4), (147, .bipush 112), (149, .if_icmp .ne 7), (152, .iconst 0), (153, .goto 15), (156, .iload 4), (158, .bipush 119), (160, .if_icmp .ne 7), (163, .iconst 1), (164, .goto 4), (167, .iconst 2), (168, .iastore), (169, .aload_n 0), (170, .getfield 31), (173, .iload_n 3), (174, .bipush 10), (176, .iload 5), (178, .imul), (179, .iload 6), (181, .iadd), (182, .iastore), (183, .aload_n 0), (184, .getfield 34), (187, .iload_n 3), (188, .iload 7), (190, .iastore), (191, .aload_n 0), (192, .getfield 37), (195, .iload_n 3), (196, .iload 8), (198, .iastore), (199, .aload_n 0), (200, .getfield 40), (203, .iload_n 3), (204, .iload 9), (206, .iastore), (207, .iload 9), (209, .ifCond .lt 7), (212, .iconst 1), (213, .goto 4), (216, .iconst 0), (217, .ireturn)]
def zC96 : List (Nat × Instr) := [(0, .aload_n 0), (1, .iconst 0), (2, .putfield 93), (5, .aload_n 0), (6, .iload_n 1), (7, .iload_n 2), (8, .invokevirtual 96), (11, .bipush 115), (13, .if_icmp .eq 5), (16, .iconst 0), (17, .ireturn), (18, .aload_n 0), (19, .dup), (20, .getfield 93), (23, .iconst 1), (24, .iadd), (25, .putfield 93), (28, .aload_n 0), (29, .aload_n 0), (30, .iload_n 1), (31, .iload_n 2), (32, .iconst 0), (33, .iconst 2), (34, .bipush 6), (36, .invokevirtual 100), (39, .putfield 104), (42, .aload_n 0), (43, .getfield 104), (46, .ifCond .le 7), (49, .iconst 1), (50, .goto 4), (53, .iconst 0), (54, .istore_n 3), (55, .iconst 0), (56, .istore 4), (58, .iload 4), (60, .aload_n 0), (61, .getfield 104), (64, .if_icmp .ge 22), (67, .iload_n 3), (68, .ifCond .eq 18), (71, .aload_n 0), (72, .iload_n 1), (73, .iload_n 2), (74, .iload 4), (76, .invokevirtual 107), (79, .istore_n 3), (80, .iinc 4 1), (83, .goto (-25)), (86, .iload_n 3), (87, .ifCond .eq 15), (90, .aload_n 0), (91, .getfield 93), (94, .iload_n 2), (95, .if_icmp .ne 7), (98, .iconst 1), (99, .goto 4), (102, .iconst 0), (103, .ireturn)]
def zC97 : List (Nat × Instr) := [(0, .aload_n 0), (1, .getfield 64), (4, .iload_n 1), (5, .iaload), (6, .ifCond .lt 19), (9, .aload_n 0), (10, .getfield 67), (13, .iload_n 1), (14, .iaload), (15, .iload_n 2), (16, .if_icmp .eq 9), (19, .aload_n 0), (20, .iconst 2), (21, .invokevirtual 111), (24, .ireturn), (25, .aload_n 0), (26, .getfield 64), (29, .iload_n 1), (30, .iaload), (31, .ifCond .ge 9), (34, .aload_n 0), (35, .iconst 1), (36, .invokevirtual 111), (39, .ireturn), (40, .lload 4), (42, .lconst 0), (43, .lcmp), (44, .ifCond .ge 9), (47, .aload_n 0), (48, .iconst 4), (49, .invokevirtual 111), (52, .ireturn), (53, .iload_n 3), (54, .lload 4), (56, .aload_n 0), (57, .getfield 64), (60, .iload_n 1), (61, .iaload), (62, .invokestatic 115), (65, .ifCond .eq 11), (68, .aload_n 0), (69, .iconst 3), (70, .invokevirtual 111), (73, .goto 4), (76, .iconst 0), (77, .ireturn)]
def zC98 : List (Nat × Instr) := [(0, .iload_n 1), (1, .invokestatic 119), (4, .ifCond .eq 9), (7, .aload_n 0), (8, .iconst (-1)), (9, .invokevirtual 123), (12, .ireturn), (13, .iload_n 2), (14, .i2l), (15, .lconst 0), (16, .ldc2_w 126), (19, .invokestatic 89), (22, .ifCond .ne 10), (25, .aload_n 0), (26, .bipush (-2)), (28, .invokevirtual 123), (31, .ireturn), (32, .aload_n 0), (33, .iload_n 1), (34, .iload_n 2), (35, .iload_n 3), (36, .iload 4), (38, .i2l), (39, .invokevirtual 128), (42, .istore 5), (44, .iload 5), (46, .ifCond .ge 6), (49, .iload 5), (51, .ireturn), (52, .aload_n 0), (53, .bipush 60), (55, .iload_n 1), (56, .imul), (57, .iload_n 3), (58, .iadd), (59, .iload 4), (61, .invokevirtual 132), (64, .ifCond .ne 15), (67, .aload_n 0), (68, .bipush (-100)), (70, .aload_n 0), (71, .getfield 93), (74, .isub), (75, .invokevirtual 123), (78, .ireturn), (79, .aload_n 0), (80, .aload_n 0), (81, .getfield 104), (84, .putfield 86), (87, .aload_n 0), (88, .iconst 0), (89, .putfield 136), (92, .aload_n 0), (93, .iconst 0), (94, .putfield 139), (97, .iconst 0), (98, .istore 6), (100, .iload 6), (102, .aload_n 0), (103, .getfield 86), (106, .if_icmp .ge 93), (109, .aload_n 0), (110, .getfield 7), (113, .iload 6), (115, .aload_n 0), (116, .getfield 28), (119, .iload 6), (121, .iaload), (122, .iastore), (123, .aload_n 0), (124, .getfield 13), (127, .iload 6), (129, .aload_n 0), (130, .getfield 31), (133, .iload 6), (135, .iaload), (136, .iastore), (137, .aload_n 0), (138, .getfield 16), (141, .iload 6), (143, .aload_n 0), (144, .getfield 31), (147, .iload 6), (149, .iaload), (150, .iastore), (151, .aload_n 0), (152, .getfield 19), (155, .iload 6), (157, .aload_n 0), (158, .getfield 34), (161, .iload 6), (163, .iaload), (164, .iastore), (165, .aload_n 0), (166, .getfield 22), (169, .iload 6), (171, .aload_n 0), (172, .getfield 37), (175, .iload 6), (177, .iaload), (178, .iastore), (179, .aload_n 0), (180, .getfield 25), (183, .iload 6), (185, .aload_n 0), (186, .getfield 40), (189, .iload 6), (191, .iaload), (192, .iastore), (193, .iinc 6 1), (196, .goto (-96)), (199, .aload_n 0), (200, .iconst 0), (201, .putfield 142), (204, .aload_n 0), (205, .aload_n 0), (206, .getfield 86), (209, .invokevirtual 123), (212, .ireturn)]
def zC99 : List (Nat × Instr) := [(0, .aload_n 0), (1, .getfield 19), (4, .iload_n 1), (5, .iaload), (6, .aload_n 0), (7, .getfield 22), (10, .aload_n 0), (11, .getfield 25), (14, .iload_n 1), (15, .iaload), (16, .iaload), (17, .iadd), (18, .istore_n 2), (19, .aload_n 0), (20, .getfield 7), (23, .iload_n 1), (24, .iaload), (25, .ifCond .ne 7), (28, .iload_n 2), (29, .goto 24), (32, .aload_n 0), (33, .getfield 7), (36, .iload_n 1), (37, .iaload), (38, .iconst 1), (39, .if_icmp .ne 9), (42, .iload_n 2), (43, .iconst 1), (44, .iadd), (45, .goto 8), (48, .iload_n 2), (49, .iconst 1), (50, .iadd), (51, .iconst 2), (52, .idiv), (53, .ireturn)]
def zC100 : List (Nat × Instr) := [(0, .aload_n 0), (1, .getfield 13), (4, .iload_n 1), (5, .iaload), (6, .ifCond .le 7), (9, .iconst 1), (10, .goto 4), (13, .iconst 0), (14, .ireturn)]
def zC101 : List (Nat × Instr) := [(0, .aload_n 0), (1, .iload_n 1), (2, .invokevirtual 145), (5, .ifCond .eq 5), (8, .iconst (-1)), (9, .ireturn), (10, .iload_n 2), (11, .tableswitch 102 0 7 #[45, 52, 59, 66, 73, 80, 86, 95]), (56, .aload_n 0), (57, .getfield 7), (60, .iload_n 1), (61, .iaload), (62, .ireturn), (63, .aload_n 0), (64, .getfield 13), (67, .iload_n 1), (68, .iaload), (69, .ireturn), (70, .aload_n 0), (71, .getfield 19), (74, .iload_n 1), (75, .iaload), (76, .ireturn), (77, .aload_n 0), (78, .getfield 22), (81, .iload_n 1), (82, .iaload), (83, .ireturn), (84, .aload_n 0), (85, .getfield 25), (88, .iload_n 1), (89, .iaload), (90, .ireturn), (91, .aload_n 0), (92, .iload_n 1), (93, .invokevirtual 148), (96, .ireturn), (97, .aload_n 0), (98, .getfield 139), (101, .iload_n 1), (102, .ishr), (103, .iconst 1), (104, .iand), (105, .ireturn), (106, .aload_n 0), (107, .getfield 16), (110, .iload_n 1), (111, .iaload), (112, .ireturn), (113, .bipush (-2)), (115, .ireturn)]
def zC102 : List (Nat × Instr) := [(0, .aload_n 0), (1, .iload_n 1), (2, .invokevirtual 145), (5, .ifCond .eq 5), (8, .iconst (-1)), (9, .ireturn), (10, .iconst 0), (11, .istore_n 2), (12, .iconst 0), (13, .istore_n 3), (14, .iload_n 3), (15, .aload_n 0), (16, .getfield 86), (19, .if_icmp .ge 29), (22, .iload_n 2), (23, .aload_n 0), (24, .getfield 25), (27, .iload_n 3), (28, .iaload), (29, .iload_n 1), (30, .if_icmp .ne 9), (33, .iconst 1), (34, .iload_n 3), (35, .ishl), (36, .goto 4), (39, .iconst 0), (40, .ior), (41, .istore_n 2), (42, .iinc 3 1), (45, .goto (-31)), (48, .iload_n 2), (49, .ireturn)]
def zC103 : List (Nat × Instr) := [(0, .aload_n 0), (1, .iload_n 1), (2, .invokevirtual 145), (5, .ifCond .eq 5), (8, .iconst (-1)), (9, .ireturn), (10, .iload_n 2), (11, .i2l), (12, .lconst 0), (13, .ldc2_w 151), (16, .invokestatic 89), (19, .ifCond .ne 6), (22, .bipush (-2)), (24, .ireturn), (25, .aload_n 0), (26, .getfield 19), (29, .iload_n 1), (30, .iaload), (31, .istore_n 3), (32, .aload_n 0), (33, .getfield 19), (36, .iload_n 1), (37, .iload_n 2), (38, .iastore), (39, .iload_n 3), (40, .ireturn)]
def zC104 : List (Nat × Instr) := [(0, .aload_n 0), (1, .iload_n 1), (2, .invokevirtual 145), (5, .ifCond .eq 5), (8, .iconst (-1)), (9, .ireturn), (10, .iload_n 2), (11, .i2l), (12, .lconst 0), (13, .ldc2_w 153), (16, .invokestatic 89), (19, .ifCond .ne 6), (22, .bipush (-2)), (24, .ireturn), (25, .aload_n 0), (26, .getfield 22), (29, .iload_n 1), (30, .iaload), (31, .istore_n 3), (32, .aload_n 0), (33, .getfield 22), (36, .iload_n 1), (37, .iload_n 2), (38, .iastore), (39, .iload_n 3), (40, .ireturn)]
def zC105 : List (Nat × Instr) := [(0, .aload_n 0), (1, .iload_n 1), (2, .invokevirtual 145), (5, .ifCond .ne 11), (8, .aload_n 0), (9, .iload_n 2), (10, .invokevirtual 145), (13, .ifCond .eq 5), (16, .iconst (-1)), (17, .ireturn), (18, .aload_n 0), (19, .getfield 25), (22, .iload_n 1), (23, .iaload), (24, .istore_n 3), (25, .aload_n 0), (26, .getfield 25), (29, .iload_n 1), (30, .iload_n 2), (31, .iastore), (32, .iload_n 3), (33, .ireturn)]
def zC106 : List (Nat × Instr) := [(0, .iconst 0), (1, .istore_n 1), (2, .iconst 0), (3, .istore_n 2), (4, .iload_n 2), (5, .aload_n 0), (6, .getfield 86), (9, .if_icmp .ge 27), (12, .iload_n 1), (13, .aload_n 0), (14, .iload_n 2), (15, .invokevirtual 155), (18, .ifCond .eq 9), (21, .iconst 1), (22, .iload_n 2), (23, .ishl), (24, .goto 4), (27, .iconst 0), (28, .ior), (29, .istore_n 1), (30, .iinc 2 1), (33, .goto (-29)), (36, .iload_n 1), (37, .ireturn)]
def zC107 : List (Nat × Instr) := [(0, .aload_n 0), (1, .getfield 86), (4, .ifCond .ne 6), (7, .bipush (-3)), (9, .ireturn), (10, .iload_n 1), (11, .ifCond .ne 10), (14, .aload_n 0), (15, .invokevirtual 158), (18, .goto 22), (21, .iload_n 1), (22, .iconst 1), (23, .if_icmp .ne 15), (26, .aload_n 0), (27, .invokevirtual 158), (30, .aload_n 0), (31, .getfield 139), (34, .iand), (35, .goto 5), (38, .bipush (-2)), (40, .ireturn)]
def zC108 : List (Nat × Instr) := [(0, .aload_n 0), (1, .getfield 139), (4, .iload_n 1), (5, .invokestatic 162), (8, .istore_n 3), (9, .aload_n 0), (10, .getfield 25), (13, .iload_n 1), (14, .iaload), (15, .istore 4), (17, .aload_n 0), (18, .iload_n 1), (19, .invokevirtual 155), (22, .ifCond .eq 42), (25, .aload_n 0), (26, .iload 4), (28, .invokevirtual 155), (31, .ifCond .eq 33), (34, .aload_n 0), (35, .getfield 139), (38, .iload 4), (40, .invokestatic 162), (43, .ifCond .ne 21), (46, .iload_n 3), (47, .iload_n 2), (48, .iconst 1), (49, .if_icmp .ne 7), (52, .iconst 1), (53, .goto 4), (56, .iconst 0), (57, .if_icmp .ne 7), (60, .iconst 1), (61, .goto 4), (64, .iconst 0), (65, .ireturn)]
def zC109 : List (Nat × Instr) := [(0, .aload_n 0), (1, .iload_n 1), (2, .iload_n 2), (3, .invokevirtual 165), (6, .ifCond .ne 6), (9, .bipush (-3)), (11, .ireturn), (12, .aload_n 0), (13, .iload_n 2), (14, .ifCond .ne 14), (17, .aload_n 0), (18, .getfield 139), (21, .iconst 1), (22, .iload_n 1), (23, .ishl), (24, .ior), (25, .goto 25), (28, .iload_n 2), (29, .iconst 1), (30, .if_icmp .ne 16), (33, .aload_n 0), (34, .getfield 139), (37, .iconst 1), (38, .iload_n 1), (39, .ishl), (40, .iconst (-1)), (41, .ixor), (42, .iand), (43, .goto 7), (46, .aload_n 0), (47, .getfield 139), (50, .putfield 139), (53, .aload_n 0), (54, .getfield 13), (57, .iload_n 1), (58, .iload_n 2), (59, .iconst 2), (60, .if_icmp .ne 19), (63, .aload_n 0), (64, .getfield 16), (67, .iload_n 1), (68, .iaload), (69, .aload_n 0), (70, .getfield 13), (73, .iload_n 1), (74, .iaload), (75, .isub), (76, .goto 9), (79, .aload_n 0), (80, .getfield 13), (83, .iload_n 1), (84, .iaload), (85, .iastore), (86, .aload_n 0), (87, .getfield 13), (90, .iload_n 1), (91, .iaload), (92, .ireturn)]
def zC110 : List (Nat × Instr) := [(0, .aload_n 0), (1, .iload_n 1), (2, .invokevirtual 145), (5, .ifCond .eq 7), (8, .iconst (-1)), (9, .goto 9), (12, .aload_n 0), (13, .iload_n 1), (14, .iconst 0), (15, .invokevirtual 168), (18, .ireturn)]
def zC111 : List (Nat × Instr) := [(0, .aload_n 0), (1, .iload_n 1), (2, .invokevirtual 145), (5, .ifCond .eq 7), (8, .iconst (-1)), (9, .goto 9), (12, .aload_n 0), (13, .iload_n 1), (14, .iconst 1), (15, .invokevirtual 168), (18, .ireturn)]
def zC112 : List (Nat × Instr) := [(0, .aload_n 0), (1, .iload_n 1), (2, .invokevirtual 145), (5, .ifCond .eq 7), (8, .iconst (-1)), (9, .goto 9), (12, .aload_n 0), (13, .iload_n 1), (14, .iconst 2), (15, .invokevirtual 168), (18, .ireturn)]
def zC113 : List (Nat × Instr) := [(0, .aload_n 0), (1, .getfield 139), (4, .iload_n 1), (5, .invokestatic 162), (8, .ifCond .eq 12), (11, .aload_n 0), (12, .getfield 13), (15, .iload_n 1), (16, .iaload), (17, .goto 17), (20, .aload_n 0), (21, .getfield 13), (24, .iload_n 1), (25, .iaload), (26, .iload_n 2), (27, .aload_n 0), (28, .iload_n 1), (29, .invokevirtual 148), (32, .imul), (33, .isub), (34, .istore_n 3), (35, .iload_n 3), (36, .ifCond .ge 7), (39, .iconst 0), (40, .goto 4), (43, .iload_n 3), (44, .ireturn)]
def zC114 : List (Nat × Instr) := [(0, .iconst 0), (1, .istore_n 1), (2, .iload_n 1), (3, .aload_n 0), (4, .getfield 86), (7, .if_icmp .ge 21), (10, .aload_n 0), (11, .getfield 13), (14, .iload_n 1), (15, .aload_n 0), (16, .iload_n 1), (17, .iconst 1), (18, .invokevirtual 171), (21, .iastore), (22, .iinc 1 1), (25, .goto (-23)), (28, .aload_n 0), (29, .dup), (30, .getfield 136), (33, .iconst 1), (34, .iadd), (35, .putfield 136), (38, .return_)]
def zC115 : List (Nat × Instr) := [(0, .aload_n 0), (1, .getfield 86), (4, .ifCond .ne 6), (7, .bipush (-3)), (9, .ireturn), (10, .iload_n 1), (11, .i2l), (12, .lconst 1), (13, .ldc2_w 174), (16, .invokestatic 89), (19, .ifCond .ne 6), (22, .bipush (-2)), (24, .ireturn), (25, .aload_n 0), (26, .getfield 136), (29, .iload_n 1), (30, .iadd), (31, .sipush 999), (34, .if_icmp .le 6), (37, .bipush (-3)), (39, .ireturn), (40, .aload_n 0), (41, .invokevirtual 158), (44, .invokestatic 176), (47, .istore_n 2), (48, .iconst 0), (49, .istore_n 3), (50, .iload_n 3), (51, .iload_n 1), (52, .if_icmp .ge 13), (55, .aload_n 0), (56, .invokevirtual 179), (59, .iinc 3 1), (62, .goto (-12)), (65, .iload_n 2), (66, .aload_n 0), (67, .invokevirtual 158), (70, .invokestatic 176), (73, .isub), (74, .ireturn)]
def zC116 : List (Nat × Instr) := [(0, .aload_n 0), (1, .iload_n 1), (2, .invokevirtual 148), (5, .istore_n 2), (6, .aload_n 0), (7, .iload_n 1), (8, .invokevirtual 155), (11, .ifCond .ne 5), (14, .iconst 0), (15, .ireturn), (16, .iload_n 2), (17, .ifCond .eq 14), (20, .aload_n 0), (21, .getfield 139), (24, .iload_n 1), (25, .invokestatic 162), (28, .ifCond .eq 8), (31, .bipush 99), (33, .goto 15), (36, .aload_n 0), (37, .getfield 13), (40, .iload_n 1), (41, .iaload), (42, .iload_n 2), (43, .iadd), (44, .iconst 1), (45, .isub), (46, .iload_n 2), (47, .idiv), (48, .ireturn)]
def zC117 : List (Nat × Instr) := [(0, .aload_n 0), (1, .iload_n 1), (2, .invokevirtual 145), (5, .ifCond .eq 7), (8, .iconst (-1)), (9, .goto 8), (12, .aload_n 0), (13, .iload_n 1), (14, .invokevirtual 182), (17, .ireturn)]
def zC118 : List (Nat × Instr) := [(0, .iconst 0), (1, .istore_n 1), (2, .iload_n 1), (3, .aload_n 0), (4, .getfield 86), (7, .if_icmp .ge 69), (10, .aload_n 0), (11, .getfield 46), (14, .iload_n 1), (15, .iaload), (16, .ifCond .ge 24), (19, .aload_n 0), (20, .getfield 43), (23, .iload_n 1), (24, .iaload), (25, .ifCond .le 15), (28, .aload_n 0), (29, .iload_n 1), (30, .invokevirtual 155), (33, .ifCond .ne 7), (36, .iconst 1), (37, .goto 4), (40, .iconst 0), (41, .istore_n 2), (42, .aload_n 0), (43, .getfield 46), (46, .iload_n 1), (47, .iload_n 2), (48, .ifCond .eq 15), (51, .aload_n 0), (52, .getfield 136), (55, .aload_n 0), (56, .getfield 185), (59, .isub), (60, .goto 9), (63, .aload_n 0), (64, .getfield 46), (67, .iload_n 1), (68, .iaload), (69, .iastore), (70, .iinc 1 1), (73, .goto (-71)), (76, .return_)]
def zC119 : List (Nat × Instr) := [(0, .iload_n 2), (1, .bipush 9), (3, .if_icmp .ge 24), (6, .aload_n 0), (7, .iload_n 1), (8, .iload_n 2), (9, .invokevirtual 168), (12, .ifCond .lt 7), (15, .iconst 1), (16, .goto 4), (19, .iconst 0), (20, .istore_n 3), (21, .aload_n 0), (22, .invokevirtual 188), (25, .iload_n 3), (26, .ireturn), (27, .aload_n 0), (28, .getfield 136), (31, .iload_n 1), (32, .iadd), (33, .sipush 999), (36, .if_icmp .le 5), (39, .iconst 0), (40, .ireturn), (41, .iconst 0), (42, .istore_n 3), (43, .iload_n 3), (44, .iload_n 1), (45, .if_icmp .ge 17), (48, .aload_n 0), (49, .invokevirtual 179), (52, .aload_n 0), (53, .invokevirtual 188), (56, .iinc 3 1), (59, .goto (-16)), (62, .iconst 1), (63, .ireturn)]
def zC120 : List (Nat × Instr) := [(0, .bipush (-9)), (2, .istore 4), (4, .iconst 0), (5, .istore 5), (7, .iload 5), (9, .iload_n 2), (10, .if_icmp .ge 54), (13, .iload 4), (15, .ifCond .ge 49), (18, .aload_n 0), (19, .aload_n 0), (20, .getfield 70), (23, .iload_n 1), (24, .iconst 2), (25, .iload 5), (27, .imul), (28, .iadd), (29, .iaload), (30, .aload_n 0), (31, .getfield 70), (34, .iload_n 1), (35, .iconst 2), (36, .iload 5), (38, .imul), (39, .iadd), (40, .iconst 1), (41, .iadd), (42, .iaload), (43, .invokevirtual 191), (46, .ifCond .eq 8), (49, .bipush (-9)), (51, .goto 5), (54, .iload 5), (56, .istore 4), (58, .iinc 5 1), (61, .goto (-54)), (64, .iload_n 3), (65, .iconst 1), (66, .if_icmp .ne 6), (69, .iload 4), (71, .ireturn), (72, .iload 4), (74, .ifCond .lt 9), (77, .bipush (-100)), (79, .iload 4), (81, .isub), (82, .ireturn), (83, .iload_n 3), (84, .bipush 20), (86, .if_icmp .lt 29), (89, .aload_n 0), (90, .iload_n 3), (91, .bipush 20), (93, .isub), (94, .invokevirtual 145), (97, .ifCond .eq 8), (100, .bipush (-9)), (102, .goto 12), (105, .aload_n 0), (106, .getfield 46), (109, .iload_n 3), (110, .bipush 20), (112, .isub), (113, .iaload), (114, .ireturn), (115, .iload_n 3), (116, .bipush 10), (118, .if_icmp .lt 29), (121, .aload_n 0), (122, .iload_n 3), (123, .bipush 10), (125, .isub), (126, .invokevirtual 145), (129, .ifCond .eq 8), (132, .bipush (-9)), (134, .goto 12), (137, .aload_n 0), (138, .getfield 13), (141, .iload_n 3), (142, .bipush 10), (144, .isub), (145, .iaload), (146, .ireturn), (147, .iload_n 3), (148, .ifCond .ne 13), (151, .aload_n 0), (152, .invokevirtual 158), (155, .invokestatic 176), (158, .goto 24), (161, .iload_n 3), (162, .iconst 2), (163, .if_icmp .ne 15), (166, .aload_n 0), (167, .getfield 136), (170, .aload_n 0), (171, .getfield 185), (174, .isub), (175, .goto 7), (178, .aload_n 0), (179, .invokevirtual 158), (182, .ireturn)]
def zC121 : List (Nat × Instr) := [(0, .iconst 0), (1, .istore_n 3), (2, .iload_n 3), (3, .iload_n 2), (4, .if_icmp .ge 96), (7, .aload_n 0), (8, .getfield 70), (11, .iload_n 1), (12, .iconst 2), (13, .iload_n 3), (14, .imul), (15, .iadd), (16, .iaload), (17, .istore 4), (19, .aload_n 0), (20, .getfield 70), (23, .iload_n 1), (24, .iconst 2), (25, .iload_n 3), (26, .imul), (27, .iadd), (28, .iconst 1), (29, .iadd), (30, .iaload), (31, .istore 5), (33, .iload 5), (35, .i2l), (36, .lconst 0), (37, .ldc2_w 126), (40, .invokestatic 89), (43, .ifCond .ne 10), (46, .iload 5), (48, .bipush 9), (50, .if_icmp .ne 23), (53, .iload 5), (55, .bipush 9), (57, .if_icmp .ne 19), (60, .iload 4), (62, .i2l), (63, .lconst 0), (64, .ldc2_w 151), (67, .invokestatic 89), (70, .ifCond .ne 6), (73, .bipush (-2)), (75, .ireturn), (76, .iload 5), (78, .bipush 9), (80, .if_icmp .eq 14), (83, .aload_n 0), (84, .iload 4), (86, .invokevirtual 145), (89, .ifCond .eq 5), (92, .iconst (-1)), (93, .ireturn), (94, .iinc 3 1), (97, .goto (-95)), (100, .iconst 0), (101, .ireturn)]
def zC122 : List (Nat × Instr) := [(0, .iload_n 1), (1, .invokestatic 119), (4, .ifCond .eq 9), (7, .aload_n 0), (8, .iconst (-1)), (9, .invokevirtual 123), (12, .ireturn), (13, .iload 5), (15, .i2l), (16, .lconst 0), (17, .ldc2_w 153), (20, .invokestatic 89), (23, .ifCond .ne 33), (26, .iload 5), (28, .i2l), (29, .ldc2_w 194), (32, .ldc2_w 196), (35, .invokestatic 89), (38, .ifCond .ne 18), (41, .iload 5), (43, .i2l), (44, .ldc2_w 198), (47, .ldc2_w 200), (50, .invokestatic 89), (53, .ifCond .eq 7), (56, .iconst 1), (57, .goto 4), (60, .iconst 0), (61, .istore 6), (63, .iload_n 2), (64, .i2l), (65, .lconst 0), (66, .ldc2_w 126), (69, .invokestatic 89), (72, .ifCond .eq 21), (75, .iload 4), (77, .i2l), (78, .lconst 0), (79, .ldc2_w 198), (82, .invokestatic 89), (85, .ifCond .eq 8), (88, .iload 6), (90, .ifCond .ne 10), (93, .aload_n 0), (94, .bipush (-2)), (96, .invokevirtual 123), (99, .ireturn), (100, .aload_n 0), (101, .getfield 86), (104, .ifCond .ne 10), (107, .aload_n 0), (108, .bipush (-3)), (110, .invokevirtual 123), (113, .ireturn), (114, .aload_n 0), (115, .iload_n 1), (116, .iload_n 2), (117, .iload_n 3), (118, .ldc2_w 126), (121, .iload 4), (123, .i2l), (124, .lmul), (125, .invokevirtual 128), (128, .istore 7), (130, .iload 7), (132, .ifCond .ge 6), (135, .iload 7), (137, .ireturn), (138, .aload_n 0), (139, .bipush 60), (141, .iload_n 1), (142, .imul), (143, .iload_n 3), (144, .iadd), (145, .iload 4), (147, .invokevirtual 202), (150, .istore 7), (152, .iload 7), (154, .ifCond .ge 10), (157, .aload_n 0), (158, .iload 7), (160, .invokevirtual 123), (163, .ireturn), (164, .iconst 0), (165, .istore 8), (167, .iload 8), (169, .aload_n 0), (170, .getfield 86), (173, .if_icmp .ge 32), (176, .aload_n 0), (177, .getfield 43), (180, .iload 8), (182, .aload_n 0), (183, .getfield 13), (186, .iload 8), (188, .iaload), (189, .iastore), (190, .aload_n 0), (191, .getfield 46), (194, .iload 8), (196, .bipush (-9)), (198, .iastore), (199, .iinc 8 1), (202, .goto (-35)), (205, .aload_n 0), (206, .aload_n 0), (207, .getfield 139), (210, .putfield 205), (213, .aload_n 0), (214, .aload_n 0), (215, .getfield 136), (218, .putfield 185), (221, .aload_n 0), (222, .bipush 60), (224, .iload_n 1), (225, .imul), (226, .iload_n 3), (227, .iadd), (228, .iload 4), (230, .iload 5), (232, .invokevirtual 208), (235, .istore 8), (237, .iconst 0), (238, .istore 9), (240, .iload 9), (242, .aload_n 0), (243, .getfield 86), (246, .if_icmp .ge 23), (249, .aload_n 0), (250, .getfield 13), (253, .iload 9), (255, .aload_n 0), (256, .getfield 43), (259, .iload 9), (261, .iaload), (262, .iastore), (263, .iinc 9 1), (266, .goto (-26)), (269, .aload_n 0), (270, .aload_n 0), (271, .getfield 205), (274, .putfield 139), (277, .aload_n 0), (278, .aload_n 0), (279, .getfield 185), (282, .putfield 136), (285, .aload_n 0), (286, .iload 8), (288, .invokevirtual 123), (291, .ireturn)]
def zC123 : List (Nat × Instr) := [(0, .aload_n 0), (1, .iload_n 1), (2, .invokevirtual 145), (5, .ifCond .ne 11), (8, .aload_n 0), (9, .iload_n 2), (10, .invokevirtual 145), (13, .ifCond .eq 5), (16, .iconst (-1)), (17, .ireturn), (18, .iload_n 2), (19, .istore_n 3), (20, .iconst 1), (21, .istore 4), (23, .iload 4), (25, .aload_n 0), (26, .getfield 86), (29, .if_icmp .gt 24), (32, .aload_n 0), (33, .getfield 25), (36, .iload_n 3), (37, .iaload), (38, .istore_n 3), (39, .iload_n 3), (40, .iload_n 1), (41, .if_icmp .ne 6), (44, .iload 4), (46, .ireturn), (47, .iinc 4 1), (50, .goto (-27)), (53, .bipush (-9)), (55, .ireturn)]
def zC124 : List (Nat × Instr) := [(0, .aload_n 0), (1, .iload_n 1), (2, .iload_n 1), (3, .invokevirtual 212), (6, .ireturn)]
def zC125 : List (Nat × Instr) := [(0, .iconst 0), (1, .istore_n 1), (2, .iconst 0), (3, .istore_n 2), (4, .iload_n 2), (5, .aload_n 0), (6, .getfield 86), (9, .if_icmp .ge 17), (12, .iload_n 1), (13, .aload_n 0), (14, .iload_n 2), (15, .invokevirtual 182), (18, .iadd), (19, .istore_n 1), (20, .iinc 2 1), (23, .goto (-19)), (26, .iload_n 1), (27, .ireturn)]
def zC126 : List (Nat × Instr) := [(0, .iconst 1), (1, .istore_n 1), (2, .iconst 0), (3, .istore_n 2), (4, .iload_n 2), (5, .aload_n 0), (6, .getfield 86), (9, .if_icmp .ge 29), (12, .iload_n 1), (13, .ifCond .eq 17), (16, .aload_n 0), (17, .getfield 25), (20, .iload_n 2), (21, .iaload), (22, .iload_n 2), (23, .if_icmp .eq 7), (26, .iconst 1), (27, .goto 4), (30, .iconst 0), (31, .istore_n 1), (32, .iinc 2 1), (35, .goto (-31)), (38, .iload_n 1), (39, .ireturn)]
def zC127 : List (Nat × Instr) := [(0, .aload_n 0), (1, .getfield 25), (4, .iload_n 1), (5, .iaload), (6, .istore_n 3), (7, .aload_n 0), (8, .getfield 25), (11, .iload_n 1), (12, .aload_n 0), (13, .getfield 25), (16, .iload_n 2), (17, .iaload), (18, .iastore), (19, .aload_n 0), (20, .getfield 25), (23, .iload_n 2), (24, .iload_n 3), (25, .iastore), (26, .return_)]
def zC128 : List (Nat × Instr) := [(0, .aload_n 0), (1, .getfield 86), (4, .iconst 2), (5, .isub), (6, .istore_n 1), (7, .iload_n 1), (8, .ifCond .lt 26), (11, .aload_n 0), (12, .getfield 25), (15, .iload_n 1), (16, .iaload), (17, .aload_n 0), (18, .getfield 25), (21, .iload_n 1), (22, .iconst 1), (23, .iadd), (24, .iaload), (25, .if_icmp .le 9), (28, .iinc 1 (-1)), (31, .goto (-24)), (34, .iload_n 1), (35, .ifCond .ge 5), (38, .iconst 0), (39, .ireturn), (40, .aload_n 0), (41, .getfield 86), (44, .iconst 1), (45, .isub), (46, .istore_n 2), (47, .aload_n 0), (48, .getfield 25), (51, .iload_n 2), (52, .iaload), (53, .aload_n 0), (54, .getfield 25), (57, .iload_n 1), (58, .iaload), (59, .if_icmp .ge 9), (62, .iinc 2 (-1)), (65, .goto (-18)), (68, .aload_n 0), (69, .iload_n 1), (70, .iload_n 2), (71, .invokevirtual 215), (74, .iload_n 1), (75, .iconst 1), (76, .iadd), (77, .istore_n 3), (78, .aload_n 0), (79, .getfield 86), (82, .iconst 1), (83, .isub), (84, .istore 4), (86, .iload 4), (88, .iload_n 3), (89, .if_icmp .le 19), (92, .aload_n 0), (93, .iload_n 3), (94, .iload 4), (96, .invokevirtual 215), (99, .iinc 3 1), (102, .iinc 4 (-1)), (105, .goto (-19)), (108, .iconst 1), (109, .ireturn)]
def zC129 : List (Nat × Instr) := [(0, .iconst 0), (1, .istore_n 1), (2, .iload_n 1), (3, .aload_n 0), (4, .getfield 86), (7, .if_icmp .ge 28), (10, .aload_n 0), (11, .getfield 49), (14, .iload_n 1), (15, .aload_n 0), (16, .getfield 25), (19, .iload_n 1), (20, .iaload), (21, .iastore), (22, .aload_n 0), (23, .getfield 25), (26, .iload_n 1), (27, .iload_n 1), (28, .iastore), (29, .iinc 1 1), (32, .goto (-30)), (35, .bipush (-9)), (37, .istore_n 1), (38, .iconst 1), (39, .istore_n 2), (40, .iload_n 2), (41, .ifCond .eq 86), (44, .aload_n 0), (45, .invokevirtual 219), (48, .ifCond .eq 10), (51, .aload_n 0), (52, .invokevirtual 223), (55, .goto 5), (58, .bipush (-9)), (60, .istore_n 3), (61, .iconst 0), (62, .istore 4), (64, .iload 4), (66, .aload_n 0), (67, .getfield 86), (70, .if_icmp .ge 38), (73, .aload_n 0), (74, .getfield 52), (77, .iload 4), (79, .iload_n 3), (80, .iload_n 1), (81, .if_icmp .le 13), (84, .aload_n 0), (85, .getfield 25), (88, .iload 4), (90, .iaload), (91, .goto 10), (94, .aload_n 0), (95, .getfield 52), (98, .iload 4), (100, .iaload), (101, .iastore), (102, .iinc 4 1), (105, .goto (-41)), (108, .iload_n 3), (109, .iload_n 1), (110, .if_icmp .le 7), (113, .iload_n 3), (114, .goto 4), (117, .iload_n 1), (118, .istore_n 1), (119, .aload_n 0), (120, .invokevirtual 226), (123, .istore_n 2), (124, .goto (-84)), (127, .iconst 0), (128, .istore_n 3), (129, .iload_n 3), (130, .aload_n 0), (131, .getfield 86), (134, .if_icmp .ge 21), (137, .aload_n 0), (138, .getfield 25), (141, .iload_n 3), (142, .aload_n 0), (143, .getfield 49), (146, .iload_n 3), (147, .iaload), (148, .iastore), (149, .iinc 3 1), (152, .goto (-23)), (155, .iload_n 1), (156, .ireturn)]
def zC130 : List (Nat × Instr) := [(0, .iload_n 1), (1, .i2l), (2, .ldc2_w 229), (5, .ldc2_w 231), (8, .invokestatic 89), (11, .ifCond .ne 6), (14, .bipush (-2)), (16, .ireturn), (17, .aload_n 0), (18, .getfield 86), (21, .ifCond .ne 6), (24, .bipush (-3)), (26, .ireturn), (27, .aload_n 0), (28, .invokevirtual 233), (31, .istore_n 2), (32, .iload_n 1), (33, .ifCond .ge 7), (36, .iload_n 2), (37, .goto 22), (40, .aload_n 0), (41, .iload_n 1), (42, .invokevirtual 145), (45, .ifCond .eq 8), (48, .bipush (-9)), (50, .goto 9), (53, .aload_n 0), (54, .getfield 52), (57, .iload_n 1), (58, .iaload), (59, .ireturn)]
def zC131 : List (Nat × Instr) := [(0, .iload_n 1), (1, .i2l), (2, .lconst 0), (3, .ldc2_w 126), (6, .invokestatic 89), (9, .ifCond .ne 6), (12, .bipush (-2)), (14, .ireturn), (15, .aload_n 0), (16, .getfield 86), (19, .ifCond .ne 6), (22, .bipush (-3)), (24, .ireturn), (25, .aload_n 0), (26, .invokevirtual 223), (29, .istore_n 2), (30, .iconst 0), (31, .istore_n 3), (32, .bipush (-9)), (34, .istore 4), (36, .bipush (-9)), (38, .istore 5), (40, .iconst 0), (41, .istore 6), (43, .iload 6), (45, .aload_n 0), (46, .getfield 86), (49, .if_icmp .ge 97), (52, .iload 6), (54, .iconst 1), (55, .iadd), (56, .istore 7), (58, .iload 7), (60, .aload_n 0), (61, .getfield 86), (64, .if_icmp .ge 76), (67, .aload_n 0), (68, .iload 6), (70, .iload 7), (72, .invokevirtual 215), (75, .aload_n 0), (76, .invokevirtual 223), (79, .iload_n 2), (80, .isub), (81, .istore 8), (83, .aload_n 0), (84, .iload 6), (86, .iload 7), (88, .invokevirtual 215), (91, .iload 8), (93, .iload_n 3), (94, .if_icmp .le 8), (97, .iload 6), (99, .goto 5), (102, .iload 4), (104, .istore 4), (106, .iload 8), (108, .iload_n 3), (109, .if_icmp .le 8), (112, .iload 7), (114, .goto 5), (117, .iload 5), (119, .istore 5), (121, .iload 8), (123, .iload_n 3), (124, .if_icmp .le 8), (127, .iload 8), (129, .goto 4), (132, .iload_n 3), (133, .istore_n 3), (134, .iinc 7 1), (137, .goto (-79)), (140, .iinc 6 1), (143, .goto (-100)), (146, .iload 4), (148, .ifCond .ge 8), (151, .bipush (-9)), (153, .goto 23), (156, .iload_n 1), (157, .ifCond .ne 7), (160, .iload_n 3), (161, .goto 15), (164, .iload_n 1), (165, .iconst 1), (166, .if_icmp .ne 8), (169, .iload 4), (171, .goto 5), (174, .iload 5), (176, .ireturn)]
def zC132 : List (Nat × Instr) := [(0, .iload_n 1), (1, .i2l), (2, .lconst 0), (3, .lconst 1), (4, .invokestatic 89), (7, .ifCond .ne 6), (10, .bipush (-2)), (12, .ireturn), (13, .aload_n 0), (14, .getfield 86), (17, .ifCond .ne 6), (20, .bipush (-3)), (22, .ireturn), (23, .bipush (-9)), (25, .istore_n 2), (26, .bipush 99), (28, .istore_n 3), (29, .iconst 0), (30, .istore 4), (32, .iload 4), (34, .aload_n 0), (35, .getfield 86), (38, .if_icmp .ge 57), (41, .aload_n 0), (42, .iload 4), (44, .invokevirtual 155), (47, .ifCond .eq 12), (50, .aload_n 0), (51, .iload 4), (53, .invokevirtual 182), (56, .goto 5), (59, .bipush 99), (61, .istore 5), (63, .iload 5), (65, .iload_n 3), (66, .if_icmp .ge 8), (69, .iload 4), (71, .goto 4), (74, .iload_n 2), (75, .istore_n 2), (76, .iload 5), (78, .iload_n 3), (79, .if_icmp .ge 8), (82, .iload 5), (84, .goto 4), (87, .iload_n 3), (88, .istore_n 3), (89, .iinc 4 1), (92, .goto (-60)), (95, .iload_n 2), (96, .ifCond .lt 7), (99, .iload_n 1), (100, .ifCond .ne 7), (103, .iload_n 2), (104, .goto 4), (107, .iload_n 3), (108, .ireturn)]
def zC133 : List (Nat × Instr) := [(0, .iload_n 1), (1, .invokestatic 119), (4, .ifCond .eq 9), (7, .aload_n 0), (8, .iconst (-1)), (9, .invokevirtual 123), (12, .ireturn), (13, .iload_n 2), (14, .i2l), (15, .lconst 0), (16, .ldc2_w 126), (19, .invokestatic 89), (22, .ifCond .eq 16), (25, .iload 4), (27, .i2l), (28, .lconst 0), (29, .ldc2_w 236), (32, .invokestatic 89), (35, .ifCond .ne 10), (38, .aload_n 0), (39, .bipush (-2)), (41, .invokevirtual 123), (44, .ireturn), (45, .aload_n 0), (46, .getfield 86), (49, .ifCond .ne 10), (52, .aload_n 0), (53, .bipush (-3)), (55, .invokevirtual 123), (58, .ireturn), (59, .aload_n 0), (60, .iload_n 1), (61, .iload_n 2), (62, .iload_n 3), (63, .iload 4), (65, .i2l), (66, .invokevirtual 128), (69, .istore 5), (71, .iload 5), (73, .ifCond .ge 6), (76, .iload 5), (78, .ireturn), (79, .iconst 0), (80, .istore 6), (82, .iconst 0), (83, .istore 7), (85, .iload 7), (87, .aload_n 0), (88, .getfield 86), (91, .if_icmp .ge 83), (94, .iconst 1), (95, .istore 8), (97, .iconst 0), (98, .istore 9), (100, .iload 9), (102, .iload 4), (104, .if_icmp .ge 46), (107, .iload 8), (109, .ifCond .eq 32), (112, .aload_n 0), (113, .iload 7), (115, .iload 9), (117, .invokevirtual 171), (120, .aload_n 0), (121, .getfield 70), (124, .bipush 60), (126, .iload_n 1), (127, .imul), (128, .iload_n 3), (129, .iadd), (130, .iload 9), (132, .iadd), (133, .iaload), (134, .if_icmp .ne 7), (137, .iconst 1), (138, .goto 4), (141, .iconst 0), (142, .istore 8), (144, .iinc 9 1), (147, .goto (-47)), (150, .iload 6), (152, .iload 8), (154, .ifCond .eq 10), (157, .iconst 1), (158, .iload 7), (160, .ishl), (161, .goto 4), (164, .iconst 0), (165, .ior), (166, .istore 6), (168, .iinc 7 1), (171, .goto (-86)), (174, .aload_n 0), (175, .iload 6), (177, .invokevirtual 123), (180, .ireturn)]
def zC134 : List (Nat × Instr) := [(0, .aload_n 0), (1, .iload_n 1), (2, .invokevirtual 145), (5, .ifCond .eq 5), (8, .iconst (-1)), (9, .ireturn), (10, .iload_n 2), (11, .i2l), (12, .lconst 0), (13, .ldc2_w 174), (16, .invokestatic 89), (19, .ifCond .eq 15), (22, .iload_n 3), (23, .i2l), (24, .lconst 0), (25, .ldc2_w 174), (28, .invokestatic 89), (31, .ifCond .ne 6), (34, .bipush (-2)), (36, .ireturn), (37, .aload_n 0), (38, .getfield 142), (41, .bipush 8), (43, .if_icmp .ne 6), (46, .bipush (-4)), (48, .ireturn), (49, .aload_n 0), (50, .getfield 55), (53, .aload_n 0), (54, .getfield 142), (57, .iload_n 1), (58, .iastore), (59, .aload_n 0), (60, .getfield 58), (63, .aload_n 0), (64, .getfield 142), (67, .iload_n 2), (68, .iastore), (69, .aload_n 0), (70, .getfield 61), (73, .aload_n 0), (74, .getfield 142), (77, .iload_n 3), (78, .iastore), (79, .aload_n 0), (80, .dup), (81, .getfield 142), (84, .iconst 1), (85, .iadd), (86, .putfield 142), (89, .aload_n 0), (90, .getfield 142), (93, .iconst 1), (94, .isub), (95, .ireturn)]
def zC135 : List (Nat × Instr) := [(0, .iload_n 1), (1, .i2l), (2, .lconst 0), (3, .aload_n 0), (4, .getfield 142), (7, .i2l), (8, .invokestatic 89), (11, .ifCond .ne 6), (14, .bipush (-2)), (16, .ireturn), (17, .aload_n 0), (18, .dup), (19, .getfield 142), (22, .iload_n 1), (23, .isub), (24, .putfield 142), (27, .aload_n 0), (28, .getfield 142), (31, .ireturn)]
def zC136 : List (Nat × Instr) := [(0, .iconst 1), (1, .istore_n 1), (2, .iconst 0), (3, .istore_n 2), (4, .iload_n 2), (5, .aload_n 0), (6, .getfield 142), (9, .if_icmp .ge 44), (12, .iload_n 1), (13, .ifCond .eq 32), (16, .aload_n 0), (17, .aload_n 0), (18, .getfield 55), (21, .iload_n 2), (22, .iaload), (23, .aload_n 0), (24, .getfield 58), (27, .iload_n 2), (28, .iaload), (29, .invokevirtual 171), (32, .aload_n 0), (33, .getfield 61), (36, .iload_n 2), (37, .iaload), (38, .if_icmp .ne 7), (41, .iconst 1), (42, .goto 4), (45, .iconst 0), (46, .istore_n 1), (47, .iinc 2 1), (50, .goto (-46)), (53, .iload_n 1), (54, .ireturn)]
def zC137 : List (Nat × Instr) := [(0, .aload_n 0), (1, .iload_n 1), (2, .invokevirtual 145), (5, .ifCond .eq 5), (8, .iconst (-1)), (9, .ireturn), (10, .aload_n 0), (11, .getfield 19), (14, .iload_n 1), (15, .iaload), (16, .istore_n 2), (17, .iconst 0), (18, .istore_n 3), (19, .iconst 0), (20, .istore 4), (22, .iload 4), (24, .bipush 10), (26, .if_icmp .ge 35), (29, .aload_n 0), (30, .getfield 19), (33, .iload_n 1), (34, .iload 4), (36, .iastore), (37, .iload_n 3), (38, .aload_n 0), (39, .invokevirtual 238), (42, .ifCond .eq 10), (45, .iconst 1), (46, .iload 4), (48, .ishl), (49, .goto 4), (52, .iconst 0), (53, .ior), (54, .istore_n 3), (55, .iinc 4 1), (58, .goto (-36)), (61, .aload_n 0), (62, .getfield 19), (65, .iload_n 1), (66, .iload_n 2), (67, .iastore), (68, .iload_n 3), (69, .ireturn)]
def zC138 : List (Nat × Instr) := [(0, .aload_n 0), (1, .iload_n 1), (2, .invokevirtual 145), (5, .ifCond .eq 5), (8, .iconst (-1)), (9, .ireturn), (10, .aload_n 0), (11, .getfield 7), (14, .iload_n 1), (15, .iaload), (16, .istore_n 2), (17, .iconst 0), (18, .istore_n 3), (19, .iconst 0), (20, .istore 4), (22, .iload 4), (24, .iconst 3), (25, .if_icmp .ge 35), (28, .aload_n 0), (29, .getfield 7), (32, .iload_n 1), (33, .iload 4), (35, .iastore), (36, .iload_n 3), (37, .aload_n 0), (38, .invokevirtual 238), (41, .ifCond .eq 10), (44, .iconst 1), (45, .iload 4), (47, .ishl), (48, .goto 4), (51, .iconst 0), (52, .ior), (53, .istore_n 3), (54, .iinc 4 1), (57, .goto (-35)), (60, .aload_n 0), (61, .getfield 7), (64, .iload_n 1), (65, .iload_n 2), (66, .iastore), (67, .iload_n 3), (68, .ireturn)]
def zC139 : List (Nat × Instr) := [(0, .aload_n 0), (1, .iload_n 1), (2, .invokevirtual 145), (5, .ifCond .eq 5), (8, .iconst (-1)), (9, .ireturn), (10, .aload_n 0), (11, .getfield 25), (14, .iload_n 1), (15, .iaload), (16, .istore_n 2), (17, .iconst 0), (18, .istore_n 3), (19, .iconst 0), (20, .istore 4), (22, .iload 4), (24, .aload_n 0), (25, .getfield 86), (28, .if_icmp .ge 35), (31, .aload_n 0), (32, .getfield 25), (35, .iload_n 1), (36, .iload 4), (38, .iastore), (39, .iload_n 3), (40, .aload_n 0), (41, .invokevirtual 238), (44, .ifCond .eq 10), (47, .iconst 1), (48, .iload 4), (50, .ishl), (51, .goto 4), (54, .iconst 0), (55, .ior), (56, .istore_n 3), (57, .iinc 4 1), (60, .goto (-38)), (63, .aload_n 0), (64, .getfield 25), (67, .iload_n 1), (68, .iload_n 2), (69, .iastore), (70, .iload_n 3), (71, .ireturn)]
def zC140 : List (Nat × Instr) := [(0, .aload_n 0), (1, .iload_n 1), (2, .invokevirtual 145), (5, .ifCond .ne 25), (8, .iload_n 2), (9, .i2l), (10, .lconst 0), (11, .ldc2_w 174), (14, .invokestatic 89), (17, .ifCond .eq 13), (20, .iload_n 3), (21, .i2l), (22, .lconst 0), (23, .lconst 1), (24, .invokestatic 89), (27, .ifCond .ne 7), (30, .invokestatic 82), (33, .lreturn), (34, .aload_n 0), (35, .getfield 25), (38, .iload_n 1), (39, .iaload), (40, .istore 4), (42, .lconst 0), (43, .lstore 5), (45, .iconst 0), (46, .istore 7), (48, .iload 7), (50, .aload_n 0), (51, .getfield 86), (54, .if_icmp .ge 42), (57, .aload_n 0), (58, .getfield 25), (61, .iload_n 1), (62, .iload 7), (64, .iastore), (65, .lload 5), (67, .iload 7), (69, .iload_n 1), (70, .if_icmp .eq 16), (73, .aload_n 0), (74, .iload_n 1), (75, .invokevirtual 182), (78, .iload_n 2), (79, .if_icmp .lt 7), (82, .lconst 1), (83, .goto 4), (86, .lconst 0), (87, .ladd), (88, .lstore 5), (90, .iinc 7 1), (93, .goto (-45)), (96, .aload_n 0), (97, .getfield 25), (100, .iload_n 1), (101, .iload 4), (103, .iastore), (104, .lload 5), (106, .aload_n 0), (107, .getfield 86), (110, .i2l), (111, .lconst 1), (112, .lsub), (113, .iload_n 3), (114, .invokestatic 241), (117, .lreturn)]
def zC141 : List (Nat × Instr) := [(0, .iload_n 0), (1, .i2l), (2, .lconst 0), (3, .ldc2_w 153), (6, .invokestatic 89), (9, .ifCond .ne 7), (12, .iconst 1), (13, .goto 4), (16, .iconst 0), (17, .ireturn)]
def zC142 : List (Nat × Instr) := [(0, .iload_n 1), (1, .invokestatic 119), (4, .ifCond .eq 9), (7, .aload_n 0), (8, .iconst (-1)), (9, .invokevirtual 123), (12, .ireturn), (13, .iload_n 2), (14, .i2l), (15, .lconst 0), (16, .ldc2_w 126), (19, .invokestatic 89), (22, .ifCond .eq 9), (25, .iload_n 3), (26, .bipush 60), (28, .if_icmp .le 10), (31, .aload_n 0), (32, .bipush (-2)), (34, .invokevirtual 123), (37, .ireturn), (38, .iload_n 3), (39, .ifCond .ge 9), (42, .aload_n 0), (43, .iconst 4), (44, .invokevirtual 111), (47, .ireturn), (48, .aload_n 0), (49, .getfield 64), (52, .iload_n 1), (53, .iload_n 3), (54, .iastore), (55, .aload_n 0), (56, .getfield 67), (59, .iload_n 1), (60, .iload_n 2), (61, .iastore), (62, .iconst 0), (63, .istore 4), (65, .iload 4), (67, .iload_n 3), (68, .if_icmp .ge 22), (71, .aload_n 0), (72, .getfield 70), (75, .bipush 60), (77, .iload_n 1), (78, .imul), (79, .iload 4), (81, .iadd), (82, .iconst 0), (83, .iastore), (84, .iinc 4 1), (87, .goto (-22)), (90, .aload_n 0), (91, .iconst 1), (92, .invokevirtual 123), (95, .ireturn)]
def zC143 : List (Nat × Instr) := [(0, .iload_n 1), (1, .invokestatic 119), (4, .ifCond .eq 5), (7, .iconst (-1)), (8, .ireturn), (9, .aload_n 0), (10, .getfield 64), (13, .iload_n 1), (14, .iaload), (15, .ifCond .ge 7), (18, .iconst 0), (19, .goto 4), (22, .iconst 1), (23, .istore_n 2), (24, .aload_n 0), (25, .getfield 64), (28, .iload_n 1), (29, .iconst (-1)), (30, .iastore), (31, .iload_n 2), (32, .ireturn)]
def zC144 : List (Nat × Instr) := [(0, .aload_n 0), (1, .getfield 64), (4, .iload_n 1), (5, .iaload), (6, .ifCond .ge 7), (9, .iconst 1), (10, .goto 26), (13, .iload_n 2), (14, .i2l), (15, .lconst 0), (16, .aload_n 0), (17, .getfield 64), (20, .iload_n 1), (21, .iaload), (22, .i2l), (23, .lconst 1), (24, .lsub), (25, .invokestatic 89), (28, .ifCond .eq 7), (31, .iconst 0), (32, .goto 4), (35, .iconst 3), (36, .ireturn)]
def zC145 : List (Nat × Instr) := [(0, .iload_n 1), (1, .invokestatic 119), (4, .ifCond .eq 9), (7, .aload_n 0), (8, .iconst (-1)), (9, .invokevirtual 123), (12, .ireturn), (13, .aload_n 0), (14, .iload_n 1), (15, .iload_n 2), (16, .invokevirtual 245), (19, .ifCond .le 14), (22, .aload_n 0), (23, .aload_n 0), (24, .iload_n 1), (25, .iload_n 2), (26, .invokevirtual 245), (29, .invokevirtual 111), (32, .ireturn), (33, .aload_n 0), (34, .getfield 70), (37, .bipush 60), (39, .iload_n 1), (40, .imul), (41, .iload_n 2), (42, .iadd), (43, .aload_n 0), (44, .getfield 67), (47, .iload_n 1), (48, .iaload), (49, .ifCond .ne 8), (52, .iload_n 3), (53, .i2b), (54, .goto 19), (57, .aload_n 0), (58, .getfield 67), (61, .iload_n 1), (62, .iaload), (63, .iconst 1), (64, .if_icmp .ne 8), (67, .iload_n 3), (68, .i2s), (69, .goto 4), (72, .iload_n 3), (73, .iastore), (74, .aload_n 0), (75, .iconst 1), (76, .invokevirtual 123), (79, .ireturn)]
def zC146 : List (Nat × Instr) := [(0, .aload_n 0), (1, .iconst 0), (2, .putfield 78), (5, .iload_n 1), (6, .invokestatic 119), (9, .ifCond .ne 15), (12, .iload_n 3), (13, .i2l), (14, .lconst 0), (15, .ldc2_w 126), (18, .invokestatic 89), (21, .ifCond .ne 7), (24, .invokestatic 82), (27, .lreturn), (28, .aload_n 0), (29, .getfield 64), (32, .iload_n 1), (33, .iaload), (34, .ifCond .lt 19), (37, .aload_n 0), (38, .getfield 67), (41, .iload_n 1), (42, .iaload), (43, .iload_n 3), (44, .if_icmp .eq 9), (47, .aload_n 0), (48, .iconst 2), (49, .invokevirtual 248), (52, .lreturn), (53, .aload_n 0), (54, .iload_n 1), (55, .iload_n 2), (56, .invokevirtual 245), (59, .ifCond .le 16), (62, .aload_n 0), (63, .aload_n 0), (64, .iload_n 1), (65, .iload_n 2), (66, .invokevirtual 245), (69, .invokevirtual 248), (72, .goto 15), (75, .aload_n 0), (76, .getfield 70), (79, .bipush 60), (81, .iload_n 1), (82, .imul), (83, .iload_n 2), (84, .iadd), (85, .iaload), (86, .i2l), (87, .lreturn)]
def zC147 : List (Nat × Instr) := [(0, .iload_n 0), (1, .ifCond .lt 19), (4, .lload_n 1), (5, .lconst 0), (6, .lcmp), (7, .ifCond .lt 13), (10, .iload_n 0), (11, .i2l), (12, .lload_n 1), (13, .ladd), (14, .iload_n 3), (15, .i2l), (16, .lcmp), (17, .ifCond .le 7), (20, .iconst 1), (21, .goto 4), (24, .iconst 0), (25, .ireturn)]
def zC148 : List (Nat × Instr) := [(0, .iload_n 1), (1, .invokestatic 119), (4, .ifCond .ne 10), (7, .iload_n 3), (8, .invokestatic 119), (11, .ifCond .eq 9), (14, .aload_n 0), (15, .iconst (-1)), (16, .invokevirtual 123), (19, .ireturn), (20, .aload_n 0), (21, .getfield 64), (24, .iload_n 1), (25, .iaload), (26, .ifCond .lt 12), (29, .aload_n 0), (30, .getfield 64), (33, .iload_n 3), (34, .iaload), (35, .ifCond .ge 9), (38, .aload_n 0), (39, .iconst 1), (40, .invokevirtual 111), (43, .ireturn), (44, .aload_n 0), (45, .getfield 67), (48, .iload_n 1), (49, .iaload), (50, .aload_n 0), (51, .getfield 67), (54, .iload_n 3), (55, .iaload), (56, .if_icmp .eq 9), (59, .aload_n 0), (60, .iconst 2), (61, .invokevirtual 111), (64, .ireturn), (65, .iload_n 2), (66, .iload 5), (68, .i2l), (69, .aload_n 0), (70, .getfield 64), (73, .iload_n 1), (74, .iaload), (75, .invokestatic 115), (78, .ifCond .ne 20), (81, .iload 4), (83, .iload 5), (85, .i2l), (86, .aload_n 0), (87, .getfield 64), (90, .iload_n 3), (91, .iaload), (92, .invokestatic 115), (95, .ifCond .eq 9), (98, .aload_n 0), (99, .iconst 3), (100, .invokevirtual 111), (103, .ireturn), (104, .iconst 0), (105, .istore 6), (107, .iload 6), (109, .iload 5), (111, .if_icmp .ge 30), (114, .aload_n 0), (115, .getfield 73), (118, .iload 6), (120, .aload_n 0), (121, .getfield 70), (124, .bipush 60), (126, .iload_n 1), (127, .imul), (128, .iload_n 2), (129, .iadd), (130, .iload 6), (132, .iadd), (133, .iaload), (134, .iastore), (135, .iinc 6 1), (138, .goto (-31)), (141, .iconst 0), (142, .istore 6), (144, .iload 6), (146, .iload 5), (148, .if_icmp .ge 31), (151, .aload_n 0), (152, .getfield 70), (155, .bipush 60), (157, .iload_n 3), (158, .imul), (159, .iload 4), (161, .iadd), (162, .iload 6), (164, .iadd), (165, .aload_n 0), (166, .getfield 73), (169, .iload 6), (171, .iaload), (172, .iastore), (173, .iinc 6 1), (176, .goto (-32)), (179, .aload_n 0), (180, .iload 5), (182, .invokevirtual 123), (185, .ireturn)]
def zC149 : List (Nat × Instr) := [(0, .aload_n 0), (1, .bipush 31), (3, .aload_n 0), (4, .getfield 252), (7, .imul), (8, .iload_n 1), (9, .iadd), (10, .putfield 252), (13, .return_)]
def zC150 : List (Nat × Instr) := [(0, .aload_n 0), (1, .iload_n 1), (2, .invokevirtual 145), (5, .ifCond .eq 5), (8, .iconst (-1)), (9, .ireturn), (10, .aload_n 0), (11, .getfield 7), (14, .iload_n 1), (15, .iaload), (16, .istore_n 2), (17, .iload_n 2), (18, .iconst 2), (19, .if_icmp .ne 8), (22, .aload_n 0), (23, .iconst 3), (24, .invokevirtual 255), (27, .iload_n 2), (28, .ifCond .le 8), (31, .aload_n 0), (32, .iconst 2), (33, .invokevirtual 255), (36, .aload_n 0), (37, .iconst 1), (38, .invokevirtual 255), (41, .iload_n 2), (42, .iconst 2), (43, .if_icmp .ne 8), (46, .aload_n 0), (47, .iconst 1), (48, .invokevirtual 255), (51, .aload_n 0), (52, .getfield 19), (55, .iload_n 1), (56, .iaload), (57, .istore_n 3), (58, .iload_n 2), (59, .ifCond .ne 7), (62, .iload_n 3), (63, .goto 21), (66, .iload_n 2), (67, .iconst 1), (68, .if_icmp .ne 10), (71, .iload_n 3), (72, .bipush 100), (74, .iadd), (75, .goto 9), (78, .iconst 2), (79, .iload_n 3), (80, .imul), (81, .bipush 100), (83, .iadd), (84, .ireturn)]
def zC151 : List (Nat × Instr) := [(0, .aload_n 0), (1, .iload_n 1), (2, .invokevirtual 145), (5, .ifCond .eq 5), (8, .iconst (-1)), (9, .ireturn), (10, .aload_n 0), (11, .aload_n 0), (12, .getfield 7), (15, .iload_n 1), (16, .iaload), (17, .iconst 2), (18, .if_icmp .ne 7), (21, .iconst 5), (22, .goto 4), (25, .iconst 4), (26, .invokevirtual 255), (29, .aload_n 0), (30, .getfield 7), (33, .iload_n 1), (34, .iaload), (35, .iconst 2), (36, .if_icmp .ne 8), (39, .bipush 50), (41, .goto 4), (44, .iload_n 1), (45, .ireturn)]
def zC152 : List (Nat × Instr) := [(0, .aload_n 0), (1, .iload_n 1), (2, .invokevirtual 145), (5, .ifCond .eq 9), (8, .aload_n 0), (9, .iconst (-1)), (10, .invokevirtual 123), (13, .ireturn), (14, .iload_n 2), (15, .i2l), (16, .lconst 0), (17, .ldc2_w 126), (20, .invokestatic 89), (23, .ifCond .ne 10), (26, .aload_n 0), (27, .bipush (-2)), (29, .invokevirtual 123), (32, .ireturn), (33, .aload_n 0), (34, .getfield 7), (37, .iload_n 1), (38, .iaload), (39, .iload_n 2), (40, .if_icmp .lt 11), (43, .aload_n 0), (44, .iconst 1), (45, .invokevirtual 123), (48, .goto 8), (51, .aload_n 0), (52, .iconst 2), (53, .invokevirtual 111), (56, .ireturn)]
def zC153 : List (Nat × Instr) := [(0, .aload_n 0), (1, .getfield 252), (4, .ireturn)]
def zC154 : List (Nat × Instr) := [(0, .aload_n 0), (1, .getfield 78), (4, .ireturn)]
def zC155 : List (Nat × Instr) := [(0, .iload_n 1), (1, .tableswitch 54 0 3 #[31, 36, 44, 49]), (32, .aload_n 0), (33, .getfield 86), (36, .ireturn), (37, .aload_n 0), (38, .invokevirtual 158), (41, .invokestatic 176), (44, .ireturn), (45, .aload_n 0), (46, .getfield 136), (49, .ireturn), (50, .aload_n 0), (51, .getfield 142), (54, .ireturn), (55, .bipush (-2)), (57, .ireturn)]
def zC156 : List (Nat × Instr) := [(0, .iload_n 0), (1, .iload_n 0), (2, .iconst 1), (3, .iushr), (4, .ldc_w 265), (7, .iand), (8, .isub), (9, .istore_n 0), (10, .iload_n 0), (11, .ldc_w 266), (14, .iand), (15, .iload_n 0), (16, .iconst 2), (17, .iushr), (18, .ldc_w 266), (21, .iand), (22, .iadd), (23, .istore_n 0), (24, .iload_n 0), (25, .iload_n 0), (26, .iconst 4), (27, .iushr), (28, .iadd), (29, .ldc_w 267), (32, .iand), (33, .istore_n 0), (34, .iload_n 0), (35, .iload_n 0), (36, .bipush 8), (38, .iushr), (39, .iadd), (40, .istore_n 0), (41, .iload_n 0), (42, .iload_n 0), (43, .bipush 16), (45, .iushr), (46, .iadd), (47, .istore_n 0), (48, .iload_n 0), (49, .bipush 63), (51, .iand), (52, .ireturn)]
def zCL : List (List (Nat × Instr)) := [zC0, zC1, zC2, zC3, zC4, zC5, zC6, zC7, zC8, zC9, zC10, zC11, zC12, zC13, zC14, zC15, zC16, zC17, zC18, zC19, zC20, zC21, zC22, zC23, zC24, zC25, zC26, zC27, zC28, zC29, zC30, zC31, zC32, zC33, zC34, zC35, zC36, zC37, zC38, zC39, zC40, zC41, zC42, zC43, zC44, zC45, zC46, zC47, zC48, zC49, zC50, zC51, zC52, zC53, zC54, zC55, zC56, zC57, zC58, zC59, zC60, zC61, zC62, zC63, zC64, zC65, zC66, zC67, zC68, zC69, zC70, zC71, zC72, zC73, zC74, zC75, zC76, zC77, zC78, zC79, zC80, zC81, zC82, zC83, zC84, zC85, zC86, zC87, zC88, zC89, zC90, zC91, zC92, zC93, zC94, zC95, zC96, zC97, zC98, zC99, zC100, zC101, zC102, zC103, zC104, zC105, zC106, zC107, zC108, zC109, zC110, zC111, zC112, zC113, zC114, zC115, zC116, zC117, zC118, zC119, zC120, zC121, zC122, zC123, zC124, zC125, zC126, zC127, zC128, zC129, zC130, zC131, zC132, zC133, zC134, zC135, zC136, zC137, zC138, zC139, zC140, zC141, zC142, zC143, zC144, zC145, zC146, zC147, zC148, zC149, zC150, zC151, zC152, zC153, zC154, zC155, zC156]
def zFL : List ((Nat × Nat) × (Nat × Nat × Bool)) := [((0, 9), (0, 0, false)), ((0, 15), (0, 1, false)), ((0, 18), (0, 2, false)), ((0, 21), (0, 3, false)), ((1, 9), (1, 0, false)), ((1, 15), (4, 7, true)), ((2, 9), (2, 0, false)), ((2, 15), (2, 1, false)), ((2, 19), (2, 2, false)), ((2, 23), (2, 3, false)), ((3, 12), (3, 0, false)), ((3, 18), (3, 1, false)), ((3, 26), (3, 2, false)), ((3, 30), (2, 0, true)), ((3, 57), (4, 8, true)), ((3, 72), (4, 1, true)), ((4, 9), (4, 0, false)), ((4, 15), (4, 1, false)), ((4, 18), (4, 2, false)), ((4, 21), (4, 3, false)), ((4, 24), (4, 4, false)), ((4, 27), (4, 5, false)), ((4, 30), (4, 6, false)), ((4, 34), (4, 7, false)), ((4, 42), (4, 8, false)), ((4, 45), (2, 0, true)), ((5, 12), (5, 0, false)), ((5, 18), (5, 1, false)), ((5, 24), (5, 2, false)), ((5, 31), (5, 3, false)), ((5, 38), (5, 4, false)), ((5, 44), (5, 5, false)), ((5, 49), (5, 7, false)), ((5, 73), (0, 3, true)), ((5, 76), (4, 7, true)), ((5, 83), (4, 0, true)), ((5, 87), (4, 1, true)), ((5, 90), (4, 3, true)), ((5, 93), (4, 4, true)), ((5, 96), (4, 5, true)), ((5, 103), (4, 6, true)), ((5, 107), (4, 2, true)), ((5, 123), (4, 8, true)), ((5, 156), (1, 0, true)), ((5, 192), (2, 1, true)), ((5, 196), (2, 3, true)), ((5, 199), (2, 0, true)), ((5, 208), (2, 2, true)), ((5, 233), (5, 6, false)), ((6, 7), (6, 3, false)), ((6, 13), (6, 4, false)), ((6, 16), (6, 5, false)), ((6, 19), (6, 6, false)), ((6, 22), (6, 7, false)), ((6, 25), (6, 8, false)), ((6, 28), (6, 12, false)), ((6, 31), (6, 13, false)), ((6, 34), (6, 14, false)), ((6, 37), (6, 15, false)), ((6, 40), (6, 16, false)), ((6, 43), (6, 17, false)), ((6, 46), (6, 20, false)), ((6, 49), (6, 21, false)), ((6, 52), (6, 22, false)), ((6, 55), (6, 24, false)), ((6, 58), (6, 25, false)), ((6, 61), (6, 26, false)), ((6, 64), (6, 27, false)), ((6, 67), (6, 28, false)), ((6, 70), (6, 29, false)), ((6, 73), (6, 30, false)), ((6, 78), (6, 0, false)), ((6, 86), (6, 1, false)), ((6, 93), (6, 10, false)), ((6, 104), (6, 11, false)), ((6, 136), (6, 2, false)), ((6, 139), (6, 9, false)), ((6, 142), (6, 23, false)), ((6, 185), (6, 19, false)), ((6, 205), (6, 18, false)), ((6, 252), (6, 31, false))]
def zFLi : List Nat := [174, 175, 176, 177, 163, 113, 195, 199, 201, 203, 147, 148, 149, 196, 116, 101, 97, 99, 102, 104, 106, 108, 110, 112, 115, 197, 214, 215, 216, 217, 218, 219, 221, 178, 114, 98, 100, 105, 107, 109, 111, 103, 117, 164, 200, 204, 198, 202, 220, 611, 612, 613, 614, 615, 616, 620, 621, 622, 623, 624, 625, 628, 629, 630, 632, 633, 634, 635, 636, 637, 638, 608, 609, 618, 619, 610, 617, 631, 627, 626, 639]
def zML : List ((Nat × Nat) × (Nat × Bool)) := [((1, 21), (156, false)), ((1, 31), (1000, false)), ((3, 63), (156, false)), ((3, 69), (74, true)), ((4, 38), (74, true)), ((4, 53), (22, false)), ((4, 65), (23, false)), ((4, 75), (1000, false)), ((5, 53), (74, false)), ((5, 126), (156, false)), ((5, 137), (78, false)), ((5, 185), (75, false)), ((5, 214), (1001, false)), ((6, 82), (85, false)), ((6, 89), (84, false)), ((6, 115), (147, false)), ((6, 119), (141, false)), ((6, 162), (86, false)), ((6, 176), (87, false)), ((6, 241), (88, false)), ((0, 25), (30, true)), ((0, 31), (1, false)), ((1, 27), (4, false)), ((1, 37), (34, true)), ((1, 40), (6, false)), ((2, 26), (10, false)), ((2, 30), (9, false)), ((3, 22), (18, true)), ((3, 35), (13, false)), ((3, 39), (14, false)), ((3, 43), (27, true)), ((3, 47), (17, true)), ((3, 50), (32, true)), ((3, 53), (15, false)), ((3, 60), (31, true)), ((4, 50), (20, false)), ((4, 57), (17, false)), ((4, 61), (21, false)), ((4, 68), (25, false)), ((4, 71), (24, false)), ((4, 80), (30, false)), ((4, 83), (26, false)), ((4, 86), (34, false)), ((4, 89), (33, false)), ((5, 57), (11, true)), ((5, 61), (76, false)), ((5, 65), (19, true)), ((5, 69), (18, true)), ((5, 79), (17, true)), ((5, 99), (24, true)), ((5, 110), (29, true)), ((5, 113), (27, true)), ((5, 117), (28, true)), ((5, 120), (77, false)), ((5, 131), (31, true)), ((5, 134), (33, true)), ((5, 140), (79, false)), ((5, 143), (12, true)), ((5, 147), (16, true)), ((5, 150), (36, true)), ((5, 153), (3, true)), ((5, 159), (5, true)), ((5, 163), (35, true)), ((5, 166), (25, true)), ((5, 169), (37, true)), ((5, 173), (0, true)), ((5, 176), (2, true)), ((5, 182), (34, true)), ((5, 188), (7, true)), ((5, 202), (8, true)), ((5, 205), (10, true)), ((5, 211), (9, true)), ((5, 220), (81, false)), ((5, 223), (82, false)), ((5, 226), (83, false)), ((5, 229), (80, false)), ((5, 236), (32, true)), ((6, 96), (93, false)), ((6, 100), (94, false)), ((6, 107), (95, false)), ((6, 111), (90, false)), ((6, 123), (89, false)), ((6, 128), (97, false)), ((6, 132), (96, false)), ((6, 145), (92, false)), ((6, 148), (99, false)), ((6, 155), (100, false)), ((6, 158), (106, false)), ((6, 165), (108, false)), ((6, 168), (109, false)), ((6, 171), (113, false)), ((6, 179), (114, false)), ((6, 182), (116, false)), ((6, 188), (118, false)), ((6, 191), (119, false)), ((6, 202), (121, false)), ((6, 208), (120, false)), ((6, 212), (123, false)), ((6, 215), (127, false)), ((6, 219), (126, false)), ((6, 223), (125, false)), ((6, 226), (128, false)), ((6, 233), (129, false)), ((6, 238), (136, false)), ((6, 245), (144, false)), ((6, 248), (91, false)), ((6, 255), (149, false))]
def zMLi : List Nat := [450, 456, 428, 429, 277, 270, 282, 377, 243, 362, 396, 526, 559, 936, 713, 729, 709, 801, 817, 940, 511, 507, 451, 455, 461, 250, 254, 407, 408, 412, 416, 422, 423, 418, 417, 266, 273, 278, 326, 376, 372, 346, 388, 473, 246, 258, 262, 285, 293, 294, 302, 322, 330, 338, 368, 384, 399, 403, 424, 434, 446, 457, 469, 478, 483, 491, 503, 525, 533, 545, 553, 558, 566, 574, 578, 570, 342, 736, 740, 744, 725, 716, 721, 732, 752, 756, 785, 781, 797, 793, 824, 820, 832, 856, 852, 844, 848, 868, 891, 879, 883, 887, 875, 920, 955, 963, 975]
def zKI : List ((Nat × Nat) × Int32) := [((7, 265), 1431655765), ((7, 266), 858993459), ((7, 267), 252645135)]
def zKJ : List ((Nat × Nat) × Int64) := [((5, 180), (-9223372036854775808)), ((6, 76), (-9223372036854775808)), ((6, 126), (2)), ((6, 151), (9)), ((6, 153), (3)), ((6, 174), (99)), ((6, 194), (10)), ((6, 196), (15)), ((6, 198), (20)), ((6, 200), (25)), ((6, 229), (-1)), ((6, 231), (5)), ((6, 236), (40))]
def zKIi : List Nat := [365, 366, 367]
def zKJi : List Nat := [524, 939, 720, 768, 712, 816, 840, 841, 842, 843, 873, 874, 907]
def zcdi : List Nat := [494, 510, 506, 449, 454, 460, 464, 536, 548, 257, 253, 249, 406, 411, 415, 421, 427, 276, 288, 265, 269, 281, 272, 284, 297, 329, 349, 325, 333, 305, 375, 371, 345, 387, 391, 472, 437, 486, 242, 292, 301, 309, 313, 317, 321, 337, 353, 357, 361, 383, 395, 433, 441, 445, 468, 477, 482, 490, 498, 502, 515, 519, 523, 532, 540, 544, 552, 557, 565, 585, 589, 593, 597, 601, 245, 528, 261, 341, 398, 402, 573, 569, 577, 581, 715, 938, 803, 819, 942, 719, 728, 966, 755, 739, 743, 747, 735, 724, 708, 759, 788, 751, 763, 767, 772, 776, 784, 780, 800, 796, 792, 807, 811, 827, 823, 815, 835, 831, 859, 855, 851, 847, 839, 863, 867, 886, 882, 894, 890, 878, 872, 898, 902, 906, 911, 915, 923, 919, 927, 931, 935, 711, 946, 950, 958, 954, 962, 731, 970, 978, 974, 982, 986, 990, 994, 998, 364]
def zkdi : List Nat := [493, 509, 505, 448, 453, 459, 463, 535, 547, 256, 252, 248, 405, 410, 414, 420, 426, 275, 287, 264, 268, 280, 271, 283, 296, 328, 348, 324, 332, 304, 374, 370, 344, 386, 390, 471, 436, 485, 240, 290, 299, 307, 311, 315, 319, 335, 351, 355, 359, 381, 393, 431, 439, 443, 466, 475, 480, 488, 496, 500, 513, 517, 521, 530, 538, 542, 550, 555, 563, 583, 587, 591, 595, 599, 244, 527, 260, 340, 397, 401, 572, 568, 576, 580, 714, 937, 802, 818, 941, 718, 727, 965, 754, 738, 742, 746, 734, 723, 706, 758, 787, 749, 761, 765, 770, 774, 783, 778, 799, 795, 790, 805, 809, 826, 822, 813, 834, 829, 858, 854, 850, 846, 837, 861, 865, 885, 881, 893, 889, 877, 870, 896, 900, 904, 909, 913, 922, 917, 925, 929, 933, 710, 944, 948, 957, 952, 960, 730, 968, 977, 972, 980, 984, 988, 992, 996, 363]
def zsli : List Nat := [34, 36, 35, 28, 29, 30, 31, 37, 38, 2, 1, 0, 22, 23, 24, 25, 26, 6, 8, 4, 5, 7, 0, 0, 9, 12, 16, 11, 13, 10, 18, 17, 15, 19, 20, 32, 27, 33, 241, 291, 300, 308, 312, 316, 320, 336, 352, 356, 360, 382, 394, 432, 440, 444, 467, 476, 481, 489, 497, 501, 514, 518, 522, 531, 539, 543, 551, 556, 564, 584, 588, 592, 596, 600, 0, 0, 3, 14, 0, 21, 40, 39, 41, 42, 0, 0, 0, 0, 0, 43, 45, 70, 50, 47, 48, 49, 46, 44, 707, 51, 53, 750, 762, 766, 771, 775, 52, 779, 55, 54, 791, 806, 810, 57, 56, 814, 58, 830, 62, 61, 60, 59, 838, 862, 866, 65, 64, 67, 66, 63, 871, 897, 901, 905, 910, 914, 68, 918, 926, 930, 934, 0, 945, 949, 69, 953, 961, 0, 969, 71, 973, 981, 985, 989, 993, 997, 0]
def zini : List Nat := [77, 76, 78, 75, 74, 73, 79, 80]
def zlyi : List Nat := [179, 181, 183, 185, 165, 205, 207, 209, 211, 150, 152, 154, 118, 120, 122, 124, 126, 128, 130, 132, 134, 222, 224, 226, 228, 230, 232, 234, 236, 640, 642, 644, 646, 648, 650, 652, 654, 656, 658, 660, 662, 664, 666, 668, 670, 672, 674, 676, 678, 680, 682, 684, 686, 688, 690, 692, 694, 696, 698, 700, 702]
end
section
-- the tables, read: each entry stands in the Statement's tables, and in the class files
def zy (k : Nat) : MethodName := zyL.getD k yX0_add
def zcw (k : Nat) : Option Cond := lw_tbl[zcdi.getD k 0]?
def zb (k : Nat) : ByteArray := match zcw k with | some (.code _ b _ _) => b | _ => cX0_add
def znl (k : Nat) : Nat := znlL.getD k 0
def zret (k : Nat) : Option FieldType := zretL.getD k none
def zcl (k : Nat) : Nat := zclL.getD k 0
def zpn (k : Nat) : Nat := zpnL.getD k 0
def zst (k : Nat) : Bool := zstL.getD k false
def zfr (k : Nat) : Nat := zfrL.getD k 0
def zlo (k : Nat) : Nat := zloL.getD k 0
def zcn (c : Nat) : String := zcnL.getD c ""
def zc (k pc : Nat) : Option Instr := (zCL.getD k []).lookup pc
def zNest : Cond → Bool
  | .methodLinkNest _ _ _ _ => true
  | .fieldLinkNest _ _ _ _ _ _ => true
  | _ => false
def zT : List Cond := lw_tbl.filter goodWord
def zNW : List Cond := lw_tbl.filter zNest
theorem zT_of {w : Cond} (i : Nat) (h : lw_tbl[i]? = some w) (g : goodWord w = true) : w ∈ zT := List.mem_filter.mpr ⟨List.mem_of_getElem? h, g⟩
theorem zNW_of {w : Cond} (i : Nat) (h : lw_tbl[i]? = some w) (g : zNest w = true) : w ∈ zNW := List.mem_filter.mpr ⟨List.mem_of_getElem? h, g⟩
theorem zT_tbl {w : Cond} (h : w ∈ zT) : w ∈ lw_tbl := (List.mem_filter.mp h).1
theorem zNW_tbl {w : Cond} (h : w ∈ zNW) : w ∈ lw_tbl := (List.mem_filter.mp h).1
theorem zT_good : GoodIn zT zT := fun w h => ⟨h, good_of_word (List.mem_filter.mp h).2⟩
theorem z_range {N : Nat} {P : Nat → Bool} (h : (List.range N).all P = true) {k : Nat} (hk : k < N) : P k = true := List.all_eq_true.mp h k (List.mem_range.mpr hk)
theorem zq_code : (List.range zNM).all (fun k => match zcw k with | some (.code y _ n r) => decide (y = zy k ∧ n = znl k ∧ r = zret k) | _ => false) = true := by decide +kernel
theorem zm_code {k : Nat} (hk : k < zNM) : Cond.code (zy k) (zb k) (znl k) (zret k) ∈ zT := by
  have h := z_range zq_code hk
  refine zT_of (zcdi.getD k 0) ?_ rfl
  show zcw k = _
  unfold zb
  revert h
  split
  · rename_i y b n r e
    intro h
    obtain ⟨h1, h2, h3⟩ := of_decide_eq_true h
    rw [e, h1, h2, h3]
  · intro h; exact absurd h (by decide)
theorem zq_cls : (List.range zNM).all (fun k => decide (zcl k < 8 ∧ (zy k).cls = zcn (zcl k) ∧ plainName (zy k).cls = true ∧ (zy k).cls ≠ "java/lang/invoke/MethodHandle" ∧ (zy k).cls ≠ "java/lang/invoke/VarHandle" ∧ (parseMethodDescriptor (zy k).desc).map (fun d => d.parameters.length) = some (zpn k))) = true := by decide +kernel
theorem zm_cls {k : Nat} (hk : k < zNM) : zcl k < 8 ∧ (zy k).cls = zcn (zcl k) ∧ plainName (zy k).cls = true ∧ (zy k).cls ≠ "java/lang/invoke/MethodHandle" ∧ (zy k).cls ≠ "java/lang/invoke/VarHandle" ∧ (parseMethodDescriptor (zy k).desc).map (fun d => d.parameters.length) = some (zpn k) := of_decide_eq_true (z_range zq_cls hk)
theorem zq_kind : (List.range zNM).all (fun k => if zst k = true then decide (lw_tbl[zkdi.getD k 0]? = some (Cond.static (zy k))) else decide (lw_tbl[zkdi.getD k 0]? = some (Cond.instanceMethod (zy k)) ∧ lw_tbl[zsli.getD k 0]? = some (Cond.selects (zy k).cls (zy k) (zy k)))) = true := by decide +kernel
theorem zm_stat {k : Nat} (hk : k < zNM) (h : zst k = true) : Cond.static (zy k) ∈ zT := by
  have := z_range zq_kind hk
  rw [if_pos h] at this
  exact zT_of _ (of_decide_eq_true this) rfl
theorem zm_inst {k : Nat} (hk : k < zNM) (h : zst k = false) : Cond.instanceMethod (zy k) ∈ zT ∧ Cond.selects (zy k).cls (zy k) (zy k) ∈ zT := by
  have := z_range zq_kind hk
  rw [if_neg (by rw [h]; decide)] at this
  have h2 := of_decide_eq_true this
  exact ⟨zT_of _ h2.1 rfl, zT_of _ h2.2 rfl⟩
theorem zq_init : (List.range 8).all (fun c => decide (lw_tbl[zini.getD c 0]? = some (Cond.initialized (zcn c)))) = true := by decide +kernel
theorem zm_init {k : Nat} (hk : k < zNM) : Cond.initialized (zy k).cls ∈ zT := by
  obtain ⟨h8, he, -⟩ := zm_cls hk
  rw [he]
  exact zT_of _ (of_decide_eq_true (z_range zq_init h8)) rfl
-- links
def zml (c i : Nat) : Option (Nat × Bool) := zML.lookup (c, i)
def zfl (c i : Nat) : Option (Nat × Nat × Bool) := zFL.lookup (c, i)
def zki (c i : Nat) : Option Int32 := zKI.lookup (c, i)
def zkj (c i : Nat) : Option Int64 := zKJ.lookup (c, i)
theorem z_lookup {α β : Type} [BEq α] [LawfulBEq α] {l : List (α × β)} {a : α} {b : β} (h : l.lookup a = some b) : ∃ j : Nat, l[j]? = some (a, b) := by
  induction l with
  | nil => simp at h
  | cons x l ih =>
    obtain ⟨x1, x2⟩ := x
    rw [List.lookup_cons] at h
    by_cases e : a == x1
    · simp only [e] at h
      have : a = x1 := eq_of_beq e
      cases h
      exact ⟨0, by rw [this]; rfl⟩
    · simp only [Bool.not_eq_true] at e
      simp only [e] at h
      obtain ⟨j, hj⟩ := ih h
      exact ⟨j + 1, hj⟩
theorem z_len {α : Type} {l : List α} {j : Nat} {x : α} (h : l[j]? = some x) : j < l.length := (List.getElem?_eq_some_iff.mp h).1
def zlw (e : (Nat × Nat) × (Nat × Bool)) : Cond :=
  if e.2.1 = 1000 then .methodLink (zcn e.1.1) e.1.2 Lib.Math.max.name
  else if e.2.1 = 1001 then .methodLink (zcn e.1.1) e.1.2 arraycopyName
  else if e.2.2 = true then .methodLinkNest (zcn e.1.1) e.1.2 (zy e.2.1) RX5 else .methodLink (zcn e.1.1) e.1.2 (zy e.2.1)
theorem zq_ml : (List.range zML.length).all (fun j => match zML[j]? with | some e => decide (lw_tbl[zMLi.getD j 0]? = some (zlw e) ∧ (e.2.1 < zNM ∨ e.2.1 = 1000 ∨ e.2.1 = 1001)) | none => false) = true := by decide +kernel
theorem zm_ml {c i : Nat} {e : Nat × Bool} (h : zml c i = some e) : zlw ((c, i), e) ∈ lw_tbl ∧ (e.1 < zNM ∨ e.1 = 1000 ∨ e.1 = 1001) := by
  obtain ⟨j, hj⟩ := z_lookup h
  have := z_range zq_ml (z_len hj)
  rw [hj] at this
  have h2 := of_decide_eq_true this
  exact ⟨List.mem_of_getElem? h2.1, h2.2⟩
def zvT (ci : Nat) : u_T := (vwCl.getD ci (RX0, TX0, 4)).2.1
def zvN (ci : Nat) : Nat := (vwCl.getD ci (RX0, TX0, 4)).2.2
def zfw (e : (Nat × Nat) × (Nat × Nat × Bool)) : Cond :=
  if e.2.2.2 = true then .fieldLinkNest (zcn e.1.1) e.1.2 (zcn e.2.1) ((zvT e.2.1) e.2.2.1).2.1 ((zvT e.2.1) e.2.2.1).2.2.1 RX5 else .fieldLink (zcn e.1.1) e.1.2 (zcn e.2.1) ((zvT e.2.1) e.2.2.1).2.1 ((zvT e.2.1) e.2.2.1).2.2.1
theorem zq_fl : (List.range zFL.length).all (fun j => match zFL[j]? with | some e => decide (lw_tbl[zFLi.getD j 0]? = some (zfw e) ∧ e.2.1 < 7 ∧ e.2.2.1 < zvN e.2.1 ∧ ((zvT e.2.1) e.2.2.1).1 = zcn e.2.1) | none => false) = true := by decide +kernel
theorem zm_fl {c i : Nat} {e : Nat × Nat × Bool} (h : zfl c i = some e) : zfw ((c, i), e) ∈ lw_tbl ∧ e.1 < 7 ∧ e.2.1 < zvN e.1 ∧ ((zvT e.1) e.2.1).1 = zcn e.1 := by
  obtain ⟨j, hj⟩ := z_lookup h
  have := z_range zq_fl (z_len hj)
  rw [hj] at this
  have h2 := of_decide_eq_true this
  exact ⟨List.mem_of_getElem? h2.1, h2.2.1, h2.2.2.1, h2.2.2.2⟩
theorem zq_ki : (List.range zKI.length).all (fun j => match zKI[j]? with | some e => decide (lw_tbl[zKIi.getD j 0]? = some (Cond.constant (zcn e.1.1) e.1.2 e.2)) | none => false) = true := by decide +kernel
theorem zm_ki {c i : Nat} {v : Int32} (h : zki c i = some v) : Cond.constant (zcn c) i v ∈ zT := by
  obtain ⟨j, hj⟩ := z_lookup h
  have := z_range zq_ki (z_len hj)
  rw [hj] at this
  exact zT_of _ (of_decide_eq_true this) rfl
theorem zq_kj : (List.range zKJ.length).all (fun j => match zKJ[j]? with | some e => decide (lw_tbl[zKJi.getD j 0]? = some (Cond.constantLong (zcn e.1.1) e.1.2 e.2)) | none => false) = true := by decide +kernel
theorem zm_kj {c i : Nat} {v : Int64} (h : zkj c i = some v) : Cond.constantLong (zcn c) i v ∈ zT := by
  obtain ⟨j, hj⟩ := z_lookup h
  have := z_range zq_kj (z_len hj)
  rw [hj] at this
  exact zT_of _ (of_decide_eq_true this) rfl
-- the fields' words of each class
theorem zq_ly : (wsX00 ++ wsX10 ++ wsX20 ++ wsX30 ++ wsX40 ++ wsX50 ++ wsX60).map some = zlyi.map (fun i => lw_tbl[i]?) := by decide +kernel
theorem zq_lg : (wsX00 ++ wsX10 ++ wsX20 ++ wsX30 ++ wsX40 ++ wsX50 ++ wsX60).all goodWord = true := by decide +kernel
theorem zm_ly0 {w : Cond} (h : w ∈ wsX00 ++ wsX10 ++ wsX20 ++ wsX30 ++ wsX40 ++ wsX50 ++ wsX60) : w ∈ zT := by
  have h1 : some w ∈ zlyi.map (fun i => lw_tbl[i]?) := by rw [← zq_ly]; exact List.mem_map.mpr ⟨w, h, rfl⟩
  obtain ⟨i, -, hi⟩ := List.mem_map.mp h1
  exact zT_of i hi (List.all_eq_true.mp zq_lg w h)
theorem zm_ly {ci : Nat} (h : ci < 7) : ∀ w ∈ u_ws (zcn ci) (zvT ci) (zvN ci), w ∈ zT := by
  intro w hw
  apply zm_ly0
  simp only [List.mem_append]
  match ci, h with
  | 0, _ => exact Or.inl (Or.inl (Or.inl (Or.inl (Or.inl (Or.inl hw)))))
  | 1, _ => exact Or.inl (Or.inl (Or.inl (Or.inl (Or.inl (Or.inr hw)))))
  | 2, _ => exact Or.inl (Or.inl (Or.inl (Or.inl (Or.inr hw))))
  | 3, _ => exact Or.inl (Or.inl (Or.inl (Or.inr hw)))
  | 4, _ => exact Or.inl (Or.inl (Or.inr hw))
  | 5, _ => exact Or.inl (Or.inr hw)
  | 6, _ => exact Or.inr hw
theorem zm_vw {ci : Nat} (h : ci < 7) : vwCl[ci]? = some (zcn ci, zvT ci, zvN ci) := by
  match ci, h with
  | 0, _ => rfl
  | 1, _ => rfl
  | 2, _ => rfl
  | 3, _ => rfl
  | 4, _ => rfl
  | 5, _ => rfl
  | 6, _ => rfl
-- the fields that are written: their types
def zty (ci k : Nat) : FieldType := match parseFieldDescriptor ((zvT ci) k).2.2.1 with | some t => t | none => .int
theorem zq_ty : (List.range 7).all (fun ci => (List.range (zvN ci)).all fun k => decide (parseFieldDescriptor ((zvT ci) k).2.2.1 = some (zty ci k))) = true := by decide +kernel
theorem zm_ty {ci : Nat} (h : ci < 7) {k : Nat} (hk : k < zvN ci) : parseFieldDescriptor ((zvT ci) k).2.2.1 = some (zty ci k) := of_decide_eq_true (z_range (z_range zq_ty h) hk)
theorem zm_nm {ci : Nat} (h : ci < 7) : ∀ a, a < zvN ci → ∀ b, b < zvN ci → a ≠ b → ((zvT ci) a).2.1 ≠ ((zvT ci) b).2.1 := by
  match ci, h with
  | 0, _ => exact nmX0
  | 1, _ => exact nmX1
  | 2, _ => exact nmX2
  | 3, _ => exact nmX3
  | 4, _ => exact nmX4
  | 5, _ => exact nmX5
  | 6, _ => exact nmX6
-- code
def zlen : Instr → Nat
  | .iload _ => 2
  | .aload _ => 2
  | .istore _ => 2
  | .astore _ => 2
  | .lload _ => 2
  | .lstore _ => 2
  | .bipush _ => 2
  | .sipush _ => 3
  | .goto _ => 3
  | .ifCond _ _ => 3
  | .if_icmp _ _ => 3
  | .iinc _ _ => 3
  | .getfield _ => 3
  | .putfield _ => 3
  | .invokevirtual _ => 3
  | .invokestatic _ => 3
  | .ldc_w _ => 3
  | .ldc2_w _ => 3
  | .tableswitch _ _ _ _ => 0
  | .lookupswitch _ _ => 0
  | _ => 1
def zdc (k : Nat) : Bool := (zCL.getD k []).all fun e => match decode (zb k) e.1 with | .ok x => decide (x.1 = e.2 ∧ (zlen e.2 = 0 ∨ x.2 = zlen e.2)) | _ => false
end
section
theorem zq_dc0 : zdc 0 = true := by decide +kernel
theorem zq_dc1 : zdc 1 = true := by decide +kernel
theorem zq_dc2 : zdc 2 = true := by decide +kernel
theorem zq_dc3 : zdc 3 = true := by decide +kernel
theorem zq_dc4 : zdc 4 = true := by decide +kernel
theorem zq_dc5 : zdc 5 = true := by decide +kernel
theorem zq_dc6 : zdc 6 = true := by decide +kernel
theorem zq_dc7 : zdc 7 = true := by decide +kernel
theorem zq_dc8 : zdc 8 = true := by decide +kernel
theorem zq_dc9 : zdc 9 = true := by decide +kernel
theorem zq_dc10 : zdc 10 = true := by decide +kernel
theorem zq_dc11 : zdc 11 = true := by decide +kernel
theorem zq_dc12 : zdc 12 = true := by decide +kernel
theorem zq_dc13 : zdc 13 = true := by decide +kernel
theorem zq_dc14 : zdc 14 = true := by decide +kernel
theorem zq_dc15 : zdc 15 = true := by decide +kernel
theorem zq_dc16 : zdc 16 = true := by decide +kernel
theorem zq_dc17 : zdc 17 = true := by decide +kernel
theorem zq_dc18 : zdc 18 = true := by decide +kernel
theorem zq_dc19 : zdc 19 = true := by decide +kernel
theorem zq_dc20 : zdc 20 = true := by decide +kernel
theorem zq_dc21 : zdc 21 = true := by decide +kernel
theorem zq_dc22 : zdc 22 = true := by decide +kernel
theorem zq_dc23 : zdc 23 = true := by decide +kernel
theorem zq_dc24 : zdc 24 = true := by decide +kernel
theorem zq_dc25 : zdc 25 = true := by decide +kernel
theorem zq_dc26 : zdc 26 = true := by decide +kernel
theorem zq_dc27 : zdc 27 = true := by decide +kernel
theorem zq_dc28 : zdc 28 = true := by decide +kernel
theorem zq_dc29 : zdc 29 = true := by decide +kernel
end
section
theorem zq_dc30 : zdc 30 = true := by decide +kernel
theorem zq_dc31 : zdc 31 = true := by decide +kernel
theorem zq_dc32 : zdc 32 = true := by decide +kernel
theorem zq_dc33 : zdc 33 = true := by decide +kernel
theorem zq_dc34 : zdc 34 = true := by decide +kernel
theorem zq_dc35 : zdc 35 = true := by decide +kernel
theorem zq_dc36 : zdc 36 = true := by decide +kernel
theorem zq_dc37 : zdc 37 = true := by decide +kernel
theorem zq_dc38 : zdc 38 = true := by decide +kernel
theorem zq_dc39 : zdc 39 = true := by decide +kernel
theorem zq_dc40 : zdc 40 = true := by decide +kernel
theorem zq_dc41 : zdc 41 = true := by decide +kernel
theorem zq_dc42 : zdc 42 = true := by decide +kernel
theorem zq_dc43 : zdc 43 = true := by decide +kernel
theorem zq_dc44 : zdc 44 = true := by decide +kernel
theorem zq_dc45 : zdc 45 = true := by decide +kernel
theorem zq_dc46 : zdc 46 = true := by decide +kernel
theorem zq_dc47 : zdc 47 = true := by decide +kernel
theorem zq_dc48 : zdc 48 = true := by decide +kernel
theorem zq_dc49 : zdc 49 = true := by decide +kernel
theorem zq_dc50 : zdc 50 = true := by decide +kernel
theorem zq_dc51 : zdc 51 = true := by decide +kernel
theorem zq_dc52 : zdc 52 = true := by decide +kernel
theorem zq_dc53 : zdc 53 = true := by decide +kernel
theorem zq_dc54 : zdc 54 = true := by decide +kernel
theorem zq_dc55 : zdc 55 = true := by decide +kernel
theorem zq_dc56 : zdc 56 = true := by decide +kernel
theorem zq_dc57 : zdc 57 = true := by decide +kernel
theorem zq_dc58 : zdc 58 = true := by decide +kernel
theorem zq_dc59 : zdc 59 = true := by decide +kernel
end
section
theorem zq_dc60 : zdc 60 = true := by decide +kernel
theorem zq_dc61 : zdc 61 = true := by decide +kernel
theorem zq_dc62 : zdc 62 = true := by decide +kernel
theorem zq_dc63 : zdc 63 = true := by decide +kernel
theorem zq_dc64 : zdc 64 = true := by decide +kernel
theorem zq_dc65 : zdc 65 = true := by decide +kernel
theorem zq_dc66 : zdc 66 = true := by decide +kernel
theorem zq_dc67 : zdc 67 = true := by decide +kernel
theorem zq_dc68 : zdc 68 = true := by decide +kernel
theorem zq_dc69 : zdc 69 = true := by decide +kernel
theorem zq_dc70 : zdc 70 = true := by decide +kernel
theorem zq_dc71 : zdc 71 = true := by decide +kernel
theorem zq_dc72 : zdc 72 = true := by decide +kernel
theorem zq_dc73 : zdc 73 = true := by decide +kernel
theorem zq_dc74 : zdc 74 = true := by decide +kernel
theorem zq_dc75 : zdc 75 = true := by decide +kernel
theorem zq_dc76 : zdc 76 = true := by decide +kernel
theorem zq_dc77 : zdc 77 = true := by decide +kernel
theorem zq_dc78 : zdc 78 = true := by decide +kernel
theorem zq_dc79 : zdc 79 = true := by decide +kernel
theorem zq_dc80 : zdc 80 = true := by decide +kernel
theorem zq_dc81 : zdc 81 = true := by decide +kernel
theorem zq_dc82 : zdc 82 = true := by decide +kernel
theorem zq_dc83 : zdc 83 = true := by decide +kernel
theorem zq_dc84 : zdc 84 = true := by decide +kernel
theorem zq_dc85 : zdc 85 = true := by decide +kernel
theorem zq_dc86 : zdc 86 = true := by decide +kernel
theorem zq_dc87 : zdc 87 = true := by decide +kernel
theorem zq_dc88 : zdc 88 = true := by decide +kernel
theorem zq_dc89 : zdc 89 = true := by decide +kernel
end
section
theorem zq_dc90 : zdc 90 = true := by decide +kernel
theorem zq_dc91 : zdc 91 = true := by decide +kernel
theorem zq_dc92 : zdc 92 = true := by decide +kernel
theorem zq_dc93 : zdc 93 = true := by decide +kernel
theorem zq_dc94 : zdc 94 = true := by decide +kernel
theorem zq_dc95 : zdc 95 = true := by decide +kernel
theorem zq_dc96 : zdc 96 = true := by decide +kernel
theorem zq_dc97 : zdc 97 = true := by decide +kernel
theorem zq_dc98 : zdc 98 = true := by decide +kernel
theorem zq_dc99 : zdc 99 = true := by decide +kernel
theorem zq_dc100 : zdc 100 = true := by decide +kernel
theorem zq_dc101 : zdc 101 = true := by decide +kernel
theorem zq_dc102 : zdc 102 = true := by decide +kernel
theorem zq_dc103 : zdc 103 = true := by decide +kernel
theorem zq_dc104 : zdc 104 = true := by decide +kernel
theorem zq_dc105 : zdc 105 = true := by decide +kernel
theorem zq_dc106 : zdc 106 = true := by decide +kernel
theorem zq_dc107 : zdc 107 = true := by decide +kernel
theorem zq_dc108 : zdc 108 = true := by decide +kernel
theorem zq_dc109 : zdc 109 = true := by decide +kernel
theorem zq_dc110 : zdc 110 = true := by decide +kernel
theorem zq_dc111 : zdc 111 = true := by decide +kernel
theorem zq_dc112 : zdc 112 = true := by decide +kernel
theorem zq_dc113 : zdc 113 = true := by decide +kernel
theorem zq_dc114 : zdc 114 = true := by decide +kernel
theorem zq_dc115 : zdc 115 = true := by decide +kernel
theorem zq_dc116 : zdc 116 = true := by decide +kernel
theorem zq_dc117 : zdc 117 = true := by decide +kernel
theorem zq_dc118 : zdc 118 = true := by decide +kernel
theorem zq_dc119 : zdc 119 = true := by decide +kernel
end
section
theorem zq_dc120 : zdc 120 = true := by decide +kernel
theorem zq_dc121 : zdc 121 = true := by decide +kernel
theorem zq_dc122 : zdc 122 = true := by decide +kernel
theorem zq_dc123 : zdc 123 = true := by decide +kernel
theorem zq_dc124 : zdc 124 = true := by decide +kernel
theorem zq_dc125 : zdc 125 = true := by decide +kernel
theorem zq_dc126 : zdc 126 = true := by decide +kernel
theorem zq_dc127 : zdc 127 = true := by decide +kernel
theorem zq_dc128 : zdc 128 = true := by decide +kernel
theorem zq_dc129 : zdc 129 = true := by decide +kernel
theorem zq_dc130 : zdc 130 = true := by decide +kernel
theorem zq_dc131 : zdc 131 = true := by decide +kernel
theorem zq_dc132 : zdc 132 = true := by decide +kernel
theorem zq_dc133 : zdc 133 = true := by decide +kernel
theorem zq_dc134 : zdc 134 = true := by decide +kernel
theorem zq_dc135 : zdc 135 = true := by decide +kernel
theorem zq_dc136 : zdc 136 = true := by decide +kernel
theorem zq_dc137 : zdc 137 = true := by decide +kernel
theorem zq_dc138 : zdc 138 = true := by decide +kernel
theorem zq_dc139 : zdc 139 = true := by decide +kernel
theorem zq_dc140 : zdc 140 = true := by decide +kernel
theorem zq_dc141 : zdc 141 = true := by decide +kernel
theorem zq_dc142 : zdc 142 = true := by decide +kernel
theorem zq_dc143 : zdc 143 = true := by decide +kernel
theorem zq_dc144 : zdc 144 = true := by decide +kernel
theorem zq_dc145 : zdc 145 = true := by decide +kernel
theorem zq_dc146 : zdc 146 = true := by decide +kernel
theorem zq_dc147 : zdc 147 = true := by decide +kernel
theorem zq_dc148 : zdc 148 = true := by decide +kernel
theorem zq_dc149 : zdc 149 = true := by decide +kernel
theorem zq_dc150 : zdc 150 = true := by decide +kernel
theorem zq_dc151 : zdc 151 = true := by decide +kernel
theorem zq_dc152 : zdc 152 = true := by decide +kernel
theorem zq_dc153 : zdc 153 = true := by decide +kernel
theorem zq_dc154 : zdc 154 = true := by decide +kernel
theorem zq_dc155 : zdc 155 = true := by decide +kernel
theorem zq_dc156 : zdc 156 = true := by decide +kernel
end
section
theorem zq_dc : ∀ k, k < zNM → zdc k = true := lt_s (lt_s (lt_s (lt_s (lt_s (lt_s (lt_s (lt_s (lt_s (lt_s (lt_s (lt_s (lt_s (lt_s (lt_s (lt_s (lt_s (lt_s (lt_s (lt_s (lt_s (lt_s (lt_s (lt_s (lt_s (lt_s (lt_s (lt_s (lt_s (lt_s (lt_s (lt_s (lt_s (lt_s (lt_s (lt_s (lt_s (lt_s (lt_s (lt_s (lt_s (lt_s (lt_s (lt_s (lt_s (lt_s (lt_s (lt_s (lt_s (lt_s (lt_s (lt_s (lt_s (lt_s (lt_s (lt_s (lt_s (lt_s (lt_s (lt_s (lt_s (lt_s (lt_s (lt_s (lt_s (lt_s (lt_s (lt_s (lt_s (lt_s (lt_s (lt_s (lt_s (lt_s (lt_s (lt_s (lt_s (lt_s (lt_s (lt_s (lt_s (lt_s (lt_s (lt_s (lt_s (lt_s (lt_s (lt_s (lt_s (lt_s (lt_s (lt_s (lt_s (lt_s (lt_s (lt_s (lt_s (lt_s (lt_s (lt_s (lt_s (lt_s (lt_s (lt_s (lt_s (lt_s (lt_s (lt_s (lt_s (lt_s (lt_s (lt_s (lt_s (lt_s (lt_s (lt_s (lt_s (lt_s (lt_s (lt_s (lt_s (lt_s (lt_s (lt_s (lt_s (lt_s (lt_s (lt_s (lt_s (lt_s (lt_s (lt_s (lt_s (lt_s (lt_s (lt_s (lt_s (lt_s (lt_s (lt_s (lt_s (lt_s (lt_s (lt_s (lt_s (lt_s (lt_s (lt_s (lt_s (lt_s (lt_s (lt_s (lt_s (lt_s (lt_s (lt_s (lt_s lt_0 zq_dc0) zq_dc1) zq_dc2) zq_dc3) zq_dc4) zq_dc5) zq_dc6) zq_dc7) zq_dc8) zq_dc9) zq_dc10) zq_dc11) zq_dc12) zq_dc13) zq_dc14) zq_dc15) zq_dc16) zq_dc17) zq_dc18) zq_dc19) zq_dc20) zq_dc21) zq_dc22) zq_dc23) zq_dc24) zq_dc25) zq_dc26) zq_dc27) zq_dc28) zq_dc29) zq_dc30) zq_dc31) zq_dc32) zq_dc33) zq_dc34) zq_dc35) zq_dc36) zq_dc37) zq_dc38) zq_dc39) zq_dc40) zq_dc41) zq_dc42) zq_dc43) zq_dc44) zq_dc45) zq_dc46) zq_dc47) zq_dc48) zq_dc49) zq_dc50) zq_dc51) zq_dc52) zq_dc53) zq_dc54) zq_dc55) zq_dc56) zq_dc57) zq_dc58) zq_dc59) zq_dc60) zq_dc61) zq_dc62) zq_dc63) zq_dc64) zq_dc65) zq_dc66) zq_dc67) zq_dc68) zq_dc69) zq_dc70) zq_dc71) zq_dc72) zq_dc73) zq_dc74) zq_dc75) zq_dc76) zq_dc77) zq_dc78) zq_dc79) zq_dc80) zq_dc81) zq_dc82) zq_dc83) zq_dc84) zq_dc85) zq_dc86) zq_dc87) zq_dc88) zq_dc89) zq_dc90) zq_dc91) zq_dc92) zq_dc93) zq_dc94) zq_dc95) zq_dc96) zq_dc97) zq_dc98) zq_dc99) zq_dc100) zq_dc101) zq_dc102) zq_dc103) zq_dc104) zq_dc105) zq_dc106) zq_dc107) zq_dc108) zq_dc109) zq_dc110) zq_dc111) zq_dc112) zq_dc113) zq_dc114) zq_dc115) zq_dc116) zq_dc117) zq_dc118) zq_dc119) zq_dc120) zq_dc121) zq_dc122) zq_dc123) zq_dc124) zq_dc125) zq_dc126) zq_dc127) zq_dc128) zq_dc129) zq_dc130) zq_dc131) zq_dc132) zq_dc133) zq_dc134) zq_dc135) zq_dc136) zq_dc137) zq_dc138) zq_dc139) zq_dc140) zq_dc141) zq_dc142) zq_dc143) zq_dc144) zq_dc145) zq_dc146) zq_dc147) zq_dc148) zq_dc149) zq_dc150) zq_dc151) zq_dc152) zq_dc153) zq_dc154) zq_dc155) zq_dc156
theorem zm_dc {k : Nat} (hk : k < zNM) {pc : Nat} {i : Instr} (h : zc k pc = some i) : ∃ len, decode (zb k) pc = .ok (i, len) ∧ (zlen i = 0 ∨ len = zlen i) := by
  obtain ⟨j, hj⟩ := z_lookup h
  have := List.all_eq_true.mp (zq_dc k hk) _ (List.mem_of_getElem? hj)
  revert this
  dsimp only
  cases hd : decode (zb k) pc with
  | ok x => intro h; have h2 := of_decide_eq_true h; exact ⟨x.2, by rw [← h2.1], h2.2⟩
  | error _ => intro h; exact nomatch (show false = true from h)
end
section
-- THE FIXED WORLD: cells 0..64; cell 0 the class's object, 42 the reference's; M c j: what cell c holds at place j
abbrev zNC : Nat := 65
def zkL : List Nat := [5, 4, 7, 7, 7, 7, 7, 7, 8, 4, 7, 7, 7, 7, 7, 7, 8, 4, 7, 7, 7, 7, 7, 7, 8, 3, 7, 1, 7, 0, 7, 7, 7, 9, 2, 7, 2, 7, 2, 7, 2, 7, 6, 7, 7, 7, 7, 7, 7, 7, 7, 7, 7, 7, 7, 7, 7, 7, 7, 7, 7, 7, 7, 7, 7]
def znL : List Nat := [8, 9, 6, 6, 6, 6, 6, 6, 6, 9, 6, 6, 6, 6, 6, 6, 6, 9, 6, 6, 6, 6, 6, 6, 6, 3, 6, 1, 64, 4, 8, 8, 8, 4, 4, 60, 4, 60, 4, 60, 4, 60, 32, 6, 6, 6, 6, 6, 6, 6, 6, 6, 6, 6, 6, 6, 6, 6, 8, 8, 8, 4, 4, 240, 60]
def zfT (t : Nat) : List (Option Nat) := [some (t + 1), some (t + 2), some (t + 3), some (t + 4), some (t + 5), some (t + 6), some (t + 7), none, none]
def zf5 : List (Option Nat) := [some 1, some 9, some 25, some 27, some 29, some 33, none, none]
def zf6 : List (Option Nat) := [none, none, none, some 43, some 44, some 45, some 46, some 47, some 48, none, none, none, some 49, some 50, some 51, some 52, some 53, some 54, none, none, some 55, some 56, some 57, none, some 58, some 59, some 60, some 61, some 62, some 63, some 64, none]
def zfL (c : Nat) : List (Option Nat) :=
  if c = 0 then zf5 else if c = 1 ∨ c = 9 ∨ c = 17 then zfT c else if c = 25 then [some 17, some 26, none] else if c = 27 then [some 28]
  else if c = 29 then [some 30, some 31, some 32, none] else if c = 33 then [some 34, some 36, some 38, some 40]
  else if c = 34 ∨ c = 36 ∨ c = 38 ∨ c = 40 then [some (c + 1), none, none, none] else if c = 42 then zf6 else []
def zk (c : Nat) : Nat := zkL.getD c 10
def zn (c : Nat) : Nat := znL.getD c 0
def zf (c k : Nat) : Option Nat := (zfL c).getD k none
abbrev zM : Type := Nat → Nat → Int32
abbrev zR : Type := Option (Int32 ⊕ Int64)
abbrev zI (x : Int32) : zR := some (.inl x)
abbrev zJ (x : Int64) : zR := some (.inr x)
def zrow (M : zM) (c : Nat) (f : Nat → Int32) : zM := fun a => if a = c then f else M a
def zup (M : zM) (c j : Nat) (x : Int32) : zM := zrow M c (upd (M c) j x)
abbrev zAct : Type := (Nat × List Value × List Value × zM) ⊕ (zR ⊕ (Nat × List Value × List Value × List Value))
def zgo (pc : Nat) (L st : List Value) (M : zM) : Option zAct := some (.inl (pc, L, st, M))
def ztgt (pc : Nat) (off : Int) : Nat := ((pc : Int) + off).toNat
def zjmp (pc : Nat) (off : Int) (L st : List Value) (M : zM) : Option zAct := if 0 ≤ (pc : Int) + off then zgo (ztgt pc off) L st M else none
def zbr (c : Prop) [Decidable c] (pc : Nat) (off : Int) (L st : List Value) (M : zM) : Option zAct := if 0 ≤ (pc : Int) + off then zgo (if c then ztgt pc off else pc + 3) L st M else none
def zldI (k pc : Nat) (L st : List Value) (M : zM) : Option zAct := match L[k]? with | some (.int x) => zgo pc L (.int x :: st) M | _ => none
def zldL (k pc : Nat) (L st : List Value) (M : zM) : Option zAct := match L[k]? with | some (.long x) => zgo pc L (.long x :: st) M | _ => none
def zldA (k pc : Nat) (L st : List Value) (M : zM) : Option zAct := match L[k]? with | some (.ref x) => zgo pc L (.ref x :: st) M | _ => none
def zpre (L : List Value) : Nat → Bool
  | 0 => true
  | j + 1 => match L[j]? with | some v => v.category != 2 | none => true
def zstI (k pc : Nat) (L st : List Value) (M : zM) : Option zAct := match st with | .int x :: r => if k < L.length ∧ zpre L k = true then zgo pc (L.set k (.int x)) r M else none | _ => none
def zstA (k pc : Nat) (L st : List Value) (M : zM) : Option zAct := match st with | .ref x :: r => if k < L.length ∧ zpre L k = true then zgo pc (L.set k (.ref x)) r M else none | _ => none
def zstJ (k pc : Nat) (L st : List Value) (M : zM) : Option zAct := match st with | .long x :: r => if k + 1 < L.length ∧ zpre L k = true then zgo pc ((L.set k (.long x)).set (k + 1) .null) r M else none | _ => none
def zinc (k : Nat) (n : Int) (pc : Nat) (L st : List Value) (M : zM) : Option zAct := match L[k]? with | some (.int x) => if zpre L k = true then zgo (pc + 3) (L.set k (.int (x + Int32.ofInt n))) st M else none | _ => none
def zI2 (f : Int32 → Int32 → Int32) (pc : Nat) (L st : List Value) (M : zM) : Option zAct := match st with | .int y :: .int x :: r => zgo (pc + 1) L (.int (f x y) :: r) M | _ => none
def zD2 (f : Int32 → Int32 → Int32) (pc : Nat) (L st : List Value) (M : zM) : Option zAct := match st with | .int y :: .int x :: r => if y = 0 then none else zgo (pc + 1) L (.int (f x y) :: r) M | _ => none
def zJ2 (f : Int64 → Int64 → Int64) (pc : Nat) (L st : List Value) (M : zM) : Option zAct := match st with | .long y :: .long x :: r => zgo (pc + 1) L (.long (f x y) :: r) M | _ => none
def zE2 (f : Int64 → Int64 → Int64) (pc : Nat) (L st : List Value) (M : zM) : Option zAct := match st with | .long y :: .long x :: r => if y = 0 then none else zgo (pc + 1) L (.long (f x y) :: r) M | _ => none
def zI1 (f : Int32 → Int32) (pc : Nat) (L st : List Value) (M : zM) : Option zAct := match st with | .int x :: r => zgo (pc + 1) L (.int (f x) :: r) M | _ => none
def zi2l (pc : Nat) (L st : List Value) (M : zM) : Option zAct := match st with | .int x :: r => zgo (pc + 1) L (.long x.toInt64 :: r) M | _ => none
def zlcmp (pc : Nat) (L st : List Value) (M : zM) : Option zAct := match st with | .long y :: .long x :: r => zgo (pc + 1) L (.int (lg_cmp x y) :: r) M | _ => none
def zif1 (c : Jvm.ClassFile.Cond) (pc : Nat) (off : Int) (L st : List Value) (M : zM) : Option zAct := match st with
  | .int x :: r => (match c with | .eq => zbr (x = 0) pc off L r M | .ne => zbr (x ≠ 0) pc off L r M | .lt => zbr (x < 0) pc off L r M | .ge => zbr (0 ≤ x) pc off L r M | .gt => zbr (0 < x) pc off L r M | .le => zbr (x ≤ 0) pc off L r M)
  | _ => none
def zif2 (c : Jvm.ClassFile.Cond) (pc : Nat) (off : Int) (L st : List Value) (M : zM) : Option zAct := match st with
  | .int y :: .int x :: r => (match c with | .eq => zbr (x = y) pc off L r M | .ne => zbr (x ≠ y) pc off L r M | .lt => zbr (x < y) pc off L r M | .ge => zbr (y ≤ x) pc off L r M | .gt => zbr (y < x) pc off L r M | .le => zbr (x ≤ y) pc off L r M)
  | _ => none
def zdup (pc : Nat) (L st : List Value) (M : zM) : Option zAct := match st with | v :: r => if v.category = 1 then zgo (pc + 1) L (v :: v :: r) M else none | _ => none
def zdup2 (pc : Nat) (L st : List Value) (M : zM) : Option zAct := match st with | v :: w :: r => if v.category = 1 ∧ w.category = 1 then zgo (pc + 1) L (v :: w :: v :: w :: r) M else none | _ => none
def ztab (d lo hi : Int) (offs : Array Int) (pc : Nat) (L st : List Value) (M : zM) : Option zAct := match st with
  | .int x :: r => if x.toInt < lo ∨ hi < x.toInt then zjmp pc d L r M else (match offs[(x.toInt - lo).toNat]? with | some off => zjmp pc off L r M | none => none)
  | _ => none
def zlook (d : Int) (ps : Array (Int × Int)) (pc : Nat) (L st : List Value) (M : zM) : Option zAct := match st with
  | .int x :: r => if (ps.toList.zip (ps.toList.drop 1)).all (fun (a, next) => a.1 < next.1) = true then zjmp pc (Op.lookupswitch.offset ps.toList d x.toInt) L r M else none
  | _ => none
def zfv (a k : Nat) (M : zM) : Value := match zf a k with | some b => .ref b | none => .int (M a k)
def zgetf (id i pc : Nat) (L st : List Value) (M : zM) : Option zAct := match st with
  | .ref a :: r => (match zfl (zcl id) i with | some (ci, k, _) => if a < zNC ∧ zk a = ci then zgo (pc + 3) L (zfv a k M :: r) M else none | none => none)
  | _ => none
def zfit (ty : FieldType) (x : Int32) : Prop := ty = .int ∨ (ty = .boolean ∧ (x = 0 ∨ x = 1))
def zputf (id i pc : Nat) (L st : List Value) (M : zM) : Option zAct := match st with
  | .int x :: .ref a :: r => (match zfl (zcl id) i with
    | some (ci, k, _) => if a < zNC ∧ zk a = ci ∧ zf a k = none ∧ ((zvT ci) k).2.2.2 = false ∧ (zty ci k = .int ∨ (zty ci k = .boolean ∧ (x = 0 ∨ x = 1))) then zgo (pc + 3) L r (zup M a k x) else none
    | none => none)
  | _ => none
def zin (i : Int32) (n : Nat) : Bool := !(decide (i < 0) || decide (n ≤ i.toNatClampNeg))
def zald (kd pc : Nat) (L st : List Value) (M : zM) : Option zAct := match st with
  | .int i :: .ref a :: r => if a < zNC ∧ zk a = kd ∧ zin i (zn a) = true then zgo (pc + 1) L (.int (M a i.toNatClampNeg) :: r) M else none
  | _ => none
def zast (kd pc : Nat) (ty : FieldType) (L st : List Value) (M : zM) : Option zAct := match st with
  | .int x :: .int i :: .ref a :: r => if a < zNC ∧ zk a = kd ∧ zin i (zn a) = true then zgo (pc + 1) L r (zup M a i.toNatClampNeg (vp_nar ty x)) else none
  | _ => none
def zaldq (pc : Nat) (L st : List Value) (M : zM) : Option zAct := match st with
  | .int i :: .ref a :: r => if a < zNC ∧ zk a = 9 ∧ zin i (zn a) = true then (match zf a i.toNatClampNeg with | some b => zgo (pc + 1) L (.ref b :: r) M | none => none) else none
  | _ => none
def zcs (r : List Value) : Nat := (r.map fun v => v.category).sum
def zexp (vs : List Value) : List Value := vs.flatMap fun v => if v.category = 2 then [v, .null] else [v]
def zent (n : Nat) (vs : List Value) : List Value := zexp vs ++ List.replicate (n - (zexp vs).length) .null
def zmax (id pc : Nat) (L st : List Value) (M : zM) : Option zAct := match st with
  | .int y :: .int x :: r => if 1 ≤ zfr id ∧ zcs r + 13 ≤ zlo id then zgo (pc + 3) L (.int (if x < y then y else x) :: r) M else none
  | _ => none
def zcpy (id pc : Nat) (L st : List Value) (M : zM) : Option zAct := match st with
  | .int n :: .int dp :: .ref b :: .int sp :: .ref a :: r => if (a < zNC ∧ zk a = 7 ∧ b < zNC ∧ zk b = 7) ∧ (¬ sp < 0 ∧ ¬ dp < 0 ∧ ¬ n < 0 ∧ sp.toNatClampNeg + n.toNatClampNeg ≤ zn a ∧ dp.toNatClampNeg + n.toNatClampNeg ≤ zn b) ∧ 1 ≤ zfr id ∧ zcs r + (nativeFrameWords "java/lang/System" "arraycopy" 5 + 11) ≤ zlo id
      then zgo (pc + 3) L r (zrow M b (va_cpy (M a) (M b) sp.toNatClampNeg dp.toNatClampNeg n.toNatClampNeg)) else none
  | _ => none
def zrcv (vs : List Value) (ci : Nat) : Bool := match vs with | .ref a :: _ => decide (a < zNC ∧ zk a = ci) | _ => false
def zcall (sta : Bool) (id j t : Nat) (L st : List Value) : Option zAct :=
  if j < zNM ∧ zst j = sta ∧ t ≤ st.length ∧ zcs (st.drop t) ≤ 8 ∧ zfr j + 1 ≤ zfr id ∧ 8 + (znl j + 11) + zlo j ≤ zlo id ∧ (zexp (st.take t).reverse).length ≤ znl j ∧ (sta = true ∨ zrcv (st.take t).reverse (zcl j) = true)
  then some (.inr (.inr (j, zent (znl j) (st.take t).reverse, L, st.drop t))) else none
def zinvS (id i pc : Nat) (L st : List Value) (M : zM) : Option zAct := match zml (zcl id) i with
  | some (j, _) => if j = 1000 then zmax id pc L st M else if j = 1001 then zcpy id pc L st M else zcall true id j (zpn j) L st
  | none => none
def zinvV (id i : Nat) (L st : List Value) : Option zAct := match zml (zcl id) i with
  | some (j, _) => zcall false id j (zpn j + 1) L st
  | none => none
def ziret (id : Nat) (st : List Value) : Option zAct := match st with
  | [.int v] => if zret id = some .int ∨ (zret id = some .boolean ∧ (v = 0 ∨ v = 1)) then some (.inr (.inl (zI v))) else none
  | _ => none
def zlret (id : Nat) (st : List Value) : Option zAct := match st with
  | [.long v] => if zret id = some .long then some (.inr (.inl (zJ v))) else none
  | _ => none
def zvret (id : Nat) (st : List Value) : Option zAct := match st with
  | [] => if zret id = none then some (.inr (.inl none)) else none
  | _ => none
def zins (i : Instr) (id pc : Nat) (L st : List Value) (M : zM) : Option zAct := match i with
  | .iadd => zI2 (fun x y => x + y) pc L st M
  | .isub => zI2 (fun x y => x - y) pc L st M
  | .imul => zI2 (fun x y => x * y) pc L st M
  | .iand => zI2 (fun x y => x &&& y) pc L st M
  | .ior => zI2 (fun x y => x ||| y) pc L st M
  | .ixor => zI2 (fun x y => x ^^^ y) pc L st M
  | .ishl => zI2 (fun x y => x <<< (y &&& 31)) pc L st M
  | .ishr => zI2 (fun x y => x >>> (y &&& 31)) pc L st M
  | .iushr => zI2 (fun x y => (x.toUInt32 >>> (y.toUInt32 &&& Int32.toUInt32 31)).toInt32) pc L st M
  | .idiv => zD2 (fun x y => x / y) pc L st M
  | .irem => zD2 (fun x y => x - x / y * y) pc L st M
  | .ladd => zJ2 (fun x y => x + y) pc L st M
  | .lsub => zJ2 (fun x y => x - y) pc L st M
  | .lmul => zJ2 (fun x y => x * y) pc L st M
  | .ldiv => zE2 (fun x y => x / y) pc L st M
  | .lrem => zE2 (fun x y => x - x / y * y) pc L st M
  | .lcmp => zlcmp pc L st M
  | .i2l => zi2l pc L st M
  | .i2b => zI1 (fun x => x.toInt8.toInt32) pc L st M
  | .i2s => zI1 (fun x => x.toInt16.toInt32) pc L st M
  | .iconst n => zgo (pc + 1) L (.int (Int32.ofInt n) :: st) M
  | .bipush n => zgo (pc + 2) L (.int (Int8.ofInt n).toInt32 :: st) M
  | .sipush n => zgo (pc + 3) L (.int (Int16.ofInt n).toInt32 :: st) M
  | .lconst n => zgo (pc + 1) L (.long (Int64.ofNat (n : Nat)) :: st) M
  | .ldc_w k => (match zki (zcl id) k with | some v => zgo (pc + 3) L (.int v :: st) M | none => none)
  | .ldc2_w k => (match zkj (zcl id) k with | some v => zgo (pc + 3) L (.long v :: st) M | none => none)
  | .iload_n k => zldI (k : Nat) (pc + 1) L st M
  | .iload k => zldI k (pc + 2) L st M
  | .lload_n k => zldL (k : Nat) (pc + 1) L st M
  | .lload k => zldL k (pc + 2) L st M
  | .aload_n k => zldA (k : Nat) (pc + 1) L st M
  | .aload k => zldA k (pc + 2) L st M
  | .istore_n k => zstI (k : Nat) (pc + 1) L st M
  | .istore k => zstI k (pc + 2) L st M
  | .lstore_n k => zstJ (k : Nat) (pc + 1) L st M
  | .lstore k => zstJ k (pc + 2) L st M
  | .astore_n k => zstA (k : Nat) (pc + 1) L st M
  | .astore k => zstA k (pc + 2) L st M
  | .iinc k n => zinc k n pc L st M
  | .dup => zdup pc L st M
  | .dup2 => zdup2 pc L st M
  | .goto off => zjmp pc off L st M
  | .ifCond c off => zif1 c pc off L st M
  | .if_icmp c off => zif2 c pc off L st M
  | .tableswitch d lo hi offs => ztab d lo hi offs pc L st M
  | .lookupswitch d ps => zlook d ps pc L st M
  | .getfield k => zgetf id k pc L st M
  | .putfield k => zputf id k pc L st M
  | .iaload => zald 7 pc L st M
  | .baload => zald 8 pc L st M
  | .iastore => zast 7 pc .int L st M
  | .bastore => zast 8 pc .boolean L st M
  | .aaload => zaldq pc L st M
  | .invokestatic k => zinvS id k pc L st M
  | .invokevirtual k => zinvV id k L st
  | .ireturn => ziret id st
  | .lreturn => zlret id st
  | .return_ => zvret id st
  | _ => none
def zact (id pc : Nat) (L st : List Value) (M : zM) : Option zAct := match zc id pc with
  | none => none
  | some i => zins i id pc L st M
def zpush (r : zR) (st : List Value) : List Value := match r with | none => st | some (.inl x) => .int x :: st | some (.inr x) => .long x :: st
def zx : Nat → Nat → Nat → List Value → List Value → zM → Option (zR × zM)
  | 0, _, _, _, _, _ => none
  | n + 1, id, pc, L, st, M => match zact id pc L st M with
    | none => none
    | some (.inl (pc', L', st', M')) => zx n id pc' L' st' M'
    | some (.inr (.inl r)) => some (r, M)
    | some (.inr (.inr (j, E, L', st'))) => match zx n j 0 E [] M with
      | none => none
      | some (r, M1) => zx n id (pc + 3) L' (zpush r st') M1
end
section
-- the fixed world as the kit's cells
def rv (q : Nat → Nat) : Value → Value
  | .ref c => .ref (q c)
  | v => v
theorem rv_cat (q : Nat → Nat) (v : Value) : (rv q v).category = v.category := by cases v <;> rfl
theorem rv_nn {q : Nat → Nat} {v : Value} (h : v ≠ .null) : rv q v ≠ .null := by cases v <;> simp_all [rv]
theorem rv_cs (q : Nat → Nat) (r : List Value) : ((r.map (rv q)).map fun v => v.category).sum = zcs r := by
  unfold zcs
  rw [List.map_map]
  congr 1
  apply List.map_congr_left
  intro v _
  exact rv_cat q v
section ZW
variable (q : Nat → Nat) (cI cZ cS : ClassId)
def zE (M : zM) (c : Nat) : va_E :=
  if zk c = 7 then .inl (cI, zn c, .inl (M c)) else if zk c = 8 then .inl (cZ, zn c, .inl (M c))
  else if zk c = 9 then .inl (cS, zn c, .inr (.inr (.inr (.inr (fun i => (zf c i).map q)))))
  else .inr (zk c, (List.range (zn c)).map fun k => rv q (zfv c k M))
def zW (M : zM) : va_W := (List.range zNC).map fun c => (q c, zE q cI cZ cS M c)
abbrev ztys : List (ClassId × FieldType) := [(cI, .int), (cZ, .boolean), (cS, .object RX2)]
theorem zW_at (M : zM) {c : Nat} (h : c < zNC) : (zW q cI cZ cS M)[c]? = some (q c, zE q cI cZ cS M c) := by
  simp [zW, h]
theorem zW_inv {M : zM} {i : Nat} {x : Nat × va_E} (h : (zW q cI cZ cS M)[i]? = some x) : i < zNC ∧ x = (q i, zE q cI cZ cS M i) := by
  have hi : i < zNC := by
    have := z_len h
    simpa [zW] using this
  rw [zW_at q cI cZ cS M hi] at h
  exact ⟨hi, (Option.some.inj h).symm⟩
theorem zE_congr {M M' : zM} {c : Nat} (h : M' c = M c) : zE q cI cZ cS M' c = zE q cI cZ cS M c := by
  unfold zE zfv
  rw [h]
theorem zW_set {M M' : zM} {c : Nat} {e : va_E} (h : ∀ a, a ≠ c → M' a = M a) (he : zE q cI cZ cS M' c = e) : (zW q cI cZ cS M).set c (q c, e) = zW q cI cZ cS M' := by
  apply List.ext_getElem?
  intro i
  by_cases hi : i < zNC
  · rw [zW_at q cI cZ cS M' hi, List.getElem?_set]
    by_cases e1 : c = i
    · subst e1
      rw [if_pos rfl, if_pos (by simp [zW]; exact hi), he]
    · rw [if_neg e1, zW_at q cI cZ cS M hi, zE_congr q cI cZ cS (h i (Ne.symm e1))]
  · rw [List.getElem?_eq_none (by simp [zW]; omega), List.getElem?_eq_none (by simp [zW]; omega)]
theorem zD_any {A : Nat → Prop} {M M' : zM} (h : va_D A (zW q cI cZ cS M)) : va_D A (zW q cI cZ cS M') := by
  refine ⟨fun i j x y hx hy he => ?_, fun k x hx => ?_⟩
  · obtain ⟨hi, rfl⟩ := zW_inv q cI cZ cS hx
    obtain ⟨hj, rfl⟩ := zW_inv q cI cZ cS hy
    exact h.1 i j _ _ (zW_at q cI cZ cS M hi) (zW_at q cI cZ cS M hj) he
  · obtain ⟨hk, rfl⟩ := zW_inv q cI cZ cS hx
    have := h.2 k _ (zW_at q cI cZ cS M hk)
    exact this
theorem zE_int {M : zM} {c : Nat} (h : zk c = 7) : zE q cI cZ cS M c = .inl (cI, zn c, .inl (M c)) := by simp [zE, h]
theorem zE_bool {M : zM} {c : Nat} (h : zk c = 8) : zE q cI cZ cS M c = .inl (cZ, zn c, .inl (M c)) := by simp [zE, h]
theorem zE_arr {M : zM} {c : Nat} (h : zk c = 9) : zE q cI cZ cS M c = .inl (cS, zn c, .inr (.inr (.inr (.inr (fun i => (zf c i).map q))))) := by simp [zE, h]
theorem zE_obj {M : zM} {c ci : Nat} (h : zk c = ci) (h7 : ci < 7) : zE q cI cZ cS M c = .inr (ci, (List.range (zn c)).map fun k => rv q (zfv c k M)) := by
  unfold zE
  rw [if_neg (by omega), if_neg (by omega), if_neg (by omega), h]
theorem zrow_self (M : zM) (c : Nat) (f : Nat → Int32) : zrow M c f c = f := if_pos rfl
theorem zrow_ne (M : zM) {c a : Nat} (f : Nat → Int32) (h : a ≠ c) : zrow M c f a = M a := if_neg h
end ZW
theorem zn_obj : ∀ c, c < zNC → zk c < 7 → zn c = zvN (zk c) := by decide +kernel
-- locals
def zH (q : Nat → Nat) (ls : Array Slot) (n : Nat) (L : List Value) : Prop := L.length = n ∧ lv_has ls n [] ∧ ∀ (i : Nat) (v : Value), L[i]? = some v → v ≠ .null → ls[i]? = some (.val (rv q v))
def zlv (q : Nat → Nat) (L : List Value) : List (Nat × Value) := (List.range L.length).filterMap fun i => match (L[i]? : Option Value) with
  | some Value.null => none
  | some v => some (i, rv q v)
  | none => none
theorem zlv_mem {q : Nat → Nat} {L : List Value} {i : Nat} {v : Value} (h : L[i]? = some v) (hn : v ≠ .null) : (i, rv q v) ∈ zlv q L := by
  refine List.mem_filterMap.mpr ⟨i, List.mem_range.mpr (z_len h), ?_⟩
  rw [h]
  cases v <;> first | rfl | exact absurd rfl hn
theorem zlv_inv {q : Nat → Nat} {L : List Value} {x : Nat × Value} (h : x ∈ zlv q L) : ∃ v, L[x.1]? = some v ∧ v ≠ .null ∧ x.2 = rv q v := by
  obtain ⟨i, -, hi⟩ := List.mem_filterMap.mp h
  revert hi
  split
  · intro hi; cases hi
  · rename_i v hne e
    intro hi
    cases hi
    exact ⟨v, e, fun h => hne h, rfl⟩
  · intro hi; cases hi
theorem zH_has {q : Nat → Nat} {ls : Array Slot} {n : Nat} {L : List Value} (h : zH q ls n L) : lv_has ls n (zlv q L) := by
  refine ⟨h.2.1.1, h.2.1.2.1, fun x hx => ?_⟩
  obtain ⟨v, h1, h2, h3⟩ := zlv_inv hx
  rw [h3]
  exact h.2.2 _ _ h1 h2
theorem zH_of {q : Nat → Nat} {ls : Array Slot} {n : Nat} {L : List Value} {lv : List (Nat × Value)} (h : lv_has ls n lv) (hL : L.length = n) (hm : ∀ (i : Nat) (v : Value), L[i]? = some v → v ≠ .null → (i, rv q v) ∈ lv) : zH q ls n L :=
  ⟨hL, ⟨h.1, h.2.1, fun _ h => nomatch h⟩, fun i v h1 h2 => h.2.2 _ (hm i v h1 h2)⟩
theorem zpre_of {L : List Value} {k i : Nat} {v : Value} (h : zpre L k = true) (hi : L[i]? = some v) (e : i + 1 = k) : (v.category == 2) = false := by
  subst e
  simp only [zpre, hi] at h
  simpa using h
theorem zH_set1 {q : Nat → Nat} {ls' : Array Slot} {n k : Nat} {L : List Value} {w : Value} {lv' : List (Nat × Value)} (hL : L.length = n) (hp : zpre L k = true) (hk : k < n)
    (h : lv_has ls' n lv') (e : (k, rv q w) :: (zlv q L).filter (fun x => !(x.1 == k) && !(x.1 + 1 == k && x.2.category == 2)) = lv') : zH q ls' n (L.set k w) := by
  refine zH_of h (by rw [List.length_set]; exact hL) fun i v hi hv => ?_
  rw [← e]
  rw [List.getElem?_set] at hi
  by_cases ei : k = i
  · subst ei
    rw [if_pos rfl, if_pos (by omega)] at hi
    cases hi
    exact List.mem_cons_self
  · rw [if_neg ei] at hi
    refine List.mem_cons_of_mem _ (List.mem_filter.mpr ⟨zlv_mem hi hv, ?_⟩)
    have h1 : (i == k) = false := by simp; exact fun h => ei h.symm
    simp only [h1, rv_cat]
    by_cases e2 : i + 1 = k
    · rw [zpre_of hp hi e2]; simp
    · have : (i + 1 == k) = false := by simp; exact e2
      simp [this]
theorem zH_set2 {q : Nat → Nat} {ls' : Array Slot} {n k : Nat} {L : List Value} {w : Value} {lv' : List (Nat × Value)} (hL : L.length = n) (hp : zpre L k = true) (hk : k + 1 < n)
    (h : lv_has ls' n lv') (e : (k, rv q w) :: (zlv q L).filter (fun x => !(x.1 == k) && (!(x.1 == k + 1) && !(x.1 + 1 == k && x.2.category == 2))) = lv') : zH q ls' n ((L.set k w).set (k + 1) .null) := by
  refine zH_of h (by rw [List.length_set, List.length_set]; exact hL) fun i v hi hv => ?_
  rw [← e]
  rw [List.getElem?_set] at hi
  by_cases e1 : k + 1 = i
  · subst e1
    rw [if_pos rfl, if_pos (by rw [List.length_set]; omega)] at hi
    cases hi
    exact absurd rfl hv
  rw [if_neg e1, List.getElem?_set] at hi
  by_cases ei : k = i
  · subst ei
    rw [if_pos rfl, if_pos (by omega)] at hi
    cases hi
    exact List.mem_cons_self
  · rw [if_neg ei] at hi
    refine List.mem_cons_of_mem _ (List.mem_filter.mpr ⟨zlv_mem hi hv, ?_⟩)
    have h1 : (i == k) = false := by simp; exact fun h => ei h.symm
    have h2 : (i == k + 1) = false := by simp; exact fun h => e1 h.symm
    simp only [h1, h2, rv_cat]
    by_cases e2 : i + 1 = k
    · rw [zpre_of hp hi e2]; simp
    · have : (i + 1 == k) = false := by simp; exact e2
      simp [this]
theorem zexp_sl (q : Nat → Nat) (vs : List Value) : (zexp vs).length = (lg_sl (vs.map (rv q))).length := by
  induction vs with
  | nil => rfl
  | cons v vs ih =>
    have e1 : zexp (v :: vs) = (if v.category = 2 then [v, .null] else [v]) ++ zexp vs := by simp [zexp]
    have e2 : lg_sl ((v :: vs).map (rv q)) = (if (rv q v).category = 2 then [.val (rv q v), .second] else [.val (rv q v)]) ++ lg_sl (vs.map (rv q)) := by simp [lg_sl]
    rw [e1, e2, List.length_append, List.length_append, ih, rv_cat]
    split <;> rfl
theorem zexp_args (q : Nat → Nat) : ∀ (vs : List Value) (d i : Nat) (v : Value), (zexp vs)[i]? = some v → v ≠ .null → (d + i, rv q v) ∈ lv_args d (vs.map (rv q)) := by
  intro vs
  induction vs with
  | nil => intro d i v h; simp [zexp] at h
  | cons w vs ih =>
    intro d i v h hn
    have e1 : zexp (w :: vs) = (if w.category = 2 then [w, .null] else [w]) ++ zexp vs := by simp [zexp]
    rw [e1] at h
    show _ ∈ (d, rv q w) :: lv_args (if (rv q w).category = 2 then d + 2 else d + 1) (vs.map (rv q))
    rw [rv_cat]
    by_cases hc : w.category = 2
    · rw [if_pos hc] at h ⊢
      match i, h with
      | 0, h => cases h; exact List.mem_cons_self
      | 1, h => cases h; exact absurd rfl hn
      | i + 2, h =>
        have := ih (d + 2) i v (by simpa using h) hn
        rw [show d + 2 + i = d + (i + 2) by omega] at this
        exact List.mem_cons_of_mem _ this
    · rw [if_neg hc] at h ⊢
      match i, h with
      | 0, h => cases h; exact List.mem_cons_self
      | i + 1, h =>
        have := ih (d + 1) i v (by simpa using h) hn
        rw [show d + 1 + i = d + (i + 1) by omega] at this
        exact List.mem_cons_of_mem _ this
theorem zH_entry {q : Nat → Nat} {vs : List Value} {n : Nat} (h : (zexp vs).length ≤ n) : zH q ((lg_sl (vs.map (rv q)) ++ List.replicate (n - (lg_sl (vs.map (rv q))).length) Slot.unset).toArray) n (zent n vs) := by
  refine zH_of (lv_entry (vs.map (rv q)) (n := n) (by rw [← zexp_sl]; exact h)) (by simp [zent]; omega) fun i v hi hv => ?_
  unfold zent at hi
  by_cases hl : i < (zexp vs).length
  · rw [List.getElem?_append_left hl] at hi
    have := zexp_args q vs 0 i v hi hv
    rw [Nat.zero_add] at this
    exact this
  · rw [List.getElem?_append_right (by omega), List.getElem?_replicate] at hi
    split at hi
    · cases hi; exact absurd rfl hv
    · cases hi
theorem zin_vp {i : Int32} {n : Nat} (h : zin i n = true) : vp_in i n := by
  unfold zin at h
  unfold vp_in
  simp only [Bool.not_eq_true', Bool.or_eq_false_iff, decide_eq_false_iff_not] at h
  exact fun h2 => h2.elim h.1 h.2
end
section
-- ONE SOUNDNESS THEOREM: what the interpreter answers, the machine does
def zws (k : Nat) : List Cond := .code (zy k) (zb k) (znl k) (zret k) :: zT
def zrm (k : Nat) : Room := { frames := zfr k, cells := 0, slots := 0, locals := zlo k }
def zrv (r : zR) : Option Value := match r with | none => none | some (.inl x) => some (.int x) | some (.inr x) => some (.long x)
def zCtx (cI cZ cS : ClassId) (D : va_G) (p : Program) (s : State) (m : MethodId) (args : Array Value) (meth : Method) (c : Code) (id : Nat) : Prop :=
  p.tables.exec = Jvm.exec ∧ c.code = zb id ∧ meth.sig.returnType = zret id ∧ (∀ w ∈ zws id, w.before args s = true) ∧ s.vm.findClass (zcn (zcl id)) = some m.cls ∧ c.maxLocals = znl id ∧ meth.locks = false ∧ (∀ w ∈ zNW, va_Nw w s) ∧ va_K D vwCl (ztys cI cZ cS) s
theorem zm_cpn : Cond.native arraycopyName ∈ zT := zT_of 561 (by decide +kernel) rfl
theorem zm_cps : Cond.static arraycopyName ∈ zT := zT_of 560 (by decide +kernel) rfl
theorem zm_sys : Cond.initialized "java/lang/System" ∈ zT := zT_of 82 (by decide +kernel) rfl
theorem zm_mxs : Cond.static Lib.Math.max.name ∈ zT := zT_of 378 (by decide +kernel) rfl
theorem zm_mat : Cond.initialized "java/lang/Math" ∈ zT := zT_of 81 (by decide +kernel) rfl
theorem zm_mxc : Cond.code Lib.Math.max.name Lib.Math.max.code 2 (some .int) ∈ zT := zT_of 379 (by decide +kernel) rfl
section ZS
variable {q : Nat → Nat} {cI cZ cS : ClassId} {D : va_G} {p : Program} {l : Launch} {e : Env} {s : State} {m : MethodId} {args : Array Value} {below : List Frame} {meth : Method} {c : Code} {id : Nat} {H : Heap} {locs : List Loc} {A : Nat → Prop} {Q : State → Prop} {R : Room}
theorem zI2_inv {f : Int32 → Int32 → Int32} {pc : Nat} {L st : List Value} {M : zM} {a : zAct} (h : zI2 f pc L st M = some a) : ∃ x y r, st = .int y :: .int x :: r ∧ a = .inl (pc + 1, L, .int (f x y) :: r, M) := by
  unfold zI2 at h
  split at h
  · cases h; exact ⟨_, _, _, rfl, rfl⟩
  · cases h
theorem zD2_inv {f : Int32 → Int32 → Int32} {pc : Nat} {L st : List Value} {M : zM} {a : zAct} (h : zD2 f pc L st M = some a) : ∃ x y r, st = .int y :: .int x :: r ∧ ¬ y = 0 ∧ a = .inl (pc + 1, L, .int (f x y) :: r, M) := by
  unfold zD2 at h
  split at h
  · split at h
    · cases h
    · rename_i h0; cases h; exact ⟨_, _, _, rfl, h0, rfl⟩
  · cases h
theorem zJ2_inv {f : Int64 → Int64 → Int64} {pc : Nat} {L st : List Value} {M : zM} {a : zAct} (h : zJ2 f pc L st M = some a) : ∃ x y r, st = .long y :: .long x :: r ∧ a = .inl (pc + 1, L, .long (f x y) :: r, M) := by
  unfold zJ2 at h
  split at h
  · cases h; exact ⟨_, _, _, rfl, rfl⟩
  · cases h
theorem zE2_inv {f : Int64 → Int64 → Int64} {pc : Nat} {L st : List Value} {M : zM} {a : zAct} (h : zE2 f pc L st M = some a) : ∃ x y r, st = .long y :: .long x :: r ∧ ¬ y = 0 ∧ a = .inl (pc + 1, L, .long (f x y) :: r, M) := by
  unfold zE2 at h
  split at h
  · split at h
    · cases h
    · rename_i h0; cases h; exact ⟨_, _, _, rfl, h0, rfl⟩
  · cases h
theorem zI1_inv {f : Int32 → Int32} {pc : Nat} {L st : List Value} {M : zM} {a : zAct} (h : zI1 f pc L st M = some a) : ∃ x r, st = .int x :: r ∧ a = .inl (pc + 1, L, .int (f x) :: r, M) := by
  unfold zI1 at h
  split at h
  · cases h; exact ⟨_, _, rfl, rfl⟩
  · cases h
theorem zbr_inv {C : Prop} [Decidable C] {pc : Nat} {off : Int} {L st : List Value} {M : zM} {a : zAct} (h : zbr C pc off L st M = some a) : (pc : Int) + off = (ztgt pc off : Int) ∧ a = .inl (if C then ztgt pc off else pc + 3, L, st, M) := by
  unfold zbr at h
  split at h
  · rename_i h0; cases h; exact ⟨by unfold ztgt; omega, rfl⟩
  · cases h
theorem zjmp_inv {pc : Nat} {off : Int} {L st : List Value} {M : zM} {a : zAct} (h : zjmp pc off L st M = some a) : (pc : Int) + off = (ztgt pc off : Int) ∧ a = .inl (ztgt pc off, L, st, M) := by
  unfold zjmp at h
  split at h
  · rename_i h0; cases h; exact ⟨by unfold ztgt; omega, rfl⟩
  · cases h
theorem zws_T {k : Nat} {w : Cond} (h : w ∈ zT) : w ∈ zws k := List.mem_cons_of_mem _ h
/-- one instruction that goes on in the same frame -/
theorem z_tail (hid : id < zNM) (C : zCtx cI cZ cS D p s m args meth c id) (hR : R = zrm id) {pc : Nat} {i : Instr} {len : Nat} {L st : List Value} {M : zM} {pc' : Nat} {L' st' : List Value} {M' : zM} {ls : Array Slot}
    (hd : decode (zb id) pc = .ok (i, len)) (hlen : zlen i = 0 ∨ len = zlen i) (h : zins i id pc L st M = some (.inl (pc', L', st', M')))
    (hl : zH q ls (znl id) L) (hP : va_P D vwCl (zW q cI cZ cS M) H) (hD : va_D A (zW q cI cZ cS M)) (hS : va_S A s.heap H locs)
    (k : ∀ (H1 : Heap) (locs1 : List Loc) (ls1 : Array Slot), zH q ls1 (znl id) L' → va_P D vwCl (zW q cI cZ cS M') H1 → va_D A (zW q cI cZ cS M') → va_S A s.heap H1 locs1 → W p l e R s m args below meth c H1 locs1 0 0 Q (F0 m pc' ls1 (st'.map (rv q)))) :
    W p l e R s m args below meth c H locs 0 0 Q (F0 m pc ls (st.map (rv q))) := by
  subst hR
  obtain ⟨hx, hb, hr, hts, hown, hml, hlocks, hN, hK⟩ := C
  have hT : ∀ w ∈ zT, w.before args s = true := fun w hw => hts w (zws_T hw)
  have hla := zH_has hl
  cases i with
  | iadd =>
    have hn : len = 1 := by simpa [zlen] using hlen
    subst hn
    obtain ⟨x, y, r, rfl, e2⟩ := zI2_inv h
    cases e2
    exact lv_iadd hx hb hd (k _ _ _ hl hP hD hS)
  | isub =>
    have hn : len = 1 := by simpa [zlen] using hlen
    subst hn
    obtain ⟨x, y, r, rfl, e2⟩ := zI2_inv h
    cases e2
    exact lv_isub hx hb hd (k _ _ _ hl hP hD hS)
  | imul =>
    have hn : len = 1 := by simpa [zlen] using hlen
    subst hn
    obtain ⟨x, y, r, rfl, e2⟩ := zI2_inv h
    cases e2
    exact lv_imul hx hb hd (k _ _ _ hl hP hD hS)
  | iand =>
    have hn : len = 1 := by simpa [zlen] using hlen
    subst hn
    obtain ⟨x, y, r, rfl, e2⟩ := zI2_inv h
    cases e2
    exact lv_iand hx hb hd (k _ _ _ hl hP hD hS)
  | ior =>
    have hn : len = 1 := by simpa [zlen] using hlen
    subst hn
    obtain ⟨x, y, r, rfl, e2⟩ := zI2_inv h
    cases e2
    exact lv_ior hx hb hd (k _ _ _ hl hP hD hS)
  | ixor =>
    have hn : len = 1 := by simpa [zlen] using hlen
    subst hn
    obtain ⟨x, y, r, rfl, e2⟩ := zI2_inv h
    cases e2
    exact lv_ixor hx hb hd (k _ _ _ hl hP hD hS)
  | ishl =>
    have hn : len = 1 := by simpa [zlen] using hlen
    subst hn
    obtain ⟨x, y, r, rfl, e2⟩ := zI2_inv h
    cases e2
    exact lv_ishl hx hb hd (k _ _ _ hl hP hD hS)
  | ishr =>
    have hn : len = 1 := by simpa [zlen] using hlen
    subst hn
    obtain ⟨x, y, r, rfl, e2⟩ := zI2_inv h
    cases e2
    exact lv_ishr hx hb hd (k _ _ _ hl hP hD hS)
  | iushr =>
    have hn : len = 1 := by simpa [zlen] using hlen
    subst hn
    obtain ⟨x, y, r, rfl, e2⟩ := zI2_inv h
    cases e2
    exact lv_iushr hx hb hd rfl (k _ _ _ hl hP hD hS)
  | idiv =>
    have hn : len = 1 := by simpa [zlen] using hlen
    subst hn
    obtain ⟨x, y, r, rfl, h0, e2⟩ := zD2_inv h
    cases e2
    exact lv_idiv hx hb hd h0 (k _ _ _ hl hP hD hS)
  | irem =>
    have hn : len = 1 := by simpa [zlen] using hlen
    subst hn
    obtain ⟨x, y, r, rfl, h0, e2⟩ := zD2_inv h
    cases e2
    exact lv_irem hx hb hd h0 (k _ _ _ hl hP hD hS)
  | ladd =>
    have hn : len = 1 := by simpa [zlen] using hlen
    subst hn
    obtain ⟨x, y, r, rfl, e2⟩ := zJ2_inv h
    cases e2
    exact lv_ladd hx hb hd (k _ _ _ hl hP hD hS)
  | lsub =>
    have hn : len = 1 := by simpa [zlen] using hlen
    subst hn
    obtain ⟨x, y, r, rfl, e2⟩ := zJ2_inv h
    cases e2
    exact lv_lsub hx hb hd (k _ _ _ hl hP hD hS)
  | lmul =>
    have hn : len = 1 := by simpa [zlen] using hlen
    subst hn
    obtain ⟨x, y, r, rfl, e2⟩ := zJ2_inv h
    cases e2
    exact lv_lmul hx hb hd (k _ _ _ hl hP hD hS)
  | ldiv =>
    have hn : len = 1 := by simpa [zlen] using hlen
    subst hn
    obtain ⟨x, y, r, rfl, h0, e2⟩ := zE2_inv h
    cases e2
    exact lv_ldiv hx hb hd h0 (k _ _ _ hl hP hD hS)
  | lrem =>
    have hn : len = 1 := by simpa [zlen] using hlen
    subst hn
    obtain ⟨x, y, r, rfl, h0, e2⟩ := zE2_inv h
    cases e2
    exact lv_lrem hx hb hd h0 (k _ _ _ hl hP hD hS)
  | lcmp =>
    have hn : len = 1 := by simpa [zlen] using hlen
    subst hn
    simp only [zins, zlcmp] at h
    split at h
    · cases h
      exact W.lcmp hx hb hd (k _ _ _ hl hP hD hS)
    · cases h
  | i2l =>
    have hn : len = 1 := by simpa [zlen] using hlen
    subst hn
    simp only [zins, zi2l] at h
    split at h
    · cases h
      exact lv_i2l hx hb hd rfl (k _ _ _ hl hP hD hS)
    · cases h
  | i2b =>
    have hn : len = 1 := by simpa [zlen] using hlen
    subst hn
    obtain ⟨x, r, rfl, e2⟩ := zI1_inv h
    cases e2
    exact lv_i2b hx hb hd rfl (k _ _ _ hl hP hD hS)
  | i2s =>
    have hn : len = 1 := by simpa [zlen] using hlen
    subst hn
    obtain ⟨x, r, rfl, e2⟩ := zI1_inv h
    cases e2
    exact lv_i2s hx hb hd rfl (k _ _ _ hl hP hD hS)
  | iconst n =>
    have hn : len = 1 := by simpa [zlen] using hlen
    subst hn
    cases h
    exact lv_iconst hx hb hd rfl (k _ _ _ hl hP hD hS)
  | bipush n =>
    have hn : len = 2 := by simpa [zlen] using hlen
    subst hn
    cases h
    exact lv_bipush hx hb hd rfl (k _ _ _ hl hP hD hS)
  | sipush n =>
    have hn : len = 3 := by simpa [zlen] using hlen
    subst hn
    cases h
    exact lv_sipush hx hb hd rfl (k _ _ _ hl hP hD hS)
  | lconst n =>
    have hn : len = 1 := by simpa [zlen] using hlen
    subst hn
    cases h
    exact lv_lconst hx hb hd rfl (k _ _ _ hl hP hD hS)
  | ldc_w n =>
    have hn : len = 3 := by simpa [zlen] using hlen
    subst hn
    simp only [zins] at h
    split at h
    · rename_i v hv
      cases h
      exact lv_ldcw hx hb hown (hT _ (zm_ki hv)) hd (k _ _ _ hl hP hD hS)
    · cases h
  | ldc2_w n =>
    have hn : len = 3 := by simpa [zlen] using hlen
    subst hn
    simp only [zins] at h
    split at h
    · rename_i v hv
      cases h
      exact lv_ldc2 hx hb hown (hT _ (zm_kj hv)) hd (k _ _ _ hl hP hD hS)
    · cases h
  | iload_n n =>
    have hn : len = 1 := by simpa [zlen] using hlen
    subst hn
    simp only [zins, zldI] at h
    split at h
    · rename_i x hv
      cases h
      exact lv_iload_n hx hb hd rfl (hl.2.2 _ _ hv (by simp)) (k _ _ _ hl hP hD hS)
    · cases h
  | iload n =>
    have hn : len = 2 := by simpa [zlen] using hlen
    subst hn
    simp only [zins, zldI] at h
    split at h
    · rename_i x hv
      cases h
      exact lv_iload hx hb hd (hl.2.2 _ _ hv (by simp)) (k _ _ _ hl hP hD hS)
    · cases h
  | lload_n n =>
    have hn : len = 1 := by simpa [zlen] using hlen
    subst hn
    simp only [zins, zldL] at h
    split at h
    · rename_i x hv
      cases h
      exact lv_lload_n hx hb hd rfl (hl.2.2 _ _ hv (by simp)) (k _ _ _ hl hP hD hS)
    · cases h
  | lload n =>
    have hn : len = 2 := by simpa [zlen] using hlen
    subst hn
    simp only [zins, zldL] at h
    split at h
    · rename_i x hv
      cases h
      exact lv_lload hx hb hd (hl.2.2 _ _ hv (by simp)) (k _ _ _ hl hP hD hS)
    · cases h
  | aload_n n =>
    have hn : len = 1 := by simpa [zlen] using hlen
    subst hn
    simp only [zins, zldA] at h
    split at h
    · rename_i x hv
      cases h
      exact lv_aload_n hx hb hd rfl (hl.2.2 _ _ hv (by simp)) (k _ _ _ hl hP hD hS)
    · cases h
  | aload n =>
    have hn : len = 2 := by simpa [zlen] using hlen
    subst hn
    simp only [zins, zldA] at h
    split at h
    · rename_i x hv
      cases h
      exact lv_aload hx hb hd (hl.2.2 _ _ hv (by simp)) (k _ _ _ hl hP hD hS)
    · cases h
  | istore_n n =>
    have hn : len = 1 := by simpa [zlen] using hlen
    subst hn
    simp only [zins, zstI] at h
    split at h
    · split at h
      · rename_i h0
        cases h
        exact lv_istore_n hx hb hd rfl hla (by rw [← hl.1]; exact h0.1) rfl (fun ls1 hl1 => k _ _ _ (zH_set1 hl.1 h0.2 (by rw [← hl.1]; exact h0.1) hl1 rfl) hP hD hS)
      · cases h
    · cases h
  | istore n =>
    have hn : len = 2 := by simpa [zlen] using hlen
    subst hn
    simp only [zins, zstI] at h
    split at h
    · split at h
      · rename_i h0
        cases h
        exact lv_istore hx hb hd hla (by rw [← hl.1]; exact h0.1) rfl (fun ls1 hl1 => k _ _ _ (zH_set1 hl.1 h0.2 (by rw [← hl.1]; exact h0.1) hl1 rfl) hP hD hS)
      · cases h
    · cases h
  | astore_n n =>
    have hn : len = 1 := by simpa [zlen] using hlen
    subst hn
    simp only [zins, zstA] at h
    split at h
    · split at h
      · rename_i h0
        cases h
        exact lv_astore_n hx hb hd rfl hla (by rw [← hl.1]; exact h0.1) rfl (fun ls1 hl1 => k _ _ _ (zH_set1 hl.1 h0.2 (by rw [← hl.1]; exact h0.1) hl1 rfl) hP hD hS)
      · cases h
    · cases h
  | astore n =>
    have hn : len = 2 := by simpa [zlen] using hlen
    subst hn
    simp only [zins, zstA] at h
    split at h
    · split at h
      · rename_i h0
        cases h
        exact lv_astore hx hb hd hla (by rw [← hl.1]; exact h0.1) rfl (fun ls1 hl1 => k _ _ _ (zH_set1 hl.1 h0.2 (by rw [← hl.1]; exact h0.1) hl1 rfl) hP hD hS)
      · cases h
    · cases h
  | lstore_n n =>
    have hn : len = 1 := by simpa [zlen] using hlen
    subst hn
    simp only [zins, zstJ] at h
    split at h
    · split at h
      · rename_i h0
        cases h
        exact lv_lstore_n hx hb hd rfl hla (by rw [← hl.1]; exact h0.1) rfl (fun ls1 hl1 => k _ _ _ (zH_set2 hl.1 h0.2 (by rw [← hl.1]; exact h0.1) hl1 rfl) hP hD hS)
      · cases h
    · cases h
  | lstore n =>
    have hn : len = 2 := by simpa [zlen] using hlen
    subst hn
    simp only [zins, zstJ] at h
    split at h
    · split at h
      · rename_i h0
        cases h
        exact lv_lstore hx hb hd hla (by rw [← hl.1]; exact h0.1) rfl (fun ls1 hl1 => k _ _ _ (zH_set2 hl.1 h0.2 (by rw [← hl.1]; exact h0.1) hl1 rfl) hP hD hS)
      · cases h
    · cases h
  | iinc n d =>
    have hn : len = 3 := by simpa [zlen] using hlen
    subst hn
    simp only [zins, zinc] at h
    split at h
    · rename_i x hv
      split at h
      · rename_i h0
        cases h
        obtain ⟨j, hj⟩ := List.getElem?_of_mem (zlv_mem (q := q) hv (by simp))
        have hlt : n < znl id := by rw [← hl.1]; exact z_len hv
        exact lv_iinc (v := x + Int32.ofInt d) hx hb hd hla hj rfl hlt rfl (fun ls1 hl1 => k _ _ _ (zH_set1 (w := .int (x + Int32.ofInt d)) hl.1 h0 hlt hl1 rfl) hP hD hS)
      · cases h
    · cases h
  | dup =>
    have hn : len = 1 := by simpa [zlen] using hlen
    subst hn
    simp only [zins, zdup] at h
    split at h
    · split at h
      · rename_i h0
        cases h
        exact lv_dup hx hb hd (by rw [rv_cat]; exact h0) (k _ _ _ hl hP hD hS)
      · cases h
    · cases h
  | dup2 =>
    have hn : len = 1 := by simpa [zlen] using hlen
    subst hn
    simp only [zins, zdup2] at h
    split at h
    · split at h
      · rename_i h0
        cases h
        exact lv_dup2_11 hx hb hd (by rw [rv_cat]; exact h0.1) (by rw [rv_cat]; exact h0.2) (k _ _ _ hl hP hD hS)
      · cases h
    · cases h
  | goto off =>
    have hn : len = 3 := by simpa [zlen] using hlen
    subst hn
    obtain ⟨h1, e2⟩ := zjmp_inv h
    cases e2
    exact lv_goto hx hb hd h1 (k _ _ _ hl hP hD hS)
  | ifCond cn off =>
    have hn : len = 3 := by simpa [zlen] using hlen
    subst hn
    simp only [zins, zif1] at h
    split at h
    · cases cn <;> (obtain ⟨h1, e2⟩ := zbr_inv h; cases e2)
      · exact lv_if_eq hx hb hd h1 (fun hc => by rw [if_pos hc] at k; exact k _ _ _ hl hP hD hS) (fun hc => by rw [if_neg hc] at k; exact k _ _ _ hl hP hD hS)
      · exact lv_if_ne hx hb hd h1 (fun hc => by rw [if_pos hc] at k; exact k _ _ _ hl hP hD hS) (fun hc => by rw [if_neg (fun h => h hc)] at k; exact k _ _ _ hl hP hD hS)
      · exact lv_if_lt hx hb hd h1 (fun hc => by rw [if_pos hc] at k; exact k _ _ _ hl hP hD hS) (fun hc => by rw [if_neg hc] at k; exact k _ _ _ hl hP hD hS)
      · exact lv_if_ge hx hb hd h1 (fun hc => by rw [if_pos hc] at k; exact k _ _ _ hl hP hD hS) (fun hc => by rw [if_neg hc] at k; exact k _ _ _ hl hP hD hS)
      · exact lv_if_gt hx hb hd h1 (fun hc => by rw [if_pos hc] at k; exact k _ _ _ hl hP hD hS) (fun hc => by rw [if_neg hc] at k; exact k _ _ _ hl hP hD hS)
      · exact lv_if_le hx hb hd h1 (fun hc => by rw [if_pos hc] at k; exact k _ _ _ hl hP hD hS) (fun hc => by rw [if_neg hc] at k; exact k _ _ _ hl hP hD hS)
    · cases h
  | if_icmp cn off =>
    have hn : len = 3 := by simpa [zlen] using hlen
    subst hn
    simp only [zins, zif2] at h
    split at h
    · cases cn <;> (obtain ⟨h1, e2⟩ := zbr_inv h; cases e2)
      · exact lv_icmp_eq hx hb hd h1 (fun hc => by rw [if_pos hc] at k; exact k _ _ _ hl hP hD hS) (fun hc => by rw [if_neg hc] at k; exact k _ _ _ hl hP hD hS)
      · exact lv_icmp_ne hx hb hd h1 (fun hc => by rw [if_pos hc] at k; exact k _ _ _ hl hP hD hS) (fun hc => by rw [if_neg (fun h => h hc)] at k; exact k _ _ _ hl hP hD hS)
      · exact lv_icmp_lt hx hb hd h1 (fun hc => by rw [if_pos hc] at k; exact k _ _ _ hl hP hD hS) (fun hc => by rw [if_neg hc] at k; exact k _ _ _ hl hP hD hS)
      · exact lv_icmp_ge hx hb hd h1 (fun hc => by rw [if_pos hc] at k; exact k _ _ _ hl hP hD hS) (fun hc => by rw [if_neg hc] at k; exact k _ _ _ hl hP hD hS)
      · exact lv_icmp_gt hx hb hd h1 (fun hc => by rw [if_pos hc] at k; exact k _ _ _ hl hP hD hS) (fun hc => by rw [if_neg hc] at k; exact k _ _ _ hl hP hD hS)
      · exact lv_icmp_le hx hb hd h1 (fun hc => by rw [if_pos hc] at k; exact k _ _ _ hl hP hD hS) (fun hc => by rw [if_neg hc] at k; exact k _ _ _ hl hP hD hS)
    · cases h
  | tableswitch d lo hi offs =>
    simp only [zins, ztab] at h
    split at h
    · split at h
      · rename_i h0
        obtain ⟨h1, e2⟩ := zjmp_inv h
        cases e2
        exact lv_tableOut hx hb hd h0 h1 (k _ _ _ hl hP hD hS)
      · rename_i h0
        split at h
        · rename_i off ho
          obtain ⟨h1, e2⟩ := zjmp_inv h
          cases e2
          exact lv_tableIn hx hb hd (fun h => h0 (Or.inl h)) (fun h => h0 (Or.inr h)) ho h1 (k _ _ _ hl hP hD hS)
        · cases h
    · cases h
  | lookupswitch d ps =>
    simp only [zins, zlook] at h
    split at h
    · split at h
      · rename_i h0
        obtain ⟨h1, e2⟩ := zjmp_inv h
        cases e2
        exact lv_lookup hx hb hd h0 rfl h1 (k _ _ _ hl hP hD hS)
      · cases h
    · cases h
  | getfield n =>
    have hn : len = 3 := by simpa [zlen] using hlen
    subst hn
    simp only [zins, zgetf] at h
    split at h
    · rename_i a r
      split at h
      · rename_i ci kk nest hf
        split at h
        · rename_i h0
          cases h
          obtain ⟨hw, h7, hk, hcl⟩ := zm_fl hf
          dsimp only at hw h7 hk hcl
          have hN2 : zn a = zvN ci := by rw [zn_obj a h0.1 (by omega), h0.2]
          have he := zW_at q cI cZ cS M h0.1
          rw [zE_obj q cI cZ cS h0.2 h7] at he
          have hv : ((List.range (zn a)).map fun k => rv q (zfv a k M))[kk]? = some (rv q (zfv a kk M)) := by simp [hN2, hk]
          by_cases hnest : nest = true
          · have hlk : zfw ((zcl id, n), (ci, kk, nest)) ∈ zNW := List.mem_filter.mpr ⟨hw, by simp [zfw, hnest, zNest]⟩
            simp only [zfw, hnest, if_true] at hlk
            exact va_getN hx hb hT (zm_ly h7) hown hK hP a he (zm_vw h7) kk hk (va_Nw.use rfl (hN _ hlk)) (fun x hx => by rw [hcl] at hx; exact hx) hv hd (k _ _ _ hl hP hD hS)
          · have hlk : zfw ((zcl id, n), (ci, kk, nest)) ∈ zT := List.mem_filter.mpr ⟨hw, by simp only [zfw, hnest]; rfl⟩
            simp only [zfw, hnest] at hlk
            exact va_get hx hb hT (zm_ly h7) hown hK hP a he (zm_vw h7) kk hk (hT _ hlk) (fun x hx => by rw [hcl] at hx; exact hx) hv hd (k _ _ _ hl hP hD hS)
        · cases h
      · cases h
    · cases h
  | putfield n =>
    have hn : len = 3 := by simpa [zlen] using hlen
    subst hn
    simp only [zins, zputf] at h
    split at h
    · rename_i x a r
      split at h
      · rename_i ci kk nest hf
        split at h
        · rename_i h0
          cases h
          obtain ⟨hw, h7, hk, hcl⟩ := zm_fl hf
          dsimp only at hw h7 hk hcl
          obtain ⟨ha, hka, hfn, hfin, hty⟩ := h0
          have hN2 : zn a = zvN ci := by rw [zn_obj a ha (by omega), hka]
          have he := zW_at q cI cZ cS M ha
          rw [zE_obj q cI cZ cS hka h7] at he
          have hnar : narrow (zty ci kk) (.int x) = .int x ∧ fits (zty ci kk) (.int x) = true := by
            rcases hty with h1 | ⟨h1, h2 | h2⟩
            · rw [h1]; exact ⟨rfl, rfl⟩
            · rw [h1, h2]; exact ⟨rfl, rfl⟩
            · rw [h1, h2]; exact ⟨rfl, rfl⟩
          have hset : ((List.range (zn a)).map fun k => rv q (zfv a k M)).set kk (.int x) = (List.range (zn a)).map fun k => rv q (zfv a k (zup M a kk x)) := by
            apply List.ext_getElem?
            intro i
            rw [List.getElem?_set]
            by_cases hi : i < zn a
            · by_cases e1 : kk = i
              · subst e1
                simp [hi, zfv, hfn, zup, zrow, upd, rv]
              · rw [if_neg e1]
                have e2 : zfv a i (zup M a kk x) = zfv a i M := by
                  unfold zfv
                  split
                  · rfl
                  · simp [zup, zrow, upd, Ne.symm e1]
                simp [hi, e2]
            · rw [if_neg (by omega), List.getElem?_eq_none (by simp; omega), List.getElem?_eq_none (by simp; omega)]
          have hgo : ∀ (H1 : Heap) (locs1 : List Loc), va_P D vwCl ((zW q cI cZ cS M).set a (q a, .inr (ci, ((List.range (zn a)).map fun k => rv q (zfv a k M)).set kk (.int x)))) H1 → va_D A ((zW q cI cZ cS M).set a (q a, .inr (ci, ((List.range (zn a)).map fun k => rv q (zfv a k M)).set kk (.int x)))) → va_S A s.heap H1 locs1 → W p l e (zrm id) s m args below meth c H1 locs1 0 0 Q (F0 m (pc + 3) ls (st'.map (rv q))) := by
            intro H1 locs1 hP1 hD1 hS1
            have hw2 : (zW q cI cZ cS M).set a (q a, .inr (ci, ((List.range (zn a)).map fun k => rv q (zfv a k M)).set kk (.int x))) = zW q cI cZ cS (zup M a kk x) := zW_set q cI cZ cS (fun b hb => zrow_ne M _ hb) (by rw [zE_obj q cI cZ cS hka h7, hset])
            rw [hw2] at hP1 hD1
            exact k _ _ _ hl hP1 hD1 hS1
          by_cases hnest : nest = true
          · have hlk : zfw ((zcl id, n), (ci, kk, nest)) ∈ zNW := List.mem_filter.mpr ⟨hw, by simp [zfw, hnest, zNest]⟩
            simp only [zfw, hnest, if_true] at hlk
            exact va_putN hx hb hT (zm_ly h7) (zty ci) (fun k hk => zm_ty h7 hk) (zm_nm h7) hown hK hP hD hS a he (zm_vw h7) kk hk (va_Nw.use rfl (hN _ hlk)) (fun x hx => by rw [hcl] at hx; exact hx) hfin (zm_ty h7 hk) hnar.1 hnar.2 (by simp [hN2, hk]) hd hgo
          · have hlk : zfw ((zcl id, n), (ci, kk, nest)) ∈ zT := List.mem_filter.mpr ⟨hw, by simp only [zfw, hnest]; rfl⟩
            simp only [zfw, hnest] at hlk
            exact va_put hx hb hT (zm_ly h7) (zty ci) (fun k hk => zm_ty h7 hk) (zm_nm h7) hown hK hP hD hS a he (zm_vw h7) kk hk (hT _ hlk) (fun x hx => by rw [hcl] at hx; exact hx) hfin (zm_ty h7 hk) hnar.1 hnar.2 (by simp [hN2, hk]) hd hgo
        · cases h
      · cases h
    · cases h
  | iaload =>
    have hn : len = 1 := by simpa [zlen] using hlen
    subst hn
    simp only [zins, zald] at h
    split at h
    · split at h
      · rename_i a r h0
        cases h
        have he := zW_at q cI cZ cS M h0.1
        rw [zE_int q cI cZ cS h0.2.1] at he
        exact va_iald hx hb hK hP _ 0 he rfl (zin_vp h0.2.2) hd (k _ _ _ hl hP hD hS)
      · cases h
    · cases h
  | baload =>
    have hn : len = 1 := by simpa [zlen] using hlen
    subst hn
    simp only [zins, zald] at h
    split at h
    · split at h
      · rename_i a r h0
        cases h
        have he := zW_at q cI cZ cS M h0.1
        rw [zE_bool q cI cZ cS h0.2.1] at he
        exact va_zald hx hb hK hP _ 1 he rfl (zin_vp h0.2.2) hd (k _ _ _ hl hP hD hS)
      · cases h
    · cases h
  | iastore =>
    have hn : len = 1 := by simpa [zlen] using hlen
    subst hn
    simp only [zins, zast] at h
    split at h
    · split at h
      · rename_i x i a r h0
        cases h
        have he := zW_at q cI cZ cS M h0.1
        rw [zE_int q cI cZ cS h0.2.1] at he
        refine va_iast hx hb hK hP hD hS _ 0 he rfl (zin_vp h0.2.2) hd (fun H1 locs1 hP1 hD1 hS1 => ?_)
        have hw2 := zW_set q cI cZ cS (M := M) (M' := zup M a i.toNatClampNeg x) (c := a) (e := .inl (cI, zn a, .inl (upd (M a) i.toNatClampNeg x))) (fun b hb => zrow_ne M _ hb) (by rw [zE_int q cI cZ cS h0.2.1]; unfold zup; rw [zrow_self])
        rw [hw2] at hP1 hD1
        exact k _ _ _ hl hP1 hD1 hS1
      · cases h
    · cases h
  | bastore =>
    have hn : len = 1 := by simpa [zlen] using hlen
    subst hn
    simp only [zins, zast] at h
    split at h
    · split at h
      · rename_i x i a r h0
        cases h
        have he := zW_at q cI cZ cS M h0.1
        rw [zE_bool q cI cZ cS h0.2.1] at he
        refine va_zast hx hb hK hP hD hS _ 1 he rfl (zin_vp h0.2.2) hd (fun H1 locs1 hP1 hD1 hS1 => ?_)
        have hw2 := zW_set q cI cZ cS (M := M) (M' := zup M a i.toNatClampNeg (vp_nar .boolean x)) (c := a) (e := .inl (cZ, zn a, .inl (upd (M a) i.toNatClampNeg (vp_nar .boolean x)))) (fun b hb => zrow_ne M _ hb) (by rw [zE_bool q cI cZ cS h0.2.1]; unfold zup; rw [zrow_self])
        rw [hw2] at hP1 hD1
        exact k _ _ _ hl hP1 hD1 hS1
      · cases h
    · cases h
  | aaload =>
    have hn : len = 1 := by simpa [zlen] using hlen
    subst hn
    simp only [zins, zaldq] at h
    split at h
    · rename_i i a r
      split at h
      · rename_i h0
        split at h
        · rename_i b hb2
          cases h
          have he := zW_at q cI cZ cS M h0.1
          rw [zE_arr q cI cZ cS h0.2.1] at he
          refine va_aldq hx hb hK hP _ 2 he rfl (zin_vp h0.2.2) hd ?_
          rw [hb2]
          exact k _ _ _ hl hP hD hS
        · cases h
      · cases h
    · cases h
  | invokestatic n =>
    have hn : len = 3 := by simpa [zlen] using hlen
    subst hn
    simp only [zins, zinvS] at h
    split at h
    · rename_i j nest hf
      obtain ⟨hw, -⟩ := zm_ml hf
      split at h
      · rename_i hj
        have hlk : zlw ((zcl id, n), (j, nest)) ∈ zT := List.mem_filter.mpr ⟨hw, by simp only [zlw, hj]; rfl⟩
        simp only [zlw, hj, if_true] at hlk
        simp only [zmax] at h
        split at h
        · split at h
          · rename_i h0
            cases h
            refine va_mmax hx hb (hml.trans hla.1.symm) hown (hT _ hlk) (hT _ zm_mxs) (hT _ zm_mat) (hT _ zm_mxc) h0.1 (by rw [rv_cs]; exact h0.2) (Nat.zero_le _) (Nat.zero_le _) hd (k _ _ _ hl hP hD hS)
          · cases h
        · cases h
      · rename_i hj
        split at h
        · rename_i hj2
          have hlk : zlw ((zcl id, n), (j, nest)) ∈ zT := List.mem_filter.mpr ⟨hw, by simp only [zlw, hj2]; rfl⟩
          simp only [zlw, hj2] at hlk
          simp only [zcpy] at h
          split at h
          · split at h
            · rename_i nn dp b sp a r h0
              cases h
              obtain ⟨⟨ha, hka, hbb, hkb⟩, ⟨g1, g2, g3, g4, g5⟩, g6, g7⟩ := h0
              have he0 := zW_at q cI cZ cS M ha
              rw [zE_int q cI cZ cS hka] at he0
              have he1 := zW_at q cI cZ cS M hbb
              rw [zE_int q cI cZ cS hkb] at he1
              refine va_copyi hx hb (hml.trans hla.1.symm) hown (hT _ hlk) (hT _ zm_cpn) (hT _ zm_cps) (hT _ zm_sys) hK hP hD hS a b 0 0 he0 he1 rfl rfl rfl g1 g2 g3 g4 g5 (fun _ _ => rfl) g6 (by rw [rv_cs]; exact g7) hd (fun H1 locs1 hP1 hD1 hS1 => ?_)
              have hw2 := zW_set q cI cZ cS (M := M) (M' := zrow M b (va_cpy (M a) (M b) sp.toNatClampNeg dp.toNatClampNeg nn.toNatClampNeg)) (c := b) (e := .inl (cI, zn b, .inl (va_cpy (M a) (M b) sp.toNatClampNeg dp.toNatClampNeg nn.toNatClampNeg))) (fun b hb => zrow_ne M _ hb) (by rw [zE_int q cI cZ cS hkb, zrow_self])
              rw [hw2] at hP1 hD1
              exact k _ _ _ hl hP1 hD1 hS1
            · cases h
          · cases h
        · unfold zcall at h
          split at h
          · cases h
          · cases h
    · cases h
  | invokevirtual n =>
    simp only [zins, zinvV] at h
    split at h
    · unfold zcall at h
      split at h
      · cases h
      · cases h
    · cases h
  | ireturn =>
    simp only [zins, ziret] at h
    split at h
    · split at h
      · cases h
      · cases h
    · cases h
  | lreturn =>
    simp only [zins, zlret] at h
    split at h
    · split at h
      · cases h
      · cases h
    · cases h
  | return_ =>
    simp only [zins, zvret] at h
    split at h
    · split at h
      · cases h
      · cases h
    · cases h
  | _ => cases h
end ZS
end
section
theorem zq_noint : (List.range zNM).all (fun k => decide (zcl k = 7 → zst k = true)) = true := by decide +kernel
theorem z_noint (k : Nat) (hk : k < zNM) (h : zcl k = 7) : zst k = true := (of_decide_eq_true (z_range zq_noint hk)) h
section ZS
variable {q : Nat → Nat} {cI cZ cS : ClassId} {D : va_G} {l : Launch}
def zQc (q : Nat → Nat) (cI cZ cS : ClassId) (D : va_G) (r : zR) (M : zM) (A : Nat → Prop) : Array Value → State → Outcome → State → Prop := match r with
  | none => va_Qv (fun (_ : Unit) => True) (fun _ t => va_P D vwCl (zW q cI cZ cS M) t.heap) A
  | some (.inl x) => va_Qi (fun r' (_ : Unit) => r' = x) (fun _ t => va_P D vwCl (zW q cI cZ cS M) t.heap) A
  | some (.inr x) => va_Ql (fun r' (_ : Unit) => r' = x) (fun _ t => va_P D vwCl (zW q cI cZ cS M) t.heap) A
def zPre (q : Nat → Nat) (cI cZ cS : ClassId) (D : va_G) (M : zM) (sz : Nat) (U : State) : Prop :=
  U.heap.size = sz ∧ va_P D vwCl (zW q cI cZ cS M) U.heap ∧ va_K D vwCl (ztys cI cZ cS) U ∧ va_D (fun _ => True) (zW q cI cZ cS M) ∧ ∀ w ∈ zNW, va_Nw w U
def zSnd (q : Nat → Nat) (cI cZ cS : ClassId) (D : va_G) (l : Launch) (n : Nat) : Prop :=
  ∀ {p : Program} {e : Env} {s : State} {m : MethodId} {args : Array Value} {below : List Frame} {meth : Method} {c : Code} {A : Nat → Prop} (id : Nat), id < zNM → zCtx cI cZ cS D p s m args meth c id → (∀ a : Nat, s.heap.size ≤ a → A a) →
    ∀ (pc : Nat) (L st : List Value) (M : zM) (r : zR) (M' : zM) (H : Heap) (locs : List Loc) (ls : Array Slot), zx n id pc L st M = some (r, M') → zH q ls (znl id) L → va_P D vwCl (zW q cI cZ cS M) H → va_D A (zW q cI cZ cS M) → va_S A s.heap H locs →
      W p l e (zrm id) s m args below meth c H locs 0 0 (MQ below (zQc q cI cZ cS D r M' A) args s 0 0 A) (F0 m pc ls (st.map (rv q)))
theorem zNest_on {w : Cond} (h : zNest w = true) : w.onTables = true := by
  cases w <;> first | rfl | (exact absurd h (by simp [zNest]))
theorem zNW_on {w : Cond} (h : w ∈ zNW) : w.onTables = true := zNest_on (List.mem_filter.mp h).2
theorem zNW_warm {w : Cond} (h : w ∈ zNW) {s U : State} (hW : s.WarmedH U.vm) (hZ : va_Nw w s) : va_Nw w U := by
  have h2 := (List.mem_filter.mp h).2
  cases w <;> first | exact va_Nw.warmM hW hZ | exact va_Nw.warmF hW hZ | (exact absurd h2 (by simp [zNest]))
theorem zPre_blind {As : List Value} {M : zM} {sz : Nat} : FrameBlind (va_Pc As (zPre q cI cZ cS D M sz)) := by
  intro a U g mk h
  obtain ⟨h0, h1, h2, h3, h4, h5⟩ := h
  exact ⟨h0, h1, h2, va_K.moved (u := U) (U := U.calling g mk a) (Vm.Alike.refl U.vm) h3, h4, fun w hw => va_Nw.same (zNW_on hw) (rfl : U.vm = (U.calling g mk a).vm) (h5 w hw)⟩
theorem zPre_go {s : State} {H : Heap} {M : zM} {A : Nat → Prop} (hK : va_K D vwCl (ztys cI cZ cS) s) (hN : ∀ w ∈ zNW, va_Nw w s) (hP : va_P D vwCl (zW q cI cZ cS M) H) (hD : va_D A (zW q cI cZ cS M)) {As : List Value} : ∀ U : State, U.heap = H → s.WarmedH U.vm → va_Pc As (zPre q cI cZ cS D M H.size) As.toArray U :=
  fun U hU hW => ⟨rfl, by rw [hU], by rw [hU]; exact hP, va_K.moved hW.alike hK, hD.weaken (fun _ _ _ _ => trivial), fun w hw => zNW_warm hw hW (hN w hw)⟩
theorem z_met {n : Nat} (ih : zSnd q cI cZ cS D l n) {j : Nat} (hj : j < zNM) {As : List Value} {M : zM} {r : zR} {M' : zM} (h : zx n j 0 (zent (znl j) As) [] M = some (r, M')) (hlen : (zexp As).length ≤ znl j) (sz : Nat) :
    Met l (zy j) (zws j) (zrm j) (va_Pc (As.map (rv q)) (zPre q cI cZ cS D M sz)) (zQc q cI cZ cS D r M' (va_A (zW q cI cZ cS M) sz)) 0 0 (va_A (zW q cI cZ cS M) sz) := by
  refine Met.ofW (cc := zb j) (maxL := znl j) (ret := zret j) (zm_cls hj).2.2.1 rfl ?_
  intro p e s m args below meth c s₁ B hml hv
  obtain ⟨rfl, hsz, hP, hK, hD0, hN⟩ := hv
  have hown : s.vm.findClass (zy j).cls = some m.cls := findClass_of_methodNamed B.named
  rw [(zm_cls hj).2.1] at hown
  have C : zCtx cI cZ cS D p s m ((As.map (rv q)).toArray) meth c j := ⟨B.exec, B.bytes, B.returns, atoms_spec (ws := zws j) B.pre, hown, hml, B.notSynchronized, hN, hK⟩
  subst hsz
  have hD := hD0.self (sz := s.heap.size)
  rw [lg_entry_eq]
  exact ih j hj C (fun a ha => Or.inr ha) 0 _ [] M r M' s.heap [] _ h (zH_entry hlen) hP hD va_S.rf
theorem z_ret {i : Instr} {id pc : Nat} {L st : List Value} {M : zM} {r : zR} (h : zins i id pc L st M = some (.inr (.inl r))) :
    (i = .ireturn ∧ ziret id st = some (.inr (.inl r))) ∨ (i = .lreturn ∧ zlret id st = some (.inr (.inl r))) ∨ (i = .return_ ∧ zvret id st = some (.inr (.inl r))) := by
  cases i
  case ireturn => exact Or.inl ⟨rfl, h⟩
  case lreturn => exact Or.inr (Or.inl ⟨rfl, h⟩)
  case return_ => exact Or.inr (Or.inr ⟨rfl, h⟩)
  case if_icmp cn off => cases cn <;> (simp only [zins, zif2, zbr, zgo] at h; repeat' split at h) <;> cases h
  case ifCond cn off => cases cn <;> (simp only [zins, zif1, zbr, zgo] at h; repeat' split at h) <;> cases h
  all_goals (simp only [zins, zI2, zD2, zJ2, zE2, zI1, zi2l, zlcmp, zjmp, zgo, zldI, zldL, zldA, zstI, zstA, zstJ, zinc, zdup, zdup2, ztab, zlook, zgetf, zputf, zald, zast, zaldq, zinvS, zinvV, zmax, zcpy, zcall] at h; repeat' split at h) <;> cases h
theorem z_call {i : Instr} {id pc : Nat} {L st : List Value} {M : zM} {a : Nat × List Value × List Value × List Value} (h : zins i id pc L st M = some (.inr (.inr a))) :
    (∃ n nest, i = .invokestatic n ∧ zml (zcl id) n = some (a.1, nest) ∧ a.1 ≠ 1000 ∧ a.1 ≠ 1001 ∧ zcall true id a.1 (zpn a.1) L st = some (.inr (.inr a))) ∨ (∃ n nest, i = .invokevirtual n ∧ zml (zcl id) n = some (a.1, nest) ∧ zcall false id a.1 (zpn a.1 + 1) L st = some (.inr (.inr a))) := by
  cases i
  case invokestatic n =>
    refine Or.inl ⟨n, ?_⟩
    simp only [zins, zinvS] at h
    split at h
    · rename_i j nest e
      split at h
      · simp only [zmax, zgo] at h
        repeat' split at h
        all_goals cases h
      · rename_i h1
        split at h
        · simp only [zcpy, zgo] at h
          repeat' split at h
          all_goals cases h
        · rename_i h2
          have hj : a.1 = j := by
            unfold zcall at h
            split at h
            · cases h; rfl
            · cases h
          rw [hj]
          exact ⟨nest, rfl, e, h1, h2, h⟩
    · cases h
  case invokevirtual n =>
    refine Or.inr ⟨n, ?_⟩
    simp only [zins, zinvV] at h
    split at h
    · rename_i j nest e
      have hj : a.1 = j := by
        unfold zcall at h
        split at h
        · cases h; rfl
        · cases h
      rw [hj]
      exact ⟨nest, rfl, e, h⟩
    · cases h
  case if_icmp cn off => cases cn <;> (simp only [zins, zif2, zbr, zgo] at h; repeat' split at h) <;> cases h
  case ifCond cn off => cases cn <;> (simp only [zins, zif1, zbr, zgo] at h; repeat' split at h) <;> cases h
  all_goals (simp only [zins, zI2, zD2, zJ2, zE2, zI1, zi2l, zlcmp, zjmp, zgo, zldI, zldL, zldA, zstI, zstA, zstJ, zinc, zdup, zdup2, ztab, zlook, zgetf, zputf, zald, zast, zaldq, ziret, zlret, zvret] at h; repeat' split at h) <;> cases h
theorem zcall_inv {sta : Bool} {id j t : Nat} {L st : List Value} {a : Nat × List Value × List Value × List Value} (h : zcall sta id j t L st = some (.inr (.inr a))) :
    (j < zNM ∧ zst j = sta ∧ t ≤ st.length ∧ zcs (st.drop t) ≤ 8 ∧ zfr j + 1 ≤ zfr id ∧ 8 + (znl j + 11) + zlo j ≤ zlo id ∧ (zexp (st.take t).reverse).length ≤ znl j ∧ (sta = true ∨ zrcv (st.take t).reverse (zcl j) = true)) ∧ a = (j, zent (znl j) (st.take t).reverse, L, st.drop t) := by
  unfold zcall at h
  split at h
  · rename_i h0; cases h; exact ⟨h0, rfl⟩
  · cases h
theorem zrcv_inv {vs : List Value} {ci : Nat} (h : zrcv vs ci = true) : ∃ b As, vs = .ref b :: As ∧ b < zNC ∧ zk b = ci := by
  unfold zrcv at h
  split at h
  · have := of_decide_eq_true h; exact ⟨_, _, rfl, this.1, this.2⟩
  · cases h
theorem zG_of {ws : List Cond} (h : ∀ w ∈ ws, w ∈ zT) : GoodIn zT ws := fun w hw => zT_good w (h w hw)
theorem zG_ws {j : Nat} (hj : j < zNM) : ∀ w ∈ zws j, w ∈ zT := by
  intro w hw
  rcases List.mem_cons.mp hw with rfl | h
  · exact zm_code hj
  · exact h
theorem zml_mem {id n j : Nat} {nest : Bool} (h : zml (zcl id) n = some (j, nest)) (hj : j < zNM) : (nest = true → Cond.methodLinkNest (zcn (zcl id)) n (zy j) RX5 ∈ zNW) ∧ (nest = false → Cond.methodLink (zcn (zcl id)) n (zy j) ∈ zT) := by
  obtain ⟨hw, -⟩ := zm_ml h
  have h1 : ¬ j = 1000 := by unfold zNM at hj; omega
  have h2 : ¬ j = 1001 := by unfold zNM at hj; omega
  unfold zlw at hw
  dsimp only at hw
  rw [if_neg h1, if_neg h2] at hw
  constructor
  · intro hn
    rw [if_pos hn] at hw
    exact List.mem_filter.mpr ⟨hw, rfl⟩
  · intro hn
    rw [if_neg (by rw [hn]; decide)] at hw
    exact List.mem_filter.mpr ⟨hw, rfl⟩
theorem z_sound : ∀ n, zSnd q cI cZ cS D l n := by
  intro n
  induction n with
  | zero => intro p e s m args below meth c A id hid C hA pc L st M r M' H locs ls h; cases h
  | succ n ih =>
    intro p e s m args below meth c A id hid C hA pc L st M r M' H locs ls h hl hP hD hS
    obtain ⟨i, hc⟩ : ∃ i, zc id pc = some i := by
      cases hc : zc id pc with
      | none => simp [zx, zact, hc] at h
      | some i => exact ⟨i, rfl⟩
    obtain ⟨len, hd, hlen⟩ := zm_dc hid hc
    have hz : zact id pc L st M = zins i id pc L st M := by unfold zact; rw [hc]
    unfold zx at h
    rw [hz] at h
    split at h
    · cases h
    · rename_i pc' L' st' M1 ha
      exact z_tail hid C rfl hd hlen ha hl hP hD hS (fun H1 locs1 ls1 hl1 hP1 hD1 hS1 => ih id hid C hA pc' L' st' M1 r M' H1 locs1 ls1 h hl1 hP1 hD1 hS1)
    · rename_i r0 ha
      cases h
      obtain ⟨hx, hb, hr, hts, hown, hml, hlocks, hN, hK⟩ := C
      rcases z_ret ha with ⟨rfl, h2⟩ | ⟨rfl, h2⟩ | ⟨rfl, h2⟩
      · have hn : len = 1 := by simpa [zlen] using hlen
        subst hn
        unfold ziret at h2
        split at h2
        · split at h2
          · rename_i v h0
            cases h2
            rcases h0 with h0 | ⟨h0, h1⟩
            · exact W.iret hx hb (hr.trans h0) (fun t ht hW => ⟨⟨v, (), rfl, rfl, by show va_P D vwCl (zW q cI cZ cS M) t.heap; rw [ht]; exact hP⟩, hS.F ht⟩) hS.2.2 hd hlocks
            · exact W.zret hx hb (hr.trans h0) (by rcases h1 with h1 | h1 <;> rw [h1] <;> rfl) (fun t ht hW => ⟨⟨v, (), rfl, rfl, by show va_P D vwCl (zW q cI cZ cS M) t.heap; rw [ht]; exact hP⟩, hS.F ht⟩) hS.2.2 hd hlocks
          · cases h2
        · cases h2
      · have hn : len = 1 := by simpa [zlen] using hlen
        subst hn
        unfold zlret at h2
        split at h2
        · split at h2
          · rename_i v h0
            cases h2
            exact W.lret hx hb (hr.trans h0) (fun t ht hW => ⟨⟨v, (), rfl, rfl, by show va_P D vwCl (zW q cI cZ cS M) t.heap; rw [ht]; exact hP⟩, hS.F ht⟩) hS.2.2 hd hlocks
          · cases h2
        · cases h2
      · have hn : len = 1 := by simpa [zlen] using hlen
        subst hn
        unfold zvret at h2
        split at h2
        · split at h2
          · rename_i h0
            cases h2
            exact W.vret hx hb (hr.trans h0) (fun t ht hW => ⟨⟨(), rfl, trivial, by show va_P D vwCl (zW q cI cZ cS M) t.heap; rw [ht]; exact hP⟩, hS.F ht⟩) hS.2.2 hd hlocks
          · cases h2
        · cases h2
    · rename_i j E L' st' ha
      split at h
      · cases h
      · rename_i r1 M1 h1
        have hA1 : ∀ a : Nat, va_A (zW q cI cZ cS M) H.size a → A a := by
          rintro a (⟨k, x, hk⟩ | ha)
          · exact hD.2 k _ hk
          · exact hA a (Nat.le_trans hS.1 ha)
        have C2 := C
        obtain ⟨hx, hb, hr, hts, hown, hml, hlocks, hN, hK⟩ := C2
        have hT : ∀ w ∈ zT, w.before args s = true := fun w hw => hts w (zws_T hw)
        have hrun : L' = L ∧ ∃ aa : Array Value, va_Run p l e (zrm id) s m args below meth c H locs 0 0 0 0 (F0 m pc ls (st.map (rv q))) (st'.map (rv q)) (zQc q cI cZ cS D r1 M1 (va_A (zW q cI cZ cS M) H.size) aa) (va_A (zW q cI cZ cS M) H.size) := by
          rcases z_call ha with ⟨nn, nest, rfl, hm, -, -, hcl⟩ | ⟨nn, nest, rfl, hm, hcl⟩
          · have hn : len = 3 := by simpa [zlen] using hlen
            subst hn
            dsimp only at hm hcl
            obtain ⟨⟨hj, hsta, ht, hcs, hfr, hlo, hlen2, -⟩, he⟩ := zcall_inv hcl
            cases he
            refine ⟨rfl, ?_⟩
            have hM := z_met ih hj h1 hlen2 H.size
            have hRm : (zrm j).frames + 1 ≤ (zrm id).frames ∧ 8 + (znl j + 11) + (zrm j).locals ≤ (zrm id).locals := ⟨hfr, hlo⟩
            have hcc := zm_cls hj
            have hstk : st.map (rv q) = (((st.take (zpn j)).reverse.map (rv q)).reverse) ++ (st.drop (zpn j)).map (rv q) := by
              rw [List.map_reverse, List.reverse_reverse, ← List.map_append, List.take_append_drop]
            have hnn : ((st.take (zpn j)).reverse.map (rv q)).length = zpn j := by simp; omega
            cases nest with
            | false =>
              refine ⟨_, va_runS (As := (st.take (zpn j)).reverse.map (rv q)) (rest := (st.drop (zpn j)).map (rv q)) ⟨hx, hb, hml, hown, hT⟩ hM
                (va_cwS (zpn j) hT (zG_of (by
                  intro w hw
                  simp only [va_wsS, List.cons_append, List.nil_append, List.mem_cons] at hw
                  rcases hw with rfl | rfl | rfl | hw
                  · exact (zml_mem hm hj).2 rfl
                  · exact zm_stat hj hsta
                  · exact zm_init hj
                  · exact zG_ws hj w hw)) rfl rfl rfl ⟨hcc.2.2.2.1, hcc.2.2.2.2.1, hcc.2.2.2.2.2⟩ hRm)
                ⟨zPre_blind, zPre_go hK hN hP hD⟩ rfl hnn hl.2.1.1 hstk (lv_room (by rw [rv_cs]; exact hcs)) hd ⟨Nat.le_refl _, Nat.le_refl _⟩⟩
            | true =>
              refine ⟨_, va_runSN (As := (st.take (zpn j)).reverse.map (rv q)) (rest := (st.drop (zpn j)).map (rv q)) ⟨hx, hb, hml, hown, hT⟩ hM
                ⟨va_cnB (zpn j) hT (zG_of (zG_ws hj)) rfl rfl rfl (hN _ ((zml_mem hm hj).1 rfl)) (hT _ (zm_init hj)) ⟨hcc.2.2.2.1, hcc.2.2.2.2.1, hcc.2.2.2.2.2⟩ hRm, hT _ (zm_stat hj hsta), trivial⟩
                ⟨zPre_blind, zPre_go hK hN hP hD⟩ rfl hnn hl.2.1.1 hstk (lv_room (by rw [rv_cs]; exact hcs)) hd ⟨Nat.le_refl _, Nat.le_refl _⟩⟩
          · have hn : len = 3 := by simpa [zlen] using hlen
            subst hn
            dsimp only at hm hcl
            obtain ⟨⟨hj, hsta, ht, hcs, hfr, hlo, hlen2, hrc⟩, he⟩ := zcall_inv hcl
            cases he
            refine ⟨rfl, ?_⟩
            rcases hrc with hrc | hrc
            · cases hrc
            obtain ⟨b, As, hvs, hb2, hkb⟩ := zrcv_inv hrc
            have hM := z_met ih hj h1 hlen2 H.size
            have hRm : (zrm j).frames + 1 ≤ (zrm id).frames ∧ 8 + (znl j + 11) + (zrm j).locals ≤ (zrm id).locals := ⟨hfr, hlo⟩
            rw [hvs] at hM
            have hcc := zm_cls hj
            have htk : st.take (zpn j + 1) = As.reverse ++ [.ref b] := by
              have := congrArg List.reverse hvs
              simpa using this
            have hstk : st.map (rv q) = (As.map (rv q)).reverse ++ .ref (q b) :: (st.drop (zpn j + 1)).map (rv q) := by
              conv => lhs; rw [← List.take_append_drop (zpn j + 1) st, htk]
              simp [rv]
            have hnn : (As.map (rv q)).length = zpn j := by
              have := congrArg List.length htk
              simp at this
              simp
              omega
            have h7 : zcl j < 7 := by
              rcases Nat.lt_or_ge (zcl j) 7 with h | h
              · exact h
              · exfalso
                have h8 := hcc.1
                have : zcl j = 7 := by omega
                rw [this] at hkb
                have hz2 := zW_at q cI cZ cS M hb2
                rw [zE_int q cI cZ cS hkb] at hz2
                exact absurd (z_noint j hj this) (by rw [hsta]; decide)
            have he := zW_at q cI cZ cS M hb2
            rw [zE_obj q cI cZ cS hkb h7] at he
            have hrecv := va_recv hK hP (zm_vw h7) he
            dsimp only at hrecv
            rw [← hcc.2.1] at hrecv
            cases nest with
            | false =>
              refine ⟨_, va_runV (C := (zy j).cls) (b := q b) (As := As.map (rv q)) (rest := (st.drop (zpn j + 1)).map (rv q)) ⟨hx, hb, hml, hown, hT⟩ hM
                (cwV (zpn j) hT (zG_of (by
                  intro w hw
                  simp only [wsV, List.cons_append, List.nil_append, List.mem_cons] at hw
                  rcases hw with rfl | rfl | rfl | rfl | hw
                  · exact (zml_mem hm hj).2 rfl
                  · exact (zm_inst hj hsta).1
                  · exact (zm_inst hj hsta).2
                  · exact zm_init hj
                  · exact zG_ws hj w hw)) rfl rfl rfl ⟨rfl, hcc.2.2.2.1, hcc.2.2.2.2.1, hcc.2.2.2.2.2⟩ hRm)
                ⟨zPre_blind, hrecv, zPre_go hK hN hP hD⟩ rfl hnn hl.2.1.1 hstk (lv_room (by rw [rv_cs]; exact hcs)) hd ⟨Nat.le_refl _, Nat.le_refl _⟩⟩
            | true =>
              refine ⟨_, va_runVN (C := (zy j).cls) (b := q b) (As := As.map (rv q)) (rest := (st.drop (zpn j + 1)).map (rv q)) ⟨hx, hb, hml, hown, hT⟩ hM
                ⟨va_cnB (zpn j) hT (zG_of (zG_ws hj)) rfl rfl rfl (hN _ ((zml_mem hm hj).1 rfl)) (hT _ (zm_init hj)) ⟨hcc.2.2.2.1, hcc.2.2.2.2.1, hcc.2.2.2.2.2⟩ hRm, hT _ (zm_inst hj hsta).1, hT _ (zm_inst hj hsta).2⟩
                ⟨zPre_blind, hrecv, zPre_go hK hN hP hD⟩ rfl hnn hl.2.1.1 hstk (lv_room (by rw [rv_cs]; exact hcs)) hd ⟨Nat.le_refl _, Nat.le_refl _⟩⟩
        obtain ⟨rfl, aa, hrun⟩ := hrun
        match r1, h1, h, hrun with
        | none, h1, h, hrun =>
          exact va_callv (a := aa) hrun hS (fun a _ h => hA1 a h) hA1 (fun u t H1 locs1 ht hvm hw hB hz1 hk1 hS1 => ih id hid C hA (pc + 3) _ _ M1 r M' H1 locs1 ls h hl (by have hB : va_P D vwCl (zW q cI cZ cS M1) t.heap := hB; rw [ht] at hB; exact hB) (zD_any q cI cZ cS hD) hS1)
        | some (.inl x), h1, h, hrun =>
          exact va_calli (a := aa) hrun hS (fun a _ h => hA1 a h) hA1 (fun r2 u t H1 locs1 ht hvm hw hB hz1 hk1 hS1 => by
            subst hw
            exact ih id hid C hA (pc + 3) _ _ M1 r M' H1 locs1 ls h hl (by have hB : va_P D vwCl (zW q cI cZ cS M1) t.heap := hB; rw [ht] at hB; exact hB) (zD_any q cI cZ cS hD) hS1)
        | some (.inr x), h1, h, hrun =>
          exact va_calll (a := aa) hrun hS (fun a _ h => hA1 a h) hA1 (fun r2 u t H1 locs1 ht hvm hw hB hz1 hk1 hS1 => by
            subst hw
            exact ih id hid C hA (pc + 3) _ _ M1 r M' H1 locs1 ls h hl (by have hB : va_P D vwCl (zW q cI cZ cS M1) t.heap := hB; rw [ht] at hB; exact hB) (zD_any q cI cZ cS hD) hS1)
end ZS
end
section
-- rules of the interpreter, without fuel
theorem zx_mono : ∀ (n : Nat) {id pc : Nat} {L st : List Value} {M : zM} {o : zR × zM}, zx n id pc L st M = some o → ∀ k, zx (n + k) id pc L st M = some o := by
  intro n
  induction n with
  | zero => intro id pc L st M o h; cases h
  | succ n ih =>
    intro id pc L st M o h k
    rw [show n + 1 + k = (n + k) + 1 by omega]
    unfold zx at h ⊢
    split at h
    · cases h
    · exact ih h k
    · exact h
    · split at h
      · cases h
      · rename_i e2
        rw [ih e2 k]
        exact ih h k
def zQ (id pc : Nat) (L st : List Value) (M : zM) (Q : zR → zM → Prop) : Prop := ∃ (n : Nat) (r : zR) (M' : zM), zx n id pc L st M = some (r, M') ∧ Q r M'
section ZR
variable {id pc : Nat} {L st : List Value} {M : zM} {Q : zR → zM → Prop}
theorem zQ.mono {Q' : zR → zM → Prop} (h : zQ id pc L st M Q) (hq : ∀ r M', Q r M' → Q' r M') : zQ id pc L st M Q' := by
  obtain ⟨n, r, M', h1, h2⟩ := h
  exact ⟨n, r, M', h1, hq _ _ h2⟩
theorem zq_act {pc' : Nat} {L' st' : List Value} {M' : zM} (h : zact id pc L st M = some (.inl (pc', L', st', M'))) : zQ id pc L st M Q ↔ zQ id pc' L' st' M' Q := by
  constructor
  · rintro ⟨n, r, M1, h1, h2⟩
    cases n with
    | zero => cases h1
    | succ n => simp only [zx, h] at h1; exact ⟨n, r, M1, h1, h2⟩
  · rintro ⟨n, r, M1, h1, h2⟩
    exact ⟨n + 1, r, M1, by simp only [zx, h]; exact h1, h2⟩
theorem zq_none (h : zact id pc L st M = none) : zQ id pc L st M Q ↔ False := by
  constructor
  · rintro ⟨n, r, M1, h1, h2⟩
    cases n with
    | zero => cases h1
    | succ n => simp only [zx, h] at h1; cases h1
  · exact False.elim
theorem zq_ret0 {r : zR} (h : zact id pc L st M = some (.inr (.inl r))) : zQ id pc L st M Q ↔ Q r M := by
  constructor
  · rintro ⟨n, r, M1, h1, h2⟩
    cases n with
    | zero => cases h1
    | succ n => simp only [zx, h] at h1; cases h1; exact h2
  · intro h2
    exact ⟨1, r, M, by simp only [zx, h], h2⟩
theorem zq_call0 {j : Nat} {E L' st' : List Value} (h : zact id pc L st M = some (.inr (.inr (j, E, L', st')))) : zQ id pc L st M Q ↔ zQ j 0 E [] M (fun r M1 => zQ id (pc + 3) L' (zpush r st') M1 Q) := by
  constructor
  · rintro ⟨n, r, M1, h1, h2⟩
    cases n with
    | zero => cases h1
    | succ n =>
      simp only [zx, h] at h1
      split at h1
      · cases h1
      · rename_i r1 M2 e
        exact ⟨n, r1, M2, e, n, r, M1, h1, h2⟩
  · rintro ⟨n, r1, M2, e, n2, r, M1, h1, h2⟩
    refine ⟨n + n2 + 1, r, M1, ?_, h2⟩
    simp only [zx, h, zx_mono n e n2]
    rw [Nat.add_comm]
    exact zx_mono n2 h1 n
theorem zact_of {i : Instr} (hc : zc id pc = some i) : zact id pc L st M = zins i id pc L st M := by unfold zact; rw [hc]
theorem zq_go {i : Instr} {pc' : Nat} {L' st' : List Value} {M' : zM} (hc : zc id pc = some i) (h : zins i id pc L st M = some (.inl (pc', L', st', M'))) : zQ id pc L st M Q ↔ zQ id pc' L' st' M' Q := zq_act ((zact_of hc).trans h)
theorem zq_ret {i : Instr} {r : zR} (hc : zc id pc = some i) (h : zins i id pc L st M = some (.inr (.inl r))) : zQ id pc L st M Q ↔ Q r M := zq_ret0 ((zact_of hc).trans h)
theorem zq_br {i : Instr} {c : Prop} [Decidable c] {off : Int} {r : List Value} {t n : Nat} (hc : zc id pc = some i) (h : zins i id pc L st M = zbr c pc off L r M) (h0 : (pc : Int) + off = (t : Int)) (hn : pc + 3 = n) : zQ id pc L st M Q ↔ (c → zQ id t L r M Q) ∧ (¬ c → zQ id n L r M Q) := by
  have e : zact id pc L st M = some (.inl (if c then t else n, L, r, M)) := by
    rw [zact_of hc, h]
    unfold zbr zgo ztgt
    rw [if_pos (by omega), h0, hn]
    rfl
  rw [zq_act e]
  by_cases hcc : c
  · rw [if_pos hcc]; exact ⟨fun h => ⟨fun _ => h, fun h2 => absurd hcc h2⟩, fun h => h.1 hcc⟩
  · rw [if_neg hcc]; exact ⟨fun h => ⟨fun h2 => absurd h2 hcc, fun _ => h⟩, fun h => h.2 hcc⟩
theorem zq_jmp {off : Int} {t : Nat} (hc : zc id pc = some (.goto off)) (h0 : (pc : Int) + off = (t : Int)) : zQ id pc L st M Q ↔ zQ id t L st M Q := by
  refine zq_go hc ?_
  show zjmp pc off L st M = _
  unfold zjmp zgo ztgt
  rw [if_pos (by omega), h0]
  rfl
theorem zq_if0 {i : Instr} {c : Prop} {pc' : Nat} {L' st' : List Value} {M' : zM} (hc : zc id pc = some i) (h : c → zins i id pc L st M = some (.inl (pc', L', st', M'))) (hn : ¬ c → zins i id pc L st M = none) : zQ id pc L st M Q ↔ c ∧ zQ id pc' L' st' M' Q := by
  by_cases hcc : c
  · rw [zq_go hc (h hcc)]; exact ⟨fun h => ⟨hcc, h⟩, fun h => h.2⟩
  · rw [zq_none ((zact_of hc).trans (hn hcc))]; exact ⟨False.elim, fun h => hcc h.1⟩
theorem zq_getf {n ci k : Nat} {b : Bool} {a : Nat} (hc : zc id pc = some (.getfield n)) (hf : zfl (zcl id) n = some (ci, k, b)) : zQ id pc L (.ref a :: st) M Q ↔ (a < zNC ∧ zk a = ci) ∧ zQ id (pc + 3) L (zfv a k M :: st) M Q :=
  zq_if0 hc (fun h => by simp only [zins, zgetf, hf, if_pos h]; rfl) (fun h => by simp only [zins, zgetf, hf, if_neg h])
theorem zq_putf {n ci k : Nat} {b : Bool} {a : Nat} {x : Int32} (hc : zc id pc = some (.putfield n)) (hf : zfl (zcl id) n = some (ci, k, b)) (h1 : ((zvT ci) k).2.2.2 = false ∧ zty ci k = .int) : zQ id pc L (.int x :: .ref a :: st) M Q ↔ (a < zNC ∧ zk a = ci ∧ zf a k = none) ∧ zQ id (pc + 3) L st (zup M a k x) Q :=
  zq_if0 hc (fun h => by simp only [zins, zputf, hf]; rw [if_pos ⟨h.1, h.2.1, h.2.2, h1.1, Or.inl h1.2⟩]; rfl) (fun h => by simp only [zins, zputf, hf]; rw [if_neg (fun h2 => h ⟨h2.1, h2.2.1, h2.2.2.1⟩)])
theorem zq_putz {n ci k : Nat} {b : Bool} {a : Nat} {x : Int32} (hc : zc id pc = some (.putfield n)) (hf : zfl (zcl id) n = some (ci, k, b)) (h1 : ((zvT ci) k).2.2.2 = false ∧ zty ci k = .boolean) : zQ id pc L (.int x :: .ref a :: st) M Q ↔ (a < zNC ∧ zk a = ci ∧ zf a k = none ∧ (x = 0 ∨ x = 1)) ∧ zQ id (pc + 3) L st (zup M a k x) Q :=
  zq_if0 hc (fun h => by simp only [zins, zputf, hf]; rw [if_pos ⟨h.1, h.2.1, h.2.2.1, h1.1, Or.inr ⟨h1.2, h.2.2.2⟩⟩]; rfl) (fun h => by
    simp only [zins, zputf, hf]
    rw [if_neg (fun h2 => h ⟨h2.1, h2.2.1, h2.2.2.1, h2.2.2.2.2.elim (fun h => by rw [h1.2] at h; cases h) (fun h => h.2)⟩)])
theorem zq_iald {a : Nat} {i : Int32} (hc : zc id pc = some .iaload) : zQ id pc L (.int i :: .ref a :: st) M Q ↔ (a < zNC ∧ zk a = 7 ∧ zin i (zn a) = true) ∧ zQ id (pc + 1) L (.int (M a i.toNatClampNeg) :: st) M Q :=
  zq_if0 hc (fun h => by simp only [zins, zald, if_pos h]; rfl) (fun h => by simp only [zins, zald, if_neg h])
theorem zq_bald {a : Nat} {i : Int32} (hc : zc id pc = some .baload) : zQ id pc L (.int i :: .ref a :: st) M Q ↔ (a < zNC ∧ zk a = 8 ∧ zin i (zn a) = true) ∧ zQ id (pc + 1) L (.int (M a i.toNatClampNeg) :: st) M Q :=
  zq_if0 hc (fun h => by simp only [zins, zald, if_pos h]; rfl) (fun h => by simp only [zins, zald, if_neg h])
theorem zq_iast {a : Nat} {i x : Int32} (hc : zc id pc = some .iastore) : zQ id pc L (.int x :: .int i :: .ref a :: st) M Q ↔ (a < zNC ∧ zk a = 7 ∧ zin i (zn a) = true) ∧ zQ id (pc + 1) L st (zup M a i.toNatClampNeg x) Q :=
  zq_if0 hc (fun h => by simp only [zins, zast, if_pos h]; rfl) (fun h => by simp only [zins, zast, if_neg h])
theorem zq_bast {a : Nat} {i x : Int32} (hc : zc id pc = some .bastore) : zQ id pc L (.int x :: .int i :: .ref a :: st) M Q ↔ (a < zNC ∧ zk a = 8 ∧ zin i (zn a) = true) ∧ zQ id (pc + 1) L st (zup M a i.toNatClampNeg (vp_nar .boolean x)) Q :=
  zq_if0 hc (fun h => by simp only [zins, zast, if_pos h]; rfl) (fun h => by simp only [zins, zast, if_neg h])
theorem zq_aald {k : Nat} (hk : k < 4) (hc : zc id pc = some .aaload) : zQ id pc L (.int (nI k) :: .ref 33 :: st) M Q ↔ zQ id (pc + 1) L (.ref (34 + 2 * k) :: st) M Q := by
  match k, hk with
  | 0, _ => exact zq_go hc rfl
  | 1, _ => exact zq_go hc rfl
  | 2, _ => exact zq_go hc rfl
  | 3, _ => exact zq_go hc rfl
theorem zq_div {x y : Int32} (hc : zc id pc = some .idiv) : zQ id pc L (.int y :: .int x :: st) M Q ↔ ¬ y = 0 ∧ zQ id (pc + 1) L (.int (x / y) :: st) M Q :=
  zq_if0 hc (fun h => by simp only [zins, zD2, if_neg h]; rfl) (fun h => by simp only [zins, zD2]; rw [if_pos (Decidable.not_not.mp h)])
theorem zq_rem {x y : Int32} (hc : zc id pc = some .irem) : zQ id pc L (.int y :: .int x :: st) M Q ↔ ¬ y = 0 ∧ zQ id (pc + 1) L (.int (x - x / y * y) :: st) M Q :=
  zq_if0 hc (fun h => by simp only [zins, zD2, if_neg h]; rfl) (fun h => by simp only [zins, zD2]; rw [if_pos (Decidable.not_not.mp h)])
theorem zq_ldiv {x y : Int64} (hc : zc id pc = some .ldiv) : zQ id pc L (.long y :: .long x :: st) M Q ↔ ¬ y = 0 ∧ zQ id (pc + 1) L (.long (x / y) :: st) M Q :=
  zq_if0 hc (fun h => by simp only [zins, zE2, if_neg h]; rfl) (fun h => by simp only [zins, zE2]; rw [if_pos (Decidable.not_not.mp h)])
theorem zq_lrem {x y : Int64} (hc : zc id pc = some .lrem) : zQ id pc L (.long y :: .long x :: st) M Q ↔ ¬ y = 0 ∧ zQ id (pc + 1) L (.long (x - x / y * y) :: st) M Q :=
  zq_if0 hc (fun h => by simp only [zins, zE2, if_neg h]; rfl) (fun h => by simp only [zins, zE2]; rw [if_pos (Decidable.not_not.mp h)])
def ztabo (d lo hi : Int) (offs : Array Int) (x : Int) : Int := if x < lo ∨ hi < x then d else offs.getD (x - lo).toNat d
theorem zq_tab {d lo hi : Int} {offs : Array Int} {x : Int32} (hc : zc id pc = some (.tableswitch d lo hi offs)) (hs : (offs.size : Int) = hi - lo + 1) (h0 : 0 ≤ (pc : Int) + d ∧ offs.toList.all (fun o => decide (0 ≤ (pc : Int) + o)) = true) : zQ id pc L (.int x :: st) M Q ↔ zQ id (ztgt pc (ztabo d lo hi offs x.toInt)) L st M Q := by
  refine zq_go hc ?_
  simp only [zins, ztab, ztabo]
  split
  · simp only [zjmp, if_pos h0.1]; rfl
  · rename_i h
    have hlt : (x.toInt - lo).toNat < offs.size := by omega
    have e : offs[(x.toInt - lo).toNat]? = some offs[(x.toInt - lo).toNat] := Array.getElem?_eq_getElem hlt
    rw [e]
    have e2 : offs.getD (x.toInt - lo).toNat d = offs[(x.toInt - lo).toNat] := by simp [Array.getD, hlt]
    rw [e2]
    have h3 := of_decide_eq_true (List.all_eq_true.mp h0.2 offs[(x.toInt - lo).toNat] (by simp))
    simp only [zjmp, if_pos h3]; rfl
theorem zq_look {d : Int} {ps : Array (Int × Int)} {x : Int32} (hc : zc id pc = some (.lookupswitch d ps)) (hs : (ps.toList.zip (ps.toList.drop 1)).all (fun (a, next) => a.1 < next.1) = true) (h0 : 0 ≤ (pc : Int) + Op.lookupswitch.offset ps.toList d x.toInt) : zQ id pc L (.int x :: st) M Q ↔ zQ id (ztgt pc (Op.lookupswitch.offset ps.toList d x.toInt)) L st M Q := by
  refine zq_go hc ?_
  simp only [zins, zlook]
  rw [if_pos hs]
  simp only [zjmp, if_pos h0]; rfl
theorem zq_max {n : Nat} {b : Bool} {x y : Int32} (hc : zc id pc = some (.invokestatic n)) (hm : zml (zcl id) n = some (1000, b)) : zQ id pc L (.int y :: .int x :: st) M Q ↔ (1 ≤ zfr id ∧ zcs st + 13 ≤ zlo id) ∧ zQ id (pc + 3) L (.int (if x < y then y else x) :: st) M Q :=
  zq_if0 hc (fun h => by simp only [zins, zinvS, hm, if_true, zmax, if_pos h]; rfl) (fun h => by simp only [zins, zinvS, hm, if_true, zmax, if_neg h])
theorem zq_callV {n j : Nat} {b : Bool} {a : Nat} {As rest E : List Value} (hc : zc id pc = some (.invokevirtual n)) (hm : zml (zcl id) n = some (j, b)) (hs : j < zNM ∧ zst j = false ∧ As.length = zpn j ∧ zfr j + 1 ≤ zfr id ∧ 8 + (znl j + 11) + zlo j ≤ zlo id ∧ (zexp (.ref a :: As)).length ≤ znl j) (hE : zent (znl j) (.ref a :: As) = E) :
    zQ id pc L (As.reverse ++ .ref a :: rest) M Q ↔ (zcs rest ≤ 8 ∧ a < zNC ∧ zk a = zcl j) ∧ zQ j 0 E [] M (fun r M1 => zQ id (pc + 3) L (zpush r rest) M1 Q) := by
  obtain ⟨h1, h2, h3, h4, h5, h6⟩ := hs
  have e1 : (As.reverse ++ .ref a :: rest).take (zpn j + 1) = As.reverse ++ [.ref a] := by
    rw [List.append_cons, List.take_left' (by simp; omega)]
  have e2 : (As.reverse ++ .ref a :: rest).drop (zpn j + 1) = rest := by
    rw [List.append_cons, List.drop_left' (by simp; omega)]
  have e3 : ((As.reverse ++ .ref a :: rest).take (zpn j + 1)).reverse = .ref a :: As := by rw [e1]; simp
  have hz : zact id pc L (As.reverse ++ .ref a :: rest) M = zcall false id j (zpn j + 1) L (As.reverse ++ .ref a :: rest) := by
    rw [zact_of hc]
    simp only [zins, zinvV, hm]
  by_cases hg : zcs rest ≤ 8 ∧ a < zNC ∧ zk a = zcl j
  · rw [zq_call0 (hz.trans (by
      unfold zcall
      rw [if_pos ⟨h1, h2, by simp; omega, by rw [e2]; exact hg.1, h4, h5, by rw [e3]; exact h6, Or.inr (by rw [e3]; simp only [zrcv]; exact decide_eq_true hg.2)⟩]))]
    rw [e2, e3, hE]
    exact ⟨fun h => ⟨hg, h⟩, fun h => h.2⟩
  · rw [zq_none (hz.trans (by
      unfold zcall
      rw [if_neg]
      intro h
      refine hg ⟨?_, ?_⟩
      · have := h.2.2.2.1; rw [e2] at this; exact this
      · rcases h.2.2.2.2.2.2.2 with h | h
        · cases h
        · rw [e3] at h; simp only [zrcv] at h; exact of_decide_eq_true h))]
    exact ⟨False.elim, fun h => hg h.1⟩
theorem zq_callS {n j : Nat} {b : Bool} {As rest E : List Value} (hc : zc id pc = some (.invokestatic n)) (hm : zml (zcl id) n = some (j, b)) (hs : j < zNM ∧ zst j = true ∧ As.length = zpn j ∧ zfr j + 1 ≤ zfr id ∧ 8 + (znl j + 11) + zlo j ≤ zlo id ∧ (zexp As).length ≤ znl j) (hE : zent (znl j) As = E) :
    zQ id pc L (As.reverse ++ rest) M Q ↔ zcs rest ≤ 8 ∧ zQ j 0 E [] M (fun r M1 => zQ id (pc + 3) L (zpush r rest) M1 Q) := by
  obtain ⟨h1, h2, h3, h4, h5, h6⟩ := hs
  have e1 : (As.reverse ++ rest).take (zpn j) = As.reverse := List.take_left' (by simp; omega)
  have e2 : (As.reverse ++ rest).drop (zpn j) = rest := List.drop_left' (by simp; omega)
  have e3 : ((As.reverse ++ rest).take (zpn j)).reverse = As := by rw [e1]; simp
  have hz : zact id pc L (As.reverse ++ rest) M = zcall true id j (zpn j) L (As.reverse ++ rest) := by
    rw [zact_of hc]
    simp only [zins, zinvS, hm]
    rw [if_neg (by unfold zNM at h1; omega), if_neg (by unfold zNM at h1; omega)]
  by_cases hg : zcs rest ≤ 8
  · rw [zq_call0 (hz.trans (by
      unfold zcall
      rw [if_pos ⟨h1, h2, by simp; omega, by rw [e2]; exact hg, h4, h5, by rw [e3]; exact h6, Or.inl rfl⟩]))]
    rw [e2, e3, hE]
    exact ⟨fun h => ⟨hg, h⟩, fun h => h.2⟩
  · rw [zq_none (hz.trans (by
      unfold zcall
      rw [if_neg]
      intro h
      have := h.2.2.2.1; rw [e2] at this; exact hg this))]
    exact ⟨False.elim, fun h => hg h.1⟩
end ZR
theorem zcs_0 : zcs [] = 0 := rfl
theorem zcs_i (x : Int32) (r : List Value) : zcs (.int x :: r) = 1 + zcs r := by simp [zcs]; rfl
theorem zcs_r (x : Nat) (r : List Value) : zcs (.ref x :: r) = 1 + zcs r := by simp [zcs]; rfl
theorem zcs_l (x : Int64) (r : List Value) : zcs (.long x :: r) = 2 + zcs r := by simp [zcs]; rfl
theorem zpush_0 (st : List Value) : zpush none st = st := rfl
theorem zpush_i (x : Int32) (st : List Value) : zpush (some (.inl x)) st = .int x :: st := rfl
theorem zpush_l (x : Int64) (st : List Value) : zpush (some (.inr x)) st = .long x :: st := rfl
theorem zup_app (M : zM) (c j : Nat) (x : Int32) (a b : Nat) : zup M c j x a b = if a = c then (if b = j then x else M c b) else M a b := by
  unfold zup zrow upd
  split <;> rfl
end
