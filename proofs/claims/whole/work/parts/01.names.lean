-- ===== PART A: goes FIRST, ahead of the names: the tables' words, and 'selects' of the private methods out of them =====
/-- a private method of a class that the tables say can be made, by its rows of tables_1 -/
def lw_okq (q : MethodName × Nat) : Prop := (q.1.cls ≠ "java/lang/invoke/MethodHandle" ∧ q.1.cls ≠ "java/lang/invoke/VarHandle") ∧ Cond.instantiable q.1.cls q.2 ∈ tables_1 ∧ Cond.privateMethod q.1 ∈ tables_1 ∧ Cond.instanceMethod q.1 ∈ tables_1
theorem lw_p0 : lw_okq (⟨"SilverFleets$Text", "readInto", "(LSilverFleets$Season;)I"⟩, 7) := ⟨⟨by decide +kernel, by decide +kernel⟩, List.mem_of_getElem? (i := 20) (by decide +kernel), List.mem_of_getElem? (i := 235) (by decide +kernel), List.mem_of_getElem? (i := 236) (by decide +kernel)⟩
theorem lw_p1 : lw_okq (⟨"SilverFleets$Season", "forgetAll", "()V"⟩, 10) := ⟨⟨by decide +kernel, by decide +kernel⟩, List.mem_of_getElem? (i := 53) (by decide +kernel), List.mem_of_getElem? (i := 239) (by decide +kernel), List.mem_of_getElem? (i := 240) (by decide +kernel)⟩
theorem lw_p2 : lw_okq (⟨"SilverFleets$Text", "scan", "()V"⟩, 7) := ⟨⟨by decide +kernel, by decide +kernel⟩, List.mem_of_getElem? (i := 20) (by decide +kernel), List.mem_of_getElem? (i := 243) (by decide +kernel), List.mem_of_getElem? (i := 244) (by decide +kernel)⟩
theorem lw_p3 : lw_okq (⟨"SilverFleets$Text", "isLetterAt", "(I)Z"⟩, 7) := ⟨⟨by decide +kernel, by decide +kernel⟩, List.mem_of_getElem? (i := 20) (by decide +kernel), List.mem_of_getElem? (i := 247) (by decide +kernel), List.mem_of_getElem? (i := 248) (by decide +kernel)⟩
theorem lw_p4 : lw_okq (⟨"SilverFleets$Text", "scanLetters", "()V"⟩, 7) := ⟨⟨by decide +kernel, by decide +kernel⟩, List.mem_of_getElem? (i := 20) (by decide +kernel), List.mem_of_getElem? (i := 251) (by decide +kernel), List.mem_of_getElem? (i := 252) (by decide +kernel)⟩
theorem lw_p5 : lw_okq (⟨"SilverFleets$Text", "isDigitAt", "(I)Z"⟩, 7) := ⟨⟨by decide +kernel, by decide +kernel⟩, List.mem_of_getElem? (i := 20) (by decide +kernel), List.mem_of_getElem? (i := 255) (by decide +kernel), List.mem_of_getElem? (i := 256) (by decide +kernel)⟩
theorem lw_p6 : lw_okq (⟨"SilverFleets$Text", "scanNumber", "()V"⟩, 7) := ⟨⟨by decide +kernel, by decide +kernel⟩, List.mem_of_getElem? (i := 20) (by decide +kernel), List.mem_of_getElem? (i := 259) (by decide +kernel), List.mem_of_getElem? (i := 260) (by decide +kernel)⟩
theorem lw_p7 : lw_okq (⟨"SilverFleets$Text", "readItem", "(LSilverFleets$Season;)Z"⟩, 7) := ⟨⟨by decide +kernel, by decide +kernel⟩, List.mem_of_getElem? (i := 20) (by decide +kernel), List.mem_of_getElem? (i := 266) (by decide +kernel), List.mem_of_getElem? (i := 267) (by decide +kernel)⟩
theorem lw_p8 : lw_okq (⟨"SilverFleets$Season", "canTake", "(I)Z"⟩, 10) := ⟨⟨by decide +kernel, by decide +kernel⟩, List.mem_of_getElem? (i := 53) (by decide +kernel), List.mem_of_getElem? (i := 270) (by decide +kernel), List.mem_of_getElem? (i := 271) (by decide +kernel)⟩
theorem lw_p9 : lw_okq (⟨"SilverFleets$Text", "readNumbers", "([I)Z"⟩, 7) := ⟨⟨by decide +kernel, by decide +kernel⟩, List.mem_of_getElem? (i := 20) (by decide +kernel), List.mem_of_getElem? (i := 281) (by decide +kernel), List.mem_of_getElem? (i := 282) (by decide +kernel)⟩
theorem lw_p10 : lw_okq (⟨"SilverFleets$Season", "addWeek", "(II)V"⟩, 10) := ⟨⟨by decide +kernel, by decide +kernel⟩, List.mem_of_getElem? (i := 53) (by decide +kernel), List.mem_of_getElem? (i := 285) (by decide +kernel), List.mem_of_getElem? (i := 286) (by decide +kernel)⟩
theorem lw_p11 : lw_okq (⟨"SilverFleets$Season", "addShip", "(IIII)V"⟩, 10) := ⟨⟨by decide +kernel, by decide +kernel⟩, List.mem_of_getElem? (i := 53) (by decide +kernel), List.mem_of_getElem? (i := 289) (by decide +kernel), List.mem_of_getElem? (i := 290) (by decide +kernel)⟩
theorem lw_p12 : lw_okq (⟨"SilverFleets$Season", "setShare", "(I)V"⟩, 10) := ⟨⟨by decide +kernel, by decide +kernel⟩, List.mem_of_getElem? (i := 53) (by decide +kernel), List.mem_of_getElem? (i := 293) (by decide +kernel), List.mem_of_getElem? (i := 294) (by decide +kernel)⟩
theorem lw_p13 : lw_okq (⟨"SilverFleets$Season", "copyFrom", "(LSilverFleets$Season;)V"⟩, 10) := ⟨⟨by decide +kernel, by decide +kernel⟩, List.mem_of_getElem? (i := 53) (by decide +kernel), List.mem_of_getElem? (i := 297) (by decide +kernel), List.mem_of_getElem? (i := 298) (by decide +kernel)⟩
theorem lw_p14 : lw_okq (⟨"SilverFleets$Log", "beginWith", "(LSilverFleets$Season;)V"⟩, 4) := ⟨⟨by decide +kernel, by decide +kernel⟩, List.mem_of_getElem? (i := 108) (by decide +kernel), List.mem_of_getElem? (i := 304) (by decide +kernel), List.mem_of_getElem? (i := 305) (by decide +kernel)⟩
theorem lw_p15 : lw_okq (⟨"SilverFleets$Log", "setBars", "(III)V"⟩, 4) := ⟨⟨by decide +kernel, by decide +kernel⟩, List.mem_of_getElem? (i := 108) (by decide +kernel), List.mem_of_getElem? (i := 308) (by decide +kernel), List.mem_of_getElem? (i := 309) (by decide +kernel)⟩
def lw_privs_1 : List (MethodName × Nat) := [(⟨"SilverFleets$Text", "readInto", "(LSilverFleets$Season;)I"⟩, 7), (⟨"SilverFleets$Season", "forgetAll", "()V"⟩, 10), (⟨"SilverFleets$Text", "scan", "()V"⟩, 7), (⟨"SilverFleets$Text", "isLetterAt", "(I)Z"⟩, 7), (⟨"SilverFleets$Text", "scanLetters", "()V"⟩, 7), (⟨"SilverFleets$Text", "isDigitAt", "(I)Z"⟩, 7), (⟨"SilverFleets$Text", "scanNumber", "()V"⟩, 7), (⟨"SilverFleets$Text", "readItem", "(LSilverFleets$Season;)Z"⟩, 7), (⟨"SilverFleets$Season", "canTake", "(I)Z"⟩, 10), (⟨"SilverFleets$Text", "readNumbers", "([I)Z"⟩, 7), (⟨"SilverFleets$Season", "addWeek", "(II)V"⟩, 10), (⟨"SilverFleets$Season", "addShip", "(IIII)V"⟩, 10), (⟨"SilverFleets$Season", "setShare", "(I)V"⟩, 10), (⟨"SilverFleets$Season", "copyFrom", "(LSilverFleets$Season;)V"⟩, 10), (⟨"SilverFleets$Log", "beginWith", "(LSilverFleets$Season;)V"⟩, 4), (⟨"SilverFleets$Log", "setBars", "(III)V"⟩, 4)]
theorem lw_r1 : ∀ q ∈ lw_privs_1, lw_okq q := List.forall_mem_cons.mpr ⟨lw_p0, List.forall_mem_cons.mpr ⟨lw_p1, List.forall_mem_cons.mpr ⟨lw_p2, List.forall_mem_cons.mpr ⟨lw_p3, List.forall_mem_cons.mpr ⟨lw_p4, List.forall_mem_cons.mpr ⟨lw_p5, List.forall_mem_cons.mpr ⟨lw_p6, List.forall_mem_cons.mpr ⟨lw_p7, List.forall_mem_cons.mpr ⟨lw_p8, List.forall_mem_cons.mpr ⟨lw_p9, List.forall_mem_cons.mpr ⟨lw_p10, List.forall_mem_cons.mpr ⟨lw_p11, List.forall_mem_cons.mpr ⟨lw_p12, List.forall_mem_cons.mpr ⟨lw_p13, List.forall_mem_cons.mpr ⟨lw_p14, List.forall_mem_cons.mpr ⟨lw_p15, fun _ h => absurd h List.not_mem_nil⟩⟩⟩⟩⟩⟩⟩⟩⟩⟩⟩⟩⟩⟩⟩⟩
theorem lw_p16 : lw_okq (⟨"SilverFleets$Season", "hasWeek", "(I)Z"⟩, 10) := ⟨⟨by decide +kernel, by decide +kernel⟩, List.mem_of_getElem? (i := 53) (by decide +kernel), List.mem_of_getElem? (i := 316) (by decide +kernel), List.mem_of_getElem? (i := 317) (by decide +kernel)⟩
theorem lw_p17 : lw_okq (⟨"SilverFleets$Season", "hasShip", "(I)Z"⟩, 10) := ⟨⟨by decide +kernel, by decide +kernel⟩, List.mem_of_getElem? (i := 53) (by decide +kernel), List.mem_of_getElem? (i := 324) (by decide +kernel), List.mem_of_getElem? (i := 325) (by decide +kernel)⟩
theorem lw_p18 : lw_okq (⟨"SilverFleets$Log", "listedOf", "(I)I"⟩, 4) := ⟨⟨by decide +kernel, by decide +kernel⟩, List.mem_of_getElem? (i := 108) (by decide +kernel), List.mem_of_getElem? (i := 328) (by decide +kernel), List.mem_of_getElem? (i := 329) (by decide +kernel)⟩
theorem lw_p19 : lw_okq (⟨"SilverFleets$Log", "hiddenOf", "(I)I"⟩, 4) := ⟨⟨by decide +kernel, by decide +kernel⟩, List.mem_of_getElem? (i := 108) (by decide +kernel), List.mem_of_getElem? (i := 332) (by decide +kernel), List.mem_of_getElem? (i := 333) (by decide +kernel)⟩
theorem lw_p20 : lw_okq (⟨"SilverFleets$Log", "placeOf", "(I)I"⟩, 4) := ⟨⟨by decide +kernel, by decide +kernel⟩, List.mem_of_getElem? (i := 108) (by decide +kernel), List.mem_of_getElem? (i := 336) (by decide +kernel), List.mem_of_getElem? (i := 337) (by decide +kernel)⟩
theorem lw_p21 : lw_okq (⟨"SilverFleets", "isOver", "()Z"⟩, 9) := ⟨⟨by decide +kernel, by decide +kernel⟩, List.mem_of_getElem? (i := 12) (by decide +kernel), List.mem_of_getElem? (i := 344) (by decide +kernel), List.mem_of_getElem? (i := 345) (by decide +kernel)⟩
theorem lw_p22 : lw_okq (⟨"SilverFleets$Log", "theWeek", "()I"⟩, 4) := ⟨⟨by decide +kernel, by decide +kernel⟩, List.mem_of_getElem? (i := 108) (by decide +kernel), List.mem_of_getElem? (i := 348) (by decide +kernel), List.mem_of_getElem? (i := 349) (by decide +kernel)⟩
theorem lw_p23 : lw_okq (⟨"SilverFleets$Log", "remember", "()V"⟩, 4) := ⟨⟨by decide +kernel, by decide +kernel⟩, List.mem_of_getElem? (i := 108) (by decide +kernel), List.mem_of_getElem? (i := 352) (by decide +kernel), List.mem_of_getElem? (i := 353) (by decide +kernel)⟩
theorem lw_p24 : lw_okq (⟨"SilverFleets$Season", "hasSet", "(I)Z"⟩, 10) := ⟨⟨by decide +kernel, by decide +kernel⟩, List.mem_of_getElem? (i := 53) (by decide +kernel), List.mem_of_getElem? (i := 361) (by decide +kernel), List.mem_of_getElem? (i := 362) (by decide +kernel)⟩
theorem lw_p25 : lw_okq (⟨"SilverFleets", "canSail", "(I)Z"⟩, 9) := ⟨⟨by decide +kernel, by decide +kernel⟩, List.mem_of_getElem? (i := 12) (by decide +kernel), List.mem_of_getElem? (i := 365) (by decide +kernel), List.mem_of_getElem? (i := 366) (by decide +kernel)⟩
theorem lw_p26 : lw_okq (⟨"SilverFleets$Log", "isInPort", "(I)Z"⟩, 4) := ⟨⟨by decide +kernel, by decide +kernel⟩, List.mem_of_getElem? (i := 108) (by decide +kernel), List.mem_of_getElem? (i := 372) (by decide +kernel), List.mem_of_getElem? (i := 373) (by decide +kernel)⟩
theorem lw_p27 : lw_okq (⟨"SilverFleets$Fleet", "takenOf", "(II)I"⟩, 5) := ⟨⟨by decide +kernel, by decide +kernel⟩, List.mem_of_getElem? (i := 129) (by decide +kernel), List.mem_of_getElem? (i := 376) (by decide +kernel), List.mem_of_getElem? (i := 377) (by decide +kernel)⟩
theorem lw_p28 : lw_okq (⟨"SilverFleets$Log", "silverOf", "(I)I"⟩, 4) := ⟨⟨by decide +kernel, by decide +kernel⟩, List.mem_of_getElem? (i := 108) (by decide +kernel), List.mem_of_getElem? (i := 381) (by decide +kernel), List.mem_of_getElem? (i := 382) (by decide +kernel)⟩
theorem lw_p29 : lw_okq (⟨"SilverFleets", "sailOne", "(IZI)I"⟩, 9) := ⟨⟨by decide +kernel, by decide +kernel⟩, List.mem_of_getElem? (i := 12) (by decide +kernel), List.mem_of_getElem? (i := 385) (by decide +kernel), List.mem_of_getElem? (i := 386) (by decide +kernel)⟩
theorem lw_p30 : lw_okq (⟨"SilverFleets$Log", "goBack", "()V"⟩, 4) := ⟨⟨by decide +kernel, by decide +kernel⟩, List.mem_of_getElem? (i := 108) (by decide +kernel), List.mem_of_getElem? (i := 421) (by decide +kernel), List.mem_of_getElem? (i := 422) (by decide +kernel)⟩
theorem lw_p31 : lw_okq (⟨"SilverFleets$Fleet", "inPort", "()I"⟩, 5) := ⟨⟨by decide +kernel, by decide +kernel⟩, List.mem_of_getElem? (i := 129) (by decide +kernel), List.mem_of_getElem? (i := 429) (by decide +kernel), List.mem_of_getElem? (i := 430) (by decide +kernel)⟩
def lw_privs_2 : List (MethodName × Nat) := [(⟨"SilverFleets$Season", "hasWeek", "(I)Z"⟩, 10), (⟨"SilverFleets$Season", "hasShip", "(I)Z"⟩, 10), (⟨"SilverFleets$Log", "listedOf", "(I)I"⟩, 4), (⟨"SilverFleets$Log", "hiddenOf", "(I)I"⟩, 4), (⟨"SilverFleets$Log", "placeOf", "(I)I"⟩, 4), (⟨"SilverFleets", "isOver", "()Z"⟩, 9), (⟨"SilverFleets$Log", "theWeek", "()I"⟩, 4), (⟨"SilverFleets$Log", "remember", "()V"⟩, 4), (⟨"SilverFleets$Season", "hasSet", "(I)Z"⟩, 10), (⟨"SilverFleets", "canSail", "(I)Z"⟩, 9), (⟨"SilverFleets$Log", "isInPort", "(I)Z"⟩, 4), (⟨"SilverFleets$Fleet", "takenOf", "(II)I"⟩, 5), (⟨"SilverFleets$Log", "silverOf", "(I)I"⟩, 4), (⟨"SilverFleets", "sailOne", "(IZI)I"⟩, 9), (⟨"SilverFleets$Log", "goBack", "()V"⟩, 4), (⟨"SilverFleets$Fleet", "inPort", "()I"⟩, 5)]
theorem lw_r2 : ∀ q ∈ lw_privs_2, lw_okq q := List.forall_mem_cons.mpr ⟨lw_p16, List.forall_mem_cons.mpr ⟨lw_p17, List.forall_mem_cons.mpr ⟨lw_p18, List.forall_mem_cons.mpr ⟨lw_p19, List.forall_mem_cons.mpr ⟨lw_p20, List.forall_mem_cons.mpr ⟨lw_p21, List.forall_mem_cons.mpr ⟨lw_p22, List.forall_mem_cons.mpr ⟨lw_p23, List.forall_mem_cons.mpr ⟨lw_p24, List.forall_mem_cons.mpr ⟨lw_p25, List.forall_mem_cons.mpr ⟨lw_p26, List.forall_mem_cons.mpr ⟨lw_p27, List.forall_mem_cons.mpr ⟨lw_p28, List.forall_mem_cons.mpr ⟨lw_p29, List.forall_mem_cons.mpr ⟨lw_p30, List.forall_mem_cons.mpr ⟨lw_p31, fun _ h => absurd h List.not_mem_nil⟩⟩⟩⟩⟩⟩⟩⟩⟩⟩⟩⟩⟩⟩⟩⟩
theorem lw_p32 : lw_okq (⟨"SilverFleets$Fleet", "silverOnTheReef", "()I"⟩, 5) := ⟨⟨by decide +kernel, by decide +kernel⟩, List.mem_of_getElem? (i := 129) (by decide +kernel), List.mem_of_getElem? (i := 434) (by decide +kernel), List.mem_of_getElem? (i := 435) (by decide +kernel)⟩
theorem lw_p33 : lw_okq (⟨"SilverFleets$Fleet", "worthOf", "(II)I"⟩, 5) := ⟨⟨by decide +kernel, by decide +kernel⟩, List.mem_of_getElem? (i := 129) (by decide +kernel), List.mem_of_getElem? (i := 443) (by decide +kernel), List.mem_of_getElem? (i := 444) (by decide +kernel)⟩
theorem lw_p34 : lw_okq (⟨"SilverFleets$Fleet", "silverTogether", "(I)I"⟩, 5) := ⟨⟨by decide +kernel, by decide +kernel⟩, List.mem_of_getElem? (i := 129) (by decide +kernel), List.mem_of_getElem? (i := 448) (by decide +kernel), List.mem_of_getElem? (i := 449) (by decide +kernel)⟩
theorem lw_p35 : lw_okq (⟨"SilverFleets$Planner", "mostFrom", "(I)I"⟩, 6) := ⟨⟨by decide +kernel, by decide +kernel⟩, List.mem_of_getElem? (i := 153) (by decide +kernel), List.mem_of_getElem? (i := 456) (by decide +kernel), List.mem_of_getElem? (i := 457) (by decide +kernel)⟩
theorem lw_p36 : lw_okq (⟨"SilverFleets$Planner", "reckonFrom", "(I)V"⟩, 6) := ⟨⟨by decide +kernel, by decide +kernel⟩, List.mem_of_getElem? (i := 153) (by decide +kernel), List.mem_of_getElem? (i := 460) (by decide +kernel), List.mem_of_getElem? (i := 461) (by decide +kernel)⟩
theorem lw_p37 : lw_okq (⟨"SilverFleets$Fleet", "readyIn", "(I)I"⟩, 5) := ⟨⟨by decide +kernel, by decide +kernel⟩, List.mem_of_getElem? (i := 129) (by decide +kernel), List.mem_of_getElem? (i := 465) (by decide +kernel), List.mem_of_getElem? (i := 466) (by decide +kernel)⟩
theorem lw_p38 : lw_okq (⟨"SilverFleets$Planner", "reckonWorths", "(II)V"⟩, 6) := ⟨⟨by decide +kernel, by decide +kernel⟩, List.mem_of_getElem? (i := 153) (by decide +kernel), List.mem_of_getElem? (i := 469) (by decide +kernel), List.mem_of_getElem? (i := 470) (by decide +kernel)⟩
theorem lw_p39 : lw_okq (⟨"SilverFleets$Planner", "choose", "(III)V"⟩, 6) := ⟨⟨by decide +kernel, by decide +kernel⟩, List.mem_of_getElem? (i := 153) (by decide +kernel), List.mem_of_getElem? (i := 474) (by decide +kernel), List.mem_of_getElem? (i := 475) (by decide +kernel)⟩
theorem lw_p40 : lw_okq (⟨"SilverFleets$Planner", "sailingIn", "(I)I"⟩, 6) := ⟨⟨by decide +kernel, by decide +kernel⟩, List.mem_of_getElem? (i := 153) (by decide +kernel), List.mem_of_getElem? (i := 478) (by decide +kernel), List.mem_of_getElem? (i := 479) (by decide +kernel)⟩
theorem lw_p41 : lw_okq (⟨"SilverFleets$Fleet", "reckonGame", "(III)V"⟩, 5) := ⟨⟨by decide +kernel, by decide +kernel⟩, List.mem_of_getElem? (i := 129) (by decide +kernel), List.mem_of_getElem? (i := 494) (by decide +kernel), List.mem_of_getElem? (i := 495) (by decide +kernel)⟩
theorem lw_p42 : lw_okq (⟨"SilverFleets$Fleet", "setFraction", "(II)V"⟩, 5) := ⟨⟨by decide +kernel, by decide +kernel⟩, List.mem_of_getElem? (i := 129) (by decide +kernel), List.mem_of_getElem? (i := 503) (by decide +kernel), List.mem_of_getElem? (i := 504) (by decide +kernel)⟩
theorem lw_p43 : lw_okq (⟨"SilverFleets$Fleet", "reckonOdds", "(III)V"⟩, 5) := ⟨⟨by decide +kernel, by decide +kernel⟩, List.mem_of_getElem? (i := 129) (by decide +kernel), List.mem_of_getElem? (i := 511) (by decide +kernel), List.mem_of_getElem? (i := 512) (by decide +kernel)⟩
theorem lw_p44 : lw_okq (⟨"SilverFleets$Fleet", "beginWays", "()V"⟩, 5) := ⟨⟨by decide +kernel, by decide +kernel⟩, List.mem_of_getElem? (i := 129) (by decide +kernel), List.mem_of_getElem? (i := 515) (by decide +kernel), List.mem_of_getElem? (i := 516) (by decide +kernel)⟩
theorem lw_p45 : lw_okq (⟨"SilverFleets$Fleet", "addToWays", "(I)V"⟩, 5) := ⟨⟨by decide +kernel, by decide +kernel⟩, List.mem_of_getElem? (i := 129) (by decide +kernel), List.mem_of_getElem? (i := 519) (by decide +kernel), List.mem_of_getElem? (i := 520) (by decide +kernel)⟩
theorem lw_p46 : lw_okq (⟨"SilverFleets$Fleet", "listedTogether", "(I)I"⟩, 5) := ⟨⟨by decide +kernel, by decide +kernel⟩, List.mem_of_getElem? (i := 129) (by decide +kernel), List.mem_of_getElem? (i := 527) (by decide +kernel), List.mem_of_getElem? (i := 528) (by decide +kernel)⟩
theorem lw_p47 : lw_okq (⟨"SilverFleets$Kinds", "markAs", "(II)I"⟩, 3) := ⟨⟨by decide +kernel, by decide +kernel⟩, List.mem_of_getElem? (i := 178) (by decide +kernel), List.mem_of_getElem? (i := 537) (by decide +kernel), List.mem_of_getElem? (i := 538) (by decide +kernel)⟩
def lw_privs_3 : List (MethodName × Nat) := [(⟨"SilverFleets$Fleet", "silverOnTheReef", "()I"⟩, 5), (⟨"SilverFleets$Fleet", "worthOf", "(II)I"⟩, 5), (⟨"SilverFleets$Fleet", "silverTogether", "(I)I"⟩, 5), (⟨"SilverFleets$Planner", "mostFrom", "(I)I"⟩, 6), (⟨"SilverFleets$Planner", "reckonFrom", "(I)V"⟩, 6), (⟨"SilverFleets$Fleet", "readyIn", "(I)I"⟩, 5), (⟨"SilverFleets$Planner", "reckonWorths", "(II)V"⟩, 6), (⟨"SilverFleets$Planner", "choose", "(III)V"⟩, 6), (⟨"SilverFleets$Planner", "sailingIn", "(I)I"⟩, 6), (⟨"SilverFleets$Fleet", "reckonGame", "(III)V"⟩, 5), (⟨"SilverFleets$Fleet", "setFraction", "(II)V"⟩, 5), (⟨"SilverFleets$Fleet", "reckonOdds", "(III)V"⟩, 5), (⟨"SilverFleets$Fleet", "beginWays", "()V"⟩, 5), (⟨"SilverFleets$Fleet", "addToWays", "(I)V"⟩, 5), (⟨"SilverFleets$Fleet", "listedTogether", "(I)I"⟩, 5), (⟨"SilverFleets$Kinds", "markAs", "(II)I"⟩, 3)]
theorem lw_r3 : ∀ q ∈ lw_privs_3, lw_okq q := List.forall_mem_cons.mpr ⟨lw_p32, List.forall_mem_cons.mpr ⟨lw_p33, List.forall_mem_cons.mpr ⟨lw_p34, List.forall_mem_cons.mpr ⟨lw_p35, List.forall_mem_cons.mpr ⟨lw_p36, List.forall_mem_cons.mpr ⟨lw_p37, List.forall_mem_cons.mpr ⟨lw_p38, List.forall_mem_cons.mpr ⟨lw_p39, List.forall_mem_cons.mpr ⟨lw_p40, List.forall_mem_cons.mpr ⟨lw_p41, List.forall_mem_cons.mpr ⟨lw_p42, List.forall_mem_cons.mpr ⟨lw_p43, List.forall_mem_cons.mpr ⟨lw_p44, List.forall_mem_cons.mpr ⟨lw_p45, List.forall_mem_cons.mpr ⟨lw_p46, List.forall_mem_cons.mpr ⟨lw_p47, fun _ h => absurd h List.not_mem_nil⟩⟩⟩⟩⟩⟩⟩⟩⟩⟩⟩⟩⟩⟩⟩⟩
theorem lw_p48 : lw_okq (⟨"SilverFleets$Kinds", "markShip", "(I)I"⟩, 3) := ⟨⟨by decide +kernel, by decide +kernel⟩, List.mem_of_getElem? (i := 178) (by decide +kernel), List.mem_of_getElem? (i := 541) (by decide +kernel), List.mem_of_getElem? (i := 542) (by decide +kernel)⟩
theorem lw_p49 : lw_okq (⟨"SilverFleets$Kinds", "markDecoy", "(I)I"⟩, 3) := ⟨⟨by decide +kernel, by decide +kernel⟩, List.mem_of_getElem? (i := 178) (by decide +kernel), List.mem_of_getElem? (i := 546) (by decide +kernel), List.mem_of_getElem? (i := 547) (by decide +kernel)⟩
theorem lw_p50 : lw_okq (⟨"SilverFleets$Kinds", "markSlow", "(I)I"⟩, 3) := ⟨⟨by decide +kernel, by decide +kernel⟩, List.mem_of_getElem? (i := 178) (by decide +kernel), List.mem_of_getElem? (i := 551) (by decide +kernel), List.mem_of_getElem? (i := 552) (by decide +kernel)⟩
theorem lw_p51 : lw_okq (⟨"SilverFleets$Kinds", "markChest", "(I)I"⟩, 3) := ⟨⟨by decide +kernel, by decide +kernel⟩, List.mem_of_getElem? (i := 178) (by decide +kernel), List.mem_of_getElem? (i := 556) (by decide +kernel), List.mem_of_getElem? (i := 557) (by decide +kernel)⟩
theorem lw_p52 : lw_okq (⟨"SilverFleets$Kinds", "markLetter", "(I)I"⟩, 3) := ⟨⟨by decide +kernel, by decide +kernel⟩, List.mem_of_getElem? (i := 178) (by decide +kernel), List.mem_of_getElem? (i := 561) (by decide +kernel), List.mem_of_getElem? (i := 562) (by decide +kernel)⟩
theorem lw_p53 : lw_okq (⟨"SilverFleets$Kinds", "markPilot", "(I)I"⟩, 3) := ⟨⟨by decide +kernel, by decide +kernel⟩, List.mem_of_getElem? (i := 178) (by decide +kernel), List.mem_of_getElem? (i := 566) (by decide +kernel), List.mem_of_getElem? (i := 567) (by decide +kernel)⟩
theorem lw_p54 : lw_okq (⟨"SilverFleets", "imageOf", "(I)LSilverFleets$Log;"⟩, 9) := ⟨⟨by decide +kernel, by decide +kernel⟩, List.mem_of_getElem? (i := 12) (by decide +kernel), List.mem_of_getElem? (i := 580) (by decide +kernel), List.mem_of_getElem? (i := 581) (by decide +kernel)⟩
theorem lw_p55 : lw_okq (⟨"SilverFleets$Log", "copyFrom", "(LSilverFleets$Log;)V"⟩, 4) := ⟨⟨by decide +kernel, by decide +kernel⟩, List.mem_of_getElem? (i := 108) (by decide +kernel), List.mem_of_getElem? (i := 584) (by decide +kernel), List.mem_of_getElem? (i := 585) (by decide +kernel)⟩
theorem lw_p56 : lw_okq (⟨"SilverFleetsModel", "plain", "()V"⟩, 22) := ⟨⟨by decide +kernel, by decide +kernel⟩, List.mem_of_getElem? (i := 600) (by decide +kernel), List.mem_of_getElem? (i := 606) (by decide +kernel), List.mem_of_getElem? (i := 607) (by decide +kernel)⟩
theorem lw_p57 : lw_okq (⟨"SilverFleetsModel", "takeDraft", "()V"⟩, 22) := ⟨⟨by decide +kernel, by decide +kernel⟩, List.mem_of_getElem? (i := 600) (by decide +kernel), List.mem_of_getElem? (i := 610) (by decide +kernel), List.mem_of_getElem? (i := 611) (by decide +kernel)⟩
theorem lw_p58 : lw_okq (⟨"SilverFleetsModel", "step", "()V"⟩, 22) := ⟨⟨by decide +kernel, by decide +kernel⟩, List.mem_of_getElem? (i := 600) (by decide +kernel), List.mem_of_getElem? (i := 698) (by decide +kernel), List.mem_of_getElem? (i := 699) (by decide +kernel)⟩
theorem lw_p59 : lw_okq (⟨"SilverFleetsModel", "here", "()I"⟩, 22) := ⟨⟨by decide +kernel, by decide +kernel⟩, List.mem_of_getElem? (i := 600) (by decide +kernel), List.mem_of_getElem? (i := 702) (by decide +kernel), List.mem_of_getElem? (i := 703) (by decide +kernel)⟩
theorem lw_p60 : lw_okq (⟨"SilverFleetsModel", "mayBe", "(I)Z"⟩, 22) := ⟨⟨by decide +kernel, by decide +kernel⟩, List.mem_of_getElem? (i := 600) (by decide +kernel), List.mem_of_getElem? (i := 706) (by decide +kernel), List.mem_of_getElem? (i := 707) (by decide +kernel)⟩
theorem lw_p61 : lw_okq (⟨"SilverFleetsModel", "due", "(Z)I"⟩, 22) := ⟨⟨by decide +kernel, by decide +kernel⟩, List.mem_of_getElem? (i := 600) (by decide +kernel), List.mem_of_getElem? (i := 710) (by decide +kernel), List.mem_of_getElem? (i := 711) (by decide +kernel)⟩
theorem lw_p62 : lw_okq (⟨"SilverFleetsModel", "readRow", "(I)V"⟩, 22) := ⟨⟨by decide +kernel, by decide +kernel⟩, List.mem_of_getElem? (i := 600) (by decide +kernel), List.mem_of_getElem? (i := 714) (by decide +kernel), List.mem_of_getElem? (i := 715) (by decide +kernel)⟩
theorem lw_p63 : lw_okq (⟨"SilverFleetsModel", "number", "(II)I"⟩, 22) := ⟨⟨by decide +kernel, by decide +kernel⟩, List.mem_of_getElem? (i := 600) (by decide +kernel), List.mem_of_getElem? (i := 718) (by decide +kernel), List.mem_of_getElem? (i := 719) (by decide +kernel)⟩
def lw_privs_4 : List (MethodName × Nat) := [(⟨"SilverFleets$Kinds", "markShip", "(I)I"⟩, 3), (⟨"SilverFleets$Kinds", "markDecoy", "(I)I"⟩, 3), (⟨"SilverFleets$Kinds", "markSlow", "(I)I"⟩, 3), (⟨"SilverFleets$Kinds", "markChest", "(I)I"⟩, 3), (⟨"SilverFleets$Kinds", "markLetter", "(I)I"⟩, 3), (⟨"SilverFleets$Kinds", "markPilot", "(I)I"⟩, 3), (⟨"SilverFleets", "imageOf", "(I)LSilverFleets$Log;"⟩, 9), (⟨"SilverFleets$Log", "copyFrom", "(LSilverFleets$Log;)V"⟩, 4), (⟨"SilverFleetsModel", "plain", "()V"⟩, 22), (⟨"SilverFleetsModel", "takeDraft", "()V"⟩, 22), (⟨"SilverFleetsModel", "step", "()V"⟩, 22), (⟨"SilverFleetsModel", "here", "()I"⟩, 22), (⟨"SilverFleetsModel", "mayBe", "(I)Z"⟩, 22), (⟨"SilverFleetsModel", "due", "(Z)I"⟩, 22), (⟨"SilverFleetsModel", "readRow", "(I)V"⟩, 22), (⟨"SilverFleetsModel", "number", "(II)I"⟩, 22)]
theorem lw_r4 : ∀ q ∈ lw_privs_4, lw_okq q := List.forall_mem_cons.mpr ⟨lw_p48, List.forall_mem_cons.mpr ⟨lw_p49, List.forall_mem_cons.mpr ⟨lw_p50, List.forall_mem_cons.mpr ⟨lw_p51, List.forall_mem_cons.mpr ⟨lw_p52, List.forall_mem_cons.mpr ⟨lw_p53, List.forall_mem_cons.mpr ⟨lw_p54, List.forall_mem_cons.mpr ⟨lw_p55, List.forall_mem_cons.mpr ⟨lw_p56, List.forall_mem_cons.mpr ⟨lw_p57, List.forall_mem_cons.mpr ⟨lw_p58, List.forall_mem_cons.mpr ⟨lw_p59, List.forall_mem_cons.mpr ⟨lw_p60, List.forall_mem_cons.mpr ⟨lw_p61, List.forall_mem_cons.mpr ⟨lw_p62, List.forall_mem_cons.mpr ⟨lw_p63, fun _ h => absurd h List.not_mem_nil⟩⟩⟩⟩⟩⟩⟩⟩⟩⟩⟩⟩⟩⟩⟩⟩
theorem lw_p64 : lw_okq (⟨"SilverFleetsModel", "isWeek", "(I)Z"⟩, 22) := ⟨⟨by decide +kernel, by decide +kernel⟩, List.mem_of_getElem? (i := 600) (by decide +kernel), List.mem_of_getElem? (i := 726) (by decide +kernel), List.mem_of_getElem? (i := 727) (by decide +kernel)⟩
theorem lw_p65 : lw_okq (⟨"SilverFleetsModel", "isShip", "(I)Z"⟩, 22) := ⟨⟨by decide +kernel, by decide +kernel⟩, List.mem_of_getElem? (i := 600) (by decide +kernel), List.mem_of_getElem? (i := 734) (by decide +kernel), List.mem_of_getElem? (i := 735) (by decide +kernel)⟩
theorem lw_p66 : lw_okq (⟨"SilverFleetsModel", "isOver", "()Z"⟩, 22) := ⟨⟨by decide +kernel, by decide +kernel⟩, List.mem_of_getElem? (i := 600) (by decide +kernel), List.mem_of_getElem? (i := 742) (by decide +kernel), List.mem_of_getElem? (i := 743) (by decide +kernel)⟩
theorem lw_p67 : lw_okq (⟨"SilverFleetsModel", "know", "()V"⟩, 22) := ⟨⟨by decide +kernel, by decide +kernel⟩, List.mem_of_getElem? (i := 600) (by decide +kernel), List.mem_of_getElem? (i := 746) (by decide +kernel), List.mem_of_getElem? (i := 747) (by decide +kernel)⟩
theorem lw_p68 : lw_okq (⟨"SilverFleetsModel", "all", "()I"⟩, 22) := ⟨⟨by decide +kernel, by decide +kernel⟩, List.mem_of_getElem? (i := 600) (by decide +kernel), List.mem_of_getElem? (i := 754) (by decide +kernel), List.mem_of_getElem? (i := 755) (by decide +kernel)⟩
theorem lw_p69 : lw_okq (⟨"SilverFleetsModel", "canSail", "(I)Z"⟩, 22) := ⟨⟨by decide +kernel, by decide +kernel⟩, List.mem_of_getElem? (i := 600) (by decide +kernel), List.mem_of_getElem? (i := 758) (by decide +kernel), List.mem_of_getElem? (i := 759) (by decide +kernel)⟩
theorem lw_p70 : lw_okq (⟨"SilverFleetsModel", "setIn", "(I)I"⟩, 22) := ⟨⟨by decide +kernel, by decide +kernel⟩, List.mem_of_getElem? (i := 600) (by decide +kernel), List.mem_of_getElem? (i := 762) (by decide +kernel), List.mem_of_getElem? (i := 763) (by decide +kernel)⟩
theorem lw_p71 : lw_okq (⟨"SilverFleetsModel", "takenOf", "(II)I"⟩, 22) := ⟨⟨by decide +kernel, by decide +kernel⟩, List.mem_of_getElem? (i := 600) (by decide +kernel), List.mem_of_getElem? (i := 766) (by decide +kernel), List.mem_of_getElem? (i := 767) (by decide +kernel)⟩
theorem lw_p72 : lw_okq (⟨"SilverFleetsModel", "silver", "(I)I"⟩, 22) := ⟨⟨by decide +kernel, by decide +kernel⟩, List.mem_of_getElem? (i := 600) (by decide +kernel), List.mem_of_getElem? (i := 770) (by decide +kernel), List.mem_of_getElem? (i := 771) (by decide +kernel)⟩
theorem lw_p73 : lw_okq (⟨"SilverFleetsModel", "draw", "(II)I"⟩, 22) := ⟨⟨by decide +kernel, by decide +kernel⟩, List.mem_of_getElem? (i := 600) (by decide +kernel), List.mem_of_getElem? (i := 774) (by decide +kernel), List.mem_of_getElem? (i := 775) (by decide +kernel)⟩
theorem lw_p74 : lw_okq (⟨"SilverFleetsModel", "shift", "(IIII)I"⟩, 22) := ⟨⟨by decide +kernel, by decide +kernel⟩, List.mem_of_getElem? (i := 600) (by decide +kernel), List.mem_of_getElem? (i := 786) (by decide +kernel), List.mem_of_getElem? (i := 787) (by decide +kernel)⟩
theorem lw_p75 : lw_okq (⟨"SilverFleetsModel", "silverOf", "(I)I"⟩, 22) := ⟨⟨by decide +kernel, by decide +kernel⟩, List.mem_of_getElem? (i := 600) (by decide +kernel), List.mem_of_getElem? (i := 810) (by decide +kernel), List.mem_of_getElem? (i := 811) (by decide +kernel)⟩
theorem lw_p76 : lw_okq (⟨"SilverFleetsModel", "worthOf", "(II)I"⟩, 22) := ⟨⟨by decide +kernel, by decide +kernel⟩, List.mem_of_getElem? (i := 600) (by decide +kernel), List.mem_of_getElem? (i := 818) (by decide +kernel), List.mem_of_getElem? (i := 819) (by decide +kernel)⟩
theorem lw_p77 : lw_okq (⟨"SilverFleetsModel", "measure", "(I)V"⟩, 22) := ⟨⟨by decide +kernel, by decide +kernel⟩, List.mem_of_getElem? (i := 600) (by decide +kernel), List.mem_of_getElem? (i := 826) (by decide +kernel), List.mem_of_getElem? (i := 827) (by decide +kernel)⟩
theorem lw_p78 : lw_okq (⟨"SilverFleetsModel", "mayGo", "(II)Z"⟩, 22) := ⟨⟨by decide +kernel, by decide +kernel⟩, List.mem_of_getElem? (i := 600) (by decide +kernel), List.mem_of_getElem? (i := 830) (by decide +kernel), List.mem_of_getElem? (i := 831) (by decide +kernel)⟩
def lw_privs_5 : List (MethodName × Nat) := [(⟨"SilverFleetsModel", "isWeek", "(I)Z"⟩, 22), (⟨"SilverFleetsModel", "isShip", "(I)Z"⟩, 22), (⟨"SilverFleetsModel", "isOver", "()Z"⟩, 22), (⟨"SilverFleetsModel", "know", "()V"⟩, 22), (⟨"SilverFleetsModel", "all", "()I"⟩, 22), (⟨"SilverFleetsModel", "canSail", "(I)Z"⟩, 22), (⟨"SilverFleetsModel", "setIn", "(I)I"⟩, 22), (⟨"SilverFleetsModel", "takenOf", "(II)I"⟩, 22), (⟨"SilverFleetsModel", "silver", "(I)I"⟩, 22), (⟨"SilverFleetsModel", "draw", "(II)I"⟩, 22), (⟨"SilverFleetsModel", "shift", "(IIII)I"⟩, 22), (⟨"SilverFleetsModel", "silverOf", "(I)I"⟩, 22), (⟨"SilverFleetsModel", "worthOf", "(II)I"⟩, 22), (⟨"SilverFleetsModel", "measure", "(I)V"⟩, 22), (⟨"SilverFleetsModel", "mayGo", "(II)Z"⟩, 22)]
theorem lw_r5 : ∀ q ∈ lw_privs_5, lw_okq q := List.forall_mem_cons.mpr ⟨lw_p64, List.forall_mem_cons.mpr ⟨lw_p65, List.forall_mem_cons.mpr ⟨lw_p66, List.forall_mem_cons.mpr ⟨lw_p67, List.forall_mem_cons.mpr ⟨lw_p68, List.forall_mem_cons.mpr ⟨lw_p69, List.forall_mem_cons.mpr ⟨lw_p70, List.forall_mem_cons.mpr ⟨lw_p71, List.forall_mem_cons.mpr ⟨lw_p72, List.forall_mem_cons.mpr ⟨lw_p73, List.forall_mem_cons.mpr ⟨lw_p74, List.forall_mem_cons.mpr ⟨lw_p75, List.forall_mem_cons.mpr ⟨lw_p76, List.forall_mem_cons.mpr ⟨lw_p77, List.forall_mem_cons.mpr ⟨lw_p78, fun _ h => absurd h List.not_mem_nil⟩⟩⟩⟩⟩⟩⟩⟩⟩⟩⟩⟩⟩⟩⟩
def lw_privs : List (MethodName × Nat) := lw_privs_1 ++ (lw_privs_2 ++ (lw_privs_3 ++ (lw_privs_4 ++ (lw_privs_5))))
def lw_tbl : List Cond := k2_sels lw_privs ++ tables_1
theorem lw_privs_ok : ∀ q ∈ lw_privs, lw_okq q := by
  show ∀ q ∈ lw_privs_1 ++ (lw_privs_2 ++ (lw_privs_3 ++ (lw_privs_4 ++ (lw_privs_5)))), lw_okq q
  exact List.forall_mem_append.mpr ⟨lw_r1, List.forall_mem_append.mpr ⟨lw_r2, List.forall_mem_append.mpr ⟨lw_r3, List.forall_mem_append.mpr ⟨lw_r4, lw_r5⟩⟩⟩⟩
-- ===== names (out of the printed names) =====
def RX0 : String := "SilverFleets$Fleet"
def TX0 : u_T := fun k => match k with
  | 0 => ("SilverFleets$Fleet", "season", "LSilverFleets$Season;", true)
  | 1 => ("SilverFleets$Fleet", "log", "LSilverFleets$Log;", true)
  | 2 => ("SilverFleets$Fleet", "ways", "[I", true)
  | 3 => ("SilverFleets$Fleet", "upper", "I", false)
  | _ => ("SilverFleets$Fleet", "lower", "I", false)
def tyX0 : Nat → FieldType := fun k => match k with
  | 0 => .object "SilverFleets$Season"
  | 1 => .object "SilverFleets$Log"
  | 2 => .array .int
  | 3 => .int
  | _ => .int
theorem nmX0 : ∀ a, a < 5 → ∀ b, b < 5 → a ≠ b → (TX0 a).2.1 ≠ (TX0 b).2.1 := by decide +kernel
theorem tyX0_ok : ∀ k, k < 5 → parseFieldDescriptor (TX0 k).2.2.1 = some (tyX0 k) := by decide +kernel
abbrev cX0_init : ByteArray := prog_2_method_1_code
def yX0_init : MethodName := ⟨RX0, "<init>", "(LSilverFleets$Season;LSilverFleets$Log;)V"⟩
abbrev cX0_inPort : ByteArray := prog_2_method_2_code
def yX0_inPort : MethodName := ⟨RX0, "inPort", "()I"⟩
abbrev cX0_readyIn : ByteArray := prog_2_method_3_code
def yX0_readyIn : MethodName := ⟨RX0, "readyIn", "(I)I"⟩
abbrev cX0_silverOnTheReef : ByteArray := prog_2_method_4_code
def yX0_silverOnTheReef : MethodName := ⟨RX0, "silverOnTheReef", "()I"⟩
abbrev cX0_listedTogether : ByteArray := prog_2_method_5_code
def yX0_listedTogether : MethodName := ⟨RX0, "listedTogether", "(I)I"⟩
abbrev cX0_silverTogether : ByteArray := prog_2_method_6_code
def yX0_silverTogether : MethodName := ⟨RX0, "silverTogether", "(I)I"⟩
abbrev cX0_takenOf : ByteArray := prog_2_method_7_code
def yX0_takenOf : MethodName := ⟨RX0, "takenOf", "(II)I"⟩
abbrev cX0_worthOf : ByteArray := prog_2_method_8_code
def yX0_worthOf : MethodName := ⟨RX0, "worthOf", "(II)I"⟩
abbrev cX0_reckonGame : ByteArray := prog_2_method_9_code
def yX0_reckonGame : MethodName := ⟨RX0, "reckonGame", "(III)V"⟩
abbrev cX0_reckonOdds : ByteArray := prog_2_method_10_code
def yX0_reckonOdds : MethodName := ⟨RX0, "reckonOdds", "(III)V"⟩
abbrev cX0_beginWays : ByteArray := prog_2_method_11_code
def yX0_beginWays : MethodName := ⟨RX0, "beginWays", "()V"⟩
abbrev cX0_addToWays : ByteArray := prog_2_method_12_code
def yX0_addToWays : MethodName := ⟨RX0, "addToWays", "(I)V"⟩
abbrev cX0_setFraction : ByteArray := prog_2_method_13_code
def yX0_setFraction : MethodName := ⟨RX0, "setFraction", "(II)V"⟩
def RX1 : String := "SilverFleets$Kinds"
def TX1 : u_T := fun k => match k with
  | 0 => ("SilverFleets$Kinds", "season", "LSilverFleets$Season;", true)
  | 1 => ("SilverFleets$Kinds", "log", "LSilverFleets$Log;", true)
  | _ => ("SilverFleets$Kinds", "trace", "J", false)
def tyX1 : Nat → FieldType := fun k => match k with
  | 0 => .object "SilverFleets$Season"
  | 1 => .object "SilverFleets$Log"
  | _ => .long
theorem nmX1 : ∀ a, a < 3 → ∀ b, b < 3 → a ≠ b → (TX1 a).2.1 ≠ (TX1 b).2.1 := by decide +kernel
theorem tyX1_ok : ∀ k, k < 3 → parseFieldDescriptor (TX1 k).2.2.1 = some (tyX1 k) := by decide +kernel
abbrev cX1_init : ByteArray := prog_3_method_1_code
def yX1_init : MethodName := ⟨RX1, "<init>", "(LSilverFleets$Season;LSilverFleets$Log;)V"⟩
abbrev cX1_markAs : ByteArray := prog_3_method_2_code
def yX1_markAs : MethodName := ⟨RX1, "markAs", "(II)I"⟩
abbrev cX1_markShip : ByteArray := prog_3_method_3_code
def yX1_markShip : MethodName := ⟨RX1, "markShip", "(I)I"⟩
abbrev cX1_markDecoy : ByteArray := prog_3_method_4_code
def yX1_markDecoy : MethodName := ⟨RX1, "markDecoy", "(I)I"⟩
abbrev cX1_markSlow : ByteArray := prog_3_method_5_code
def yX1_markSlow : MethodName := ⟨RX1, "markSlow", "(I)I"⟩
abbrev cX1_markChest : ByteArray := prog_3_method_6_code
def yX1_markChest : MethodName := ⟨RX1, "markChest", "(I)I"⟩
abbrev cX1_markLetter : ByteArray := prog_3_method_7_code
def yX1_markLetter : MethodName := ⟨RX1, "markLetter", "(I)I"⟩
abbrev cX1_markPilot : ByteArray := prog_3_method_8_code
def yX1_markPilot : MethodName := ⟨RX1, "markPilot", "(I)I"⟩
def RX2 : String := "SilverFleets$Log"
def TX2 : u_T := fun k => match k with
  | 0 => ("SilverFleets$Log", "now", "[I", true)
  | 1 => ("SilverFleets$Log", "past", "[I", true)
  | 2 => ("SilverFleets$Log", "known", "I", false)
  | _ => ("SilverFleets$Log", "kept", "Z", false)
def tyX2 : Nat → FieldType := fun k => match k with
  | 0 => .array .int
  | 1 => .array .int
  | 2 => .int
  | _ => .boolean
theorem nmX2 : ∀ a, a < 4 → ∀ b, b < 4 → a ≠ b → (TX2 a).2.1 ≠ (TX2 b).2.1 := by decide +kernel
theorem tyX2_ok : ∀ k, k < 4 → parseFieldDescriptor (TX2 k).2.2.1 = some (tyX2 k) := by decide +kernel
abbrev cX2_init : ByteArray := prog_4_method_1_code
def yX2_init : MethodName := ⟨RX2, "<init>", "()V"⟩
abbrev cX2_beginWith : ByteArray := prog_4_method_2_code
def yX2_beginWith : MethodName := ⟨RX2, "beginWith", "(LSilverFleets$Season;)V"⟩
abbrev cX2_remember : ByteArray := prog_4_method_3_code
def yX2_remember : MethodName := ⟨RX2, "remember", "()V"⟩
abbrev cX2_goBack : ByteArray := prog_4_method_4_code
def yX2_goBack : MethodName := ⟨RX2, "goBack", "()V"⟩
abbrev cX2_copyFrom : ByteArray := prog_4_method_5_code
def yX2_copyFrom : MethodName := ⟨RX2, "copyFrom", "(LSilverFleets$Log;)V"⟩
abbrev cX2_theWeek : ByteArray := prog_4_method_6_code
def yX2_theWeek : MethodName := ⟨RX2, "theWeek", "()I"⟩
abbrev cX2_placeOf : ByteArray := prog_4_method_7_code
def yX2_placeOf : MethodName := ⟨RX2, "placeOf", "(I)I"⟩
abbrev cX2_isInPort : ByteArray := prog_4_method_8_code
def yX2_isInPort : MethodName := ⟨RX2, "isInPort", "(I)Z"⟩
abbrev cX2_listedOf : ByteArray := prog_4_method_9_code
def yX2_listedOf : MethodName := ⟨RX2, "listedOf", "(I)I"⟩
abbrev cX2_hiddenOf : ByteArray := prog_4_method_10_code
def yX2_hiddenOf : MethodName := ⟨RX2, "hiddenOf", "(I)I"⟩
abbrev cX2_silverOf : ByteArray := prog_4_method_11_code
def yX2_silverOf : MethodName := ⟨RX2, "silverOf", "(I)I"⟩
abbrev cX2_setBars : ByteArray := prog_4_method_12_code
def yX2_setBars : MethodName := ⟨RX2, "setBars", "(III)V"⟩
def RX3 : String := "SilverFleets$Planner"
def TX3 : u_T := fun k => match k with
  | 0 => ("SilverFleets$Planner", "season", "LSilverFleets$Season;", true)
  | 1 => ("SilverFleets$Planner", "log", "LSilverFleets$Log;", true)
  | 2 => ("SilverFleets$Planner", "fleet", "LSilverFleets$Fleet;", true)
  | 3 => ("SilverFleets$Planner", "best", "[I", true)
  | 4 => ("SilverFleets$Planner", "choice", "[I", true)
  | _ => ("SilverFleets$Planner", "worths", "[I", true)
def tyX3 : Nat → FieldType := fun k => match k with
  | 0 => .object "SilverFleets$Season"
  | 1 => .object "SilverFleets$Log"
  | 2 => .object "SilverFleets$Fleet"
  | 3 => .array .int
  | 4 => .array .int
  | _ => .array .int
theorem nmX3 : ∀ a, a < 6 → ∀ b, b < 6 → a ≠ b → (TX3 a).2.1 ≠ (TX3 b).2.1 := by decide +kernel
theorem tyX3_ok : ∀ k, k < 6 → parseFieldDescriptor (TX3 k).2.2.1 = some (tyX3 k) := by decide +kernel
abbrev cX3_init : ByteArray := prog_5_method_1_code
def yX3_init : MethodName := ⟨RX3, "<init>", "(LSilverFleets$Season;LSilverFleets$Log;LSilverFleets$Fleet;)V"⟩
abbrev cX3_mostFrom : ByteArray := prog_5_method_2_code
def yX3_mostFrom : MethodName := ⟨RX3, "mostFrom", "(I)I"⟩
abbrev cX3_sailingIn : ByteArray := prog_5_method_3_code
def yX3_sailingIn : MethodName := ⟨RX3, "sailingIn", "(I)I"⟩
abbrev cX3_reckonFrom : ByteArray := prog_5_method_4_code
def yX3_reckonFrom : MethodName := ⟨RX3, "reckonFrom", "(I)V"⟩
abbrev cX3_reckonWorths : ByteArray := prog_5_method_5_code
def yX3_reckonWorths : MethodName := ⟨RX3, "reckonWorths", "(II)V"⟩
abbrev cX3_choose : ByteArray := prog_5_method_6_code
def yX3_choose : MethodName := ⟨RX3, "choose", "(III)V"⟩
def RX4 : String := "SilverFleets$Season"
def TX4 : u_T := fun k => match k with
  | 0 => ("SilverFleets$Season", "storm", "[I", true)
  | 1 => ("SilverFleets$Season", "pirates", "[I", true)
  | 2 => ("SilverFleets$Season", "listed", "[I", true)
  | 3 => ("SilverFleets$Season", "hidden", "[I", true)
  | 4 => ("SilverFleets$Season", "guns", "[I", true)
  | 5 => ("SilverFleets$Season", "ready", "[I", true)
  | 6 => ("SilverFleets$Season", "weeks", "I", false)
  | 7 => ("SilverFleets$Season", "ships", "I", false)
  | 8 => ("SilverFleets$Season", "share", "I", false)
  | _ => ("SilverFleets$Season", "shareTold", "Z", false)
def tyX4 : Nat → FieldType := fun k => match k with
  | 0 => .array .int
  | 1 => .array .int
  | 2 => .array .int
  | 3 => .array .int
  | 4 => .array .int
  | 5 => .array .int
  | 6 => .int
  | 7 => .int
  | 8 => .int
  | _ => .boolean
theorem nmX4 : ∀ a, a < 10 → ∀ b, b < 10 → a ≠ b → (TX4 a).2.1 ≠ (TX4 b).2.1 := by decide +kernel
theorem tyX4_ok : ∀ k, k < 10 → parseFieldDescriptor (TX4 k).2.2.1 = some (tyX4 k) := by decide +kernel
abbrev cX4_init : ByteArray := prog_6_method_1_code
def yX4_init : MethodName := ⟨RX4, "<init>", "()V"⟩
abbrev cX4_forgetAll : ByteArray := prog_6_method_2_code
def yX4_forgetAll : MethodName := ⟨RX4, "forgetAll", "()V"⟩
abbrev cX4_canTake : ByteArray := prog_6_method_3_code
def yX4_canTake : MethodName := ⟨RX4, "canTake", "(I)Z"⟩
abbrev cX4_addWeek : ByteArray := prog_6_method_4_code
def yX4_addWeek : MethodName := ⟨RX4, "addWeek", "(II)V"⟩
abbrev cX4_addShip : ByteArray := prog_6_method_5_code
def yX4_addShip : MethodName := ⟨RX4, "addShip", "(IIII)V"⟩
abbrev cX4_setShare : ByteArray := prog_6_method_6_code
def yX4_setShare : MethodName := ⟨RX4, "setShare", "(I)V"⟩
abbrev cX4_copyFrom : ByteArray := prog_6_method_7_code
def yX4_copyFrom : MethodName := ⟨RX4, "copyFrom", "(LSilverFleets$Season;)V"⟩
abbrev cX4_hasWeek : ByteArray := prog_6_method_8_code
def yX4_hasWeek : MethodName := ⟨RX4, "hasWeek", "(I)Z"⟩
abbrev cX4_hasShip : ByteArray := prog_6_method_9_code
def yX4_hasShip : MethodName := ⟨RX4, "hasShip", "(I)Z"⟩
abbrev cX4_hasSet : ByteArray := prog_6_method_10_code
def yX4_hasSet : MethodName := ⟨RX4, "hasSet", "(I)Z"⟩
def RX5 : String := "SilverFleets$Text"
def TX5 : u_T := fun k => match k with
  | 0 => ("SilverFleets$Text", "bytes", "[I", true)
  | 1 => ("SilverFleets$Text", "length", "I", false)
  | 2 => ("SilverFleets$Text", "token", "I", false)
  | 3 => ("SilverFleets$Text", "place", "I", false)
  | 4 => ("SilverFleets$Text", "end", "I", false)
  | 5 => ("SilverFleets$Text", "value", "I", false)
  | _ => ("SilverFleets$Text", "told", "[I", true)
def tyX5 : Nat → FieldType := fun k => match k with
  | 0 => .array .int
  | 1 => .int
  | 2 => .int
  | 3 => .int
  | 4 => .int
  | 5 => .int
  | _ => .array .int
theorem nmX5 : ∀ a, a < 7 → ∀ b, b < 7 → a ≠ b → (TX5 a).2.1 ≠ (TX5 b).2.1 := by decide +kernel
theorem tyX5_ok : ∀ k, k < 7 → parseFieldDescriptor (TX5 k).2.2.1 = some (tyX5 k) := by decide +kernel
abbrev cX5_init : ByteArray := prog_7_method_1_code
def yX5_init : MethodName := ⟨RX5, "<init>", "()V"⟩
abbrev cX5_readInto : ByteArray := prog_7_method_2_code
def yX5_readInto : MethodName := ⟨RX5, "readInto", "(LSilverFleets$Season;)I"⟩
abbrev cX5_readItem : ByteArray := prog_7_method_3_code
def yX5_readItem : MethodName := ⟨RX5, "readItem", "(LSilverFleets$Season;)Z"⟩
abbrev cX5_readNumbers : ByteArray := prog_7_method_4_code
def yX5_readNumbers : MethodName := ⟨RX5, "readNumbers", "([I)Z"⟩
abbrev cX5_mostOf : ByteArray := prog_7_method_5_code
def yX5_mostOf : MethodName := ⟨RX5, "mostOf", "(I)[I"⟩
abbrev cX5_scan : ByteArray := prog_7_method_6_code
def yX5_scan : MethodName := ⟨RX5, "scan", "()V"⟩
abbrev cX5_scanLetters : ByteArray := prog_7_method_7_code
def yX5_scanLetters : MethodName := ⟨RX5, "scanLetters", "()V"⟩
abbrev cX5_scanNumber : ByteArray := prog_7_method_8_code
def yX5_scanNumber : MethodName := ⟨RX5, "scanNumber", "()V"⟩
abbrev cX5_isLetterAt : ByteArray := prog_7_method_9_code
def yX5_isLetterAt : MethodName := ⟨RX5, "isLetterAt", "(I)Z"⟩
abbrev cX5_isDigitAt : ByteArray := prog_7_method_10_code
def yX5_isDigitAt : MethodName := ⟨RX5, "isDigitAt", "(I)Z"⟩
def RX6 : String := "SilverFleets"
def TX6 : u_T := fun k => match k with
  | 0 => ("SilverFleets", "text", "LSilverFleets$Text;", true)
  | 1 => ("SilverFleets", "season", "LSilverFleets$Season;", true)
  | 2 => ("SilverFleets", "draft", "LSilverFleets$Season;", true)
  | 3 => ("SilverFleets", "log", "LSilverFleets$Log;", true)
  | 4 => ("SilverFleets", "firstImage", "LSilverFleets$Log;", true)
  | 5 => ("SilverFleets", "secondImage", "LSilverFleets$Log;", true)
  | 6 => ("SilverFleets", "fleet", "LSilverFleets$Fleet;", true)
  | 7 => ("SilverFleets", "planner", "LSilverFleets$Planner;", true)
  | _ => ("SilverFleets", "kinds", "LSilverFleets$Kinds;", true)
def tyX6 : Nat → FieldType := fun k => match k with
  | 0 => .object "SilverFleets$Text"
  | 1 => .object "SilverFleets$Season"
  | 2 => .object "SilverFleets$Season"
  | 3 => .object "SilverFleets$Log"
  | 4 => .object "SilverFleets$Log"
  | 5 => .object "SilverFleets$Log"
  | 6 => .object "SilverFleets$Fleet"
  | 7 => .object "SilverFleets$Planner"
  | _ => .object "SilverFleets$Kinds"
theorem nmX6 : ∀ a, a < 9 → ∀ b, b < 9 → a ≠ b → (TX6 a).2.1 ≠ (TX6 b).2.1 := by decide +kernel
theorem tyX6_ok : ∀ k, k < 9 → parseFieldDescriptor (TX6 k).2.2.1 = some (tyX6 k) := by decide +kernel
abbrev cX6_init : ByteArray := prog_1_method_1_code
def yX6_init : MethodName := ⟨RX6, "<init>", "()V"⟩
abbrev cX6_type : ByteArray := prog_1_method_2_code
def yX6_type : MethodName := ⟨RX6, "type", "(I)I"⟩
abbrev cX6_clear : ByteArray := prog_1_method_3_code
def yX6_clear : MethodName := ⟨RX6, "clear", "()I"⟩
abbrev cX6_season : ByteArray := prog_1_method_4_code
def yX6_season : MethodName := ⟨RX6, "season", "()I"⟩
abbrev cX6_week : ByteArray := prog_1_method_5_code
def yX6_week : MethodName := ⟨RX6, "week", "(II)I"⟩
abbrev cX6_ship : ByteArray := prog_1_method_6_code
def yX6_ship : MethodName := ⟨RX6, "ship", "(II)I"⟩
abbrev cX6_waits : ByteArray := prog_1_method_7_code
def yX6_waits : MethodName := ⟨RX6, "waits", "()I"⟩
abbrev cX6_sails : ByteArray := prog_1_method_8_code
def yX6_sails : MethodName := ⟨RX6, "sails", "(II)I"⟩
abbrev cX6_lists : ByteArray := prog_1_method_9_code
def yX6_lists : MethodName := ⟨RX6, "lists", "(II)I"⟩
abbrev cX6_hides : ByteArray := prog_1_method_10_code
def yX6_hides : MethodName := ⟨RX6, "hides", "(II)I"⟩
abbrev cX6_throwsOff : ByteArray := prog_1_method_11_code
def yX6_throwsOff : MethodName := ⟨RX6, "throwsOff", "(II)I"⟩
abbrev cX6_raises : ByteArray := prog_1_method_12_code
def yX6_raises : MethodName := ⟨RX6, "raises", "(I)I"⟩
abbrev cX6_undo : ByteArray := prog_1_method_13_code
def yX6_undo : MethodName := ⟨RX6, "undo", "()I"⟩
abbrev cX6_now : ByteArray := prog_1_method_14_code
def yX6_now : MethodName := ⟨RX6, "now", "(I)I"⟩
abbrev cX6_worth : ByteArray := prog_1_method_15_code
def yX6_worth : MethodName := ⟨RX6, "worth", "(II)I"⟩
abbrev cX6_plan : ByteArray := prog_1_method_16_code
def yX6_plan : MethodName := ⟨RX6, "plan", "(I)I"⟩
abbrev cX6_late : ByteArray := prog_1_method_17_code
def yX6_late : MethodName := ⟨RX6, "late", "()I"⟩
abbrev cX6_game : ByteArray := prog_1_method_18_code
def yX6_game : MethodName := ⟨RX6, "game", "(IIII)I"⟩
abbrev cX6_odds : ByteArray := prog_1_method_19_code
def yX6_odds : MethodName := ⟨RX6, "odds", "(IIII)I"⟩
abbrev cX6_register : ByteArray := prog_1_method_20_code
def yX6_register : MethodName := ⟨RX6, "register", "(II)I"⟩
abbrev cX6_mark : ByteArray := prog_1_method_21_code
def yX6_mark : MethodName := ⟨RX6, "mark", "(II)I"⟩
abbrev cX6_keep : ByteArray := prog_1_method_22_code
def yX6_keep : MethodName := ⟨RX6, "keep", "(I)I"⟩
abbrev cX6_back : ByteArray := prog_1_method_23_code
def yX6_back : MethodName := ⟨RX6, "back", "(I)I"⟩
abbrev cX6_count : ByteArray := prog_1_method_24_code
def yX6_count : MethodName := ⟨RX6, "count", "(I)I"⟩
abbrev cX6_trace : ByteArray := prog_1_method_25_code
def yX6_trace : MethodName := ⟨RX6, "trace", "()J"⟩
abbrev cX6_isOver : ByteArray := prog_1_method_26_code
def yX6_isOver : MethodName := ⟨RX6, "isOver", "()Z"⟩
abbrev cX6_canSail : ByteArray := prog_1_method_27_code
def yX6_canSail : MethodName := ⟨RX6, "canSail", "(I)Z"⟩
abbrev cX6_sailOne : ByteArray := prog_1_method_28_code
def yX6_sailOne : MethodName := ⟨RX6, "sailOne", "(IZI)I"⟩
abbrev cX6_drawOf : ByteArray := prog_1_method_29_code
def yX6_drawOf : MethodName := ⟨RX6, "drawOf", "(III)I"⟩
abbrev cX6_isIn : ByteArray := prog_1_method_30_code
def yX6_isIn : MethodName := ⟨RX6, "isIn", "(II)Z"⟩
abbrev cX6_isNoHalf : ByteArray := prog_1_method_31_code
def yX6_isNoHalf : MethodName := ⟨RX6, "isNoHalf", "(I)Z"⟩
abbrev cX6_isImage : ByteArray := prog_1_method_32_code
def yX6_isImage : MethodName := ⟨RX6, "isImage", "(I)Z"⟩
abbrev cX6_imageOf : ByteArray := prog_1_method_33_code
def yX6_imageOf : MethodName := ⟨RX6, "imageOf", "(I)LSilverFleets$Log;"⟩
def RX7 : String := "SilverFleetsModel"
def TX7 : u_T := fun k => match k with
  | 0 => ("SilverFleetsModel", "trace", "J", false)
  | 1 => ("SilverFleetsModel", "text", "[B", true)
  | 2 => ("SilverFleetsModel", "typed", "I", false)
  | 3 => ("SilverFleetsModel", "weeks", "[I", true)
  | 4 => ("SilverFleetsModel", "storm", "[I", true)
  | 5 => ("SilverFleetsModel", "pirates", "[I", true)
  | 6 => ("SilverFleetsModel", "ships", "[I", true)
  | 7 => ("SilverFleetsModel", "draftListed", "[I", true)
  | 8 => ("SilverFleetsModel", "draftHidden", "[I", true)
  | 9 => ("SilverFleetsModel", "guns", "[I", true)
  | 10 => ("SilverFleetsModel", "ready", "[I", true)
  | 11 => ("SilverFleetsModel", "share", "[I", true)
  | 12 => ("SilverFleetsModel", "shareTold", "Z", false)
  | 13 => ("SilverFleetsModel", "at", "I", false)
  | 14 => ("SilverFleetsModel", "start", "I", false)
  | 15 => ("SilverFleetsModel", "sort", "I", false)
  | 16 => ("SilverFleetsModel", "value", "I", false)
  | 17 => ("SilverFleetsModel", "fault", "I", false)
  | 18 => ("SilverFleetsModel", "now", "[I", true)
  | 19 => ("SilverFleetsModel", "isKept", "[Z", true)
  | 20 => ("SilverFleetsModel", "most", "[I", true)
  | _ => ("SilverFleetsModel", "goes", "[I", true)
def tyX7 : Nat → FieldType := fun k => match k with
  | 0 => .long
  | 1 => .array .byte
  | 2 => .int
  | 3 => .array .int
  | 4 => .array .int
  | 5 => .array .int
  | 6 => .array .int
  | 7 => .array .int
  | 8 => .array .int
  | 9 => .array .int
  | 10 => .array .int
  | 11 => .array .int
  | 12 => .boolean
  | 13 => .int
  | 14 => .int
  | 15 => .int
  | 16 => .int
  | 17 => .int
  | 18 => .array .int
  | 19 => .array .boolean
  | 20 => .array .int
  | _ => .array .int
theorem nmX7 : ∀ a, a < 22 → ∀ b, b < 22 → a ≠ b → (TX7 a).2.1 ≠ (TX7 b).2.1 := by decide +kernel
theorem tyX7_ok : ∀ k, k < 22 → parseFieldDescriptor (TX7 k).2.2.1 = some (tyX7 k) := by decide +kernel
abbrev cX7_init : ByteArray := prog_9_method_1_code
def yX7_init : MethodName := ⟨RX7, "<init>", "()V"⟩
abbrev cX7_in : ByteArray := prog_9_method_3_code
def yX7_in : MethodName := ⟨RX7, "in", "(III)Z"⟩
abbrev cX7_type : ByteArray := prog_9_method_4_code
def yX7_type : MethodName := ⟨RX7, "type", "(I)I"⟩
abbrev cX7_clear : ByteArray := prog_9_method_5_code
def yX7_clear : MethodName := ⟨RX7, "clear", "()I"⟩
abbrev cX7_here : ByteArray := prog_9_method_6_code
def yX7_here : MethodName := ⟨RX7, "here", "()I"⟩
abbrev cX7_step : ByteArray := prog_9_method_7_code
def yX7_step : MethodName := ⟨RX7, "step", "()V"⟩
abbrev cX7_due : ByteArray := prog_9_method_8_code
def yX7_due : MethodName := ⟨RX7, "due", "(Z)I"⟩
abbrev cX7_number : ByteArray := prog_9_method_9_code
def yX7_number : MethodName := ⟨RX7, "number", "(II)I"⟩
abbrev cX7_mayBe : ByteArray := prog_9_method_10_code
def yX7_mayBe : MethodName := ⟨RX7, "mayBe", "(I)Z"⟩
abbrev cX7_readRow : ByteArray := prog_9_method_11_code
def yX7_readRow : MethodName := ⟨RX7, "readRow", "(I)V"⟩
abbrev cX7_plain : ByteArray := prog_9_method_12_code
def yX7_plain : MethodName := ⟨RX7, "plain", "()V"⟩
abbrev cX7_takeDraft : ByteArray := prog_9_method_13_code
def yX7_takeDraft : MethodName := ⟨RX7, "takeDraft", "()V"⟩
abbrev cX7_season : ByteArray := prog_9_method_14_code
def yX7_season : MethodName := ⟨RX7, "season", "()I"⟩
abbrev cX7_isWeek : ByteArray := prog_9_method_15_code
def yX7_isWeek : MethodName := ⟨RX7, "isWeek", "(I)Z"⟩
abbrev cX7_isShip : ByteArray := prog_9_method_16_code
def yX7_isShip : MethodName := ⟨RX7, "isShip", "(I)Z"⟩
abbrev cX7_all : ByteArray := prog_9_method_17_code
def yX7_all : MethodName := ⟨RX7, "all", "()I"⟩
abbrev cX7_isOver : ByteArray := prog_9_method_18_code
def yX7_isOver : MethodName := ⟨RX7, "isOver", "()Z"⟩
abbrev cX7_silver : ByteArray := prog_9_method_19_code
def yX7_silver : MethodName := ⟨RX7, "silver", "(I)I"⟩
abbrev cX7_manyOf : ByteArray := prog_9_method_20_code
def yX7_manyOf : MethodName := ⟨RX7, "manyOf", "(I)I"⟩
abbrev cX7_setIn : ByteArray := prog_9_method_21_code
def yX7_setIn : MethodName := ⟨RX7, "setIn", "(I)I"⟩
abbrev cX7_silverOf : ByteArray := prog_9_method_22_code
def yX7_silverOf : MethodName := ⟨RX7, "silverOf", "(I)I"⟩
abbrev cX7_takenOf : ByteArray := prog_9_method_23_code
def yX7_takenOf : MethodName := ⟨RX7, "takenOf", "(II)I"⟩
abbrev cX7_week : ByteArray := prog_9_method_24_code
def yX7_week : MethodName := ⟨RX7, "week", "(II)I"⟩
abbrev cX7_ship : ByteArray := prog_9_method_25_code
def yX7_ship : MethodName := ⟨RX7, "ship", "(II)I"⟩
abbrev cX7_know : ByteArray := prog_9_method_26_code
def yX7_know : MethodName := ⟨RX7, "know", "()V"⟩
abbrev cX7_waits : ByteArray := prog_9_method_27_code
def yX7_waits : MethodName := ⟨RX7, "waits", "()I"⟩
abbrev cX7_canSail : ByteArray := prog_9_method_28_code
def yX7_canSail : MethodName := ⟨RX7, "canSail", "(I)Z"⟩
abbrev cX7_draw : ByteArray := prog_9_method_29_code
def yX7_draw : MethodName := ⟨RX7, "draw", "(II)I"⟩
abbrev cX7_sails : ByteArray := prog_9_method_30_code
def yX7_sails : MethodName := ⟨RX7, "sails", "(II)I"⟩
abbrev cX7_shift : ByteArray := prog_9_method_31_code
def yX7_shift : MethodName := ⟨RX7, "shift", "(IIII)I"⟩
abbrev cX7_lists : ByteArray := prog_9_method_32_code
def yX7_lists : MethodName := ⟨RX7, "lists", "(II)I"⟩
abbrev cX7_hides : ByteArray := prog_9_method_33_code
def yX7_hides : MethodName := ⟨RX7, "hides", "(II)I"⟩
abbrev cX7_throwsOff : ByteArray := prog_9_method_34_code
def yX7_throwsOff : MethodName := ⟨RX7, "throwsOff", "(II)I"⟩
abbrev cX7_raises : ByteArray := prog_9_method_35_code
def yX7_raises : MethodName := ⟨RX7, "raises", "(I)I"⟩
abbrev cX7_undo : ByteArray := prog_9_method_36_code
def yX7_undo : MethodName := ⟨RX7, "undo", "()I"⟩
abbrev cX7_now : ByteArray := prog_9_method_37_code
def yX7_now : MethodName := ⟨RX7, "now", "(I)I"⟩
abbrev cX7_worthOf : ByteArray := prog_9_method_38_code
def yX7_worthOf : MethodName := ⟨RX7, "worthOf", "(II)I"⟩
abbrev cX7_worth : ByteArray := prog_9_method_39_code
def yX7_worth : MethodName := ⟨RX7, "worth", "(II)I"⟩
abbrev cX7_mayGo : ByteArray := prog_9_method_40_code
def yX7_mayGo : MethodName := ⟨RX7, "mayGo", "(II)Z"⟩
abbrev cX7_measure : ByteArray := prog_9_method_41_code
def yX7_measure : MethodName := ⟨RX7, "measure", "(I)V"⟩
abbrev cX7_plan : ByteArray := prog_9_method_42_code
def yX7_plan : MethodName := ⟨RX7, "plan", "(I)I"⟩
abbrev cX7_late : ByteArray := prog_9_method_43_code
def yX7_late : MethodName := ⟨RX7, "late", "()I"⟩
abbrev cX7_part : ByteArray := prog_9_method_44_code
def yX7_part : MethodName := ⟨RX7, "part", "(III)I"⟩
abbrev cX7_game : ByteArray := prog_9_method_45_code
def yX7_game : MethodName := ⟨RX7, "game", "(IIII)I"⟩
abbrev cX7_odds : ByteArray := prog_9_method_46_code
def yX7_odds : MethodName := ⟨RX7, "odds", "(IIII)I"⟩
abbrev cX7_register : ByteArray := prog_9_method_47_code
def yX7_register : MethodName := ⟨RX7, "register", "(II)I"⟩
abbrev cX7_mark : ByteArray := prog_9_method_48_code
def yX7_mark : MethodName := ⟨RX7, "mark", "(II)I"⟩
abbrev cX7_keep : ByteArray := prog_9_method_49_code
def yX7_keep : MethodName := ⟨RX7, "keep", "(I)I"⟩
abbrev cX7_back : ByteArray := prog_9_method_50_code
def yX7_back : MethodName := ⟨RX7, "back", "(I)I"⟩
abbrev cX7_count : ByteArray := prog_9_method_51_code
def yX7_count : MethodName := ⟨RX7, "count", "(I)I"⟩
abbrev cX7_trace : ByteArray := prog_9_method_52_code
def yX7_trace : MethodName := ⟨RX7, "trace", "()J"⟩
def RJ9 : String := "java/lang/Math"
def RJ10 : String := "java/lang/System"
def RL : String := "SilverFleetsLaw"
abbrev cL_law : ByteArray := code
def yL_law : MethodName := ⟨RL, "law", "([I)Z"⟩
abbrev vwCl : List vw_C := [(RX0, TX0, 5), (RX1, TX1, 3), (RX2, TX2, 4), (RX3, TX3, 6), (RX4, TX4, 10), (RX5, TX5, 7), (RX6, TX6, 9), (RX7, TX7, 22)]
def Rn : Nat → String := fun k => match k with
  | 0 => RX0
  | 1 => RX1
  | 2 => RX2
  | 3 => RX3
  | 4 => RX4
  | 5 => RX5
  | 6 => RX6
  | 7 => RX7
  | _ => RL
def Tn : Nat → u_T := fun k => match k with
  | 0 => TX0
  | 1 => TX1
  | 2 => TX2
  | 3 => TX3
  | 4 => TX4
  | 5 => TX5
  | 6 => TX6
  | _ => TX7
def tyn : Nat → Nat → FieldType := fun k => match k with
  | 0 => tyX0
  | 1 => tyX1
  | 2 => tyX2
  | 3 => tyX3
  | 4 => tyX4
  | 5 => tyX5
  | 6 => tyX6
  | _ => tyX7
def Nn : Nat → Nat := fun k => match k with
  | 0 => 5
  | 1 => 3
  | 2 => 4
  | 3 => 6
  | 4 => 10
  | 5 => 7
  | 6 => 9
  | _ => 22
/-- all words that may be handed on to a callee, and the links among nest mates -/
def Wd : List Cond := lw_tbl.filter goodWord
def isNest (w : Cond) : Bool := match w with
  | .fieldLinkNest _ _ _ _ _ _ => true
  | .methodLinkNest _ _ _ _ => true
  | _ => false
def Nw : List Cond := lw_tbl.filter isNest
theorem mW (n : Nat) {w : Cond} (h : lw_tbl[n]? = some w) (g : goodWord w = true) : w ∈ Wd := List.mem_filter.mpr ⟨List.mem_of_getElem? h, g⟩
theorem mN (n : Nat) {w : Cond} (h : lw_tbl[n]? = some w) (g : isNest w = true) : w ∈ Nw := List.mem_filter.mpr ⟨List.mem_of_getElem? h, g⟩
theorem wd_tbl {w : Cond} (h : w ∈ Wd) : w ∈ lw_tbl := (List.mem_filter.mp h).1
theorem nw_tbl {w : Cond} (h : w ∈ Nw) : w ∈ lw_tbl := (List.mem_filter.mp h).1
theorem wd_good {w : Cond} (h : w ∈ Wd) : goodWord w = true := (List.mem_filter.mp h).2
theorem goodIn_wd {c : Cond} {Ts : List Cond} (hT : ∀ w ∈ Wd, w ∈ Ts) (hc : c ∈ Wd) : GoodIn Ts (c :: Wd) := fun w h => by
  rcases List.mem_cons.mp h with rfl | h
  · exact ⟨hT _ hc, good_of_word (wd_good hc)⟩
  · exact ⟨hT _ h, good_of_word (wd_good h)⟩
/-- several words by their places -/
theorem mWs (ws : List Cond) (ps : List Nat) (h : ws = ps.filterMap (fun i => lw_tbl[i]?)) (g : ws.all goodWord = true) : ∀ w ∈ ws, w ∈ Wd := fun w hw => by
  have g1 := List.all_eq_true.mp g w hw
  rw [h] at hw
  obtain ⟨i, -, hi⟩ := List.mem_filterMap.mp hw
  exact mW i hi g1
theorem mNs (ws : List Cond) (ps : List Nat) (h : ws = ps.filterMap (fun i => lw_tbl[i]?)) (g : ws.all isNest = true) : ∀ w ∈ ws, w ∈ Nw := fun w hw => by
  have g1 := List.all_eq_true.mp g w hw
  rw [h] at hw
  obtain ⟨i, -, hi⟩ := List.mem_filterMap.mp hw
  exact mN i hi g1
theorem uwX0 : ∀ w ∈ u_ws RX0 TX0 5, w ∈ Wd := mWs _ [220, 222, 224, 226, 228] (by decide +kernel) (by decide +kernel)
theorem uwX1 : ∀ w ∈ u_ws RX1 TX1 3, w ∈ Wd := mWs _ [266, 268, 270] (by decide +kernel) (by decide +kernel)
theorem uwX2 : ∀ w ∈ u_ws RX2 TX2 4, w ∈ Wd := mWs _ [198, 200, 202, 204] (by decide +kernel) (by decide +kernel)
theorem uwX3 : ∀ w ∈ u_ws RX3 TX3 6, w ∈ Wd := mWs _ [243, 245, 247, 249, 251, 253] (by decide +kernel) (by decide +kernel)
theorem uwX4 : ∀ w ∈ u_ws RX4 TX4 10, w ∈ Wd := mWs _ [165, 167, 169, 171, 173, 175, 177, 179, 181, 183] (by decide +kernel) (by decide +kernel)
theorem uwX5 : ∀ w ∈ u_ws RX5 TX5 7, w ∈ Wd := mWs _ [115, 117, 119, 121, 123, 125, 127] (by decide +kernel) (by decide +kernel)
theorem uwX6 : ∀ w ∈ u_ws RX6 TX6 9, w ∈ Wd := mWs _ [282, 284, 286, 288, 290, 292, 294, 296, 298] (by decide +kernel) (by decide +kernel)
theorem uwX7 : ∀ w ∈ u_ws RX7 TX7 22, w ∈ Wd := mWs _ [714, 716, 718, 720, 722, 724, 726, 728, 730, 732, 734, 736, 738, 740, 742, 744, 746, 748, 750, 752, 754, 756] (by decide +kernel) (by decide +kernel)
theorem uwn : ∀ k, k < 8 → ∀ w ∈ u_ws (Rn k) (Tn k) (Nn k), w ∈ Wd := fun k hk => match k, hk with
  | 0, _ => uwX0
  | 1, _ => uwX1
  | 2, _ => uwX2
  | 3, _ => uwX3
  | 4, _ => uwX4
  | 5, _ => uwX5
  | 6, _ => uwX6
  | 7, _ => uwX7
  | k + 8, h => absurd h (by omega)
theorem nmn : ∀ k, k < 8 → ∀ a, a < Nn k → ∀ b, b < Nn k → a ≠ b → (Tn k a).2.1 ≠ (Tn k b).2.1 := fun k hk => match k, hk with
  | 0, _ => nmX0
  | 1, _ => nmX1
  | 2, _ => nmX2
  | 3, _ => nmX3
  | 4, _ => nmX4
  | 5, _ => nmX5
  | 6, _ => nmX6
  | 7, _ => nmX7
  | k + 8, h => absurd h (by omega)
theorem tyn_ok : ∀ k, k < 8 → ∀ a, a < Nn k → parseFieldDescriptor (Tn k a).2.2.1 = some (tyn k a) := fun k hk => match k, hk with
  | 0, _ => tyX0_ok
  | 1, _ => tyX1_ok
  | 2, _ => tyX2_ok
  | 3, _ => tyX3_ok
  | 4, _ => tyX4_ok
  | 5, _ => tyX5_ok
  | 6, _ => tyX6_ok
  | 7, _ => tyX7_ok
  | k + 8, h => absurd h (by omega)
theorem cln : ∀ k, k < 8 → vwCl[k]? = some (Rn k, Tn k, Nn k) := fun k hk => match k, hk with
  | 0, _ => rfl
  | 1, _ => rfl
  | 2, _ => rfl
  | 3, _ => rfl
  | 4, _ => rfl
  | 5, _ => rfl
  | 6, _ => rfl
  | 7, _ => rfl
  | k + 8, h => absurd h (by omega)
theorem own_n : ∀ k, k < 8 → ∀ a, a < Nn k → (Tn k a).1 = Rn k := by decide +kernel
/-- field links: own class, index, class of the field, its place; the nest mates' apart -/
def FTl : List (Nat × Nat × Nat × Nat) := [(5, 9, 5, 0), (5, 74, 5, 1), (5, 31, 5, 2), (5, 38, 5, 3), (5, 24, 5, 4), (5, 41, 5, 5), (5, 16, 5, 6), (4, 9, 4, 0), (4, 15, 4, 1), (4, 18, 4, 2), (4, 21, 4, 3), (4, 24, 4, 4), (4, 27, 4, 5), (4, 34, 4, 6), (4, 37, 4, 7), (4, 30, 4, 8), (4, 40, 4, 9), (2, 11, 2, 0), (2, 15, 2, 1), (2, 18, 2, 2), (0, 15, 0, 0), (0, 19, 0, 1), (0, 9, 0, 2), (0, 90, 0, 3), (0, 93, 0, 4), (3, 21, 3, 0), (3, 25, 3, 1), (3, 29, 3, 2), (3, 9, 3, 3), (3, 15, 3, 4), (3, 18, 3, 5), (1, 11, 1, 0), (1, 15, 1, 1), (1, 39, 1, 2), (6, 12, 6, 0), (6, 19, 6, 1), (6, 23, 6, 2), (6, 29, 6, 3), (6, 33, 6, 4), (6, 36, 6, 5), (6, 44, 6, 6), (6, 53, 6, 7), (6, 60, 6, 8), (7, 175, 7, 0), (7, 7, 7, 1), (7, 64, 7, 2), (7, 13, 7, 3), (7, 17, 7, 4), (7, 20, 7, 5), (7, 23, 7, 6), (7, 26, 7, 7), (7, 29, 7, 8), (7, 32, 7, 9), (7, 35, 7, 10), (7, 38, 7, 11), (7, 94, 7, 12), (7, 68, 7, 13), (7, 75, 7, 14), (7, 81, 7, 15), (7, 78, 7, 16), (7, 84, 7, 17), (7, 41, 7, 18), (7, 44, 7, 19), (7, 48, 7, 20), (7, 51, 7, 21)]
def GTl : List (Nat × Nat × Nat × Nat) := [(6, 68, 5, 0), (6, 64, 5, 1), (6, 91, 4, 0), (0, 65, 4, 0), (6, 94, 4, 1), (0, 55, 4, 1), (2, 27, 4, 2), (2, 30, 4, 3), (1, 50, 4, 4), (6, 107, 4, 4), (0, 52, 4, 4), (0, 35, 4, 5), (1, 58, 4, 5), (6, 110, 4, 5), (3, 33, 4, 6), (6, 219, 4, 6), (0, 23, 4, 7), (2, 22, 4, 7), (6, 140, 4, 7), (6, 222, 4, 8), (6, 123, 2, 0), (6, 166, 2, 2), (6, 83, 2, 3), (6, 193, 0, 3), (6, 196, 0, 4), (6, 225, 1, 2)]
def fwd (q : Nat × Nat × Nat × Nat) : Cond := .fieldLink (Rn q.1) q.2.1 (Rn q.2.2.1) (Tn q.2.2.1 q.2.2.2).2.1 (Tn q.2.2.1 q.2.2.2).2.2.1
def gwd (q : Nat × Nat × Nat × Nat) : Cond := .fieldLinkNest (Rn q.1) q.2.1 (Rn q.2.2.1) (Tn q.2.2.1 q.2.2.2).2.1 (Tn q.2.2.1 q.2.2.2).2.2.1 "SilverFleets"
theorem FT_ok : ∀ w ∈ FTl.map fwd, w ∈ Wd := mWs _ [106, 109, 110, 111, 112, 113, 114, 137, 140, 143, 145, 147, 151, 155, 158, 162, 164, 192, 194, 195, 213, 214, 215, 216, 218, 237, 238, 239, 240, 241, 242, 262, 263, 264, 273, 274, 275, 276, 277, 278, 279, 280, 281, 692, 693, 694, 695, 696, 697, 698, 699, 700, 701, 702, 703, 704, 705, 706, 707, 708, 709, 710, 711, 712, 713] (by decide +kernel) (by decide +kernel)
theorem GT_ok : ∀ w ∈ GTl.map gwd, w ∈ Nw := mNs _ [107, 108, 138, 139, 141, 142, 144, 146, 148, 149, 150, 152, 153, 154, 156, 157, 159, 160, 161, 163, 193, 196, 197, 217, 219, 265] (by decide +kernel) (by decide +kernel)
theorem FT_lt : FTl.all (fun q => decide (q.2.2.1 < 8) && decide (q.2.2.2 < Nn q.2.2.1)) = true := by decide +kernel
theorem GT_lt : GTl.all (fun q => decide (q.2.2.1 < 8) && decide (q.2.2.2 < Nn q.2.2.1)) = true := by decide +kernel
def CIl : List (Nat × Nat × Int32) := [(6, 205, -1000000), (1, 38, -1000000), (7, 174, -1000000)]
def CLl : List (Nat × Nat × Int64) := [(6, 233, 7919), (6, 235, 6151), (6, 237, 12289), (6, 239, 65521), (6, 241, 8), (6, 243, 10), (1, 48, 10), (1, 56, 100), (1, 61, 1000), (1, 63, 10000), (1, 65, 100000), (7, 130, 7919), (7, 132, 6151), (7, 134, 12289), (7, 136, 65521), (7, 179, 11), (7, 181, 101), (7, 183, 1011), (7, 185, 10101), (7, 187, 100001)]
theorem CI_ok : ∀ w ∈ CIl.map (fun q => Cond.constant (Rn q.1) q.2.1 q.2.2), w ∈ Wd := mWs _ [614, 650, 938] (by decide +kernel) (by decide +kernel)
theorem CL_ok : ∀ w ∈ CLl.map (fun q => Cond.constantLong (Rn q.1) q.2.1 q.2.2), w ∈ Wd := mWs _ [470, 471, 472, 473, 474, 475, 628, 633, 638, 643, 648, 856, 857, 858, 859, 939, 940, 941, 942, 943] (by decide +kernel) (by decide +kernel)
def snm (k : Nat) : String := match k with
  | 100 => "WEEK_MOST"
  | 101 => "SHIP_MOST"
  | _ => "SHARE_MOST"
def STl : List (Nat × Nat × Nat) := [(5, 13, 101), (5, 68, 100), (5, 71, 102)]
theorem ST_ok : ∀ w ∈ STl.map (fun q => Cond.fieldLink (Rn q.1) q.2.1 RX5 (snm q.2.2) "[I"), w ∈ Wd := mWs _ [104, 355, 357] (by decide +kernel) (by decide +kernel)
