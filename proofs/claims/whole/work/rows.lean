section
-- ===== PART A: goes FIRST, ahead of the names: the tables' words, and 'selects' of the private methods out of them =====
/-- a private method of a class that the tables say can be made, by its rows of tables_1 -/
def lw_okq (q : MethodName × Nat) : Prop := (q.1.cls ≠ "java/lang/invoke/MethodHandle" ∧ q.1.cls ≠ "java/lang/invoke/VarHandle") ∧ Cond.instantiable q.1.cls q.2 ∈ tables_1 ∧ Cond.privateMethod q.1 ∈ tables_1 ∧ Cond.instanceMethod q.1 ∈ tables_1
theorem lw_p0 : lw_okq (⟨"SilverFleets$Text", "readInto", "(LSilverFleets$Season;)I"⟩, 7) := ⟨⟨by decide +kernel, by decide +kernel⟩, List.mem_of_getElem? (i := 20) (by decide +kernel), List.mem_of_getElem? (i := 235) (by decide +kernel), List.mem_of_getElem? (i := 236) (by decide +kernel)⟩
theorem lw_p1 : lw_okq (⟨"SilverFleets$Season", "forgetAll", "()V"⟩, 10) := ⟨⟨by decide +kernel, by decide +kernel⟩, List.mem_of_getElem? (i := 53) (by decide +kernel), List.mem_of_getElem? (i := 239) (by decide +kernel), List.mem_of_getElem? (i := 240) (by decide +kernel)⟩
theorem lw_p2 : lw_okq (⟨"SilverFleets$Text", "scan", "()V"⟩, 7) := ⟨⟨by decide +kernel, by decide +kernel⟩, List.mem_of_getElem? (i := 20) (by decide +kernel), List.mem_of_getElem? (i := 243) (by decide +kernel), List.mem_of_getElem? (i := 244) (by decide +kernel)⟩
theorem lw_p3 : lw_okq (⟨"SilverFleets$Text", "isLetterAt", "(I)Z"⟩, 7) := ⟨⟨by decide +kernel, by decide +kernel⟩, List.mem_of_getElem? (i := 20) (by decide +kernel), List.mem_of_getElem? (i := 247) (by decide +kernel), List.mem_of_getElem? (i := 248) (by decide +kernel)⟩
theorem lw_p4 : lw_okq (⟨"SilverFleets$Text", "scanLetters", "()V"⟩, 7) := ⟨⟨by decide +kernel, by decide +kernel⟩, List.mem_of_getElem? (i := 20) (by decide +kernel), List.mem_of_getElem? (i := 251) (by decide +kernel), List.mem_of_getElem? (i := 252) (by decide +kernel)⟩
theorem lw_p5 : lw_okq (⟨"SilverFleets$Text", "isDigitAt", "(I)Z"⟩, 7) := ⟨⟨by decide +kernel, by decide +kernel⟩, List.mem_of_getElem? (i := 20) (by decide +kernel), List.mem_of_getElem? (i := 255) (by decide +kernel), List.mem_of_getElem? (i := 256) (by decide +kernel)⟩
theorem lw_p6 : lw_okq (⟨"SilverFleets$Text", "scanNumber", "()V"⟩, 7) := ⟨⟨by decide +kernel, by decide +kernel⟩, List.mem_of_getElem? (i := 20) (by decide +kernel), List.mem_of_getElem? (i := 259) (by decide +kernel), List.mem_of_getElem? (i := 260) (by decide +kernel)⟩
theorem lw_p7 : lw_okq (⟨"SilverFleets$Text", "readItem", "(LSilverFleets$Season;)Z"⟩, 7) := ⟨⟨by decide +kernel, by decide +kernel⟩, List.mem_of_getElem? (i := 20) (by decide +kernel), List.mem_of_getElem? (i := 266) (by decide +kernel), List.mem_of_getElem? (i := 267) (by decide +kernel)⟩
theorem lw_p8 : lw_okq (⟨"SilverFleets$Season", "canTake", "(I)Z"⟩, 10) := ⟨⟨by decide +kernel, by decide +kernel⟩, List.mem_of_getElem? (i := 53) (by decide +kernel), List.mem_of_getElem? (i := 270) (by decide +kernel), List.mem_of_getElem? (i := 271) (by decide +kernel)⟩
theorem lw_p9 : lw_okq (⟨"SilverFleets$Text", "readNumbers", "([I)Z"⟩, 7) := ⟨⟨by decide +kernel, by decide +kernel⟩, List.mem_of_getElem? (i := 20) (by decide +kernel), List.mem_of_getElem? (i := 281) (by decide +kernel), List.mem_of_getElem? (i := 282) (by decide +kernel)⟩
theorem lw_p10 : lw_okq (⟨"SilverFleets$Season", "addWeek", "(II)V"⟩, 10) := ⟨⟨by decide +kernel, by decide +kernel⟩, List.mem_of_getElem? (i := 53) (by decide +kernel), List.mem_of_getElem? (i := 285) (by decide +kernel), List.mem_of_getElem? (i := 286) (by decide +kernel)⟩
theorem lw_p11 : lw_okq (⟨"SilverFleets$Season", "addShip", "(IIII)V"⟩, 10) := ⟨⟨by decide +kernel, by decide +kernel⟩, List.mem_of_getElem? (i := 53) (by decide +kernel), List.mem_of_getElem? (i := 289) (by decide +kernel), List.mem_of_getElem? (i := 290) (by decide +kernel)⟩
theorem lw_p12 : lw_okq (⟨"SilverFleets$Season", "setShare", "(I)V"⟩, 10) := ⟨⟨by decide +kernel, by decide +kernel⟩, List.mem_of_getElem? (i := 53) (by decide +kernel), List.mem_of_getElem? (i := 293) (by decide +kernel), List.mem_of_getElem? (i := 294) (by decide +kernel)⟩
theorem lw_p13 : lw_okq (⟨"SilverFleets$Season", "copyFrom", "(LSilverFleets$Season;)V"⟩, 10) := ⟨⟨by decide +kernel, by decide +kernel⟩, List.mem_of_getElem? (i := 53) (by decide +kernel), List.mem_of_getElem? (i := 297) (by decide +kernel), List.mem_of_getElem? (i := 298) (by decide +kernel)⟩
theorem lw_p14 : lw_okq (⟨"SilverFleets$Log", "beginWith", "(LSilverFleets$Season;)V"⟩, 4) := ⟨⟨by decide +kernel, by decide +kernel⟩, List.mem_of_getElem? (i := 108) (by decide +kernel), List.mem_of_getElem? (i := 304) (by decide +kernel), List.mem_of_getElem? (i := 305) (by decide +kernel)⟩
theorem lw_p15 : lw_okq (⟨"SilverFleets$Log", "setBars", "(III)V"⟩, 4) := ⟨⟨by decide +kernel, by decide +kernel⟩, List.mem_of_getElem? (i := 108) (by decide +kernel), List.mem_of_getElem? (i := 308) (by decide +kernel), List.mem_of_getElem? (i := 309) (by decide +kernel)⟩
def lw_privs_1 : List (MethodName × Nat) := [(⟨"SilverFleets$Text", "readInto", "(LSilverFleets$Season;)I"⟩, 7), (⟨"SilverFleets$Season", "forgetAll", "()V"⟩, 10), (⟨"SilverFleets$Text", "scan", "()V"⟩, 7), (⟨"SilverFleets$Text", "isLetterAt", "(I)Z"⟩, 7), (⟨"SilverFleets$Text", "scanLetters", "()V"⟩, 7), (⟨"SilverFleets$Text", "isDigitAt", "(I)Z"⟩, 7), (⟨"SilverFleets$Text", "scanNumber", "()V"⟩, 7), (⟨"SilverFleets$Text", "readItem", "(LSilverFleets$Season;)Z"⟩, 7), (⟨"SilverFleets$Season", "canTake", "(I)Z"⟩, 10), (⟨"SilverFleets$Text", "readNumbers", "([I)Z"⟩, 7), (⟨"SilverFleets$Season", "addWeek", "(II)V"⟩, 10), (⟨"SilverFleets$Season", "addShip", "(IIII)V"⟩, 10), (⟨"SilverFleets$Season", "setShare", "(I)V"⟩, 10), (⟨"SilverFleets$Season", "copyFrom", "(LSilverFleets$Season;)V"⟩, 10), (⟨"SilverFleets$Log", "beginWith", "(LSilverFleets$Season;)V"⟩, 4), (⟨"SilverFleets$Log", "setBars", "(III)V"⟩, 4)]
theorem lw_r1 : ∀ q ∈ lw_privs_1, lw_okq q := List.forall_mem_cons.mpr ⟨lw_p0, List.forall_mem_cons.mpr ⟨lw_p1, List.forall_mem_cons.mpr ⟨lw_p2, List.forall_mem_cons.mpr ⟨lw_p3, List.forall_mem_cons.mpr ⟨lw_p4, List.forall_mem_cons.mpr ⟨lw_p5, List.forall_mem_cons.mpr ⟨lw_p6, List.forall_mem_cons.mpr ⟨lw_p7, List.forall_mem_cons.mpr ⟨lw_p8, List.forall_mem_cons.mpr ⟨lw_p9, List.forall_mem_cons.mpr ⟨lw_p10, List.forall_mem_cons.mpr ⟨lw_p11, List.forall_mem_cons.mpr ⟨lw_p12, List.forall_mem_cons.mpr ⟨lw_p13, List.forall_mem_cons.mpr ⟨lw_p14, List.forall_mem_cons.mpr ⟨lw_p15, fun _ h => absurd h List.not_mem_nil⟩⟩⟩⟩⟩⟩⟩⟩⟩⟩⟩⟩⟩⟩⟩⟩
theorem lw_p16 : lw_okq (⟨"SilverFleets$Season", "hasWeek", "(I)Z"⟩, 10) := ⟨⟨by decide +kernel, by decide +kernel⟩, List.mem_of_getElem? (i := 53) (by decide +kernel), List.mem_of_getElem? (i := 316) (by decide +kernel), List.mem_of_getElem? (i := 317) (by decide +kernel)⟩
theorem lw_p17 : lw_okq (⟨"SilverFleets$Season", "hasShip", "(I)Z"⟩, 10) := ⟨⟨by decide +kernel, by decide +kernel⟩, List.mem_of_getElem? (i := 53) (by decide +kernel), List.mem_of_getElem? (i := 324) (by decide +kernel), List.mem_of_getElem? (i := 325) (by decide +kernel)⟩
theorem lw_p18 : lw_okq (⟨"SilverFleets$Log", "listedOf", "(I)I"⟩, 4) := ⟨⟨by decide +kernel, by decide +kernel⟩, List.mem_of_getElem? (i := 108) (by decide +kernel), List.mem_of_getElem? (i := 328) (by decide +kernel), List.mem_of_getElem? (i := 329) (by decide +kernel)⟩
theorem lw_p19 : lw_okq (⟨"SilverFleets$Log", "hiddenOf", "(I)I"⟩, 4) := ⟨⟨by decide +kernel, by decide +kernel⟩, List.mem_of_getElem? (i := 108) (by decide +kernel), List.mem_of_getElem? (i := 332) (by decide +kernel), List.mem_of_getElem? (i := 333) (by decide +kernel)⟩
theorem lw_p20 : lw_okq (⟨"SilverFleets$Log", "placeOf", "(I)I"⟩, 4) := ⟨⟨by decide +kernel, by decide +kernel⟩, List.mem_of_getElem? (i := 108) (by decide +kernel), List.mem_of_getElem? (i := 336) (by decide +kernel), List.mem_of_getElem? (i := 337) (by decide +kernel)⟩
theorem lw_p21 : lw_okq (⟨"SilverFleets", "isOver", "()Z"⟩, 9) := ⟨⟨by decide +kernel, by decide +kernel⟩, List.mem_of_getElem? (i := 12) (by decide +kernel), List.mem_of_getElem? (i := 344) (by decide +kernel), List.mem_of_getElem? (i := 345) (by decide +kernel)⟩
theorem lw_p22 : lw_okq (⟨"SilverFleets$Log", "theWeek", "()I"⟩, 4) := ⟨⟨by decide +kernel, by decide +kernel⟩, List.mem_of_getElem? (i := 108) (by decide +kernel), List.mem_of_getElem? (i := 348) (by decide +kernel), List.mem_of_getElem? (i := 349) (by decide +kernel)⟩
theorem lw_p23 : lw_okq (⟨"SilverFleets$Log", "remember", "()V"⟩, 4) := ⟨⟨by decide +kernel, by decide +kernel⟩, List.mem_of_getElem? (i := 108) (by decide +kernel), List.mem_of_getElem? (i := 352) (by decide +kernel), List.mem_of_getElem? (i := 353) (by decide +kernel)⟩
theorem lw_p24 : lw_okq (⟨"SilverFleets$Season", "hasSet", "(I)Z"⟩, 10) := ⟨⟨by decide +kernel, by decide +kernel⟩, List.mem_of_getElem? (i := 53) (by decide +kernel), List.mem_of_getElem? (i := 361) (by decide +kernel), List.mem_of_getElem? (i := 362) (by decide +kernel)⟩
theorem lw_p25 : lw_okq (⟨"SilverFleets", "canSail", "(I)Z"⟩, 9) := ⟨⟨by decide +kernel, by decide +kernel⟩, List.mem_of_getElem? (i := 12) (by decide +kernel), List.mem_of_getElem? (i := 365) (by decide +kernel), List.mem_of_getElem? (i := 366) (by decide +kernel)⟩
theorem lw_p26 : lw_okq (⟨"SilverFleets$Log", "isInPort", "(I)Z"⟩, 4) := ⟨⟨by decide +kernel, by decide +kernel⟩, List.mem_of_getElem? (i := 108) (by decide +kernel), List.mem_of_getElem? (i := 372) (by decide +kernel), List.mem_of_getElem? (i := 373) (by decide +kernel)⟩
theorem lw_p27 : lw_okq (⟨"SilverFleets$Fleet", "takenOf", "(II)I"⟩, 5) := ⟨⟨by decide +kernel, by decide +kernel⟩, List.mem_of_getElem? (i := 129) (by decide +kernel), List.mem_of_getElem? (i := 376) (by decide +kernel), List.mem_of_getElem? (i := 377) (by decide +kernel)⟩
theorem lw_p28 : lw_okq (⟨"SilverFleets$Log", "silverOf", "(I)I"⟩, 4) := ⟨⟨by decide +kernel, by decide +kernel⟩, List.mem_of_getElem? (i := 108) (by decide +kernel), List.mem_of_getElem? (i := 381) (by decide +kernel), List.mem_of_getElem? (i := 382) (by decide +kernel)⟩
theorem lw_p29 : lw_okq (⟨"SilverFleets", "sailOne", "(IZI)I"⟩, 9) := ⟨⟨by decide +kernel, by decide +kernel⟩, List.mem_of_getElem? (i := 12) (by decide +kernel), List.mem_of_getElem? (i := 385) (by decide +kernel), List.mem_of_getElem? (i := 386) (by decide +kernel)⟩
theorem lw_p30 : lw_okq (⟨"SilverFleets$Log", "goBack", "()V"⟩, 4) := ⟨⟨by decide +kernel, by decide +kernel⟩, List.mem_of_getElem? (i := 108) (by decide +kernel), List.mem_of_getElem? (i := 421) (by decide +kernel), List.mem_of_getElem? (i := 422) (by decide +kernel)⟩
theorem lw_p31 : lw_okq (⟨"SilverFleets$Fleet", "inPort", "()I"⟩, 5) := ⟨⟨by decide +kernel, by decide +kernel⟩, List.mem_of_getElem? (i := 129) (by decide +kernel), List.mem_of_getElem? (i := 429) (by decide +kernel), List.mem_of_getElem? (i := 430) (by decide +kernel)⟩
def lw_privs_2 : List (MethodName × Nat) := [(⟨"SilverFleets$Season", "hasWeek", "(I)Z"⟩, 10), (⟨"SilverFleets$Season", "hasShip", "(I)Z"⟩, 10), (⟨"SilverFleets$Log", "listedOf", "(I)I"⟩, 4), (⟨"SilverFleets$Log", "hiddenOf", "(I)I"⟩, 4), (⟨"SilverFleets$Log", "placeOf", "(I)I"⟩, 4), (⟨"SilverFleets", "isOver", "()Z"⟩, 9), (⟨"SilverFleets$Log", "theWeek", "()I"⟩, 4), (⟨"SilverFleets$Log", "remember", "()V"⟩, 4), (⟨"SilverFleets$Season", "hasSet", "(I)Z"⟩, 10), (⟨"SilverFleets", "canSail", "(I)Z"⟩, 9), (⟨"SilverFleets$Log", "isInPort", "(I)Z"⟩, 4), (⟨"SilverFleets$Fleet", "takenOf", "(II)I"⟩, 5), (⟨"SilverFleets$Log", "silverOf", "(I)I"⟩, 4), (⟨"SilverFleets", "sailOne", "(IZI)I"⟩, 9), (⟨"SilverFleets$Log", "goBack", "()V"⟩, 4), (⟨"SilverFleets$Fleet", "inPort", "()I"⟩, 5)]
theorem lw_r2 : ∀ q ∈ lw_privs_2, lw_okq q := List.forall_mem_cons.mpr ⟨lw_p16, List.forall_mem_cons.mpr ⟨lw_p17, List.forall_mem_cons.mpr ⟨lw_p18, List.forall_mem_cons.mpr ⟨lw_p19, List.forall_mem_cons.mpr ⟨lw_p20, List.forall_mem_cons.mpr ⟨lw_p21, List.forall_mem_cons.mpr ⟨lw_p22, List.forall_mem_cons.mpr ⟨lw_p23, List.forall_mem_cons.mpr ⟨lw_p24, List.forall_mem_cons.mpr ⟨lw_p25, List.forall_mem_cons.mpr ⟨lw_p26, List.forall_mem_cons.mpr ⟨lw_p27, List.forall_mem_cons.mpr ⟨lw_p28, List.forall_mem_cons.mpr ⟨lw_p29, List.forall_mem_cons.mpr ⟨lw_p30, List.forall_mem_cons.mpr ⟨lw_p31, fun _ h => absurd h List.not_mem_nil⟩⟩⟩⟩⟩⟩⟩⟩⟩⟩⟩⟩⟩⟩⟩⟩
theorem lw_p32 : lw_okq (⟨"SilverFleets$Fleet", "silverOnTheReef", "()I"⟩, 5) := ⟨⟨by decide +kernel, by decide +kernel⟩, List.mem_of_getElem? (i := 129) (by decide +kernel), List.mem_of_getElem? (i := 434) (by decide +kernel), List.mem_of_getElem? (i := 435) (by decide +kernel)⟩
theorem lw_p33 : lw_okq (⟨"SilverFleets$Fleet", "worthOf", "(II)I"⟩, 5) := ⟨⟨by decide +kernel, by decide +kernel⟩, List.mem_of_getElem? (i := 129) (by decide +kernel), List.mem_of_getElem? (i := 443) (by decide +kernel), List.mem_of_getElem? (i := 444) (by decide +kernel)⟩
theorem lw_p34 : lw_okq (⟨"SilverFleets$Fleet", "silverTogether", "(I)I"⟩, 5) := ⟨⟨by decide +kernel, by decide +kernel⟩, List.mem_of_getElem? (i := 129) (by decide +kernel), List.mem_of_getElem? (i := 448) (by decide +kernel), List.mem_of_getElem? (i := 449) (by decide +kernel)⟩
theorem lw_p35 : lw_okq (⟨"SilverFleets$Planner", "mostFrom", "(I)I"⟩, 6) := ⟨⟨by decide +kernel, by decide +kernel⟩, List.mem_of_getElem? (i := 153) (by decide +kernel), List.mem_of_getElem? (i := 456) (by decide +kernel), List.mem_of_getElem? (i := 457) (by decide +kernel)⟩
theorem lw_p36 : lw_okq (⟨"SilverFleets$Planner", "reckonFrom", "(I)V"⟩, 6) := ⟨⟨by decide +kernel, by decide +kernel⟩, List.mem_of_getElem? (i := 153) (by decide +kernel), List.mem_of_getElem? (i := 460) (by decide +kernel), List.mem_of_getElem? (i := 461) (by decide +kernel)⟩
theorem lw_p37 : lw_okq (⟨"SilverFleets$Fleet", "readyIn", "(I)I"⟩, 5) := ⟨⟨by decide +kernel, by decide +kernel⟩, List.mem_of_getElem? (i := 129) (by decide +kernel), List.mem_of_getElem? (i := 465) (by decide +kernel), List.mem_of_getElem? (i := 466) (by decide +kernel)⟩
theorem lw_p38 : lw_okq (⟨"SilverFleets$Planner", "reckonWorths", "(II)V"⟩, 6) := ⟨⟨by decide +kernel, by decide +kernel⟩, List.mem_of_getElem? (i := 153) (by decide +kernel), List.mem_of_getElem? (i := 469) (by decide +kernel), List.mem_of_getElem? (i := 470) (by decide +kernel)⟩
theorem lw_p39 : lw_okq (⟨"SilverFleets$Planner", "choose", "(III)V"⟩, 6) := ⟨⟨by decide +kernel, by decide +kernel⟩, List.mem_of_getElem? (i := 153) (by decide +kernel), List.mem_of_getElem? (i := 474) (by decide +kernel), List.mem_of_getElem? (i := 475) (by decide +kernel)⟩
theorem lw_p40 : lw_okq (⟨"SilverFleets$Planner", "sailingIn", "(I)I"⟩, 6) := ⟨⟨by decide +kernel, by decide +kernel⟩, List.mem_of_getElem? (i := 153) (by decide +kernel), List.mem_of_getElem? (i := 478) (by decide +kernel), List.mem_of_getElem? (i := 479) (by decide +kernel)⟩
theorem lw_p41 : lw_okq (⟨"SilverFleets$Fleet", "reckonGame", "(III)V"⟩, 5) := ⟨⟨by decide +kernel, by decide +kernel⟩, List.mem_of_getElem? (i := 129) (by decide +kernel), List.mem_of_getElem? (i := 494) (by decide +kernel), List.mem_of_getElem? (i := 495) (by decide +kernel)⟩
theorem lw_p42 : lw_okq (⟨"SilverFleets$Fleet", "setFraction", "(II)V"⟩, 5) := ⟨⟨by decide +kernel, by decide +kernel⟩, List.mem_of_getElem? (i := 129) (by decide +kernel), List.mem_of_getElem? (i := 503) (by decide +kernel), List.mem_of_getElem? (i := 504) (by decide +kernel)⟩
theorem lw_p43 : lw_okq (⟨"SilverFleets$Fleet", "reckonOdds", "(III)V"⟩, 5) := ⟨⟨by decide +kernel, by decide +kernel⟩, List.mem_of_getElem? (i := 129) (by decide +kernel), List.mem_of_getElem? (i := 511) (by decide +kernel), List.mem_of_getElem? (i := 512) (by decide +kernel)⟩
theorem lw_p44 : lw_okq (⟨"SilverFleets$Fleet", "beginWays", "()V"⟩, 5) := ⟨⟨by decide +kernel, by decide +kernel⟩, List.mem_of_getElem? (i := 129) (by decide +kernel), List.mem_of_getElem? (i := 515) (by decide +kernel), List.mem_of_getElem? (i := 516) (by decide +kernel)⟩
theorem lw_p45 : lw_okq (⟨"SilverFleets$Fleet", "addToWays", "(I)V"⟩, 5) := ⟨⟨by decide +kernel, by decide +kernel⟩, List.mem_of_getElem? (i := 129) (by decide +kernel), List.mem_of_getElem? (i := 519) (by decide +kernel), List.mem_of_getElem? (i := 520) (by decide +kernel)⟩
theorem lw_p46 : lw_okq (⟨"SilverFleets$Fleet", "listedTogether", "(I)I"⟩, 5) := ⟨⟨by decide +kernel, by decide +kernel⟩, List.mem_of_getElem? (i := 129) (by decide +kernel), List.mem_of_getElem? (i := 527) (by decide +kernel), List.mem_of_getElem? (i := 528) (by decide +kernel)⟩
theorem lw_p47 : lw_okq (⟨"SilverFleets$Kinds", "markAs", "(II)I"⟩, 3) := ⟨⟨by decide +kernel, by decide +kernel⟩, List.mem_of_getElem? (i := 178) (by decide +kernel), List.mem_of_getElem? (i := 537) (by decide +kernel), List.mem_of_getElem? (i := 538) (by decide +kernel)⟩
def lw_privs_3 : List (MethodName × Nat) := [(⟨"SilverFleets$Fleet", "silverOnTheReef", "()I"⟩, 5), (⟨"SilverFleets$Fleet", "worthOf", "(II)I"⟩, 5), (⟨"SilverFleets$Fleet", "silverTogether", "(I)I"⟩, 5), (⟨"SilverFleets$Planner", "mostFrom", "(I)I"⟩, 6), (⟨"SilverFleets$Planner", "reckonFrom", "(I)V"⟩, 6), (⟨"SilverFleets$Fleet", "readyIn", "(I)I"⟩, 5), (⟨"SilverFleets$Planner", "reckonWorths", "(II)V"⟩, 6), (⟨"SilverFleets$Planner", "choose", "(III)V"⟩, 6), (⟨"SilverFleets$Planner", "sailingIn", "(I)I"⟩, 6), (⟨"SilverFleets$Fleet", "reckonGame", "(III)V"⟩, 5), (⟨"SilverFleets$Fleet", "setFraction", "(II)V"⟩, 5), (⟨"SilverFleets$Fleet", "reckonOdds", "(III)V"⟩, 5), (⟨"SilverFleets$Fleet", "beginWays", "()V"⟩, 5), (⟨"SilverFleets$Fleet", "addToWays", "(I)V"⟩, 5), (⟨"SilverFleets$Fleet", "listedTogether", "(I)I"⟩, 5), (⟨"SilverFleets$Kinds", "markAs", "(II)I"⟩, 3)]
theorem lw_r3 : ∀ q ∈ lw_privs_3, lw_okq q := List.forall_mem_cons.mpr ⟨lw_p32, List.forall_mem_cons.mpr ⟨lw_p33, List.forall_mem_cons.mpr ⟨lw_p34, List.forall_mem_cons.mpr ⟨lw_p35, List.forall_mem_cons.mpr ⟨lw_p36, List.forall_mem_cons.mpr ⟨lw_p37, List.forall_mem_cons.mpr ⟨lw_p38, List.forall_mem_cons.mpr ⟨lw_p39, List.forall_mem_cons.mpr ⟨lw_p40, List.forall_mem_cons.mpr ⟨lw_p41, List.forall_mem_cons.mpr ⟨lw_p42, List.forall_mem_cons.mpr ⟨lw_p43, List.forall_mem_cons.mpr ⟨lw_p44, List.forall_mem_cons.mpr ⟨lw_p45, List.forall_mem_cons.mpr ⟨lw_p46, List.forall_mem_cons.mpr ⟨lw_p47, fun _ h => absurd h List.not_mem_nil⟩⟩⟩⟩⟩⟩⟩⟩⟩⟩⟩⟩⟩⟩⟩⟩
theorem lw_p48 : lw_okq (⟨"SilverFleets$Kinds", "markShip", "(I)I"⟩, 3) := ⟨⟨by decide +kernel, by decide +kernel⟩, List.mem_of_getElem? (i := 178) (by decide +kernel), List.mem_of_getElem? (i := 541) (by decide +kernel), List.mem_of_getElem? (i := 542) (by decide +kernel)⟩
theorem lw_p49 : lw_okq (⟨"SilverFleets$Kinds", "markDecoy", "(I)I"⟩, 3) := ⟨⟨by decide +kernel, by decide +kernel⟩, List.mem_of_getElem? (i := 178) (by decide +kernel), List.mem_of_getElem? (i := 546) (by decide +kernel), List.mem_of_getElem? (i := 547) (by decide +kernel)⟩
theorem lw_p50 : lw_okq (⟨"SilverFleets$Kinds", "markSlow", "(I)I"⟩, 3) := ⟨⟨by decide +kernel, by decide +kernel⟩, List.mem_of_getElem? (i := 178) (by decide +kernel), List.mem_of_getElem? (i := 551) (by decide +kernel), List.mem_of_getElem? (i := 552) (by decide +kernel)⟩
theorem lw_p51 : lw_okq (⟨"SilverFleets$Kinds", "markChest", "(I)I"⟩, 3) := ⟨⟨by decide +kernel, by decide +kernel⟩, List.mem_of_getElem? (i := 178) (by decide +kernel), List.mem_of_getElem? (i := 556) (by decide +kernel), List.mem_of_getElem? (i := 557) (by decide +kernel)⟩
theorem lw_p52 : lw_okq (⟨"SilverFleets$Kinds", "markLetter", "(I)I"⟩, 3) := ⟨⟨by decide +kernel, by decide +kernel⟩, List.mem_of_getElem? (i := 178) (by decide +kernel), List.mem_of_getElem? (i := 561) (by decide +kernel), List.mem_of_getElem? (i := 562) (by decide +kernel)⟩
theorem lw_p53 : lw_okq (⟨"SilverFleets$Kinds", "markPilot", "(I)I"⟩, 3) := ⟨⟨by decide +kernel, by decide +kernel⟩, List.mem_of_getElem? (i := 178) (by decide +kernel), List.mem_of_getElem? (i := 566) (by decide +kernel), List.mem_of_getElem? (i := 567) (by decide +kernel)⟩
theorem lw_p54 : lw_okq (⟨"SilverFleets", "imageOf", "(I)LSilverFleets$Log;"⟩, 9) := ⟨⟨by decide +kernel, by decide +kernel⟩, List.mem_of_getElem? (i := 12) (by decide +kernel), List.mem_of_getElem? (i := 580) (by decide +kernel), List.mem_of_getElem? (i := 581) (by decide +kernel)⟩
theorem lw_p55 : lw_okq (⟨"SilverFleets$Log", "copyFrom", "(LSilverFleets$Log;)V"⟩, 4) := ⟨⟨by decide +kernel, by decide +kernel⟩, List.mem_of_getElem? (i := 108) (by decide +kernel), List.mem_of_getElem? (i := 584) (by decide +kernel), List.mem_of_getElem? (i := 585) (by decide +kernel)⟩
theorem lw_p56 : lw_okq (⟨"SilverFleetsModel", "plain", "()V"⟩, 22) := ⟨⟨by decide +kernel, by decide +kernel⟩, List.mem_of_getElem? (i := 600) (by decide +kernel), List.mem_of_getElem? (i := 606) (by decide +kernel), List.mem_of_getElem? (i := 607) (by decide +kernel)⟩
theorem lw_p57 : lw_okq (⟨"SilverFleetsModel", "takeDraft", "()V"⟩, 22) := ⟨⟨by decide +kernel, by decide +kernel⟩, List.mem_of_getElem? (i := 600) (by decide +kernel), List.mem_of_getElem? (i := 610) (by decide +kernel), List.mem_of_getElem? (i := 611) (by decide +kernel)⟩
theorem lw_p58 : lw_okq (⟨"SilverFleetsModel", "step", "()V"⟩, 22) := ⟨⟨by decide +kernel, by decide +kernel⟩, List.mem_of_getElem? (i := 600) (by decide +kernel), List.mem_of_getElem? (i := 698) (by decide +kernel), List.mem_of_getElem? (i := 699) (by decide +kernel)⟩
theorem lw_p59 : lw_okq (⟨"SilverFleetsModel", "here", "()I"⟩, 22) := ⟨⟨by decide +kernel, by decide +kernel⟩, List.mem_of_getElem? (i := 600) (by decide +kernel), List.mem_of_getElem? (i := 702) (by decide +kernel), List.mem_of_getElem? (i := 703) (by decide +kernel)⟩
theorem lw_p60 : lw_okq (⟨"SilverFleetsModel", "mayBe", "(I)Z"⟩, 22) := ⟨⟨by decide +kernel, by decide +kernel⟩, List.mem_of_getElem? (i := 600) (by decide +kernel), List.mem_of_getElem? (i := 706) (by decide +kernel), List.mem_of_getElem? (i := 707) (by decide +kernel)⟩
theorem lw_p61 : lw_okq (⟨"SilverFleetsModel", "due", "(Z)I"⟩, 22) := ⟨⟨by decide +kernel, by decide +kernel⟩, List.mem_of_getElem? (i := 600) (by decide +kernel), List.mem_of_getElem? (i := 710) (by decide +kernel), List.mem_of_getElem? (i := 711) (by decide +kernel)⟩
theorem lw_p62 : lw_okq (⟨"SilverFleetsModel", "readRow", "(I)V"⟩, 22) := ⟨⟨by decide +kernel, by decide +kernel⟩, List.mem_of_getElem? (i := 600) (by decide +kernel), List.mem_of_getElem? (i := 714) (by decide +kernel), List.mem_of_getElem? (i := 715) (by decide +kernel)⟩
theorem lw_p63 : lw_okq (⟨"SilverFleetsModel", "number", "(II)I"⟩, 22) := ⟨⟨by decide +kernel, by decide +kernel⟩, List.mem_of_getElem? (i := 600) (by decide +kernel), List.mem_of_getElem? (i := 718) (by decide +kernel), List.mem_of_getElem? (i := 719) (by decide +kernel)⟩
def lw_privs_4 : List (MethodName × Nat) := [(⟨"SilverFleets$Kinds", "markShip", "(I)I"⟩, 3), (⟨"SilverFleets$Kinds", "markDecoy", "(I)I"⟩, 3), (⟨"SilverFleets$Kinds", "markSlow", "(I)I"⟩, 3), (⟨"SilverFleets$Kinds", "markChest", "(I)I"⟩, 3), (⟨"SilverFleets$Kinds", "markLetter", "(I)I"⟩, 3), (⟨"SilverFleets$Kinds", "markPilot", "(I)I"⟩, 3), (⟨"SilverFleets", "imageOf", "(I)LSilverFleets$Log;"⟩, 9), (⟨"SilverFleets$Log", "copyFrom", "(LSilverFleets$Log;)V"⟩, 4), (⟨"SilverFleetsModel", "plain", "()V"⟩, 22), (⟨"SilverFleetsModel", "takeDraft", "()V"⟩, 22), (⟨"SilverFleetsModel", "step", "()V"⟩, 22), (⟨"SilverFleetsModel", "here", "()I"⟩, 22), (⟨"SilverFleetsModel", "mayBe", "(I)Z"⟩, 22), (⟨"SilverFleetsModel", "due", "(Z)I"⟩, 22), (⟨"SilverFleetsModel", "readRow", "(I)V"⟩, 22), (⟨"SilverFleetsModel", "number", "(II)I"⟩, 22)]
theorem lw_r4 : ∀ q ∈ lw_privs_4, lw_okq q := List.forall_mem_cons.mpr ⟨lw_p48, List.forall_mem_cons.mpr ⟨lw_p49, List.forall_mem_cons.mpr ⟨lw_p50, List.forall_mem_cons.mpr ⟨lw_p51, List.forall_mem_cons.mpr ⟨lw_p52, List.forall_mem_cons.mpr ⟨lw_p53, List.forall_mem_cons.mpr ⟨lw_p54, List.forall_mem_cons.mpr ⟨lw_p55, List.forall_mem_cons.mpr ⟨lw_p56, List.forall_mem_cons.mpr ⟨lw_p57, List.forall_mem_cons.mpr ⟨lw_p58, List.forall_mem_cons.mpr ⟨lw_p59, List.forall_mem_cons.mpr ⟨lw_p60, List.forall_mem_cons.mpr ⟨lw_p61, List.forall_mem_cons.mpr ⟨lw_p62, List.forall_mem_cons.mpr ⟨lw_p63, fun _ h => absurd h List.not_mem_nil⟩⟩⟩⟩⟩⟩⟩⟩⟩⟩⟩⟩⟩⟩⟩⟩
theorem lw_p64 : lw_okq (⟨"SilverFleetsModel", "isWeek", "(I)Z"⟩, 22) := ⟨⟨by decide +kernel, by decide +kernel⟩, List.mem_of_getElem? (i := 600) (by decide +kernel), List.mem_of_getElem? (i := 726) (by decide +kernel), List.mem_of_getElem? (i := 727) (by decide +kernel)⟩
theorem lw_p65 : lw_okq (⟨"SilverFleetsModel", "isShip", "(I)Z"⟩, 22) := ⟨⟨by decide +kernel, by decide +kernel⟩, List.mem_of_getElem? (i := 600) (by decide +kernel), List.mem_of_getElem? (i := 734) (by decide +kernel), List.mem_of_getElem? (i := 735) (by decide +kernel)⟩
theorem lw_p66 : lw_okq (⟨"SilverFleetsModel", "isOver", "()Z"⟩, 22) := ⟨⟨by decide +kernel, by decide +kernel⟩, List.mem_of_getElem? (i := 600) (by decide +kernel), List.mem_of_getElem? (i := 742) (by decide +kernel), List.mem_of_getElem? (i := 743) (by decide +kernel)⟩
theorem lw_p67 : lw_okq (⟨"SilverFleetsModel", "know", "()V"⟩, 22) := ⟨⟨by decide +kernel, by decide +kernel⟩, List.mem_of_getElem? (i := 600) (by decide +kernel), List.mem_of_getElem? (i := 746) (by decide +kernel), List.mem_of_getElem? (i := 747) (by decide +kernel)⟩
theorem lw_p68 : lw_okq (⟨"SilverFleetsModel", "all", "()I"⟩, 22) := ⟨⟨by decide +kernel, by decide +kernel⟩, List.mem_of_getElem? (i := 600) (by decide +kernel), List.mem_of_getElem? (i := 754) (by decide +kernel), List.mem_of_getElem? (i := 755) (by decide +kernel)⟩
theorem lw_p69 : lw_okq (⟨"SilverFleetsModel", "canSail", "(I)Z"⟩, 22) := ⟨⟨by decide +kernel, by decide +kernel⟩, List.mem_of_getElem? (i := 600) (by decide +kernel), List.mem_of_getElem? (i := 758) (by decide +kernel), List.mem_of_getElem? (i := 759) (by decide +kernel)⟩
theorem lw_p70 : lw_okq (⟨"SilverFleetsModel", "setIn", "(I)I"⟩, 22) := ⟨⟨by decide +kernel, by decide +kernel⟩, List.mem_of_getElem? (i := 600) (by decide +kernel), List.mem_of_getElem? (i := 762) (by decide +kernel), List.mem_of_getElem? (i := 763) (by decide +kernel)⟩
theorem lw_p71 : lw_okq (⟨"SilverFleetsModel", "takenOf", "(II)I"⟩, 22) := ⟨⟨by decide +kernel, by decide +kernel⟩, List.mem_of_getElem? (i := 600) (by decide +kernel), List.mem_of_getElem? (i := 766) (by decide +kernel), List.mem_of_getElem? (i := 767) (by decide +kernel)⟩
theorem lw_p72 : lw_okq (⟨"SilverFleetsModel", "silver", "(I)I"⟩, 22) := ⟨⟨by decide +kernel, by decide +kernel⟩, List.mem_of_getElem? (i := 600) (by decide +kernel), List.mem_of_getElem? (i := 770) (by decide +kernel), List.mem_of_getElem? (i := 771) (by decide +kernel)⟩
theorem lw_p73 : lw_okq (⟨"SilverFleetsModel", "draw", "(II)I"⟩, 22) := ⟨⟨by decide +kernel, by decide +kernel⟩, List.mem_of_getElem? (i := 600) (by decide +kernel), List.mem_of_getElem? (i := 774) (by decide +kernel), List.mem_of_getElem? (i := 775) (by decide +kernel)⟩
theorem lw_p74 : lw_okq (⟨"SilverFleetsModel", "shift", "(IIII)I"⟩, 22) := ⟨⟨by decide +kernel, by decide +kernel⟩, List.mem_of_getElem? (i := 600) (by decide +kernel), List.mem_of_getElem? (i := 786) (by decide +kernel), List.mem_of_getElem? (i := 787) (by decide +kernel)⟩
theorem lw_p75 : lw_okq (⟨"SilverFleetsModel", "silverOf", "(I)I"⟩, 22) := ⟨⟨by decide +kernel, by decide +kernel⟩, List.mem_of_getElem? (i := 600) (by decide +kernel), List.mem_of_getElem? (i := 810) (by decide +kernel), List.mem_of_getElem? (i := 811) (by decide +kernel)⟩
theorem lw_p76 : lw_okq (⟨"SilverFleetsModel", "worthOf", "(II)I"⟩, 22) := ⟨⟨by decide +kernel, by decide +kernel⟩, List.mem_of_getElem? (i := 600) (by decide +kernel), List.mem_of_getElem? (i := 818) (by decide +kernel), List.mem_of_getElem? (i := 819) (by decide +kernel)⟩
theorem lw_p77 : lw_okq (⟨"SilverFleetsModel", "measure", "(I)V"⟩, 22) := ⟨⟨by decide +kernel, by decide +kernel⟩, List.mem_of_getElem? (i := 600) (by decide +kernel), List.mem_of_getElem? (i := 826) (by decide +kernel), List.mem_of_getElem? (i := 827) (by decide +kernel)⟩
theorem lw_p78 : lw_okq (⟨"SilverFleetsModel", "mayGo", "(II)Z"⟩, 22) := ⟨⟨by decide +kernel, by decide +kernel⟩, List.mem_of_getElem? (i := 600) (by decide +kernel), List.mem_of_getElem? (i := 830) (by decide +kernel), List.mem_of_getElem? (i := 831) (by decide +kernel)⟩
def lw_privs_5 : List (MethodName × Nat) := [(⟨"SilverFleetsModel", "isWeek", "(I)Z"⟩, 22), (⟨"SilverFleetsModel", "isShip", "(I)Z"⟩, 22), (⟨"SilverFleetsModel", "isOver", "()Z"⟩, 22), (⟨"SilverFleetsModel", "know", "()V"⟩, 22), (⟨"SilverFleetsModel", "all", "()I"⟩, 22), (⟨"SilverFleetsModel", "canSail", "(I)Z"⟩, 22), (⟨"SilverFleetsModel", "setIn", "(I)I"⟩, 22), (⟨"SilverFleetsModel", "takenOf", "(II)I"⟩, 22), (⟨"SilverFleetsModel", "silver", "(I)I"⟩, 22), (⟨"SilverFleetsModel", "draw", "(II)I"⟩, 22), (⟨"SilverFleetsModel", "shift", "(IIII)I"⟩, 22), (⟨"SilverFleetsModel", "silverOf", "(I)I"⟩, 22), (⟨"SilverFleetsModel", "worthOf", "(II)I"⟩, 22), (⟨"SilverFleetsModel", "measure", "(I)V"⟩, 22), (⟨"SilverFleetsModel", "mayGo", "(II)Z"⟩, 22)]
theorem lw_r5 : ∀ q ∈ lw_privs_5, lw_okq q := List.forall_mem_cons.mpr ⟨lw_p64, List.forall_mem_cons.mpr ⟨lw_p65, List.forall_mem_cons.mpr ⟨lw_p66, List.forall_mem_cons.mpr ⟨lw_p67, List.forall_mem_cons.mpr ⟨lw_p68, List.forall_mem_cons.mpr ⟨lw_p69, List.forall_mem_cons.mpr ⟨lw_p70, List.forall_mem_cons.mpr ⟨lw_p71, List.forall_mem_cons.mpr ⟨lw_p72, List.forall_mem_cons.mpr ⟨lw_p73, List.forall_mem_cons.mpr ⟨lw_p74, List.forall_mem_cons.mpr ⟨lw_p75, List.forall_mem_cons.mpr ⟨lw_p76, List.forall_mem_cons.mpr ⟨lw_p77, List.forall_mem_cons.mpr ⟨lw_p78, fun _ h => absurd h List.not_mem_nil⟩⟩⟩⟩⟩⟩⟩⟩⟩⟩⟩⟩⟩⟩⟩
def lw_privs : List (MethodName × Nat) := lw_privs_1 ++ (lw_privs_2 ++ (lw_privs_3 ++ (lw_privs_4 ++ (lw_privs_5))))
def lw_tbl : List Cond := k2_sels lw_privs ++ tables_1
theorem lw_privs_ok : ∀ q ∈ lw_privs, lw_okq q := by
  show ∀ q ∈ lw_privs_1 ++ (lw_privs_2 ++ (lw_privs_3 ++ (lw_privs_4 ++ (lw_privs_5)))), lw_okq q
  exact List.forall_mem_append.mpr ⟨lw_r1, List.forall_mem_append.mpr ⟨lw_r2, List.forall_mem_append.mpr ⟨lw_r3, List.forall_mem_append.mpr ⟨lw_r4, lw_r5⟩⟩⟩⟩
-- ===== names (out of the printed names) =====
def RX0 : String := "SilverFleets$Fleet"
def TX0 : u_T := fun k => match k with
  | 0 => ("SilverFleets$Fleet", "season", "LSilverFleets$Season;", true)
  | 1 => ("SilverFleets$Fleet", "log", "LSilverFleets$Log;", true)
  | 2 => ("SilverFleets$Fleet", "ways", "[I", true)
  | 3 => ("SilverFleets$Fleet", "upper", "I", false)
  | _ => ("SilverFleets$Fleet", "lower", "I", false)
def tyX0 : Nat → FieldType := fun k => match k with
  | 0 => .object "SilverFleets$Season"
  | 1 => .object "SilverFleets$Log"
  | 2 => .array .int
  | 3 => .int
  | _ => .int
theorem nmX0 : ∀ a, a < 5 → ∀ b, b < 5 → a ≠ b → (TX0 a).2.1 ≠ (TX0 b).2.1 := by decide +kernel
theorem tyX0_ok : ∀ k, k < 5 → parseFieldDescriptor (TX0 k).2.2.1 = some (tyX0 k) := by decide +kernel
abbrev cX0_init : ByteArray := prog_2_method_1_code
def yX0_init : MethodName := ⟨RX0, "<init>", "(LSilverFleets$Season;LSilverFleets$Log;)V"⟩
abbrev cX0_inPort : ByteArray := prog_2_method_2_code
def yX0_inPort : MethodName := ⟨RX0, "inPort", "()I"⟩
abbrev cX0_readyIn : ByteArray := prog_2_method_3_code
def yX0_readyIn : MethodName := ⟨RX0, "readyIn", "(I)I"⟩
abbrev cX0_silverOnTheReef : ByteArray := prog_2_method_4_code
def yX0_silverOnTheReef : MethodName := ⟨RX0, "silverOnTheReef", "()I"⟩
abbrev cX0_listedTogether : ByteArray := prog_2_method_5_code
def yX0_listedTogether : MethodName := ⟨RX0, "listedTogether", "(I)I"⟩
abbrev cX0_silverTogether : ByteArray := prog_2_method_6_code
def yX0_silverTogether : MethodName := ⟨RX0, "silverTogether", "(I)I"⟩
abbrev cX0_takenOf : ByteArray := prog_2_method_7_code
def yX0_takenOf : MethodName := ⟨RX0, "takenOf", "(II)I"⟩
abbrev cX0_worthOf : ByteArray := prog_2_method_8_code
def yX0_worthOf : MethodName := ⟨RX0, "worthOf", "(II)I"⟩
abbrev cX0_reckonGame : ByteArray := prog_2_method_9_code
def yX0_reckonGame : MethodName := ⟨RX0, "reckonGame", "(III)V"⟩
abbrev cX0_reckonOdds : ByteArray := prog_2_method_10_code
def yX0_reckonOdds : MethodName := ⟨RX0, "reckonOdds", "(III)V"⟩
abbrev cX0_beginWays : ByteArray := prog_2_method_11_code
def yX0_beginWays : MethodName := ⟨RX0, "beginWays", "()V"⟩
abbrev cX0_addToWays : ByteArray := prog_2_method_12_code
def yX0_addToWays : MethodName := ⟨RX0, "addToWays", "(I)V"⟩
abbrev cX0_setFraction : ByteArray := prog_2_method_13_code
def yX0_setFraction : MethodName := ⟨RX0, "setFraction", "(II)V"⟩
def RX1 : String := "SilverFleets$Kinds"
def TX1 : u_T := fun k => match k with
  | 0 => ("SilverFleets$Kinds", "season", "LSilverFleets$Season;", true)
  | 1 => ("SilverFleets$Kinds", "log", "LSilverFleets$Log;", true)
  | _ => ("SilverFleets$Kinds", "trace", "J", false)
def tyX1 : Nat → FieldType := fun k => match k with
  | 0 => .object "SilverFleets$Season"
  | 1 => .object "SilverFleets$Log"
  | _ => .long
theorem nmX1 : ∀ a, a < 3 → ∀ b, b < 3 → a ≠ b → (TX1 a).2.1 ≠ (TX1 b).2.1 := by decide +kernel
theorem tyX1_ok : ∀ k, k < 3 → parseFieldDescriptor (TX1 k).2.2.1 = some (tyX1 k) := by decide +kernel
abbrev cX1_init : ByteArray := prog_3_method_1_code
def yX1_init : MethodName := ⟨RX1, "<init>", "(LSilverFleets$Season;LSilverFleets$Log;)V"⟩
abbrev cX1_markAs : ByteArray := prog_3_method_2_code
def yX1_markAs : MethodName := ⟨RX1, "markAs", "(II)I"⟩
abbrev cX1_markShip : ByteArray := prog_3_method_3_code
def yX1_markShip : MethodName := ⟨RX1, "markShip", "(I)I"⟩
abbrev cX1_markDecoy : ByteArray := prog_3_method_4_code
def yX1_markDecoy : MethodName := ⟨RX1, "markDecoy", "(I)I"⟩
abbrev cX1_markSlow : ByteArray := prog_3_method_5_code
def yX1_markSlow : MethodName := ⟨RX1, "markSlow", "(I)I"⟩
abbrev cX1_markChest : ByteArray := prog_3_method_6_code
def yX1_markChest : MethodName := ⟨RX1, "markChest", "(I)I"⟩
abbrev cX1_markLetter : ByteArray := prog_3_method_7_code
def yX1_markLetter : MethodName := ⟨RX1, "markLetter", "(I)I"⟩
abbrev cX1_markPilot : ByteArray := prog_3_method_8_code
def yX1_markPilot : MethodName := ⟨RX1, "markPilot", "(I)I"⟩
def RX2 : String := "SilverFleets$Log"
def TX2 : u_T := fun k => match k with
  | 0 => ("SilverFleets$Log", "now", "[I", true)
  | 1 => ("SilverFleets$Log", "past", "[I", true)
  | 2 => ("SilverFleets$Log", "known", "I", false)
  | _ => ("SilverFleets$Log", "kept", "Z", false)
def tyX2 : Nat → FieldType := fun k => match k with
  | 0 => .array .int
  | 1 => .array .int
  | 2 => .int
  | _ => .boolean
theorem nmX2 : ∀ a, a < 4 → ∀ b, b < 4 → a ≠ b → (TX2 a).2.1 ≠ (TX2 b).2.1 := by decide +kernel
theorem tyX2_ok : ∀ k, k < 4 → parseFieldDescriptor (TX2 k).2.2.1 = some (tyX2 k) := by decide +kernel
abbrev cX2_init : ByteArray := prog_4_method_1_code
def yX2_init : MethodName := ⟨RX2, "<init>", "()V"⟩
abbrev cX2_beginWith : ByteArray := prog_4_method_2_code
def yX2_beginWith : MethodName := ⟨RX2, "beginWith", "(LSilverFleets$Season;)V"⟩
abbrev cX2_remember : ByteArray := prog_4_method_3_code
def yX2_remember : MethodName := ⟨RX2, "remember", "()V"⟩
abbrev cX2_goBack : ByteArray := prog_4_method_4_code
def yX2_goBack : MethodName := ⟨RX2, "goBack", "()V"⟩
abbrev cX2_copyFrom : ByteArray := prog_4_method_5_code
def yX2_copyFrom : MethodName := ⟨RX2, "copyFrom", "(LSilverFleets$Log;)V"⟩
abbrev cX2_theWeek : ByteArray := prog_4_method_6_code
def yX2_theWeek : MethodName := ⟨RX2, "theWeek", "()I"⟩
abbrev cX2_placeOf : ByteArray := prog_4_method_7_code
def yX2_placeOf : MethodName := ⟨RX2, "placeOf", "(I)I"⟩
abbrev cX2_isInPort : ByteArray := prog_4_method_8_code
def yX2_isInPort : MethodName := ⟨RX2, "isInPort", "(I)Z"⟩
abbrev cX2_listedOf : ByteArray := prog_4_method_9_code
def yX2_listedOf : MethodName := ⟨RX2, "listedOf", "(I)I"⟩
abbrev cX2_hiddenOf : ByteArray := prog_4_method_10_code
def yX2_hiddenOf : MethodName := ⟨RX2, "hiddenOf", "(I)I"⟩
abbrev cX2_silverOf : ByteArray := prog_4_method_11_code
def yX2_silverOf : MethodName := ⟨RX2, "silverOf", "(I)I"⟩
abbrev cX2_setBars : ByteArray := prog_4_method_12_code
def yX2_setBars : MethodName := ⟨RX2, "setBars", "(III)V"⟩
def RX3 : String := "SilverFleets$Planner"
def TX3 : u_T := fun k => match k with
  | 0 => ("SilverFleets$Planner", "season", "LSilverFleets$Season;", true)
  | 1 => ("SilverFleets$Planner", "log", "LSilverFleets$Log;", true)
  | 2 => ("SilverFleets$Planner", "fleet", "LSilverFleets$Fleet;", true)
  | 3 => ("SilverFleets$Planner", "best", "[I", true)
  | 4 => ("SilverFleets$Planner", "choice", "[I", true)
  | _ => ("SilverFleets$Planner", "worths", "[I", true)
def tyX3 : Nat → FieldType := fun k => match k with
  | 0 => .object "SilverFleets$Season"
  | 1 => .object "SilverFleets$Log"
  | 2 => .object "SilverFleets$Fleet"
  | 3 => .array .int
  | 4 => .array .int
  | _ => .array .int
theorem nmX3 : ∀ a, a < 6 → ∀ b, b < 6 → a ≠ b → (TX3 a).2.1 ≠ (TX3 b).2.1 := by decide +kernel
theorem tyX3_ok : ∀ k, k < 6 → parseFieldDescriptor (TX3 k).2.2.1 = some (tyX3 k) := by decide +kernel
abbrev cX3_init : ByteArray := prog_5_method_1_code
def yX3_init : MethodName := ⟨RX3, "<init>", "(LSilverFleets$Season;LSilverFleets$Log;LSilverFleets$Fleet;)V"⟩
abbrev cX3_mostFrom : ByteArray := prog_5_method_2_code
def yX3_mostFrom : MethodName := ⟨RX3, "mostFrom", "(I)I"⟩
abbrev cX3_sailingIn : ByteArray := prog_5_method_3_code
def yX3_sailingIn : MethodName := ⟨RX3, "sailingIn", "(I)I"⟩
abbrev cX3_reckonFrom : ByteArray := prog_5_method_4_code
def yX3_reckonFrom : MethodName := ⟨RX3, "reckonFrom", "(I)V"⟩
abbrev cX3_reckonWorths : ByteArray := prog_5_method_5_code
def yX3_reckonWorths : MethodName := ⟨RX3, "reckonWorths", "(II)V"⟩
abbrev cX3_choose : ByteArray := prog_5_method_6_code
def yX3_choose : MethodName := ⟨RX3, "choose", "(III)V"⟩
def RX4 : String := "SilverFleets$Season"
def TX4 : u_T := fun k => match k with
  | 0 => ("SilverFleets$Season", "storm", "[I", true)
  | 1 => ("SilverFleets$Season", "pirates", "[I", true)
  | 2 => ("SilverFleets$Season", "listed", "[I", true)
  | 3 => ("SilverFleets$Season", "hidden", "[I", true)
  | 4 => ("SilverFleets$Season", "guns", "[I", true)
  | 5 => ("SilverFleets$Season", "ready", "[I", true)
  | 6 => ("SilverFleets$Season", "weeks", "I", false)
  | 7 => ("SilverFleets$Season", "ships", "I", false)
  | 8 => ("SilverFleets$Season", "share", "I", false)
  | _ => ("SilverFleets$Season", "shareTold", "Z", false)
def tyX4 : Nat → FieldType := fun k => match k with
  | 0 => .array .int
  | 1 => .array .int
  | 2 => .array .int
  | 3 => .array .int
  | 4 => .array .int
  | 5 => .array .int
  | 6 => .int
  | 7 => .int
  | 8 => .int
  | _ => .boolean
theorem nmX4 : ∀ a, a < 10 → ∀ b, b < 10 → a ≠ b → (TX4 a).2.1 ≠ (TX4 b).2.1 := by decide +kernel
theorem tyX4_ok : ∀ k, k < 10 → parseFieldDescriptor (TX4 k).2.2.1 = some (tyX4 k) := by decide +kernel
abbrev cX4_init : ByteArray := prog_6_method_1_code
def yX4_init : MethodName := ⟨RX4, "<init>", "()V"⟩
abbrev cX4_forgetAll : ByteArray := prog_6_method_2_code
def yX4_forgetAll : MethodName := ⟨RX4, "forgetAll", "()V"⟩
abbrev cX4_canTake : ByteArray := prog_6_method_3_code
def yX4_canTake : MethodName := ⟨RX4, "canTake", "(I)Z"⟩
abbrev cX4_addWeek : ByteArray := prog_6_method_4_code
def yX4_addWeek : MethodName := ⟨RX4, "addWeek", "(II)V"⟩
abbrev cX4_addShip : ByteArray := prog_6_method_5_code
def yX4_addShip : MethodName := ⟨RX4, "addShip", "(IIII)V"⟩
abbrev cX4_setShare : ByteArray := prog_6_method_6_code
def yX4_setShare : MethodName := ⟨RX4, "setShare", "(I)V"⟩
abbrev cX4_copyFrom : ByteArray := prog_6_method_7_code
def yX4_copyFrom : MethodName := ⟨RX4, "copyFrom", "(LSilverFleets$Season;)V"⟩
abbrev cX4_hasWeek : ByteArray := prog_6_method_8_code
def yX4_hasWeek : MethodName := ⟨RX4, "hasWeek", "(I)Z"⟩
abbrev cX4_hasShip : ByteArray := prog_6_method_9_code
def yX4_hasShip : MethodName := ⟨RX4, "hasShip", "(I)Z"⟩
abbrev cX4_hasSet : ByteArray := prog_6_method_10_code
def yX4_hasSet : MethodName := ⟨RX4, "hasSet", "(I)Z"⟩
def RX5 : String := "SilverFleets$Text"
def TX5 : u_T := fun k => match k with
  | 0 => ("SilverFleets$Text", "bytes", "[I", true)
  | 1 => ("SilverFleets$Text", "length", "I", false)
  | 2 => ("SilverFleets$Text", "token", "I", false)
  | 3 => ("SilverFleets$Text", "place", "I", false)
  | 4 => ("SilverFleets$Text", "end", "I", false)
  | 5 => ("SilverFleets$Text", "value", "I", false)
  | _ => ("SilverFleets$Text", "told", "[I", true)
def tyX5 : Nat → FieldType := fun k => match k with
  | 0 => .array .int
  | 1 => .int
  | 2 => .int
  | 3 => .int
  | 4 => .int
  | 5 => .int
  | _ => .array .int
theorem nmX5 : ∀ a, a < 7 → ∀ b, b < 7 → a ≠ b → (TX5 a).2.1 ≠ (TX5 b).2.1 := by decide +kernel
theorem tyX5_ok : ∀ k, k < 7 → parseFieldDescriptor (TX5 k).2.2.1 = some (tyX5 k) := by decide +kernel
abbrev cX5_init : ByteArray := prog_7_method_1_code
def yX5_init : MethodName := ⟨RX5, "<init>", "()V"⟩
abbrev cX5_readInto : ByteArray := prog_7_method_2_code
def yX5_readInto : MethodName := ⟨RX5, "readInto", "(LSilverFleets$Season;)I"⟩
abbrev cX5_readItem : ByteArray := prog_7_method_3_code
def yX5_readItem : MethodName := ⟨RX5, "readItem", "(LSilverFleets$Season;)Z"⟩
abbrev cX5_readNumbers : ByteArray := prog_7_method_4_code
def yX5_readNumbers : MethodName := ⟨RX5, "readNumbers", "([I)Z"⟩
abbrev cX5_mostOf : ByteArray := prog_7_method_5_code
def yX5_mostOf : MethodName := ⟨RX5, "mostOf", "(I)[I"⟩
abbrev cX5_scan : ByteArray := prog_7_method_6_code
def yX5_scan : MethodName := ⟨RX5, "scan", "()V"⟩
abbrev cX5_scanLetters : ByteArray := prog_7_method_7_code
def yX5_scanLetters : MethodName := ⟨RX5, "scanLetters", "()V"⟩
abbrev cX5_scanNumber : ByteArray := prog_7_method_8_code
def yX5_scanNumber : MethodName := ⟨RX5, "scanNumber", "()V"⟩
abbrev cX5_isLetterAt : ByteArray := prog_7_method_9_code
def yX5_isLetterAt : MethodName := ⟨RX5, "isLetterAt", "(I)Z"⟩
abbrev cX5_isDigitAt : ByteArray := prog_7_method_10_code
def yX5_isDigitAt : MethodName := ⟨RX5, "isDigitAt", "(I)Z"⟩
def RX6 : String := "SilverFleets"
def TX6 : u_T := fun k => match k with
  | 0 => ("SilverFleets", "text", "LSilverFleets$Text;", true)
  | 1 => ("SilverFleets", "season", "LSilverFleets$Season;", true)
  | 2 => ("SilverFleets", "draft", "LSilverFleets$Season;", true)
  | 3 => ("SilverFleets", "log", "LSilverFleets$Log;", true)
  | 4 => ("SilverFleets", "firstImage", "LSilverFleets$Log;", true)
  | 5 => ("SilverFleets", "secondImage", "LSilverFleets$Log;", true)
  | 6 => ("SilverFleets", "fleet", "LSilverFleets$Fleet;", true)
  | 7 => ("SilverFleets", "planner", "LSilverFleets$Planner;", true)
  | _ => ("SilverFleets", "kinds", "LSilverFleets$Kinds;", true)
def tyX6 : Nat → FieldType := fun k => match k with
  | 0 => .object "SilverFleets$Text"
  | 1 => .object "SilverFleets$Season"
  | 2 => .object "SilverFleets$Season"
  | 3 => .object "SilverFleets$Log"
  | 4 => .object "SilverFleets$Log"
  | 5 => .object "SilverFleets$Log"
  | 6 => .object "SilverFleets$Fleet"
  | 7 => .object "SilverFleets$Planner"
  | _ => .object "SilverFleets$Kinds"
theorem nmX6 : ∀ a, a < 9 → ∀ b, b < 9 → a ≠ b → (TX6 a).2.1 ≠ (TX6 b).2.1 := by decide +kernel
theorem tyX6_ok : ∀ k, k < 9 → parseFieldDescriptor (TX6 k).2.2.1 = some (tyX6 k) := by decide +kernel
abbrev cX6_init : ByteArray := prog_1_method_1_code
def yX6_init : MethodName := ⟨RX6, "<init>", "()V"⟩
abbrev cX6_type : ByteArray := prog_1_method_2_code
def yX6_type : MethodName := ⟨RX6, "type", "(I)I"⟩
abbrev cX6_clear : ByteArray := prog_1_method_3_code
def yX6_clear : MethodName := ⟨RX6, "clear", "()I"⟩
abbrev cX6_season : ByteArray := prog_1_method_4_code
def yX6_season : MethodName := ⟨RX6, "season", "()I"⟩
abbrev cX6_week : ByteArray := prog_1_method_5_code
def yX6_week : MethodName := ⟨RX6, "week", "(II)I"⟩
abbrev cX6_ship : ByteArray := prog_1_method_6_code
def yX6_ship : MethodName := ⟨RX6, "ship", "(II)I"⟩
abbrev cX6_waits : ByteArray := prog_1_method_7_code
def yX6_waits : MethodName := ⟨RX6, "waits", "()I"⟩
abbrev cX6_sails : ByteArray := prog_1_method_8_code
def yX6_sails : MethodName := ⟨RX6, "sails", "(II)I"⟩
abbrev cX6_lists : ByteArray := prog_1_method_9_code
def yX6_lists : MethodName := ⟨RX6, "lists", "(II)I"⟩
abbrev cX6_hides : ByteArray := prog_1_method_10_code
def yX6_hides : MethodName := ⟨RX6, "hides", "(II)I"⟩
abbrev cX6_throwsOff : ByteArray := prog_1_method_11_code
def yX6_throwsOff : MethodName := ⟨RX6, "throwsOff", "(II)I"⟩
abbrev cX6_raises : ByteArray := prog_1_method_12_code
def yX6_raises : MethodName := ⟨RX6, "raises", "(I)I"⟩
abbrev cX6_undo : ByteArray := prog_1_method_13_code
def yX6_undo : MethodName := ⟨RX6, "undo", "()I"⟩
abbrev cX6_now : ByteArray := prog_1_method_14_code
def yX6_now : MethodName := ⟨RX6, "now", "(I)I"⟩
abbrev cX6_worth : ByteArray := prog_1_method_15_code
def yX6_worth : MethodName := ⟨RX6, "worth", "(II)I"⟩
abbrev cX6_plan : ByteArray := prog_1_method_16_code
def yX6_plan : MethodName := ⟨RX6, "plan", "(I)I"⟩
abbrev cX6_late : ByteArray := prog_1_method_17_code
def yX6_late : MethodName := ⟨RX6, "late", "()I"⟩
abbrev cX6_game : ByteArray := prog_1_method_18_code
def yX6_game : MethodName := ⟨RX6, "game", "(IIII)I"⟩
abbrev cX6_odds : ByteArray := prog_1_method_19_code
def yX6_odds : MethodName := ⟨RX6, "odds", "(IIII)I"⟩
abbrev cX6_register : ByteArray := prog_1_method_20_code
def yX6_register : MethodName := ⟨RX6, "register", "(II)I"⟩
abbrev cX6_mark : ByteArray := prog_1_method_21_code
def yX6_mark : MethodName := ⟨RX6, "mark", "(II)I"⟩
abbrev cX6_keep : ByteArray := prog_1_method_22_code
def yX6_keep : MethodName := ⟨RX6, "keep", "(I)I"⟩
abbrev cX6_back : ByteArray := prog_1_method_23_code
def yX6_back : MethodName := ⟨RX6, "back", "(I)I"⟩
abbrev cX6_count : ByteArray := prog_1_method_24_code
def yX6_count : MethodName := ⟨RX6, "count", "(I)I"⟩
abbrev cX6_trace : ByteArray := prog_1_method_25_code
def yX6_trace : MethodName := ⟨RX6, "trace", "()J"⟩
abbrev cX6_isOver : ByteArray := prog_1_method_26_code
def yX6_isOver : MethodName := ⟨RX6, "isOver", "()Z"⟩
abbrev cX6_canSail : ByteArray := prog_1_method_27_code
def yX6_canSail : MethodName := ⟨RX6, "canSail", "(I)Z"⟩
abbrev cX6_sailOne : ByteArray := prog_1_method_28_code
def yX6_sailOne : MethodName := ⟨RX6, "sailOne", "(IZI)I"⟩
abbrev cX6_drawOf : ByteArray := prog_1_method_29_code
def yX6_drawOf : MethodName := ⟨RX6, "drawOf", "(III)I"⟩
abbrev cX6_isIn : ByteArray := prog_1_method_30_code
def yX6_isIn : MethodName := ⟨RX6, "isIn", "(II)Z"⟩
abbrev cX6_isNoHalf : ByteArray := prog_1_method_31_code
def yX6_isNoHalf : MethodName := ⟨RX6, "isNoHalf", "(I)Z"⟩
abbrev cX6_isImage : ByteArray := prog_1_method_32_code
def yX6_isImage : MethodName := ⟨RX6, "isImage", "(I)Z"⟩
abbrev cX6_imageOf : ByteArray := prog_1_method_33_code
def yX6_imageOf : MethodName := ⟨RX6, "imageOf", "(I)LSilverFleets$Log;"⟩
def RX7 : String := "SilverFleetsModel"
def TX7 : u_T := fun k => match k with
  | 0 => ("SilverFleetsModel", "trace", "J", false)
  | 1 => ("SilverFleetsModel", "text", "[B", true)
  | 2 => ("SilverFleetsModel", "typed", "I", false)
  | 3 => ("SilverFleetsModel", "weeks", "[I", true)
  | 4 => ("SilverFleetsModel", "storm", "[I", true)
  | 5 => ("SilverFleetsModel", "pirates", "[I", true)
  | 6 => ("SilverFleetsModel", "ships", "[I", true)
  | 7 => ("SilverFleetsModel", "draftListed", "[I", true)
  | 8 => ("SilverFleetsModel", "draftHidden", "[I", true)
  | 9 => ("SilverFleetsModel", "guns", "[I", true)
  | 10 => ("SilverFleetsModel", "ready", "[I", true)
  | 11 => ("SilverFleetsModel", "share", "[I", true)
  | 12 => ("SilverFleetsModel", "shareTold", "Z", false)
  | 13 => ("SilverFleetsModel", "at", "I", false)
  | 14 => ("SilverFleetsModel", "start", "I", false)
  | 15 => ("SilverFleetsModel", "sort", "I", false)
  | 16 => ("SilverFleetsModel", "value", "I", false)
  | 17 => ("SilverFleetsModel", "fault", "I", false)
  | 18 => ("SilverFleetsModel", "now", "[I", true)
  | 19 => ("SilverFleetsModel", "isKept", "[Z", true)
  | 20 => ("SilverFleetsModel", "most", "[I", true)
  | _ => ("SilverFleetsModel", "goes", "[I", true)
def tyX7 : Nat → FieldType := fun k => match k with
  | 0 => .long
  | 1 => .array .byte
  | 2 => .int
  | 3 => .array .int
  | 4 => .array .int
  | 5 => .array .int
  | 6 => .array .int
  | 7 => .array .int
  | 8 => .array .int
  | 9 => .array .int
  | 10 => .array .int
  | 11 => .array .int
  | 12 => .boolean
  | 13 => .int
  | 14 => .int
  | 15 => .int
  | 16 => .int
  | 17 => .int
  | 18 => .array .int
  | 19 => .array .boolean
  | 20 => .array .int
  | _ => .array .int
theorem nmX7 : ∀ a, a < 22 → ∀ b, b < 22 → a ≠ b → (TX7 a).2.1 ≠ (TX7 b).2.1 := by decide +kernel
theorem tyX7_ok : ∀ k, k < 22 → parseFieldDescriptor (TX7 k).2.2.1 = some (tyX7 k) := by decide +kernel
abbrev cX7_init : ByteArray := prog_9_method_1_code
def yX7_init : MethodName := ⟨RX7, "<init>", "()V"⟩
abbrev cX7_in : ByteArray := prog_9_method_3_code
def yX7_in : MethodName := ⟨RX7, "in", "(III)Z"⟩
abbrev cX7_type : ByteArray := prog_9_method_4_code
def yX7_type : MethodName := ⟨RX7, "type", "(I)I"⟩
abbrev cX7_clear : ByteArray := prog_9_method_5_code
def yX7_clear : MethodName := ⟨RX7, "clear", "()I"⟩
abbrev cX7_here : ByteArray := prog_9_method_6_code
def yX7_here : MethodName := ⟨RX7, "here", "()I"⟩
abbrev cX7_step : ByteArray := prog_9_method_7_code
def yX7_step : MethodName := ⟨RX7, "step", "()V"⟩
abbrev cX7_due : ByteArray := prog_9_method_8_code
def yX7_due : MethodName := ⟨RX7, "due", "(Z)I"⟩
abbrev cX7_number : ByteArray := prog_9_method_9_code
def yX7_number : MethodName := ⟨RX7, "number", "(II)I"⟩
abbrev cX7_mayBe : ByteArray := prog_9_method_10_code
def yX7_mayBe : MethodName := ⟨RX7, "mayBe", "(I)Z"⟩
abbrev cX7_readRow : ByteArray := prog_9_method_11_code
def yX7_readRow : MethodName := ⟨RX7, "readRow", "(I)V"⟩
abbrev cX7_plain : ByteArray := prog_9_method_12_code
def yX7_plain : MethodName := ⟨RX7, "plain", "()V"⟩
abbrev cX7_takeDraft : ByteArray := prog_9_method_13_code
def yX7_takeDraft : MethodName := ⟨RX7, "takeDraft", "()V"⟩
abbrev cX7_season : ByteArray := prog_9_method_14_code
def yX7_season : MethodName := ⟨RX7, "season", "()I"⟩
abbrev cX7_isWeek : ByteArray := prog_9_method_15_code
def yX7_isWeek : MethodName := ⟨RX7, "isWeek", "(I)Z"⟩
abbrev cX7_isShip : ByteArray := prog_9_method_16_code
def yX7_isShip : MethodName := ⟨RX7, "isShip", "(I)Z"⟩
abbrev cX7_all : ByteArray := prog_9_method_17_code
def yX7_all : MethodName := ⟨RX7, "all", "()I"⟩
abbrev cX7_isOver : ByteArray := prog_9_method_18_code
def yX7_isOver : MethodName := ⟨RX7, "isOver", "()Z"⟩
abbrev cX7_silver : ByteArray := prog_9_method_19_code
def yX7_silver : MethodName := ⟨RX7, "silver", "(I)I"⟩
abbrev cX7_manyOf : ByteArray := prog_9_method_20_code
def yX7_manyOf : MethodName := ⟨RX7, "manyOf", "(I)I"⟩
abbrev cX7_setIn : ByteArray := prog_9_method_21_code
def yX7_setIn : MethodName := ⟨RX7, "setIn", "(I)I"⟩
abbrev cX7_silverOf : ByteArray := prog_9_method_22_code
def yX7_silverOf : MethodName := ⟨RX7, "silverOf", "(I)I"⟩
abbrev cX7_takenOf : ByteArray := prog_9_method_23_code
def yX7_takenOf : MethodName := ⟨RX7, "takenOf", "(II)I"⟩
abbrev cX7_week : ByteArray := prog_9_method_24_code
def yX7_week : MethodName := ⟨RX7, "week", "(II)I"⟩
abbrev cX7_ship : ByteArray := prog_9_method_25_code
def yX7_ship : MethodName := ⟨RX7, "ship", "(II)I"⟩
abbrev cX7_know : ByteArray := prog_9_method_26_code
def yX7_know : MethodName := ⟨RX7, "know", "()V"⟩
abbrev cX7_waits : ByteArray := prog_9_method_27_code
def yX7_waits : MethodName := ⟨RX7, "waits", "()I"⟩
abbrev cX7_canSail : ByteArray := prog_9_method_28_code
def yX7_canSail : MethodName := ⟨RX7, "canSail", "(I)Z"⟩
abbrev cX7_draw : ByteArray := prog_9_method_29_code
def yX7_draw : MethodName := ⟨RX7, "draw", "(II)I"⟩
abbrev cX7_sails : ByteArray := prog_9_method_30_code
def yX7_sails : MethodName := ⟨RX7, "sails", "(II)I"⟩
abbrev cX7_shift : ByteArray := prog_9_method_31_code
def yX7_shift : MethodName := ⟨RX7, "shift", "(IIII)I"⟩
abbrev cX7_lists : ByteArray := prog_9_method_32_code
def yX7_lists : MethodName := ⟨RX7, "lists", "(II)I"⟩
abbrev cX7_hides : ByteArray := prog_9_method_33_code
def yX7_hides : MethodName := ⟨RX7, "hides", "(II)I"⟩
abbrev cX7_throwsOff : ByteArray := prog_9_method_34_code
def yX7_throwsOff : MethodName := ⟨RX7, "throwsOff", "(II)I"⟩
abbrev cX7_raises : ByteArray := prog_9_method_35_code
def yX7_raises : MethodName := ⟨RX7, "raises", "(I)I"⟩
abbrev cX7_undo : ByteArray := prog_9_method_36_code
def yX7_undo : MethodName := ⟨RX7, "undo", "()I"⟩
abbrev cX7_now : ByteArray := prog_9_method_37_code
def yX7_now : MethodName := ⟨RX7, "now", "(I)I"⟩
abbrev cX7_worthOf : ByteArray := prog_9_method_38_code
def yX7_worthOf : MethodName := ⟨RX7, "worthOf", "(II)I"⟩
abbrev cX7_worth : ByteArray := prog_9_method_39_code
def yX7_worth : MethodName := ⟨RX7, "worth", "(II)I"⟩
abbrev cX7_mayGo : ByteArray := prog_9_method_40_code
def yX7_mayGo : MethodName := ⟨RX7, "mayGo", "(II)Z"⟩
abbrev cX7_measure : ByteArray := prog_9_method_41_code
def yX7_measure : MethodName := ⟨RX7, "measure", "(I)V"⟩
abbrev cX7_plan : ByteArray := prog_9_method_42_code
def yX7_plan : MethodName := ⟨RX7, "plan", "(I)I"⟩
abbrev cX7_late : ByteArray := prog_9_method_43_code
def yX7_late : MethodName := ⟨RX7, "late", "()I"⟩
abbrev cX7_part : ByteArray := prog_9_method_44_code
def yX7_part : MethodName := ⟨RX7, "part", "(III)I"⟩
abbrev cX7_game : ByteArray := prog_9_method_45_code
def yX7_game : MethodName := ⟨RX7, "game", "(IIII)I"⟩
abbrev cX7_odds : ByteArray := prog_9_method_46_code
def yX7_odds : MethodName := ⟨RX7, "odds", "(IIII)I"⟩
abbrev cX7_register : ByteArray := prog_9_method_47_code
def yX7_register : MethodName := ⟨RX7, "register", "(II)I"⟩
abbrev cX7_mark : ByteArray := prog_9_method_48_code
def yX7_mark : MethodName := ⟨RX7, "mark", "(II)I"⟩
abbrev cX7_keep : ByteArray := prog_9_method_49_code
def yX7_keep : MethodName := ⟨RX7, "keep", "(I)I"⟩
abbrev cX7_back : ByteArray := prog_9_method_50_code
def yX7_back : MethodName := ⟨RX7, "back", "(I)I"⟩
abbrev cX7_count : ByteArray := prog_9_method_51_code
def yX7_count : MethodName := ⟨RX7, "count", "(I)I"⟩
abbrev cX7_trace : ByteArray := prog_9_method_52_code
def yX7_trace : MethodName := ⟨RX7, "trace", "()J"⟩
def RJ9 : String := "java/lang/Math"
def RJ10 : String := "java/lang/System"
def RL : String := "SilverFleetsLaw"
abbrev cL_law : ByteArray := code
def yL_law : MethodName := ⟨RL, "law", "([I)Z"⟩
abbrev vwCl : List vw_C := [(RX0, TX0, 5), (RX1, TX1, 3), (RX2, TX2, 4), (RX3, TX3, 6), (RX4, TX4, 10), (RX5, TX5, 7), (RX6, TX6, 9), (RX7, TX7, 22)]
def Rn : Nat → String := fun k => match k with
  | 0 => RX0
  | 1 => RX1
  | 2 => RX2
  | 3 => RX3
  | 4 => RX4
  | 5 => RX5
  | 6 => RX6
  | 7 => RX7
  | _ => RL
def Tn : Nat → u_T := fun k => match k with
  | 0 => TX0
  | 1 => TX1
  | 2 => TX2
  | 3 => TX3
  | 4 => TX4
  | 5 => TX5
  | 6 => TX6
  | _ => TX7
def tyn : Nat → Nat → FieldType := fun k => match k with
  | 0 => tyX0
  | 1 => tyX1
  | 2 => tyX2
  | 3 => tyX3
  | 4 => tyX4
  | 5 => tyX5
  | 6 => tyX6
  | _ => tyX7
def Nn : Nat → Nat := fun k => match k with
  | 0 => 5
  | 1 => 3
  | 2 => 4
  | 3 => 6
  | 4 => 10
  | 5 => 7
  | 6 => 9
  | _ => 22
/-- all words that may be handed on to a callee, and the links among nest mates -/
def Wd : List Cond := lw_tbl.filter goodWord
def isNest (w : Cond) : Bool := match w with
  | .fieldLinkNest _ _ _ _ _ _ => true
  | .methodLinkNest _ _ _ _ => true
  | _ => false
def Nw : List Cond := lw_tbl.filter isNest
theorem mW (n : Nat) {w : Cond} (h : lw_tbl[n]? = some w) (g : goodWord w = true) : w ∈ Wd := List.mem_filter.mpr ⟨List.mem_of_getElem? h, g⟩
theorem mN (n : Nat) {w : Cond} (h : lw_tbl[n]? = some w) (g : isNest w = true) : w ∈ Nw := List.mem_filter.mpr ⟨List.mem_of_getElem? h, g⟩
theorem wd_tbl {w : Cond} (h : w ∈ Wd) : w ∈ lw_tbl := (List.mem_filter.mp h).1
theorem nw_tbl {w : Cond} (h : w ∈ Nw) : w ∈ lw_tbl := (List.mem_filter.mp h).1
theorem wd_good {w : Cond} (h : w ∈ Wd) : goodWord w = true := (List.mem_filter.mp h).2
theorem goodIn_wd {c : Cond} {Ts : List Cond} (hT : ∀ w ∈ Wd, w ∈ Ts) (hc : c ∈ Wd) : GoodIn Ts (c :: Wd) := fun w h => by
  rcases List.mem_cons.mp h with rfl | h
  · exact ⟨hT _ hc, good_of_word (wd_good hc)⟩
  · exact ⟨hT _ h, good_of_word (wd_good h)⟩
/-- several words by their places -/
theorem mWs (ws : List Cond) (ps : List Nat) (h : ws = ps.filterMap (fun i => lw_tbl[i]?)) (g : ws.all goodWord = true) : ∀ w ∈ ws, w ∈ Wd := fun w hw => by
  have g1 := List.all_eq_true.mp g w hw
  rw [h] at hw
  obtain ⟨i, -, hi⟩ := List.mem_filterMap.mp hw
  exact mW i hi g1
theorem mNs (ws : List Cond) (ps : List Nat) (h : ws = ps.filterMap (fun i => lw_tbl[i]?)) (g : ws.all isNest = true) : ∀ w ∈ ws, w ∈ Nw := fun w hw => by
  have g1 := List.all_eq_true.mp g w hw
  rw [h] at hw
  obtain ⟨i, -, hi⟩ := List.mem_filterMap.mp hw
  exact mN i hi g1
theorem uwX0 : ∀ w ∈ u_ws RX0 TX0 5, w ∈ Wd := mWs _ [220, 222, 224, 226, 228] (by decide +kernel) (by decide +kernel)
theorem uwX1 : ∀ w ∈ u_ws RX1 TX1 3, w ∈ Wd := mWs _ [266, 268, 270] (by decide +kernel) (by decide +kernel)
theorem uwX2 : ∀ w ∈ u_ws RX2 TX2 4, w ∈ Wd := mWs _ [198, 200, 202, 204] (by decide +kernel) (by decide +kernel)
theorem uwX3 : ∀ w ∈ u_ws RX3 TX3 6, w ∈ Wd := mWs _ [243, 245, 247, 249, 251, 253] (by decide +kernel) (by decide +kernel)
theorem uwX4 : ∀ w ∈ u_ws RX4 TX4 10, w ∈ Wd := mWs _ [165, 167, 169, 171, 173, 175, 177, 179, 181, 183] (by decide +kernel) (by decide +kernel)
theorem uwX5 : ∀ w ∈ u_ws RX5 TX5 7, w ∈ Wd := mWs _ [115, 117, 119, 121, 123, 125, 127] (by decide +kernel) (by decide +kernel)
theorem uwX6 : ∀ w ∈ u_ws RX6 TX6 9, w ∈ Wd := mWs _ [282, 284, 286, 288, 290, 292, 294, 296, 298] (by decide +kernel) (by decide +kernel)
theorem uwX7 : ∀ w ∈ u_ws RX7 TX7 22, w ∈ Wd := mWs _ [714, 716, 718, 720, 722, 724, 726, 728, 730, 732, 734, 736, 738, 740, 742, 744, 746, 748, 750, 752, 754, 756] (by decide +kernel) (by decide +kernel)
theorem uwn : ∀ k, k < 8 → ∀ w ∈ u_ws (Rn k) (Tn k) (Nn k), w ∈ Wd := fun k hk => match k, hk with
  | 0, _ => uwX0
  | 1, _ => uwX1
  | 2, _ => uwX2
  | 3, _ => uwX3
  | 4, _ => uwX4
  | 5, _ => uwX5
  | 6, _ => uwX6
  | 7, _ => uwX7
  | k + 8, h => absurd h (by omega)
theorem nmn : ∀ k, k < 8 → ∀ a, a < Nn k → ∀ b, b < Nn k → a ≠ b → (Tn k a).2.1 ≠ (Tn k b).2.1 := fun k hk => match k, hk with
  | 0, _ => nmX0
  | 1, _ => nmX1
  | 2, _ => nmX2
  | 3, _ => nmX3
  | 4, _ => nmX4
  | 5, _ => nmX5
  | 6, _ => nmX6
  | 7, _ => nmX7
  | k + 8, h => absurd h (by omega)
theorem tyn_ok : ∀ k, k < 8 → ∀ a, a < Nn k → parseFieldDescriptor (Tn k a).2.2.1 = some (tyn k a) := fun k hk => match k, hk with
  | 0, _ => tyX0_ok
  | 1, _ => tyX1_ok
  | 2, _ => tyX2_ok
  | 3, _ => tyX3_ok
  | 4, _ => tyX4_ok
  | 5, _ => tyX5_ok
  | 6, _ => tyX6_ok
  | 7, _ => tyX7_ok
  | k + 8, h => absurd h (by omega)
theorem cln : ∀ k, k < 8 → vwCl[k]? = some (Rn k, Tn k, Nn k) := fun k hk => match k, hk with
  | 0, _ => rfl
  | 1, _ => rfl
  | 2, _ => rfl
  | 3, _ => rfl
  | 4, _ => rfl
  | 5, _ => rfl
  | 6, _ => rfl
  | 7, _ => rfl
  | k + 8, h => absurd h (by omega)
theorem own_n : ∀ k, k < 8 → ∀ a, a < Nn k → (Tn k a).1 = Rn k := by decide +kernel
/-- field links: own class, index, class of the field, its place; the nest mates' apart -/
def FTl : List (Nat × Nat × Nat × Nat) := [(5, 9, 5, 0), (5, 74, 5, 1), (5, 31, 5, 2), (5, 38, 5, 3), (5, 24, 5, 4), (5, 41, 5, 5), (5, 16, 5, 6), (4, 9, 4, 0), (4, 15, 4, 1), (4, 18, 4, 2), (4, 21, 4, 3), (4, 24, 4, 4), (4, 27, 4, 5), (4, 34, 4, 6), (4, 37, 4, 7), (4, 30, 4, 8), (4, 40, 4, 9), (2, 11, 2, 0), (2, 15, 2, 1), (2, 18, 2, 2), (0, 15, 0, 0), (0, 19, 0, 1), (0, 9, 0, 2), (0, 90, 0, 3), (0, 93, 0, 4), (3, 21, 3, 0), (3, 25, 3, 1), (3, 29, 3, 2), (3, 9, 3, 3), (3, 15, 3, 4), (3, 18, 3, 5), (1, 11, 1, 0), (1, 15, 1, 1), (1, 39, 1, 2), (6, 12, 6, 0), (6, 19, 6, 1), (6, 23, 6, 2), (6, 29, 6, 3), (6, 33, 6, 4), (6, 36, 6, 5), (6, 44, 6, 6), (6, 53, 6, 7), (6, 60, 6, 8), (7, 175, 7, 0), (7, 7, 7, 1), (7, 64, 7, 2), (7, 13, 7, 3), (7, 17, 7, 4), (7, 20, 7, 5), (7, 23, 7, 6), (7, 26, 7, 7), (7, 29, 7, 8), (7, 32, 7, 9), (7, 35, 7, 10), (7, 38, 7, 11), (7, 94, 7, 12), (7, 68, 7, 13), (7, 75, 7, 14), (7, 81, 7, 15), (7, 78, 7, 16), (7, 84, 7, 17), (7, 41, 7, 18), (7, 44, 7, 19), (7, 48, 7, 20), (7, 51, 7, 21)]
def GTl : List (Nat × Nat × Nat × Nat) := [(6, 68, 5, 0), (6, 64, 5, 1), (6, 91, 4, 0), (0, 65, 4, 0), (6, 94, 4, 1), (0, 55, 4, 1), (2, 27, 4, 2), (2, 30, 4, 3), (1, 50, 4, 4), (6, 107, 4, 4), (0, 52, 4, 4), (0, 35, 4, 5), (1, 58, 4, 5), (6, 110, 4, 5), (3, 33, 4, 6), (6, 219, 4, 6), (0, 23, 4, 7), (2, 22, 4, 7), (6, 140, 4, 7), (6, 222, 4, 8), (6, 123, 2, 0), (6, 166, 2, 2), (6, 83, 2, 3), (6, 193, 0, 3), (6, 196, 0, 4), (6, 225, 1, 2)]
def fwd (q : Nat × Nat × Nat × Nat) : Cond := .fieldLink (Rn q.1) q.2.1 (Rn q.2.2.1) (Tn q.2.2.1 q.2.2.2).2.1 (Tn q.2.2.1 q.2.2.2).2.2.1
def gwd (q : Nat × Nat × Nat × Nat) : Cond := .fieldLinkNest (Rn q.1) q.2.1 (Rn q.2.2.1) (Tn q.2.2.1 q.2.2.2).2.1 (Tn q.2.2.1 q.2.2.2).2.2.1 "SilverFleets"
theorem FT_ok : ∀ w ∈ FTl.map fwd, w ∈ Wd := mWs _ [106, 109, 110, 111, 112, 113, 114, 137, 140, 143, 145, 147, 151, 155, 158, 162, 164, 192, 194, 195, 213, 214, 215, 216, 218, 237, 238, 239, 240, 241, 242, 262, 263, 264, 273, 274, 275, 276, 277, 278, 279, 280, 281, 692, 693, 694, 695, 696, 697, 698, 699, 700, 701, 702, 703, 704, 705, 706, 707, 708, 709, 710, 711, 712, 713] (by decide +kernel) (by decide +kernel)
theorem GT_ok : ∀ w ∈ GTl.map gwd, w ∈ Nw := mNs _ [107, 108, 138, 139, 141, 142, 144, 146, 148, 149, 150, 152, 153, 154, 156, 157, 159, 160, 161, 163, 193, 196, 197, 217, 219, 265] (by decide +kernel) (by decide +kernel)
theorem FT_lt : FTl.all (fun q => decide (q.2.2.1 < 8) && decide (q.2.2.2 < Nn q.2.2.1)) = true := by decide +kernel
theorem GT_lt : GTl.all (fun q => decide (q.2.2.1 < 8) && decide (q.2.2.2 < Nn q.2.2.1)) = true := by decide +kernel
def CIl : List (Nat × Nat × Int32) := [(6, 205, -1000000), (1, 38, -1000000), (7, 174, -1000000)]
def CLl : List (Nat × Nat × Int64) := [(6, 233, 7919), (6, 235, 6151), (6, 237, 12289), (6, 239, 65521), (6, 241, 8), (6, 243, 10), (1, 48, 10), (1, 56, 100), (1, 61, 1000), (1, 63, 10000), (1, 65, 100000), (7, 130, 7919), (7, 132, 6151), (7, 134, 12289), (7, 136, 65521), (7, 179, 11), (7, 181, 101), (7, 183, 1011), (7, 185, 10101), (7, 187, 100001)]
theorem CI_ok : ∀ w ∈ CIl.map (fun q => Cond.constant (Rn q.1) q.2.1 q.2.2), w ∈ Wd := mWs _ [614, 650, 938] (by decide +kernel) (by decide +kernel)
theorem CL_ok : ∀ w ∈ CLl.map (fun q => Cond.constantLong (Rn q.1) q.2.1 q.2.2), w ∈ Wd := mWs _ [470, 471, 472, 473, 474, 475, 628, 633, 638, 643, 648, 856, 857, 858, 859, 939, 940, 941, 942, 943] (by decide +kernel) (by decide +kernel)
def snm (k : Nat) : String := match k with
  | 100 => "WEEK_MOST"
  | 101 => "SHIP_MOST"
  | _ => "SHARE_MOST"
def STl : List (Nat × Nat × Nat) := [(5, 13, 101), (5, 68, 100), (5, 71, 102)]
theorem ST_ok : ∀ w ∈ STl.map (fun q => Cond.fieldLink (Rn q.1) q.2.1 RX5 (snm q.2.2) "[I"), w ∈ Wd := mWs _ [104, 355, 357] (by decide +kernel) (by decide +kernel)
end
section
/-! THE ABSTRACT MACHINE: a fixed world of cells (SH), whose refs are the cells' numbers; numbers in fields (I, J) and in arrays (G) -/
abbrev SH : Type := List ((Nat × List (Nat × Nat)) ⊕ (Nat × Nat))
abbrev II : Type := Nat → Nat → Int32
abbrev JJ : Type := Nat → Nat → Int64
abbrev LV : Type := List (Option Value)
abbrev PP : Type := Option Value → II → JJ → II → Prop
def up2 {α : Type} (f : Nat → Nat → α) (a b : Nat) (v : α) : Nat → Nat → α := fun x y => if x = a then (if y = b then v else f x y) else f x y
def ety (k : Nat) : FieldType := match k with
  | 0 => .int
  | 1 => .byte
  | _ => .boolean
/-- a field: (0, k) the cell k; (1, _) an int; (2, _) a long; (3, _) a boolean -/
def fdv (I : II) (J : JJ) (k j : Nat) (fd : Nat × Nat) : Value := match fd.1 with
  | 0 => .ref fd.2
  | 2 => .long (J k j)
  | _ => .int (I k j)
def con (ad : Nat → Nat) (v : Value) : Value := match v with
  | .ref k => .ref (ad k)
  | w => w
def cellOf (cA : Nat → ClassId) (ad : Nat → Nat) (I : II) (J : JJ) (G : II) (k : Nat) (sh : (Nat × List (Nat × Nat)) ⊕ (Nat × Nat)) : Nat × va_E := match sh with
  | .inl o => (ad k, .inr (o.1, o.2.mapIdx (fun j fd => con ad (fdv I J k j fd))))
  | .inr a => (ad k, .inl (cA a.1, a.2, .inl (G k)))
def wrl (S : SH) (cA : Nat → ClassId) (ad : Nat → Nat) (I : II) (J : JJ) (G : II) : va_W := S.mapIdx (fun k sh => cellOf cA ad I J G k sh)
theorem wrl_get {S : SH} {cA : Nat → ClassId} {ad : Nat → Nat} {I : II} {J : JJ} {G : II} {k : Nat} {sh : (Nat × List (Nat × Nat)) ⊕ (Nat × Nat)} (h : S[k]? = some sh) : (wrl S cA ad I J G)[k]? = some (cellOf cA ad I J G k sh) := by
  simp [wrl, List.getElem?_mapIdx, h]
theorem wrl_len {S : SH} {cA : Nat → ClassId} {ad : Nat → Nat} {I : II} {J : JJ} {G : II} : (wrl S cA ad I J G).length = S.length := by simp [wrl]
theorem cellOf_1 {cA : Nat → ClassId} {ad : Nat → Nat} {I : II} {J : JJ} {G : II} {k : Nat} (sh : (Nat × List (Nat × Nat)) ⊕ (Nat × Nat)) : (cellOf cA ad I J G k sh).1 = ad k := by
  cases sh <;> rfl
/-- which cells are the world's own, or new -/
def AA (S : SH) (ad : Nat → Nat) (sz : Nat) : Nat → Prop := fun q => (∃ k, k < S.length ∧ q = ad k) ∨ sz ≤ q
def AdI (S : SH) (ad : Nat → Nat) : Prop := ∀ i j, i < S.length → j < S.length → ad i = ad j → i = j
theorem wrl_at {S : SH} {cA : Nat → ClassId} {ad : Nat → Nat} {I : II} {J : JJ} {G : II} {k : Nat} {q : Nat × va_E} (h : (wrl S cA ad I J G)[k]? = some q) : k < S.length ∧ q.1 = ad k := by
  have hk : k < S.length := by
    have := (List.getElem?_eq_some_iff.mp h).1
    rwa [wrl_len] at this
  refine ⟨hk, ?_⟩
  have h2 := wrl_get (cA := cA) (ad := ad) (I := I) (J := J) (G := G) (List.getElem?_eq_getElem hk)
  rw [h2] at h
  cases h
  exact cellOf_1 _
theorem AdI.D {S : SH} {cA : Nat → ClassId} {ad : Nat → Nat} {I : II} {J : JJ} {G : II} {sz : Nat} (h : AdI S ad) : va_D (AA S ad sz) (wrl S cA ad I J G) := by
  refine ⟨fun i j p q hi hj hpq => ?_, fun k q hk => ?_⟩
  · obtain ⟨a1, a2⟩ := wrl_at hi
    obtain ⟨b1, b2⟩ := wrl_at hj
    exact h i j a1 b1 (by rw [← a2, ← b2]; exact hpq)
  · obtain ⟨a1, a2⟩ := wrl_at hk
    exact Or.inl ⟨k, a1, a2⟩
theorem AA.le {S : SH} {ad : Nat → Nat} {a b : Nat} (h : a ≤ b) : ∀ q, AA S ad b q → AA S ad a q := fun q hq => hq.elim Or.inl (fun g => Or.inr (Nat.le_trans h g))
/-- an int or boolean field is written -/
theorem wrl_setI {S : SH} {cA : Nat → ClassId} {ad : Nat → Nat} {I : II} {J : JJ} {G : II} {k j ci : Nat} {fds : List (Nat × Nat)} {fd : Nat × Nat} {v : Int32} (h : S[k]? = some (.inl (ci, fds))) (hj : fds[j]? = some fd) (h0 : fd.1 ≠ 0) (h2 : fd.1 ≠ 2) :
    (wrl S cA ad I J G).set k (ad k, .inr (ci, (fds.mapIdx (fun j fd => con ad (fdv I J k j fd))).set j (.int v))) = wrl S cA ad (up2 I k j v) J G := by
  refine List.ext_getElem? (fun n => ?_)
  rw [List.getElem?_set, wrl_len]
  by_cases hn : k = n
  · subst hn
    have hl : k < S.length := (List.getElem?_eq_some_iff.mp h).1
    rw [if_pos rfl, if_pos hl, wrl_get h]
    show some (ad k, _) = some (ad k, _)
    refine congrArg some (congrArg (Prod.mk (ad k)) (congrArg Sum.inr (congrArg (Prod.mk ci) ?_)))
    refine List.ext_getElem? (fun i => ?_)
    rw [List.getElem?_set]
    simp only [List.getElem?_mapIdx, List.length_mapIdx]
    by_cases hi : j = i
    · subst hi
      have hjl : j < fds.length := (List.getElem?_eq_some_iff.mp hj).1
      rw [if_pos rfl, if_pos hjl, hj]
      obtain ⟨f1, f2⟩ := fd
      match f1, h0, h2 with
      | 1, _, _ => simp [fdv, con, up2]
      | n + 3, _, _ => simp [fdv, con, up2]
    · rw [if_neg hi]
      cases hf : fds[i]? with
      | none => rfl
      | some g =>
        obtain ⟨g1, g2⟩ := g
        have hne : ¬ i = j := fun e => hi e.symm
        match g1 with
        | 0 => simp [fdv, con]
        | 1 => simp [fdv, con, up2, hne]
        | 2 => simp [fdv, con]
        | n + 3 => simp [fdv, con, up2, hne]
  · rw [if_neg hn]
    simp only [wrl, List.getElem?_mapIdx]
    cases hs : S[n]? with
    | none => rfl
    | some sh =>
      have hne : ¬ n = k := fun e => hn e.symm
      cases sh with
      | inr a => rfl
      | inl o =>
        simp only [Option.map_some, cellOf]
        refine congrArg some (congrArg (Prod.mk (ad n)) (congrArg Sum.inr (congrArg (Prod.mk o.1) ?_)))
        refine List.ext_getElem? (fun i => ?_)
        simp only [List.getElem?_mapIdx]
        cases hf : o.2[i]? with
        | none => rfl
        | some g =>
          obtain ⟨g1, g2⟩ := g
          match g1 with
          | 0 => simp [fdv, con]
          | 1 => simp [fdv, con, up2, hne]
          | 2 => simp [fdv, con]
          | n + 3 => simp [fdv, con, up2, hne]
theorem wrl_setJ {S : SH} {cA : Nat → ClassId} {ad : Nat → Nat} {I : II} {J : JJ} {G : II} {k j ci : Nat} {fds : List (Nat × Nat)} {fd : Nat × Nat} {v : Int64} (h : S[k]? = some (.inl (ci, fds))) (hj : fds[j]? = some fd) (h2 : fd.1 = 2) :
    (wrl S cA ad I J G).set k (ad k, .inr (ci, (fds.mapIdx (fun j fd => con ad (fdv I J k j fd))).set j (.long v))) = wrl S cA ad I (up2 J k j v) G := by
  refine List.ext_getElem? (fun n => ?_)
  rw [List.getElem?_set, wrl_len]
  by_cases hn : k = n
  · subst hn
    have hl : k < S.length := (List.getElem?_eq_some_iff.mp h).1
    rw [if_pos rfl, if_pos hl, wrl_get h]
    show some (ad k, _) = some (ad k, _)
    refine congrArg some (congrArg (Prod.mk (ad k)) (congrArg Sum.inr (congrArg (Prod.mk ci) ?_)))
    refine List.ext_getElem? (fun i => ?_)
    rw [List.getElem?_set]
    simp only [List.getElem?_mapIdx, List.length_mapIdx]
    by_cases hi : j = i
    · subst hi
      have hjl : j < fds.length := (List.getElem?_eq_some_iff.mp hj).1
      rw [if_pos rfl, if_pos hjl, hj]
      obtain ⟨f1, f2⟩ := fd
      dsimp only at h2
      subst h2
      simp [fdv, con, up2]
    · rw [if_neg hi]
      cases hf : fds[i]? with
      | none => rfl
      | some g =>
        obtain ⟨g1, g2⟩ := g
        have hne : ¬ i = j := fun e => hi e.symm
        match g1 with
        | 0 => simp [fdv, con]
        | 1 => simp [fdv, con]
        | 2 => simp [fdv, con, up2, hne]
        | n + 3 => simp [fdv, con]
  · rw [if_neg hn]
    simp only [wrl, List.getElem?_mapIdx]
    cases hs : S[n]? with
    | none => rfl
    | some sh =>
      have hne : ¬ n = k := fun e => hn e.symm
      cases sh with
      | inr a => rfl
      | inl o =>
        simp only [Option.map_some, cellOf]
        refine congrArg some (congrArg (Prod.mk (ad n)) (congrArg Sum.inr (congrArg (Prod.mk o.1) ?_)))
        refine List.ext_getElem? (fun i => ?_)
        simp only [List.getElem?_mapIdx]
        cases hf : o.2[i]? with
        | none => rfl
        | some g =>
          obtain ⟨g1, g2⟩ := g
          match g1 with
          | 0 => simp [fdv, con]
          | 1 => simp [fdv, con]
          | 2 => simp [fdv, con, up2, hne]
          | n + 3 => simp [fdv, con]
theorem wrl_setG {S : SH} {cA : Nat → ClassId} {ad : Nat → Nat} {I : II} {J : JJ} {G : II} {k : Nat} {a : Nat × Nat} {f : Nat → Int32} (h : S[k]? = some (.inr a)) :
    (wrl S cA ad I J G).set k (ad k, .inl (cA a.1, a.2, .inl f)) = wrl S cA ad I J (va_up G k f) := by
  refine List.ext_getElem? (fun n => ?_)
  rw [List.getElem?_set, wrl_len]
  by_cases hn : k = n
  · subst hn
    have hl : k < S.length := (List.getElem?_eq_some_iff.mp h).1
    rw [if_pos rfl, if_pos hl, wrl_get h]
    simp [cellOf, va_up]
  · rw [if_neg hn]
    simp only [wrl, List.getElem?_mapIdx]
    cases hs : S[n]? with
    | none => rfl
    | some sh =>
      have hne : ¬ n = k := fun e => hn e.symm
      cases sh with
      | inr a => simp [cellOf, va_up, hne]
      | inl o => rfl
theorem con_cat (ad : Nat → Nat) (v : Value) : (con ad v).category = v.category := by cases v <;> rfl
/-- the frame's locals, by their places -/
def lvP (ad : Nat → Nat) (ls : Array Slot) (nL : Nat) (L : LV) : Prop := ls.size = nL ∧ lv_wf ls ∧ ∀ (i : Nat) (v : Value), L[i]? = some (some v) → ls[i]? = some (.val (con ad v))
def isTwo (o : Option (Option Value)) : Bool := match o with
  | some (some (.long _)) => true
  | some (some (.double _)) => true
  | _ => false
/-- a two-slot value just ahead of the place i is lost when i is written -/
def lose (L : LV) (i : Nat) : LV := match i with
  | 0 => L
  | j + 1 => if isTwo L[j]? = true then L.set j none else L
def st1 (L : LV) (i : Nat) (v : Value) : LV := (lose L i).set i (some v)
def st2 (L : LV) (i : Nat) (v : Value) : LV := ((lose L i).set (i + 1) none).set i (some v)
theorem isTwo_of {L : LV} {j : Nat} {v : Value} (h : L[j]? = some (some v)) (hc : v.category = 2) : isTwo L[j]? = true := by
  rw [h]
  cases v <;> first | rfl | (simp [Value.category] at hc)
theorem lose_sub {L : LV} {i n : Nat} {v : Value} (h : (lose L i)[n]? = some (some v)) : L[n]? = some (some v) ∧ (n + 1 = i → v.category ≠ 2) := by
  unfold lose at h
  cases i with
  | zero => exact ⟨h, fun e => absurd e (by omega)⟩
  | succ j =>
    dsimp only at h
    by_cases ht : isTwo L[j]? = true
    · rw [if_pos ht, List.getElem?_set] at h
      by_cases hj : j = n
      · rw [if_pos hj] at h
        split at h <;> simp at h
      · rw [if_neg hj] at h
        exact ⟨h, fun e => absurd e (by omega)⟩
    · rw [if_neg ht] at h
      refine ⟨h, fun e hc => ht ?_⟩
      have : n = j := by omega
      subst this
      exact isTwo_of h hc
def lvl (ad : Nat → Nat) (nL : Nat) (L : LV) : List (Nat × Value) := (List.range nL).filterMap (fun n => (L[n]?.join).map (fun w => (n, con ad w)))
theorem lvP.has {ad : Nat → Nat} {ls : Array Slot} {nL : Nat} {L : LV} (h : lvP ad ls nL L) : lv_has ls nL (lvl ad nL L) := by
  obtain ⟨h1, h2, h3⟩ := h
  refine ⟨h1, h2, fun q hq => ?_⟩
  obtain ⟨n, -, hn⟩ := List.mem_filterMap.mp hq
  cases hw : L[n]? with
  | none => rw [hw] at hn; cases hn
  | some o =>
    cases o with
    | none => rw [hw] at hn; cases hn
    | some w =>
      rw [hw] at hn
      cases hn
      exact h3 n w hw
theorem lvP_1 {ad : Nat → Nat} {ls ls' : Array Slot} {nL : Nat} {L : LV} {i : Nat} {v : Value} (h : lvP ad ls nL L) (h' : lv_has ls' nL ((i, con ad v) :: (lvl ad nL L).filter (fun q => !(q.1 == i) && !(q.1 + 1 == i && q.2.category == 2)))) : lvP ad ls' nL (st1 L i v) := by
  obtain ⟨h1, h2, h3⟩ := h
  obtain ⟨e2, e3, e4⟩ := h'
  refine ⟨e2, e3, fun n w hw => ?_⟩
  unfold st1 at hw
  rw [List.getElem?_set] at hw
  by_cases hn : i = n
  · subst hn
    rw [if_pos rfl] at hw
    split at hw
    · cases hw
      exact e4 _ List.mem_cons_self
    · cases hw
  · rw [if_neg hn] at hw
    obtain ⟨g1, g2⟩ := lose_sub hw
    have hlt : n < ls.size := by
      have := h3 n w g1
      exact (Array.getElem?_eq_some_iff.mp this).1
    refine e4 (n, con ad w) (List.mem_cons_of_mem _ (List.mem_filter.mpr ⟨List.mem_filterMap.mpr ⟨n, List.mem_range.mpr (by omega), by rw [g1]; rfl⟩, ?_⟩))
    simp only [con_cat, Bool.and_eq_true, Bool.not_eq_true', beq_eq_false_iff_ne, Bool.and_eq_false_imp, beq_iff_eq]
    exact ⟨fun e => hn e.symm, fun e => g2 e⟩
theorem lvP_2 {ad : Nat → Nat} {ls ls' : Array Slot} {nL : Nat} {L : LV} {i : Nat} {v : Value} (h : lvP ad ls nL L) (h' : lv_has ls' nL ((i, con ad v) :: (lvl ad nL L).filter (fun q => !(q.1 == i) && (!(q.1 == i + 1) && !(q.1 + 1 == i && q.2.category == 2))))) : lvP ad ls' nL (st2 L i v) := by
  obtain ⟨h1, h2, h3⟩ := h
  obtain ⟨e2, e3, e4⟩ := h'
  refine ⟨e2, e3, fun n w hw => ?_⟩
  unfold st2 at hw
  rw [List.getElem?_set] at hw
  by_cases hn : i = n
  · subst hn
    rw [if_pos rfl] at hw
    split at hw
    · cases hw
      exact e4 _ List.mem_cons_self
    · cases hw
  · rw [if_neg hn, List.getElem?_set] at hw
    by_cases hn2 : i + 1 = n
    · rw [if_pos hn2] at hw
      split at hw <;> simp at hw
    · rw [if_neg hn2] at hw
      obtain ⟨g1, g2⟩ := lose_sub hw
      have hlt : n < ls.size := by
        have := h3 n w g1
        exact (Array.getElem?_eq_some_iff.mp this).1
      refine e4 (n, con ad w) (List.mem_cons_of_mem _ (List.mem_filter.mpr ⟨List.mem_filterMap.mpr ⟨n, List.mem_range.mpr (by omega), by rw [g1]; rfl⟩, ?_⟩))
      simp only [con_cat, Bool.and_eq_true, Bool.not_eq_true', beq_eq_false_iff_ne, Bool.and_eq_false_imp, beq_iff_eq]
      exact ⟨fun e => hn e.symm, fun e => hn2 e.symm, fun e => g2 e⟩
theorem lvP.get {ad : Nat → Nat} {ls : Array Slot} {nL : Nat} {L : LV} {i : Nat} {v : Value} (h : lvP ad ls nL L) (hi : L[i]? = some (some v)) : ls[i]? = some (.val (con ad v)) := h.2.2 i v hi
end
section
/-! methods, contexts, the abstract judgements -/
/-- a method: name, bytes, max locals, return, own class, depth, static?, parameters, its instructions -/
abbrev MI : Type := MethodName × ByteArray × Nat × Option FieldType × Nat × Nat × Bool × Nat × List (Nat × Instr × Nat)
abbrev miY (M : MI) : MethodName := M.1
abbrev miB (M : MI) : ByteArray := M.2.1
abbrev miX (M : MI) : Nat := M.2.2.1
abbrev miR (M : MI) : Option FieldType := M.2.2.2.1
abbrev miO (M : MI) : Nat := M.2.2.2.2.1
abbrev miD (M : MI) : Nat := M.2.2.2.2.2.1
abbrev miS (M : MI) : Bool := M.2.2.2.2.2.2.1
abbrev miN (M : MI) : Nat := M.2.2.2.2.2.2.2.1
abbrev miT (M : MI) : List (Nat × Instr × Nat) := M.2.2.2.2.2.2.2.2
def wds (M : MI) : List Cond := Cond.code (miY M) (miB M) (miX M) (miR M) :: Wd
def rmM (M : MI) : Room := { frames := miD M, cells := 0, slots := 0, locals := 36 * miD M }
def MOk (M : MI) : Prop := plainName (miY M).cls = true ∧ (miY M).cls = Rn (miO M) ∧ Cond.code (miY M) (miB M) (miX M) (miR M) ∈ Wd ∧ Cond.initialized (miY M).cls ∈ Wd ∧ (if miS M = true then Cond.static (miY M) ∈ Wd else Cond.instanceMethod (miY M) ∈ Wd ∧ Cond.selects (miY M).cls (miY M) (miY M) ∈ Wd) ∧
  ((miY M).cls ≠ "java/lang/invoke/MethodHandle" ∧ (miY M).cls ≠ "java/lang/invoke/VarHandle" ∧ (parseMethodDescriptor (miY M).desc).map (fun d => d.parameters.length) = some (miN M)) ∧ miX M ≤ 17 ∧ ∀ q ∈ miT M, decode (miB M) q.1 = .ok (q.2.1, q.2.2)
def snl (k : Nat) : List Int32 := match k with
  | 100 => [10, 40]
  | 101 => [60, 60, 9, 11]
  | _ => [10]
def isSt (k : Nat) : Bool := k == 100 || k == 101 || k == 102
def tyl (cA : Nat → ClassId) : List (ClassId × FieldType) := [(cA 0, .int), (cA 1, .byte), (cA 2, .boolean)]
def MC (M : MI) (p : Program) (s : State) (m : MethodId) (args : Array Value) (meth : Method) (c : Code) : Prop :=
  p.tables.exec = Jvm.exec ∧ c.code = miB M ∧ meth.sig.returnType = miR M ∧ c.maxLocals = miX M ∧ s.vm.findClass (Rn (miO M)) = some m.cls ∧ (∀ w ∈ Wd, w.before args s = true) ∧ meth.locks = false
def SZ (S : SH) (ad : Nat → Nat) (sz : Nat) (U : State) (H : Heap) : Prop := ∀ k, isSt k = true → va_Z RX5 (snm k) "[I" (.ref (ad k)) (AA S ad sz) U H ∧ va_T .int (ad k) (snl k).length (fun j => .int ((snl k).getD j 0)) (AA S ad sz) U H
def CX (S : SH) (D : va_G) (cA : Nat → ClassId) (ad : Nat → Nat) (sz : Nat) (U : State) (H : Heap) : Prop :=
  AdI S ad ∧ va_K D vwCl (tyl cA) U ∧ (∀ w ∈ Nw, va_Nw w U) ∧ SZ S ad sz U H
def QG (S : SH) (D : va_G) (cA : Nat → ClassId) (ad : Nat → Nat) (P : PP) (sz : Nat) : Array Value → State → Outcome → State → Prop := fun _ st oc t =>
  (∃ r I J G, oc = .returned (Option.map (con ad) r) ∧ P r I J G ∧ va_P D vwCl (wrl S cA ad I J G) t.heap) ∧ va_F (AA S ad sz) st t
def AW (S : SH) (M : MI) (pc : Nat) (L : LV) (st : List Value) (I : II) (J : JJ) (G : II) (P : PP) : Prop :=
  ∀ (p : Program) (l : Launch) (e : Env) (s : State) (m : MethodId) (args : Array Value) (below : List Frame) (meth : Method) (c : Code) (D : va_G) (cA : Nat → ClassId) (ad : Nat → Nat) (H : Heap) (locs : List Loc) (ls : Array Slot),
  MC M p s m args meth c → CX S D cA ad s.heap.size s s.heap → va_P D vwCl (wrl S cA ad I J G) H → va_S (AA S ad s.heap.size) s.heap H locs → lvP ad ls (miX M) L →
  W p l e (rmM M) s m args below meth c H locs 0 0 (MQ below (QG S D cA ad P s.heap.size) args s 0 0 (AA S ad s.heap.size)) (F0 m pc ls (st.map (con ad)))
def APc (S : SH) (D : va_G) (cA : Nat → ClassId) (ad : Nat → Nat) (sz : Nat) (as : List Value) (I : II) (J : JJ) (G : II) : Array Value → State → Prop := fun v U => v = (as.map (con ad)).toArray ∧ U.heap.size = sz ∧ CX S D cA ad sz U U.heap ∧ va_P D vwCl (wrl S cA ad I J G) U.heap
def AMet (S : SH) (M : MI) (as : List Value) (I : II) (J : JJ) (G : II) (P : PP) : Prop :=
  ∀ (l : Launch) (D : va_G) (cA : Nat → ClassId) (ad : Nat → Nat) (sz : Nat), Met l (miY M) (wds M) (rmM M) (APc S D cA ad sz as I J G) (QG S D cA ad P sz) 0 0 (AA S ad sz)
/-- links -/
def lkOk (o idx : Nat) (M : MI) : Prop := Cond.methodLink (Rn o) idx (miY M) ∈ Wd ∨ Cond.methodLinkNest (Rn o) idx (miY M) "SilverFleets" ∈ Nw
def flk (o idx : Nat) : Option (Bool × Nat × Nat) := match FTl.find? (fun q => q.1 == o && q.2.1 == idx) with
  | some q => some (false, q.2.2)
  | none => match GTl.find? (fun q => q.1 == o && q.2.1 == idx) with
    | some q => some (true, q.2.2)
    | none => none
theorem flk_F {o idx ci j : Nat} (h : flk o idx = some (false, ci, j)) : Cond.fieldLink (Rn o) idx (Rn ci) (Tn ci j).2.1 (Tn ci j).2.2.1 ∈ Wd ∧ ci < 8 ∧ j < Nn ci := by
  unfold flk at h
  split at h
  · rename_i q hq
    obtain ⟨q1, q2, q3, q4⟩ := q
    cases h
    have h1 := List.mem_of_find?_eq_some hq
    have h2 := List.find?_some hq
    simp only [Bool.and_eq_true, beq_iff_eq] at h2
    have h3 := FT_ok _ (List.mem_map_of_mem (f := fwd) h1)
    have h4 := List.all_eq_true.mp FT_lt _ h1
    simp only [Bool.and_eq_true, decide_eq_true_eq] at h4
    rw [← h2.1, ← h2.2]
    exact ⟨h3, h4.1, h4.2⟩
  · split at h <;> cases h
theorem flk_G {o idx ci j : Nat} (h : flk o idx = some (true, ci, j)) : Cond.fieldLinkNest (Rn o) idx (Rn ci) (Tn ci j).2.1 (Tn ci j).2.2.1 "SilverFleets" ∈ Nw ∧ ci < 8 ∧ j < Nn ci := by
  unfold flk at h
  split at h
  · cases h
  · split at h
    · rename_i q hq
      obtain ⟨q1, q2, q3, q4⟩ := q
      cases h
      have h1 := List.mem_of_find?_eq_some hq
      have h2 := List.find?_some hq
      simp only [Bool.and_eq_true, beq_iff_eq] at h2
      have h3 := GT_ok _ (List.mem_map_of_mem (f := gwd) h1)
      have h4 := List.all_eq_true.mp GT_lt _ h1
      simp only [Bool.and_eq_true, decide_eq_true_eq] at h4
      rw [← h2.1, ← h2.2]
      exact ⟨h3, h4.1, h4.2⟩
    · cases h
/-- a world's shape fits the classes -/
def fdOk (ci j : Nat) (fd : Nat × Nat) : Bool := match fd.1 with
  | 0 => true
  | 1 => decide (tyn ci j = .int) && !(Tn ci j).2.2.2
  | 2 => decide (tyn ci j = .long) && !(Tn ci j).2.2.2
  | 3 => decide (tyn ci j = .boolean) && !(Tn ci j).2.2.2
  | _ => false
def shOk (sh : (Nat × List (Nat × Nat)) ⊕ (Nat × Nat)) : Bool := match sh with
  | .inl o => decide (o.1 < 8) && decide (o.2.length = Nn o.1) && (o.2.mapIdx (fun j fd => fdOk o.1 j fd)).all id
  | .inr a => decide (a.1 < 3) && decide (a.2 < 65536)
def SOk (S : SH) : Prop := S.all shOk = true
theorem SOk.obj {S : SH} (h : SOk S) {k ci j : Nat} {fds : List (Nat × Nat)} {fd : Nat × Nat} (hk : S[k]? = some (.inl (ci, fds))) (hj : fds[j]? = some fd) : ci < 8 ∧ fds.length = Nn ci ∧ fdOk ci j fd = true := by
  have h1 := List.all_eq_true.mp h _ (List.mem_of_getElem? hk)
  simp only [shOk, Bool.and_eq_true, decide_eq_true_eq] at h1
  refine ⟨h1.1.1, h1.1.2, ?_⟩
  have h2 := List.all_eq_true.mp h1.2 (fdOk ci j fd) (List.mem_of_getElem? (i := j) (by rw [List.getElem?_mapIdx, hj]; rfl))
  exact h2
theorem SOk.arr {S : SH} (h : SOk S) {k e n : Nat} (hk : S[k]? = some (.inr (e, n))) : e < 3 ∧ n < 65536 := by
  have h1 := List.all_eq_true.mp h _ (List.mem_of_getElem? hk)
  simpa [shOk] using h1
theorem fdOk_ty {ci j : Nat} {fd : Nat × Nat} (h : fdOk ci j fd = true) : (fd.1 = 1 → tyn ci j = .int ∧ (Tn ci j).2.2.2 = false) ∧ (fd.1 = 2 → tyn ci j = .long ∧ (Tn ci j).2.2.2 = false) ∧ (fd.1 = 3 → tyn ci j = .boolean ∧ (Tn ci j).2.2.2 = false) := by
  obtain ⟨a, b⟩ := fd
  refine ⟨?_, ?_, ?_⟩ <;> intro e <;> dsimp only at e <;> subst e <;> simpa [fdOk] using h
theorem tyl_get {cA : Nat → ClassId} {e : Nat} (h : e < 3) : (tyl cA)[e]? = some (cA e, ety e) := by
  match e, h with
  | 0, _ => rfl
  | 1, _ => rfl
  | 2, _ => rfl
theorem SZ.at {S : SH} {ad : Nat → Nat} {sz sz' : Nat} {u U : State} {H H1 : Heap} (h : SZ S ad sz u H) (hvm : u.vm.Alike U.vm) (hq : ∀ a : Nat, a < H.size → ¬ AA S ad sz a → H1[a]? = H[a]?) (hs : sz ≤ sz') : SZ S ad sz' U H1 := fun k hk =>
  ⟨((((h k hk).1.kept hq).moved hvm).narrow (AA.le hs)), ((((h k hk).2.kept hq).moved hvm).narrow (AA.le hs))⟩
section AWR
variable {S : SH} {M : MI} {pc : Nat} {L : LV} {st : List Value} {I : II} {J : JJ} {G : II} {P : PP}
/-- entering a method -/
theorem amet_of {as : List Value} (hM : MOk M) (hl : as.length ≤ miX M) (hc : ∀ v ∈ as, v.category = 1) (h : AW S M 0 (as.map some ++ List.replicate (miX M - as.length) none) [] I J G P) : AMet S M as I J G P := by
  intro l D cA ad sz
  refine Met.ofW (cc := miB M) (maxL := miX M) (ret := miR M) hM.1 rfl ?_
  intro p e s m args below meth c s₁ B hml hv
  obtain ⟨rfl, rfl, hC, hP⟩ := hv
  have hts := atoms_spec (ws := wds M) B.pre
  have hown : s.vm.findClass (Rn (miO M)) = some m.cls := by rw [← hM.2.1]; exact findClass_of_methodNamed B.named
  have hsl : ∀ vs : List Value, (∀ v ∈ vs, v.category = 1) → (lg_sl vs).length = vs.length := by
    intro vs
    induction vs with
    | nil => intro _; rfl
    | cons v vs ih =>
      intro hv
      have h1 := hv v List.mem_cons_self
      have h2 := ih (fun x hx => hv x (List.mem_cons_of_mem _ hx))
      simp only [lg_sl, List.flatMap_cons] at h2 ⊢
      rw [List.length_append, h2, if_neg (by omega)]
      simp; omega
  have hcc : ∀ v ∈ as.map (con ad), v.category = 1 := by
    intro v hv
    obtain ⟨w, hw, rfl⟩ := List.mem_map.mp hv
    rw [con_cat]; exact hc w hw
  have hent := lv_entry (as.map (con ad)) (n := miX M) (by rw [hsl _ hcc]; simpa using hl)
  rw [lg_entry_eq]
  generalize hge : (lg_sl (as.map (con ad)) ++ List.replicate (miX M - (lg_sl (as.map (con ad))).length) Slot.unset).toArray = ls at hent ⊢
  have hargs : ∀ (vs : List Value) (i : Nat), (∀ v ∈ vs, v.category = 1) → ∀ (n : Nat) (v : Value), vs[n]? = some v → (i + n, v) ∈ lv_args i vs := by
    intro vs
    induction vs with
    | nil => intro i _ n v h; simp at h
    | cons w vs ih =>
      intro i hv n v h
      have h1 := hv w List.mem_cons_self
      unfold lv_args
      rw [if_neg (by omega)]
      cases n with
      | zero => simp at h; subst h; exact List.mem_cons_self
      | succ n =>
        have := ih (i + 1) (fun x hx => hv x (List.mem_cons_of_mem _ hx)) n v (by simpa using h)
        rw [show i + (n + 1) = i + 1 + n by omega]
        exact List.mem_cons_of_mem _ this
  have hlv : lvP ad ls (miX M) (as.map some ++ List.replicate (miX M - as.length) none) := by
    refine ⟨hent.1, hent.2.1, fun i v hi => ?_⟩
    rcases Nat.lt_or_ge i as.length with h1 | h1
    · rw [List.getElem?_append_left (by simpa using h1), List.getElem?_map] at hi
      cases hai : as[i]? with
      | none => rw [hai] at hi; cases hi
      | some w =>
        rw [hai] at hi
        cases hi
        have := hargs (as.map (con ad)) 0 hcc i (con ad v) (by rw [List.getElem?_map, hai]; rfl)
        rw [Nat.zero_add] at this
        exact hent.2.2 _ this
    · rw [List.getElem?_append_right (by simpa using h1)] at hi
      have := List.mem_of_getElem? hi
      simp [List.mem_replicate] at this
  exact h p l e s m (as.map (con ad)).toArray below meth c D cA ad s.heap [] ls ⟨B.exec, B.bytes, B.returns, hml, hown, fun w hw => hts w (List.mem_cons_of_mem _ hw), B.notSynchronized⟩ hC hP va_S.rf hlv
theorem aw_iconst {n : Int} (hd : decode (miB M) pc = .ok (.iconst n, 1)) (k : AW S M (pc + 1) L (.int (Int32.ofInt n) :: st) I J G P) : AW S M pc L (st) I J G P := by
  intro p l e s m args below meth c D cA ad H locs ls hM hC hP hS hl
  exact lv_iconst hM.1 hM.2.1 hd rfl (k _ _ _ _ _ _ _ _ _ _ _ _ _ _ _ hM hC hP hS hl)
theorem aw_bipush {n : Int} (hd : decode (miB M) pc = .ok (.bipush n, 2)) (k : AW S M (pc + 2) L (.int (Int8.ofInt n).toInt32 :: st) I J G P) : AW S M pc L (st) I J G P := by
  intro p l e s m args below meth c D cA ad H locs ls hM hC hP hS hl
  exact lv_bipush hM.1 hM.2.1 hd rfl (k _ _ _ _ _ _ _ _ _ _ _ _ _ _ _ hM hC hP hS hl)
theorem aw_sipush {n : Int} (hd : decode (miB M) pc = .ok (.sipush n, 3)) (k : AW S M (pc + 3) L (.int (Int16.ofInt n).toInt32 :: st) I J G P) : AW S M pc L (st) I J G P := by
  intro p l e s m args below meth c D cA ad H locs ls hM hC hP hS hl
  exact lv_sipush hM.1 hM.2.1 hd rfl (k _ _ _ _ _ _ _ _ _ _ _ _ _ _ _ hM hC hP hS hl)
theorem aw_lconst {n : Fin 2} (hd : decode (miB M) pc = .ok (.lconst n, 1)) (k : AW S M (pc + 1) L (.long (Int64.ofNat (n : Nat)) :: st) I J G P) : AW S M pc L (st) I J G P := by
  intro p l e s m args below meth c D cA ad H locs ls hM hC hP hS hl
  exact lv_lconst hM.1 hM.2.1 hd rfl (k _ _ _ _ _ _ _ _ _ _ _ _ _ _ _ hM hC hP hS hl)
theorem aw_ldc {idx : Nat} {v : Int32} (hv : (miO M, idx, v) ∈ CIl) (hd : decode (miB M) pc = .ok (.ldc idx, 2)) (k : AW S M (pc + 2) L (.int v :: st) I J G P) : AW S M pc L (st) I J G P := by
  intro p l e s m args below meth c D cA ad H locs ls hM hC hP hS hl
  exact lv_ldc hM.1 hM.2.1 hM.2.2.2.2.1 (hM.2.2.2.2.2.1 _ (CI_ok _ (List.mem_map_of_mem (f := fun q : Nat × Nat × Int32 => Cond.constant (Rn q.1) q.2.1 q.2.2) hv))) hd (k _ _ _ _ _ _ _ _ _ _ _ _ _ _ _ hM hC hP hS hl)
theorem aw_ldc2 {idx : Nat} {v : Int64} (hv : (miO M, idx, v) ∈ CLl) (hd : decode (miB M) pc = .ok (.ldc2_w idx, 3)) (k : AW S M (pc + 3) L (.long v :: st) I J G P) : AW S M pc L (st) I J G P := by
  intro p l e s m args below meth c D cA ad H locs ls hM hC hP hS hl
  exact lv_ldc2 hM.1 hM.2.1 hM.2.2.2.2.1 (hM.2.2.2.2.2.1 _ (CL_ok _ (List.mem_map_of_mem (f := fun q : Nat × Nat × Int64 => Cond.constantLong (Rn q.1) q.2.1 q.2.2) hv))) hd (k _ _ _ _ _ _ _ _ _ _ _ _ _ _ _ hM hC hP hS hl)
theorem aw_iload_n {n : Fin 4} {x : Int32} (hx : L[n.val]? = some (some (.int x))) (hd : decode (miB M) pc = .ok (.iload_n n, 1)) (k : AW S M (pc + 1) L (.int x :: st) I J G P) : AW S M pc L (st) I J G P := by
  intro p l e s m args below meth c D cA ad H locs ls hM hC hP hS hl
  exact lv_iload_n hM.1 hM.2.1 hd rfl (hl.get hx) (k _ _ _ _ _ _ _ _ _ _ _ _ _ _ _ hM hC hP hS hl)
theorem aw_iload {n : Nat} {x : Int32} (hx : L[n]? = some (some (.int x))) (hd : decode (miB M) pc = .ok (.iload n, 2)) (k : AW S M (pc + 2) L (.int x :: st) I J G P) : AW S M pc L (st) I J G P := by
  intro p l e s m args below meth c D cA ad H locs ls hM hC hP hS hl
  exact lv_iload hM.1 hM.2.1 hd (hl.get hx) (k _ _ _ _ _ _ _ _ _ _ _ _ _ _ _ hM hC hP hS hl)
theorem aw_lload_n {n : Fin 4} {x : Int64} (hx : L[n.val]? = some (some (.long x))) (hd : decode (miB M) pc = .ok (.lload_n n, 1)) (k : AW S M (pc + 1) L (.long x :: st) I J G P) : AW S M pc L (st) I J G P := by
  intro p l e s m args below meth c D cA ad H locs ls hM hC hP hS hl
  exact lv_lload_n hM.1 hM.2.1 hd rfl (hl.get hx) (k _ _ _ _ _ _ _ _ _ _ _ _ _ _ _ hM hC hP hS hl)
theorem aw_aload_n {n : Fin 4} {x : Nat} (hx : L[n.val]? = some (some (.ref x))) (hd : decode (miB M) pc = .ok (.aload_n n, 1)) (k : AW S M (pc + 1) L (.ref x :: st) I J G P) : AW S M pc L (st) I J G P := by
  intro p l e s m args below meth c D cA ad H locs ls hM hC hP hS hl
  exact lv_aload_n hM.1 hM.2.1 hd rfl (hl.get hx) (k _ _ _ _ _ _ _ _ _ _ _ _ _ _ _ hM hC hP hS hl)
theorem aw_aload {n : Nat} {x : Nat} (hx : L[n]? = some (some (.ref x))) (hd : decode (miB M) pc = .ok (.aload n, 2)) (k : AW S M (pc + 2) L (.ref x :: st) I J G P) : AW S M pc L (st) I J G P := by
  intro p l e s m args below meth c D cA ad H locs ls hM hC hP hS hl
  exact lv_aload hM.1 hM.2.1 hd (hl.get hx) (k _ _ _ _ _ _ _ _ _ _ _ _ _ _ _ hM hC hP hS hl)
theorem aw_istore_n {n : Fin 4} {x : Int32} (hn : n.val < miX M) (hd : decode (miB M) pc = .ok (.istore_n n, 1)) (k : AW S M (pc + 1) (st1 L n.val (.int x)) st I J G P) : AW S M pc L (.int x :: st) I J G P := by
  intro p l e s m args below meth c D cA ad H locs ls hM hC hP hS hl
  exact lv_istore_n hM.1 hM.2.1 hd rfl hl.has hn rfl (fun ls hl1 => k _ _ _ _ _ _ _ _ _ _ _ _ _ _ _ hM hC hP hS (lvP_1 hl hl1))
theorem aw_istore {n : Nat} {x : Int32} (hn : n < miX M) (hd : decode (miB M) pc = .ok (.istore n, 2)) (k : AW S M (pc + 2) (st1 L n (.int x)) st I J G P) : AW S M pc L (.int x :: st) I J G P := by
  intro p l e s m args below meth c D cA ad H locs ls hM hC hP hS hl
  exact lv_istore hM.1 hM.2.1 hd hl.has hn rfl (fun ls hl1 => k _ _ _ _ _ _ _ _ _ _ _ _ _ _ _ hM hC hP hS (lvP_1 hl hl1))
theorem aw_lstore_n {n : Fin 4} {x : Int64} (hn : n.val + 1 < miX M) (hd : decode (miB M) pc = .ok (.lstore_n n, 1)) (k : AW S M (pc + 1) (st2 L n.val (.long x)) st I J G P) : AW S M pc L (.long x :: st) I J G P := by
  intro p l e s m args below meth c D cA ad H locs ls hM hC hP hS hl
  exact lv_lstore_n hM.1 hM.2.1 hd rfl hl.has hn rfl (fun ls hl1 => k _ _ _ _ _ _ _ _ _ _ _ _ _ _ _ hM hC hP hS (lvP_2 hl hl1))
theorem aw_lstore {n : Nat} {x : Int64} (hn : n + 1 < miX M) (hd : decode (miB M) pc = .ok (.lstore n, 2)) (k : AW S M (pc + 2) (st2 L n (.long x)) st I J G P) : AW S M pc L (.long x :: st) I J G P := by
  intro p l e s m args below meth c D cA ad H locs ls hM hC hP hS hl
  exact lv_lstore hM.1 hM.2.1 hd hl.has hn rfl (fun ls hl1 => k _ _ _ _ _ _ _ _ _ _ _ _ _ _ _ hM hC hP hS (lvP_2 hl hl1))
theorem aw_astore_n {n : Fin 4} {x : Nat} (hn : n.val < miX M) (hd : decode (miB M) pc = .ok (.astore_n n, 1)) (k : AW S M (pc + 1) (st1 L n.val (.ref x)) st I J G P) : AW S M pc L (.ref x :: st) I J G P := by
  intro p l e s m args below meth c D cA ad H locs ls hM hC hP hS hl
  exact lv_astore_n hM.1 hM.2.1 hd rfl hl.has hn rfl (fun ls hl1 => k _ _ _ _ _ _ _ _ _ _ _ _ _ _ _ hM hC hP hS (lvP_1 hl hl1))
theorem aw_astore {n : Nat} {x : Nat} (hn : n < miX M) (hd : decode (miB M) pc = .ok (.astore n, 2)) (k : AW S M (pc + 2) (st1 L n (.ref x)) st I J G P) : AW S M pc L (.ref x :: st) I J G P := by
  intro p l e s m args below meth c D cA ad H locs ls hM hC hP hS hl
  exact lv_astore hM.1 hM.2.1 hd hl.has hn rfl (fun ls hl1 => k _ _ _ _ _ _ _ _ _ _ _ _ _ _ _ hM hC hP hS (lvP_1 hl hl1))
theorem lvl_at {ad : Nat → Nat} {nL : Nat} {L : LV} {n : Nat} {v : Value} (hn : n < nL) (h : L[n]? = some (some v)) : ∃ k : Nat, (lvl ad nL L)[k]? = some (n, con ad v) :=
  List.getElem?_of_mem (List.mem_filterMap.mpr ⟨n, List.mem_range.mpr hn, by rw [h]; rfl⟩)
theorem aw_iinc {i : Nat} {n : Int} {x : Int32} (hn : i < miX M) (hx : L[i]? = some (some (.int x))) (hd : decode (miB M) pc = .ok (.iinc i n, 3)) (k : AW S M (pc + 3) (st1 L i (.int (x + Int32.ofInt n))) st I J G P) : AW S M pc L st I J G P := by
  intro p l e s m args below meth c D cA ad H locs ls hM hC hP hS hl
  obtain ⟨j, hj⟩ := lvl_at (ad := ad) hn hx
  exact lv_iinc hM.1 hM.2.1 hd hl.has hj rfl hn rfl (fun ls hl1 => k _ _ _ _ _ _ _ _ _ _ _ _ _ _ _ hM hC hP hS (lvP_1 (v := .int (x + Int32.ofInt n)) hl hl1))
theorem aw_iadd {x y : Int32} (hd : decode (miB M) pc = .ok (.iadd, 1)) (k : AW S M (pc + 1) L (.int (x + y) :: st) I J G P) : AW S M pc L (.int y :: .int x :: st) I J G P := by
  intro p l e s m args below meth c D cA ad H locs ls hM hC hP hS hl
  exact lv_iadd hM.1 hM.2.1 hd (k _ _ _ _ _ _ _ _ _ _ _ _ _ _ _ hM hC hP hS hl)
theorem aw_isub {x y : Int32} (hd : decode (miB M) pc = .ok (.isub, 1)) (k : AW S M (pc + 1) L (.int (x - y) :: st) I J G P) : AW S M pc L (.int y :: .int x :: st) I J G P := by
  intro p l e s m args below meth c D cA ad H locs ls hM hC hP hS hl
  exact lv_isub hM.1 hM.2.1 hd (k _ _ _ _ _ _ _ _ _ _ _ _ _ _ _ hM hC hP hS hl)
theorem aw_imul {x y : Int32} (hd : decode (miB M) pc = .ok (.imul, 1)) (k : AW S M (pc + 1) L (.int (x * y) :: st) I J G P) : AW S M pc L (.int y :: .int x :: st) I J G P := by
  intro p l e s m args below meth c D cA ad H locs ls hM hC hP hS hl
  exact lv_imul hM.1 hM.2.1 hd (k _ _ _ _ _ _ _ _ _ _ _ _ _ _ _ hM hC hP hS hl)
theorem aw_iand {x y : Int32} (hd : decode (miB M) pc = .ok (.iand, 1)) (k : AW S M (pc + 1) L (.int (x &&& y) :: st) I J G P) : AW S M pc L (.int y :: .int x :: st) I J G P := by
  intro p l e s m args below meth c D cA ad H locs ls hM hC hP hS hl
  exact lv_iand hM.1 hM.2.1 hd (k _ _ _ _ _ _ _ _ _ _ _ _ _ _ _ hM hC hP hS hl)
theorem aw_ior {x y : Int32} (hd : decode (miB M) pc = .ok (.ior, 1)) (k : AW S M (pc + 1) L (.int (x ||| y) :: st) I J G P) : AW S M pc L (.int y :: .int x :: st) I J G P := by
  intro p l e s m args below meth c D cA ad H locs ls hM hC hP hS hl
  exact lv_ior hM.1 hM.2.1 hd (k _ _ _ _ _ _ _ _ _ _ _ _ _ _ _ hM hC hP hS hl)
theorem aw_ixor {x y : Int32} (hd : decode (miB M) pc = .ok (.ixor, 1)) (k : AW S M (pc + 1) L (.int (x ^^^ y) :: st) I J G P) : AW S M pc L (.int y :: .int x :: st) I J G P := by
  intro p l e s m args below meth c D cA ad H locs ls hM hC hP hS hl
  exact lv_ixor hM.1 hM.2.1 hd (k _ _ _ _ _ _ _ _ _ _ _ _ _ _ _ hM hC hP hS hl)
theorem aw_ishl {x y : Int32} (hd : decode (miB M) pc = .ok (.ishl, 1)) (k : AW S M (pc + 1) L (.int (x <<< (y &&& 31)) :: st) I J G P) : AW S M pc L (.int y :: .int x :: st) I J G P := by
  intro p l e s m args below meth c D cA ad H locs ls hM hC hP hS hl
  exact lv_ishl hM.1 hM.2.1 hd (k _ _ _ _ _ _ _ _ _ _ _ _ _ _ _ hM hC hP hS hl)
theorem aw_ishr {x y : Int32} (hd : decode (miB M) pc = .ok (.ishr, 1)) (k : AW S M (pc + 1) L (.int (x >>> (y &&& 31)) :: st) I J G P) : AW S M pc L (.int y :: .int x :: st) I J G P := by
  intro p l e s m args below meth c D cA ad H locs ls hM hC hP hS hl
  exact lv_ishr hM.1 hM.2.1 hd (k _ _ _ _ _ _ _ _ _ _ _ _ _ _ _ hM hC hP hS hl)
theorem aw_ladd {x y : Int64} (hd : decode (miB M) pc = .ok (.ladd, 1)) (k : AW S M (pc + 1) L (.long (x + y) :: st) I J G P) : AW S M pc L (.long y :: .long x :: st) I J G P := by
  intro p l e s m args below meth c D cA ad H locs ls hM hC hP hS hl
  exact lv_ladd hM.1 hM.2.1 hd (k _ _ _ _ _ _ _ _ _ _ _ _ _ _ _ hM hC hP hS hl)
theorem aw_lmul {x y : Int64} (hd : decode (miB M) pc = .ok (.lmul, 1)) (k : AW S M (pc + 1) L (.long (x * y) :: st) I J G P) : AW S M pc L (.long y :: .long x :: st) I J G P := by
  intro p l e s m args below meth c D cA ad H locs ls hM hC hP hS hl
  exact lv_lmul hM.1 hM.2.1 hd (k _ _ _ _ _ _ _ _ _ _ _ _ _ _ _ hM hC hP hS hl)
theorem aw_idiv {x y : Int32} (hy : ¬ y = 0) (hd : decode (miB M) pc = .ok (.idiv, 1)) (k : AW S M (pc + 1) L (.int (x / y) :: st) I J G P) : AW S M pc L (.int y :: .int x :: st) I J G P := by
  intro p l e s m args below meth c D cA ad H locs ls hM hC hP hS hl
  exact lv_idiv hM.1 hM.2.1 hd hy (k _ _ _ _ _ _ _ _ _ _ _ _ _ _ _ hM hC hP hS hl)
theorem aw_irem {x y : Int32} (hy : ¬ y = 0) (hd : decode (miB M) pc = .ok (.irem, 1)) (k : AW S M (pc + 1) L (.int (x - x / y * y) :: st) I J G P) : AW S M pc L (.int y :: .int x :: st) I J G P := by
  intro p l e s m args below meth c D cA ad H locs ls hM hC hP hS hl
  exact lv_irem hM.1 hM.2.1 hd hy (k _ _ _ _ _ _ _ _ _ _ _ _ _ _ _ hM hC hP hS hl)
theorem aw_ldiv {x y : Int64} (hy : ¬ y = 0) (hd : decode (miB M) pc = .ok (.ldiv, 1)) (k : AW S M (pc + 1) L (.long (x / y) :: st) I J G P) : AW S M pc L (.long y :: .long x :: st) I J G P := by
  intro p l e s m args below meth c D cA ad H locs ls hM hC hP hS hl
  exact lv_ldiv hM.1 hM.2.1 hd hy (k _ _ _ _ _ _ _ _ _ _ _ _ _ _ _ hM hC hP hS hl)
theorem aw_lrem {x y : Int64} (hy : ¬ y = 0) (hd : decode (miB M) pc = .ok (.lrem, 1)) (k : AW S M (pc + 1) L (.long (x - x / y * y) :: st) I J G P) : AW S M pc L (.long y :: .long x :: st) I J G P := by
  intro p l e s m args below meth c D cA ad H locs ls hM hC hP hS hl
  exact lv_lrem hM.1 hM.2.1 hd hy (k _ _ _ _ _ _ _ _ _ _ _ _ _ _ _ hM hC hP hS hl)
theorem aw_i2l {x : Int32} (hd : decode (miB M) pc = .ok (.i2l, 1)) (k : AW S M (pc + 1) L (.long x.toInt64 :: st) I J G P) : AW S M pc L (.int x :: st) I J G P := by
  intro p l e s m args below meth c D cA ad H locs ls hM hC hP hS hl
  exact lv_i2l hM.1 hM.2.1 hd rfl (k _ _ _ _ _ _ _ _ _ _ _ _ _ _ _ hM hC hP hS hl)
theorem aw_l2i {x : Int64} (hd : decode (miB M) pc = .ok (.l2i, 1)) (k : AW S M (pc + 1) L (.int x.toInt32 :: st) I J G P) : AW S M pc L (.long x :: st) I J G P := by
  intro p l e s m args below meth c D cA ad H locs ls hM hC hP hS hl
  exact lv_l2i hM.1 hM.2.1 hd rfl (k _ _ _ _ _ _ _ _ _ _ _ _ _ _ _ hM hC hP hS hl)
theorem aw_i2b {x : Int32} (hd : decode (miB M) pc = .ok (.i2b, 1)) (k : AW S M (pc + 1) L (.int x.toInt8.toInt32 :: st) I J G P) : AW S M pc L (.int x :: st) I J G P := by
  intro p l e s m args below meth c D cA ad H locs ls hM hC hP hS hl
  exact lv_i2b hM.1 hM.2.1 hd rfl (k _ _ _ _ _ _ _ _ _ _ _ _ _ _ _ hM hC hP hS hl)
theorem aw_lcmp {x y : Int64} (hd : decode (miB M) pc = .ok (.lcmp, 1)) (k : AW S M (pc + 1) L (.int (lg_cmp x y) :: st) I J G P) : AW S M pc L (.long y :: .long x :: st) I J G P := by
  intro p l e s m args below meth c D cA ad H locs ls hM hC hP hS hl
  exact W.lcmp hM.1 hM.2.1 hd (k _ _ _ _ _ _ _ _ _ _ _ _ _ _ _ hM hC hP hS hl)
theorem aw_dup {v : Value} (hv : v.category = 1) (hd : decode (miB M) pc = .ok (.dup, 1)) (k : AW S M (pc + 1) L (v :: v :: st) I J G P) : AW S M pc L (v :: st) I J G P := by
  intro p l e s m args below meth c D cA ad H locs ls hM hC hP hS hl
  exact lv_dup hM.1 hM.2.1 hd (by rw [con_cat]; exact hv) (k _ _ _ _ _ _ _ _ _ _ _ _ _ _ _ hM hC hP hS hl)
theorem aw_dup2 {v u : Value} (hv : v.category = 1) (hu : u.category = 1) (hd : decode (miB M) pc = .ok (.dup2, 1)) (k : AW S M (pc + 1) L (v :: u :: v :: u :: st) I J G P) : AW S M pc L (v :: u :: st) I J G P := by
  intro p l e s m args below meth c D cA ad H locs ls hM hC hP hS hl
  exact lv_dup2_11 hM.1 hM.2.1 hd (by rw [con_cat]; exact hv) (by rw [con_cat]; exact hu) (k _ _ _ _ _ _ _ _ _ _ _ _ _ _ _ hM hC hP hS hl)
theorem aw_pop {v : Value} (hv : v.category = 1) (hd : decode (miB M) pc = .ok (.pop, 1)) (k : AW S M (pc + 1) L (st) I J G P) : AW S M pc L (v :: st) I J G P := by
  intro p l e s m args below meth c D cA ad H locs ls hM hC hP hS hl
  exact lv_pop hM.1 hM.2.1 hd (by rw [con_cat]; exact hv) (k _ _ _ _ _ _ _ _ _ _ _ _ _ _ _ hM hC hP hS hl)
theorem aw_goto {off : Int} {tgt : Nat} (ht : (pc : Int) + off = (tgt : Int)) (hd : decode (miB M) pc = .ok (.goto off, 3)) (k : AW S M tgt L st I J G P) : AW S M pc L st I J G P := by
  intro p l e s m args below meth c D cA ad H locs ls hM hC hP hS hl
  exact lv_goto hM.1 hM.2.1 hd ht (k _ _ _ _ _ _ _ _ _ _ _ _ _ _ _ hM hC hP hS hl)
theorem aw_icmp_eq {x y : Int32} {off : Int} {tgt : Nat} (hd : decode (miB M) pc = .ok (.if_icmp .eq off, 3)) (ht : (pc : Int) + off = (tgt : Int)) (kt : x = y → AW S M tgt L st I J G P) (kf : ¬ x = y → AW S M (pc + 3) L st I J G P) : AW S M pc L (.int y :: .int x :: st) I J G P := by
  intro p l e s m args below meth c D cA ad H locs ls hM hC hP hS hl
  exact lv_icmp_eq hM.1 hM.2.1 hd ht (fun h => kt h _ _ _ _ _ _ _ _ _ _ _ _ _ _ _ hM hC hP hS hl) (fun h => kf h _ _ _ _ _ _ _ _ _ _ _ _ _ _ _ hM hC hP hS hl)
theorem aw_if_eq {x : Int32} {off : Int} {tgt : Nat} (hd : decode (miB M) pc = .ok (.ifCond .eq off, 3)) (ht : (pc : Int) + off = (tgt : Int)) (kt : x = 0 → AW S M tgt L st I J G P) (kf : ¬ x = 0 → AW S M (pc + 3) L st I J G P) : AW S M pc L (.int x :: st) I J G P := by
  intro p l e s m args below meth c D cA ad H locs ls hM hC hP hS hl
  exact lv_if_eq hM.1 hM.2.1 hd ht (fun h => kt h _ _ _ _ _ _ _ _ _ _ _ _ _ _ _ hM hC hP hS hl) (fun h => kf h _ _ _ _ _ _ _ _ _ _ _ _ _ _ _ hM hC hP hS hl)
theorem aw_icmp_ne {x y : Int32} {off : Int} {tgt : Nat} (hd : decode (miB M) pc = .ok (.if_icmp .ne off, 3)) (ht : (pc : Int) + off = (tgt : Int)) (kt : ¬ x = y → AW S M tgt L st I J G P) (kf : x = y → AW S M (pc + 3) L st I J G P) : AW S M pc L (.int y :: .int x :: st) I J G P := by
  intro p l e s m args below meth c D cA ad H locs ls hM hC hP hS hl
  exact lv_icmp_ne hM.1 hM.2.1 hd ht (fun h => kt h _ _ _ _ _ _ _ _ _ _ _ _ _ _ _ hM hC hP hS hl) (fun h => kf h _ _ _ _ _ _ _ _ _ _ _ _ _ _ _ hM hC hP hS hl)
theorem aw_if_ne {x : Int32} {off : Int} {tgt : Nat} (hd : decode (miB M) pc = .ok (.ifCond .ne off, 3)) (ht : (pc : Int) + off = (tgt : Int)) (kt : ¬ x = 0 → AW S M tgt L st I J G P) (kf : x = 0 → AW S M (pc + 3) L st I J G P) : AW S M pc L (.int x :: st) I J G P := by
  intro p l e s m args below meth c D cA ad H locs ls hM hC hP hS hl
  exact lv_if_ne hM.1 hM.2.1 hd ht (fun h => kt h _ _ _ _ _ _ _ _ _ _ _ _ _ _ _ hM hC hP hS hl) (fun h => kf h _ _ _ _ _ _ _ _ _ _ _ _ _ _ _ hM hC hP hS hl)
theorem aw_icmp_lt {x y : Int32} {off : Int} {tgt : Nat} (hd : decode (miB M) pc = .ok (.if_icmp .lt off, 3)) (ht : (pc : Int) + off = (tgt : Int)) (kt : x < y → AW S M tgt L st I J G P) (kf : ¬ x < y → AW S M (pc + 3) L st I J G P) : AW S M pc L (.int y :: .int x :: st) I J G P := by
  intro p l e s m args below meth c D cA ad H locs ls hM hC hP hS hl
  exact lv_icmp_lt hM.1 hM.2.1 hd ht (fun h => kt h _ _ _ _ _ _ _ _ _ _ _ _ _ _ _ hM hC hP hS hl) (fun h => kf h _ _ _ _ _ _ _ _ _ _ _ _ _ _ _ hM hC hP hS hl)
theorem aw_if_lt {x : Int32} {off : Int} {tgt : Nat} (hd : decode (miB M) pc = .ok (.ifCond .lt off, 3)) (ht : (pc : Int) + off = (tgt : Int)) (kt : x < 0 → AW S M tgt L st I J G P) (kf : ¬ x < 0 → AW S M (pc + 3) L st I J G P) : AW S M pc L (.int x :: st) I J G P := by
  intro p l e s m args below meth c D cA ad H locs ls hM hC hP hS hl
  exact lv_if_lt hM.1 hM.2.1 hd ht (fun h => kt h _ _ _ _ _ _ _ _ _ _ _ _ _ _ _ hM hC hP hS hl) (fun h => kf h _ _ _ _ _ _ _ _ _ _ _ _ _ _ _ hM hC hP hS hl)
theorem aw_icmp_ge {x y : Int32} {off : Int} {tgt : Nat} (hd : decode (miB M) pc = .ok (.if_icmp .ge off, 3)) (ht : (pc : Int) + off = (tgt : Int)) (kt : y ≤ x → AW S M tgt L st I J G P) (kf : ¬ y ≤ x → AW S M (pc + 3) L st I J G P) : AW S M pc L (.int y :: .int x :: st) I J G P := by
  intro p l e s m args below meth c D cA ad H locs ls hM hC hP hS hl
  exact lv_icmp_ge hM.1 hM.2.1 hd ht (fun h => kt h _ _ _ _ _ _ _ _ _ _ _ _ _ _ _ hM hC hP hS hl) (fun h => kf h _ _ _ _ _ _ _ _ _ _ _ _ _ _ _ hM hC hP hS hl)
theorem aw_if_ge {x : Int32} {off : Int} {tgt : Nat} (hd : decode (miB M) pc = .ok (.ifCond .ge off, 3)) (ht : (pc : Int) + off = (tgt : Int)) (kt : 0 ≤ x → AW S M tgt L st I J G P) (kf : ¬ 0 ≤ x → AW S M (pc + 3) L st I J G P) : AW S M pc L (.int x :: st) I J G P := by
  intro p l e s m args below meth c D cA ad H locs ls hM hC hP hS hl
  exact lv_if_ge hM.1 hM.2.1 hd ht (fun h => kt h _ _ _ _ _ _ _ _ _ _ _ _ _ _ _ hM hC hP hS hl) (fun h => kf h _ _ _ _ _ _ _ _ _ _ _ _ _ _ _ hM hC hP hS hl)
theorem aw_icmp_gt {x y : Int32} {off : Int} {tgt : Nat} (hd : decode (miB M) pc = .ok (.if_icmp .gt off, 3)) (ht : (pc : Int) + off = (tgt : Int)) (kt : y < x → AW S M tgt L st I J G P) (kf : ¬ y < x → AW S M (pc + 3) L st I J G P) : AW S M pc L (.int y :: .int x :: st) I J G P := by
  intro p l e s m args below meth c D cA ad H locs ls hM hC hP hS hl
  exact lv_icmp_gt hM.1 hM.2.1 hd ht (fun h => kt h _ _ _ _ _ _ _ _ _ _ _ _ _ _ _ hM hC hP hS hl) (fun h => kf h _ _ _ _ _ _ _ _ _ _ _ _ _ _ _ hM hC hP hS hl)
theorem aw_if_gt {x : Int32} {off : Int} {tgt : Nat} (hd : decode (miB M) pc = .ok (.ifCond .gt off, 3)) (ht : (pc : Int) + off = (tgt : Int)) (kt : 0 < x → AW S M tgt L st I J G P) (kf : ¬ 0 < x → AW S M (pc + 3) L st I J G P) : AW S M pc L (.int x :: st) I J G P := by
  intro p l e s m args below meth c D cA ad H locs ls hM hC hP hS hl
  exact lv_if_gt hM.1 hM.2.1 hd ht (fun h => kt h _ _ _ _ _ _ _ _ _ _ _ _ _ _ _ hM hC hP hS hl) (fun h => kf h _ _ _ _ _ _ _ _ _ _ _ _ _ _ _ hM hC hP hS hl)
theorem aw_icmp_le {x y : Int32} {off : Int} {tgt : Nat} (hd : decode (miB M) pc = .ok (.if_icmp .le off, 3)) (ht : (pc : Int) + off = (tgt : Int)) (kt : x ≤ y → AW S M tgt L st I J G P) (kf : ¬ x ≤ y → AW S M (pc + 3) L st I J G P) : AW S M pc L (.int y :: .int x :: st) I J G P := by
  intro p l e s m args below meth c D cA ad H locs ls hM hC hP hS hl
  exact lv_icmp_le hM.1 hM.2.1 hd ht (fun h => kt h _ _ _ _ _ _ _ _ _ _ _ _ _ _ _ hM hC hP hS hl) (fun h => kf h _ _ _ _ _ _ _ _ _ _ _ _ _ _ _ hM hC hP hS hl)
theorem aw_if_le {x : Int32} {off : Int} {tgt : Nat} (hd : decode (miB M) pc = .ok (.ifCond .le off, 3)) (ht : (pc : Int) + off = (tgt : Int)) (kt : x ≤ 0 → AW S M tgt L st I J G P) (kf : ¬ x ≤ 0 → AW S M (pc + 3) L st I J G P) : AW S M pc L (.int x :: st) I J G P := by
  intro p l e s m args below meth c D cA ad H locs ls hM hC hP hS hl
  exact lv_if_le hM.1 hM.2.1 hd ht (fun h => kt h _ _ _ _ _ _ _ _ _ _ _ _ _ _ _ hM hC hP hS hl) (fun h => kf h _ _ _ _ _ _ _ _ _ _ _ _ _ _ _ hM hC hP hS hl)
end AWR
end
section
section AWS
variable {S : SH} {M : MI} {pc : Nat} {L : LV} {st : List Value} {I : II} {J : JJ} {G : II} {P : PP}
theorem aw_get {idx k0 ci j : Nat} {nst : Bool} {fds : List (Nat × Nat)} {fd : Nat × Nat} (hf : flk (miO M) idx = some (nst, ci, j)) (hk : S[k0]? = some (.inl (ci, fds))) (hj : fds[j]? = some fd) (hd : decode (miB M) pc = .ok (.getfield idx, 3)) (k : AW S M (pc + 3) L (fdv I J k0 j fd :: st) I J G P) : AW S M pc L (.ref k0 :: st) I J G P := by
  intro p l e s m args below meth c D cA ad H locs ls hM hC hP hS hl
  have hv : (fds.mapIdx (fun j fd => con ad (fdv I J k0 j fd)))[j]? = some (con ad (fdv I J k0 j fd)) := by rw [List.getElem?_mapIdx, hj]; rfl
  have hw := wrl_get (cA := cA) (ad := ad) (I := I) (J := J) (G := G) hk
  cases nst with
  | false =>
    obtain ⟨h1, h2, h3⟩ := flk_F hf
    exact va_get hM.1 hM.2.1 hM.2.2.2.2.2.1 (uwn ci h2) hM.2.2.2.2.1 hC.2.1 hP k0 hw (cln ci h2) j h3 (hM.2.2.2.2.2.1 _ h1) (by rw [own_n ci h2 j h3]; exact fun _ h => h) hv hd (k _ _ _ _ _ _ _ _ _ _ _ _ _ _ _ hM hC hP hS hl)
  | true =>
    obtain ⟨h1, h2, h3⟩ := flk_G hf
    exact va_getN hM.1 hM.2.1 hM.2.2.2.2.2.1 (uwn ci h2) hM.2.2.2.2.1 hC.2.1 hP k0 hw (cln ci h2) j h3 ((hC.2.2.1 _ h1).use rfl) (by rw [own_n ci h2 j h3]; exact fun _ h => h) hv hd (k _ _ _ _ _ _ _ _ _ _ _ _ _ _ _ hM hC hP hS hl)
theorem aw_putI {idx k0 ci j : Nat} {nst : Bool} {fds : List (Nat × Nat)} {fd : Nat × Nat} {x : Int32} (hS0 : SOk S) (hf : flk (miO M) idx = some (nst, ci, j)) (hk : S[k0]? = some (.inl (ci, fds))) (hj : fds[j]? = some fd) (hfd : fd.1 = 1) (hd : decode (miB M) pc = .ok (.putfield idx, 3)) (k : AW S M (pc + 3) L st (up2 I k0 j x) J G P) : AW S M pc L (.int x :: .ref k0 :: st) I J G P := by
  intro p l e s m args below meth c D cA ad H locs ls hM hC hP hS hl
  have hw := wrl_get (cA := cA) (ad := ad) (I := I) (J := J) (G := G) hk
  have hty := (fdOk_ty (hS0.obj hk hj).2.2).1 hfd
  have hjl : j < fds.length := (List.getElem?_eq_some_iff.mp hj).1
  cases nst with
  | false =>
    obtain ⟨h1, h2, h3⟩ := flk_F hf
    refine va_put hM.1 hM.2.1 hM.2.2.2.2.2.1 (uwn ci h2) (tyn ci) (tyn_ok ci h2) (nmn ci h2) hM.2.2.2.2.1 hC.2.1 hP hC.1.D hS k0 hw (cln ci h2) j h3 (hM.2.2.2.2.2.1 _ h1) (by rw [own_n ci h2 j h3]; exact fun _ h => h) hty.2 (ty := .int) (by rw [tyn_ok ci h2 j h3, hty.1]) (rfl) (rfl) (by rw [List.length_mapIdx]; exact hjl) hd (fun H locs hP hD hS => ?_)
    exact k _ _ _ _ _ _ _ _ _ _ _ _ _ _ _ hM hC (wrl_setI hk hj (by rw [hfd]; decide) (by rw [hfd]; decide) ▸ hP) hS hl
  | true =>
    obtain ⟨h1, h2, h3⟩ := flk_G hf
    refine va_putN hM.1 hM.2.1 hM.2.2.2.2.2.1 (uwn ci h2) (tyn ci) (tyn_ok ci h2) (nmn ci h2) hM.2.2.2.2.1 hC.2.1 hP hC.1.D hS k0 hw (cln ci h2) j h3 ((hC.2.2.1 _ h1).use rfl) (by rw [own_n ci h2 j h3]; exact fun _ h => h) hty.2 (ty := .int) (by rw [tyn_ok ci h2 j h3, hty.1]) (rfl) (rfl) (by rw [List.length_mapIdx]; exact hjl) hd (fun H locs hP hD hS => ?_)
    exact k _ _ _ _ _ _ _ _ _ _ _ _ _ _ _ hM hC (wrl_setI hk hj (by rw [hfd]; decide) (by rw [hfd]; decide) ▸ hP) hS hl
theorem aw_putJ {idx k0 ci j : Nat} {nst : Bool} {fds : List (Nat × Nat)} {fd : Nat × Nat} {x : Int64} (hS0 : SOk S) (hf : flk (miO M) idx = some (nst, ci, j)) (hk : S[k0]? = some (.inl (ci, fds))) (hj : fds[j]? = some fd) (hfd : fd.1 = 2) (hd : decode (miB M) pc = .ok (.putfield idx, 3)) (k : AW S M (pc + 3) L st I (up2 J k0 j x) G P) : AW S M pc L (.long x :: .ref k0 :: st) I J G P := by
  intro p l e s m args below meth c D cA ad H locs ls hM hC hP hS hl
  have hw := wrl_get (cA := cA) (ad := ad) (I := I) (J := J) (G := G) hk
  have hty := (fdOk_ty (hS0.obj hk hj).2.2).2.1 hfd
  have hjl : j < fds.length := (List.getElem?_eq_some_iff.mp hj).1
  cases nst with
  | false =>
    obtain ⟨h1, h2, h3⟩ := flk_F hf
    refine va_put hM.1 hM.2.1 hM.2.2.2.2.2.1 (uwn ci h2) (tyn ci) (tyn_ok ci h2) (nmn ci h2) hM.2.2.2.2.1 hC.2.1 hP hC.1.D hS k0 hw (cln ci h2) j h3 (hM.2.2.2.2.2.1 _ h1) (by rw [own_n ci h2 j h3]; exact fun _ h => h) hty.2 (ty := .long) (by rw [tyn_ok ci h2 j h3, hty.1]) (rfl) (rfl) (by rw [List.length_mapIdx]; exact hjl) hd (fun H locs hP hD hS => ?_)
    exact k _ _ _ _ _ _ _ _ _ _ _ _ _ _ _ hM hC (wrl_setJ hk hj hfd ▸ hP) hS hl
  | true =>
    obtain ⟨h1, h2, h3⟩ := flk_G hf
    refine va_putN hM.1 hM.2.1 hM.2.2.2.2.2.1 (uwn ci h2) (tyn ci) (tyn_ok ci h2) (nmn ci h2) hM.2.2.2.2.1 hC.2.1 hP hC.1.D hS k0 hw (cln ci h2) j h3 ((hC.2.2.1 _ h1).use rfl) (by rw [own_n ci h2 j h3]; exact fun _ h => h) hty.2 (ty := .long) (by rw [tyn_ok ci h2 j h3, hty.1]) (rfl) (rfl) (by rw [List.length_mapIdx]; exact hjl) hd (fun H locs hP hD hS => ?_)
    exact k _ _ _ _ _ _ _ _ _ _ _ _ _ _ _ hM hC (wrl_setJ hk hj hfd ▸ hP) hS hl
theorem aw_putZ {idx k0 ci j : Nat} {nst : Bool} {fds : List (Nat × Nat)} {fd : Nat × Nat} {x : Int32} (hx : x = 0 ∨ x = 1) (hS0 : SOk S) (hf : flk (miO M) idx = some (nst, ci, j)) (hk : S[k0]? = some (.inl (ci, fds))) (hj : fds[j]? = some fd) (hfd : fd.1 = 3) (hd : decode (miB M) pc = .ok (.putfield idx, 3)) (k : AW S M (pc + 3) L st (up2 I k0 j x) J G P) : AW S M pc L (.int x :: .ref k0 :: st) I J G P := by
  intro p l e s m args below meth c D cA ad H locs ls hM hC hP hS hl
  have hw := wrl_get (cA := cA) (ad := ad) (I := I) (J := J) (G := G) hk
  have hty := (fdOk_ty (hS0.obj hk hj).2.2).2.2 hfd
  have hjl : j < fds.length := (List.getElem?_eq_some_iff.mp hj).1
  cases nst with
  | false =>
    obtain ⟨h1, h2, h3⟩ := flk_F hf
    refine va_put hM.1 hM.2.1 hM.2.2.2.2.2.1 (uwn ci h2) (tyn ci) (tyn_ok ci h2) (nmn ci h2) hM.2.2.2.2.1 hC.2.1 hP hC.1.D hS k0 hw (cln ci h2) j h3 (hM.2.2.2.2.2.1 _ h1) (by rw [own_n ci h2 j h3]; exact fun _ h => h) hty.2 (ty := .boolean) (by rw [tyn_ok ci h2 j h3, hty.1]) (by rcases hx with rfl | rfl <;> rfl) (by rcases hx with rfl | rfl <;> rfl) (by rw [List.length_mapIdx]; exact hjl) hd (fun H locs hP hD hS => ?_)
    exact k _ _ _ _ _ _ _ _ _ _ _ _ _ _ _ hM hC (wrl_setI hk hj (by rw [hfd]; decide) (by rw [hfd]; decide) ▸ hP) hS hl
  | true =>
    obtain ⟨h1, h2, h3⟩ := flk_G hf
    refine va_putN hM.1 hM.2.1 hM.2.2.2.2.2.1 (uwn ci h2) (tyn ci) (tyn_ok ci h2) (nmn ci h2) hM.2.2.2.2.1 hC.2.1 hP hC.1.D hS k0 hw (cln ci h2) j h3 ((hC.2.2.1 _ h1).use rfl) (by rw [own_n ci h2 j h3]; exact fun _ h => h) hty.2 (ty := .boolean) (by rw [tyn_ok ci h2 j h3, hty.1]) (by rcases hx with rfl | rfl <;> rfl) (by rcases hx with rfl | rfl <;> rfl) (by rw [List.length_mapIdx]; exact hjl) hd (fun H locs hP hD hS => ?_)
    exact k _ _ _ _ _ _ _ _ _ _ _ _ _ _ _ hM hC (wrl_setI hk hj (by rw [hfd]; decide) (by rw [hfd]; decide) ▸ hP) hS hl
theorem aw_iald {k0 n : Nat} {i : Int32} (hk : S[k0]? = some (.inr (0, n))) (hi : vp_in i n) (hd : decode (miB M) pc = .ok (.iaload, 1)) (k : AW S M (pc + 1) L (.int (G k0 i.toNatClampNeg) :: st) I J G P) : AW S M pc L (.int i :: .ref k0 :: st) I J G P := by
  intro p l e s m args below meth c D cA ad H locs ls hM hC hP hS hl
  exact va_iald hM.1 hM.2.1 hC.2.1 hP k0 0 (wrl_get hk) (tyl_get (by decide)) hi hd (k _ _ _ _ _ _ _ _ _ _ _ _ _ _ _ hM hC hP hS hl)
theorem aw_bald {k0 n : Nat} {i : Int32} (hk : S[k0]? = some (.inr (1, n))) (hi : vp_in i n) (hd : decode (miB M) pc = .ok (.baload, 1)) (k : AW S M (pc + 1) L (.int (G k0 i.toNatClampNeg) :: st) I J G P) : AW S M pc L (.int i :: .ref k0 :: st) I J G P := by
  intro p l e s m args below meth c D cA ad H locs ls hM hC hP hS hl
  exact va_bald hM.1 hM.2.1 hC.2.1 hP k0 1 (wrl_get hk) (tyl_get (by decide)) hi hd (k _ _ _ _ _ _ _ _ _ _ _ _ _ _ _ hM hC hP hS hl)
theorem aw_zald {k0 n : Nat} {i : Int32} (hk : S[k0]? = some (.inr (2, n))) (hi : vp_in i n) (hd : decode (miB M) pc = .ok (.baload, 1)) (k : AW S M (pc + 1) L (.int (G k0 i.toNatClampNeg) :: st) I J G P) : AW S M pc L (.int i :: .ref k0 :: st) I J G P := by
  intro p l e s m args below meth c D cA ad H locs ls hM hC hP hS hl
  exact va_zald hM.1 hM.2.1 hC.2.1 hP k0 2 (wrl_get hk) (tyl_get (by decide)) hi hd (k _ _ _ _ _ _ _ _ _ _ _ _ _ _ _ hM hC hP hS hl)
theorem aw_iast {k0 n : Nat} {i x : Int32} (hk : S[k0]? = some (.inr (0, n))) (hi : vp_in i n) (hd : decode (miB M) pc = .ok (.iastore, 1)) (k : AW S M (pc + 1) L st I J (va_up G k0 (upd (G k0) i.toNatClampNeg (x))) P) : AW S M pc L (.int x :: .int i :: .ref k0 :: st) I J G P := by
  intro p l e s m args below meth c D cA ad H locs ls hM hC hP hS hl
  refine va_iast hM.1 hM.2.1 hC.2.1 hP hC.1.D hS k0 0 (wrl_get hk) (tyl_get (by decide)) hi hd (fun H locs hP hD hS => ?_)
  exact k _ _ _ _ _ _ _ _ _ _ _ _ _ _ _ hM hC (wrl_setG hk ▸ hP) hS hl
theorem aw_bast {k0 n : Nat} {i x : Int32} (hk : S[k0]? = some (.inr (1, n))) (hi : vp_in i n) (hd : decode (miB M) pc = .ok (.bastore, 1)) (k : AW S M (pc + 1) L st I J (va_up G k0 (upd (G k0) i.toNatClampNeg (vp_nar .byte x))) P) : AW S M pc L (.int x :: .int i :: .ref k0 :: st) I J G P := by
  intro p l e s m args below meth c D cA ad H locs ls hM hC hP hS hl
  refine va_bast hM.1 hM.2.1 hC.2.1 hP hC.1.D hS k0 1 (wrl_get hk) (tyl_get (by decide)) hi hd (fun H locs hP hD hS => ?_)
  exact k _ _ _ _ _ _ _ _ _ _ _ _ _ _ _ hM hC (wrl_setG hk ▸ hP) hS hl
theorem aw_zast {k0 n : Nat} {i x : Int32} (hk : S[k0]? = some (.inr (2, n))) (hi : vp_in i n) (hd : decode (miB M) pc = .ok (.bastore, 1)) (k : AW S M (pc + 1) L st I J (va_up G k0 (upd (G k0) i.toNatClampNeg (vp_nar .boolean x))) P) : AW S M pc L (.int x :: .int i :: .ref k0 :: st) I J G P := by
  intro p l e s m args below meth c D cA ad H locs ls hM hC hP hS hl
  refine va_zast hM.1 hM.2.1 hC.2.1 hP hC.1.D hS k0 2 (wrl_get hk) (tyl_get (by decide)) hi hd (fun H locs hP hD hS => ?_)
  exact k _ _ _ _ _ _ _ _ _ _ _ _ _ _ _ hM hC (wrl_setG hk ▸ hP) hS hl
theorem aw_alen {k0 n et : Nat} (hS0 : SOk S) (hk : S[k0]? = some (.inr (et, n))) (hd : decode (miB M) pc = .ok (.arraylength, 1)) (k : AW S M (pc + 1) L (.int (Int32.ofNat n) :: st) I J G P) : AW S M pc L (.ref k0 :: st) I J G P := by
  intro p l e s m args below meth c D cA ad H locs ls hM hC hP hS hl
  exact va_alen hM.1 hM.2.1 hC.2.1 hP k0 et (wrl_get hk) (tyl_get (hS0.arr hk).1) rfl hd (k _ _ _ _ _ _ _ _ _ _ _ _ _ _ _ hM hC hP hS hl)
theorem aw_tlen {k0 : Nat} (hk : isSt k0 = true) (hd : decode (miB M) pc = .ok (.arraylength, 1)) (k : AW S M (pc + 1) L (.int (Int32.ofNat (snl k0).length) :: st) I J G P) : AW S M pc L (.ref k0 :: st) I J G P := by
  intro p l e s m args below meth c D cA ad H locs ls hM hC hP hS hl
  exact va_tlen hM.1 hM.2.1 (hC.2.2.2 k0 hk).2 hS rfl hd (k _ _ _ _ _ _ _ _ _ _ _ _ _ _ _ hM hC hP hS hl)
theorem aw_tald {k0 : Nat} {i : Int32} (hk : isSt k0 = true) (hi : vp_in i (snl k0).length) (hd : decode (miB M) pc = .ok (.iaload, 1)) (k : AW S M (pc + 1) L (.int ((snl k0).getD i.toNatClampNeg 0) :: st) I J G P) : AW S M pc L (.int i :: .ref k0 :: st) I J G P := by
  intro p l e s m args below meth c D cA ad H locs ls hM hC hP hS hl
  exact va_ti hM.1 hM.2.1 (hC.2.2.2 k0 hk).2 hS hi rfl hd (k _ _ _ _ _ _ _ _ _ _ _ _ _ _ _ hM hC hP hS hl)
theorem aw_gets {idx k0 : Nat} (hf : (miO M, idx, k0) ∈ STl) (hk : isSt k0 = true) (hd : decode (miB M) pc = .ok (.getstatic idx, 3)) (k : AW S M (pc + 3) L (.ref k0 :: st) I J G P) : AW S M pc L st I J G P := by
  intro p l e s m args below meth c D cA ad H locs ls hM hC hP hS hl
  exact va_gets hM.1 hM.2.1 (hC.2.2.2 k0 hk).1 hS hM.2.2.2.2.1 (hM.2.2.2.2.2.1 _ (ST_ok _ (List.mem_map_of_mem (f := fun q : Nat × Nat × Nat => Cond.fieldLink (Rn q.1) q.2.1 RX5 (snm q.2.2) "[I") hf))) (fun _ h => h) hd (k _ _ _ _ _ _ _ _ _ _ _ _ _ _ _ hM hC hP hS hl)
/-- returns -/
theorem qg_ret {D : va_G} {cA : Nat → ClassId} {ad : Nat → Nat} {s : State} {H : Heap} {locs : List Loc} {args : Array Value} {r : Option Value} (hP : va_P D vwCl (wrl S cA ad I J G) H) (hS : va_S (AA S ad s.heap.size) s.heap H locs) (h : P r I J G) : ∀ t : State, t.heap = H → s.WarmedH t.vm → QG S D cA ad P s.heap.size args s (.returned (r.map (con ad))) t := fun t ht hW =>
  ⟨⟨r, I, J, G, rfl, h, by rw [ht]; exact hP⟩, hS.F ht⟩
theorem aw_iret {x : Int32} (hr : miR M = some .int) (hd : decode (miB M) pc = .ok (.ireturn, 1)) (h : P (some (.int x)) I J G) : AW S M pc L [.int x] I J G P := by
  intro p l e s m args below meth c D cA ad H locs ls hM hC hP hS hl
  exact W.iret hM.1 hM.2.1 (by rw [hM.2.2.1, hr]) (qg_ret (r := some (.int x)) hP hS h) hS.2.2 hd (hlocks := hM.2.2.2.2.2.2)
theorem aw_zret {x : Int32} (hr : miR M = some .boolean) (hx : x = 0 ∨ x = 1) (hd : decode (miB M) pc = .ok (.ireturn, 1)) (h : P (some (.int x)) I J G) : AW S M pc L [.int x] I J G P := by
  intro p l e s m args below meth c D cA ad H locs ls hM hC hP hS hl
  exact W.zret hM.1 hM.2.1 (by rw [hM.2.2.1, hr]) (by rcases hx with rfl | rfl <;> decide) (qg_ret (r := some (.int x)) hP hS h) hS.2.2 hd (hlocks := hM.2.2.2.2.2.2)
theorem aw_lret {x : Int64} (hr : miR M = some .long) (hd : decode (miB M) pc = .ok (.lreturn, 1)) (h : P (some (.long x)) I J G) : AW S M pc L [.long x] I J G P := by
  intro p l e s m args below meth c D cA ad H locs ls hM hC hP hS hl
  exact W.lret hM.1 hM.2.1 (by rw [hM.2.2.1, hr]) (qg_ret (r := some (.long x)) hP hS h) hS.2.2 hd (hlocks := hM.2.2.2.2.2.2)
theorem aw_vret (hr : miR M = none) (hd : decode (miB M) pc = .ok (.return_, 1)) (h : P none I J G) : AW S M pc L [] I J G P := by
  intro p l e s m args below meth c D cA ad H locs ls hM hC hP hS hl
  exact W.vret hM.1 hM.2.1 (by rw [hM.2.2.1, hr]) (qg_ret (r := none) hP hS h) hS.2.2 hd (hlocks := hM.2.2.2.2.2.2)
theorem aw_aret {k0 : Nat} {rt : FieldType} (hr : miR M = some rt) (hrt : (∃ n, rt = .object n) ∨ ∃ t, rt = .array t) (hd : decode (miB M) pc = .ok (.areturn, 1)) (h : P (some (.ref k0)) I J G) : AW S M pc L [.ref k0] I J G P := by
  intro p l e s m args below meth c D cA ad H locs ls hM hC hP hS hl
  exact W.aret hM.1 hM.2.1 (by rw [hM.2.2.1, hr]) hrt (Or.inr ⟨_, rfl⟩) (qg_ret (r := some (.ref k0)) hP hS h) hS.2.2 hd (hlocks := hM.2.2.2.2.2.2)
/-- calls -/
theorem CX.at {D : va_G} {cA : Nat → ClassId} {ad : Nat → Nat} {s U : State} {H : Heap} {locs : List Loc} (h : CX S D cA ad s.heap.size s s.heap) (hS : va_S (AA S ad s.heap.size) s.heap H locs) (hW : s.WarmedH U.vm) : CX S D cA ad H.size U H := by
  obtain ⟨h1, h2, h3, h4⟩ := h
  refine ⟨h1, h2.moved hW.alike, fun w hw => ?_, h4.at hW.alike (fun a ha hn => hS.2.1 a ha hn) hS.1⟩
  have hn := (List.mem_filter.mp hw).2
  have hZ := h3 w hw
  unfold isNest at hn
  split at hn
  · exact hZ.warmF hW
  · exact hZ.warmM hW
  · cases hn
theorem APc.blind {D : va_G} {cA : Nat → ClassId} {ad : Nat → Nat} {sz : Nat} {as : List Value} : FrameBlind (APc S D cA ad sz as I J G) := by
  intro a U g mk ⟨q0, q1, ⟨c1, c2, c3, c4⟩, qP⟩
  refine ⟨q0, q1, ⟨c1, va_K.moved (u := U) (U := U.calling g mk a) (Vm.Alike.refl U.vm) c2, fun w hw => ?_, ?_⟩, qP⟩
  · have hn := (List.mem_filter.mp hw).2
    refine va_Nw.same ?_ (u := U) (U := U.calling g mk a) rfl (c3 w hw)
    unfold isNest at hn
    split at hn
    · rfl
    · rfl
    · cases hn
  · exact SZ.at (u := U) (U := U.calling g mk a) c4 (Vm.Alike.refl U.vm) (fun _ _ _ => rfl) (Nat.le_refl _)
theorem va_callG {p : Program} {l : Launch} {e : Env} {s : State} {m : MethodId} {args a : Array Value} {below : List Frame} {meth : Method} {c : Code} {D : va_G} {cA : Nat → ClassId} {ad : Nat → Nat} {H : Heap} {locs : List Loc} {ls : Array Slot} {st0 : List Value} {Q : PP}
    (hM : MC M p s m args meth c) (hC : CX S D cA ad s.heap.size s s.heap) (hS : va_S (AA S ad s.heap.size) s.heap H locs) (hl : lvP ad ls (miX M) L)
    (hr : va_Run p l e (rmM M) s m args below meth c H locs 0 0 0 0 (F0 m pc ls st0) (st.map (con ad)) (QG S D cA ad Q H.size a) (AA S ad H.size))
    (kk : ∀ r I' J' G', Q r I' J' G' → AW S M (pc + 3) L (r.toList ++ st) I' J' G' P) :
    W p l e (rmM M) s m args below meth c H locs 0 0 (MQ below (QG S D cA ad P s.heap.size) args s 0 0 (AA S ad s.heap.size)) (F0 m pc ls st0) := by
  intro T hT X
  obtain ⟨v, st₀, t, T', Lc, h0, X', hL, e1, e2, ⟨⟨r, I', J', G', hv, hq, hp⟩, hz, hk⟩, stp⟩ := hr T hT X
  cases hv
  rw [h0] at hz hk
  have hS' : va_S (AA S ad s.heap.size) s.heap T'.heap (locs ++ Lc) := by
    refine ⟨Nat.le_trans hS.1 (by rw [e1]; exact hz), fun q h1 h2 => ?_, fun q hq => ?_⟩
    · rw [e1, hk q (Nat.lt_of_lt_of_le h1 hS.1) (fun z => h2 (AA.le hS.1 q z))]
      exact hS.2.1 q h1 h2
    · rcases List.mem_append.mp hq with h | h
      · exact hS.2.2 q h
      · exact AA.le hS.1 _ (hL q h)
  obtain ⟨t2, a1, b1⟩ := kk r I' J' G' hq p l e s m args below meth c D cA ad T'.heap (locs ++ Lc) ls hM hC (by rw [e1]; exact hp) hS' hl T' rfl X'
  refine ⟨t2, stp t2 ?_, b1⟩
  have he : (r.toList ++ st).map (con ad) = (Option.map (con ad) r).toList ++ st.map (con ad) := by
    cases r <;> rfl
  rw [he] at a1
  exact a1
theorem con_sum (ad : Nat → Nat) (vs : List Value) : ((vs.map (con ad)).map fun v => v.category).sum = (vs.map fun v => v.category).sum := by
  rw [List.map_map]
  congr 1
  exact List.map_congr_left (fun v _ => con_cat ad v)
/-- an instance method of the world's -/
theorem aw_callV {M' : MI} {idx k0 ci : Nat} {fds : List (Nat × Nat)} {as stk : List Value} {Q : PP} (hM' : MOk M') (hs : miS M' = false) (lk : lkOk (miO M) idx M') (hdep : miD M' < miD M) (hk : S[k0]? = some (.inl (ci, fds))) (hci : ci < 8) (hcn : (miY M').cls = Rn ci) (hn : as.length = miN M') (hroom : (st.map fun v => v.category).sum ≤ 8) (hstk : stk = as.reverse ++ .ref k0 :: st) (hd : decode (miB M) pc = .ok (.invokevirtual idx, 3))
    (hA : AMet S M' (.ref k0 :: as) I J G Q) (kk : ∀ r I' J' G', Q r I' J' G' → AW S M (pc + 3) L (r.toList ++ st) I' J' G' P) : AW S M pc L stk I J G P := by
  intro p l e s m args below meth c D cA ad H locs ls hM hC hP hS hl
  subst hstk
  obtain ⟨o1, o2, o3, o4, o5, o6, o7, o8⟩ := hM'
  rw [hs] at o5
  simp only [Bool.false_eq_true, if_false] at o5
  have hts : ∀ w ∈ Wd, w.before args s = true := hM.2.2.2.2.2.1
  have hpre : PreV s H (Rn ci) (ad k0) (APc S D cA ad H.size (.ref k0 :: as) I J G) (as.map (con ad)) :=
    ⟨APc.blind, va_recv hC.2.1 hP (cln ci hci) (q0 := k0) (wrl_get hk), fun U hU hW => ⟨rfl, by rw [hU], by rw [hU]; exact hC.at hS hW, by rw [hU]; exact hP⟩⟩
  have hdm : (rmM M').frames + 1 ≤ (rmM M).frames ∧ 8 + (miX M' + 11) + (rmM M').locals ≤ (rmM M).locals := by
    show miD M' + 1 ≤ miD M ∧ 8 + (miX M' + 11) + 36 * miD M' ≤ 36 * miD M
    omega
  have hstack : (F0 m pc ls ((as.reverse ++ .ref k0 :: st).map (con ad))).stack = (as.map (con ad)).reverse ++ .ref (ad k0) :: st.map (con ad) := by
    show (as.reverse ++ .ref k0 :: st).map (con ad) = _
    rw [List.map_append, List.map_reverse]; rfl
  have hrm : 2 * (F0 m pc ls ((as.reverse ++ .ref k0 :: st).map (con ad))).monitorRoom + ((st.map (con ad)).map fun v => v.category).sum ≤ 8 := lv_room (by rw [con_sum]; exact hroom)
  refine va_callG (a := (Value.ref (ad k0) :: as.map (con ad)).toArray) hM hC hS hl ?_ kk
  rcases lk with lk | lk
  · have cw : CallW (rmM M) s args (Rn (miO M)) (Rn ci) idx (miY M') (miB M') (miX M') (miR M') (wds M') (rmM M') 0 0 (miN M') :=
      ⟨callB_of (miN M') hts (goodIn_wd (fun _ h => h) o3) rfl rfl rfl (hts _ o4) (hts _ lk) o6 hdm, hts _ o5.1, by rw [← hcn]; exact hts _ o5.2⟩
    exact va_runV (As := as.map (con ad)) ⟨hM.1, hM.2.1, hM.2.2.2.1, hM.2.2.2.2.1, hts⟩ (hA l D cA ad H.size) cw hpre rfl (by simpa using hn) hl.1 hstack hrm hd ⟨Nat.zero_le _, Nat.zero_le _⟩
  · have cw : va_CN (rmM M) s args (Rn (miO M)) idx (miY M') "SilverFleets" (miB M') (miX M') (miR M') (wds M') (rmM M') 0 0 (miN M') :=
      va_cnB (miN M') hts (goodIn_wd (fun _ h => h) o3) rfl rfl rfl (hC.2.2.1 _ lk) (hts _ o4) o6 hdm
    exact va_runVN (As := as.map (con ad)) ⟨hM.1, hM.2.1, hM.2.2.2.1, hM.2.2.2.2.1, hts⟩ (hA l D cA ad H.size) ⟨cw, hts _ o5.1, by rw [← hcn]; exact hts _ o5.2⟩ hpre rfl (by simpa using hn) hl.1 hstack hrm hd ⟨Nat.zero_le _, Nat.zero_le _⟩
/-- a static method -/
theorem aw_callS {M' : MI} {idx : Nat} {as stk : List Value} {Q : PP} (hM' : MOk M') (hs : miS M' = true) (lk : lkOk (miO M) idx M') (hdep : miD M' < miD M) (hn : as.length = miN M') (hroom : (st.map fun v => v.category).sum ≤ 8) (hstk : stk = as.reverse ++ st) (hd : decode (miB M) pc = .ok (.invokestatic idx, 3))
    (hA : AMet S M' as I J G Q) (kk : ∀ r I' J' G', Q r I' J' G' → AW S M (pc + 3) L (r.toList ++ st) I' J' G' P) : AW S M pc L stk I J G P := by
  intro p l e s m args below meth c D cA ad H locs ls hM hC hP hS hl
  subst hstk
  obtain ⟨o1, o2, o3, o4, o5, o6, o7, o8⟩ := hM'
  rw [hs] at o5
  simp only [if_true] at o5
  have hts : ∀ w ∈ Wd, w.before args s = true := hM.2.2.2.2.2.1
  have hpre : PreS s H (APc S D cA ad H.size as I J G) (as.map (con ad)) :=
    ⟨APc.blind, fun U hU hW => ⟨rfl, by rw [hU], by rw [hU]; exact hC.at hS hW, by rw [hU]; exact hP⟩⟩
  have hdm : (rmM M').frames + 1 ≤ (rmM M).frames ∧ 8 + (miX M' + 11) + (rmM M').locals ≤ (rmM M).locals := by
    show miD M' + 1 ≤ miD M ∧ 8 + (miX M' + 11) + 36 * miD M' ≤ 36 * miD M
    omega
  have hstack : (F0 m pc ls ((as.reverse ++ st).map (con ad))).stack = (as.map (con ad)).reverse ++ st.map (con ad) := by
    show (as.reverse ++ st).map (con ad) = _
    rw [List.map_append, List.map_reverse]
  have hrm : 2 * (F0 m pc ls ((as.reverse ++ st).map (con ad))).monitorRoom + ((st.map (con ad)).map fun v => v.category).sum ≤ 8 := lv_room (by rw [con_sum]; exact hroom)
  refine va_callG (a := (as.map (con ad)).toArray) hM hC hS hl ?_ kk
  rcases lk with lk | lk
  · have cw : CallB (rmM M) s args (Rn (miO M)) idx (miY M') (miB M') (miX M') (miR M') (wds M') (rmM M') 0 0 (miN M') :=
      callB_of (miN M') hts (goodIn_wd (fun _ h => h) o3) rfl rfl rfl (hts _ o4) (hts _ lk) o6 hdm
    exact va_runS (As := as.map (con ad)) ⟨hM.1, hM.2.1, hM.2.2.2.1, hM.2.2.2.2.1, hts⟩ (hA l D cA ad H.size) ⟨cw, hts _ o5⟩ hpre rfl (by simpa using hn) hl.1 hstack hrm hd ⟨Nat.zero_le _, Nat.zero_le _⟩
  · have cw : va_CN (rmM M) s args (Rn (miO M)) idx (miY M') "SilverFleets" (miB M') (miX M') (miR M') (wds M') (rmM M') 0 0 (miN M') :=
      va_cnB (miN M') hts (goodIn_wd (fun _ h => h) o3) rfl rfl rfl (hC.2.2.1 _ lk) (hts _ o4) o6 hdm
    exact va_runSN (As := as.map (con ad)) ⟨hM.1, hM.2.1, hM.2.2.2.1, hM.2.2.2.2.1, hts⟩ (hA l D cA ad H.size) ⟨cw, hts _ o5, trivial⟩ hpre rfl (by simpa using hn) hl.1 hstack hrm hd ⟨Nat.zero_le _, Nat.zero_le _⟩
theorem aw_min {idx : Nat} {x y : Int32} (hin : ∀ w ∈ [Cond.methodLink (Rn (miO M)) idx Lib.Math.min.name, Cond.static Lib.Math.min.name, Cond.initialized "java/lang/Math", Cond.code Lib.Math.min.name Lib.Math.min.code 2 (some .int)], w ∈ Wd) (hdep : 1 ≤ miD M) (hroom : (st.map fun v => v.category).sum ≤ 8) (hd : decode (miB M) pc = .ok (.invokestatic idx, 3)) (k : AW S M (pc + 3) L (.int (if y < x then y else x) :: st) I J G P) : AW S M pc L (.int y :: .int x :: st) I J G P := by
  intro p l e s m args below meth c D cA ad H locs ls hM hC hP hS hl
  have hts : ∀ w ∈ Wd, w.before args s = true := hM.2.2.2.2.2.1
  exact va_mmin hM.1 hM.2.1 (by rw [hM.2.2.2.1, hl.1]) hM.2.2.2.2.1 (hts _ (hin _ (by simp))) (hts _ (hin _ (by simp))) (hts _ (hin _ (by simp))) (hts _ (hin _ (by simp))) hdep (by show _ ≤ 36 * miD M; rw [con_sum]; omega) (Nat.zero_le _) (Nat.zero_le _) hd (k _ _ _ _ _ _ _ _ _ _ _ _ _ _ _ hM hC hP hS hl)
theorem aw_max {idx : Nat} {x y : Int32} (hin : ∀ w ∈ [Cond.methodLink (Rn (miO M)) idx Lib.Math.max.name, Cond.static Lib.Math.max.name, Cond.initialized "java/lang/Math", Cond.code Lib.Math.max.name Lib.Math.max.code 2 (some .int)], w ∈ Wd) (hdep : 1 ≤ miD M) (hroom : (st.map fun v => v.category).sum ≤ 8) (hd : decode (miB M) pc = .ok (.invokestatic idx, 3)) (k : AW S M (pc + 3) L (.int (if x < y then y else x) :: st) I J G P) : AW S M pc L (.int y :: .int x :: st) I J G P := by
  intro p l e s m args below meth c D cA ad H locs ls hM hC hP hS hl
  have hts : ∀ w ∈ Wd, w.before args s = true := hM.2.2.2.2.2.1
  exact va_mmax hM.1 hM.2.1 (by rw [hM.2.2.2.1, hl.1]) hM.2.2.2.2.1 (hts _ (hin _ (by simp))) (hts _ (hin _ (by simp))) (hts _ (hin _ (by simp))) (hts _ (hin _ (by simp))) hdep (by show _ ≤ 36 * miD M; rw [con_sum]; omega) (Nat.zero_le _) (Nat.zero_le _) hd (k _ _ _ _ _ _ _ _ _ _ _ _ _ _ _ hM hC hP hS hl)
theorem aw_copy {idx k0 k1 n0 n1 : Nat} {sp dp n : Int32} (hin : ∀ w ∈ [Cond.methodLink (Rn (miO M)) idx arraycopyName, Cond.native arraycopyName, Cond.static arraycopyName, Cond.initialized "java/lang/System"], w ∈ Wd) (hdep : 1 ≤ miD M) (hk0 : S[k0]? = some (.inr (0, n0))) (hk1 : S[k1]? = some (.inr (0, n1))) (h1 : ¬ sp < 0) (h2 : ¬ dp < 0) (h3 : ¬ n < 0) (h4 : sp.toNatClampNeg + n.toNatClampNeg ≤ n0) (h5 : dp.toNatClampNeg + n.toNatClampNeg ≤ n1) (hroom : (st.map fun v => v.category).sum ≤ 8) (hd : decode (miB M) pc = .ok (.invokestatic idx, 3))
    (k : AW S M (pc + 3) L st I J (va_up G k1 (va_cpy (G k0) (G k1) sp.toNatClampNeg dp.toNatClampNeg n.toNatClampNeg)) P) : AW S M pc L (.int n :: .int dp :: .ref k1 :: .int sp :: .ref k0 :: st) I J G P := by
  intro p l e s m args below meth c D cA ad H locs ls hM hC hP hS hl
  have hts : ∀ w ∈ Wd, w.before args s = true := hM.2.2.2.2.2.1
  have hlc : ((st.map (con ad)).map fun v => v.category).sum + (nativeFrameWords "java/lang/System" "arraycopy" 5 + 11) ≤ (rmM M).locals := by
    have h9 : nativeFrameWords "java/lang/System" "arraycopy" 5 + 11 ≤ 28 := by decide +kernel
    show _ ≤ 36 * miD M
    rw [con_sum]
    omega
  refine va_copyi hM.1 hM.2.1 (by rw [hM.2.2.2.1, hl.1]) hM.2.2.2.2.1 (hts _ (hin _ (by simp))) (hts _ (hin _ (by simp))) (hts _ (hin _ (by simp))) (hts _ (hin _ (by simp))) hC.2.1 hP hC.1.D hS k0 k1 0 0 (wrl_get hk0) (wrl_get hk1) (tyl_get (by decide)) (tyl_get (by decide)) rfl h1 h2 h3 h4 h5 (fun _ _ => rfl) hdep hlc hd (fun H locs hP hD hS => ?_)
  exact k _ _ _ _ _ _ _ _ _ _ _ _ _ _ _ hM hC (wrl_setG hk1 ▸ hP) hS hl
theorem aw_lookup {dflt : Int} {ps : Array (Int × Int)} {len : Nat} {x : Int32} {off : Int} {tgt : Nat} (hd : decode (miB M) pc = .ok (.lookupswitch dflt ps, len)) (hp : (ps.toList.zip (ps.toList.drop 1)).all (fun (a, next) => a.1 < next.1) = true) (ho : Op.lookupswitch.offset ps.toList dflt x.toInt = off) (ht : (pc : Int) + off = (tgt : Int)) (k : AW S M tgt L st I J G P) : AW S M pc L (.int x :: st) I J G P := by
  intro p l e s m args below meth c D cA ad H locs ls hM hC hP hS hl
  exact lv_lookup hM.1 hM.2.1 hd hp ho ht (k _ _ _ _ _ _ _ _ _ _ _ _ _ _ _ hM hC hP hS hl)
theorem aw_tableOut {dflt lo hi : Int} {offs : Array Int} {len : Nat} {x : Int32} {tgt : Nat} (hd : decode (miB M) pc = .ok (.tableswitch dflt lo hi offs, len)) (h : x.toInt < lo ∨ hi < x.toInt) (ht : (pc : Int) + dflt = (tgt : Int)) (k : AW S M tgt L st I J G P) : AW S M pc L (.int x :: st) I J G P := by
  intro p l e s m args below meth c D cA ad H locs ls hM hC hP hS hl
  exact lv_tableOut hM.1 hM.2.1 hd h ht (k _ _ _ _ _ _ _ _ _ _ _ _ _ _ _ hM hC hP hS hl)
theorem aw_tableIn {dflt lo hi : Int} {offs : Array Int} {len : Nat} {x : Int32} {off : Int} {tgt : Nat} (hd : decode (miB M) pc = .ok (.tableswitch dflt lo hi offs, len)) (h1 : ¬ x.toInt < lo) (h2 : ¬ hi < x.toInt) (ho : offs[(x.toInt - lo).toNat]? = some off) (ht : (pc : Int) + off = (tgt : Int)) (k : AW S M tgt L st I J G P) : AW S M pc L (.int x :: st) I J G P := by
  intro p l e s m args below meth c D cA ad H locs ls hM hC hP hS hl
  exact lv_tableIn hM.1 hM.2.1 hd h1 h2 ho ht (k _ _ _ _ _ _ _ _ _ _ _ _ _ _ _ hM hC hP hS hl)
/-- what is no longer known of the locals -/
theorem aw_forget {L' : LV} (h : ∀ (i : Nat) (v : Value), L'[i]? = some (some v) → L[i]? = some (some v)) (k : AW S M pc L' st I J G P) : AW S M pc L st I J G P := by
  intro p l e s m args below meth c D cA ad H locs ls hM hC hP hS hl
  exact k _ _ _ _ _ _ _ _ _ _ _ _ _ _ _ hM hC hP hS ⟨hl.1, hl.2.1, fun i v hi => hl.2.2 i v (h i v hi)⟩
theorem qg_mono {D : va_G} {cA : Nat → ClassId} {ad : Nat → Nat} {sz : Nat} {P Q : PP} (h : ∀ r I J G, P r I J G → Q r I J G) {a : Array Value} {s : State} {oc : Outcome} {t : State} (hq : QG S D cA ad P sz a s oc t) : QG S D cA ad Q sz a s oc t := by
  obtain ⟨⟨r, I, J, G, h1, h2, h3⟩, h4⟩ := hq
  exact ⟨⟨r, I, J, G, h1, h _ _ _ _ h2, h3⟩, h4⟩
end AWS
end
section
/-! the straight stretches, by computation -/
abbrev CF : Type := Nat × LV × List Value × II × JJ × II
def lkT : List (Nat × Instr × Nat) → Nat → Option (Instr × Nat)
  | [], _ => none
  | q :: r, pc => cond (Nat.beq q.1 pc) (some q.2) (lkT r pc)
theorem lkT_mem {t : List (Nat × Instr × Nat)} {pc : Nat} {x : Instr × Nat} (h : lkT t pc = some x) : (pc, x) ∈ t := by
  induction t with
  | nil => cases h
  | cons q r ih =>
    unfold lkT at h
    cases hb : Nat.beq q.1 pc with
    | true =>
      rw [hb] at h
      have h1 : q.1 = pc := Nat.eq_of_beq_eq_true hb
      have h2 : q.2 = x := Option.some.inj h
      obtain ⟨a, b⟩ := q
      dsimp only at h1 h2
      subst h1; subst h2
      exact List.mem_cons_self
    | false =>
      rw [hb] at h
      exact List.mem_cons_of_mem _ (ih h)
theorem MOk.dec {M : MI} (h : MOk M) {pc len : Nat} {i : Instr} (hi : lkT (miT M) pc = some (i, len)) : decode (miB M) pc = .ok (i, len) := by
  obtain ⟨-, -, -, -, -, -, -, h8⟩ := h
  exact h8 (pc, i, len) (lkT_mem hi)
def ldI (L : LV) (n : Nat) : Option Value := match L[n]? with
  | some (some (.int x)) => some (.int x)
  | _ => none
def ldA (L : LV) (n : Nat) : Option Value := match L[n]? with
  | some (some (.ref x)) => some (.ref x)
  | _ => none
def ldL (L : LV) (n : Nat) : Option Value := match L[n]? with
  | some (some (.long x)) => some (.long x)
  | _ => none
theorem ldI_s {L : LV} {n : Nat} {v : Value} (h : ldI L n = some v) : ∃ x, v = .int x ∧ L[n]? = some (some (.int x)) := by
  unfold ldI at h
  split at h
  · rename_i x hx; cases h; exact ⟨x, rfl, hx⟩
  · cases h
theorem ldA_s {L : LV} {n : Nat} {v : Value} (h : ldA L n = some v) : ∃ x, v = .ref x ∧ L[n]? = some (some (.ref x)) := by
  unfold ldA at h
  split at h
  · rename_i x hx; cases h; exact ⟨x, rfl, hx⟩
  · cases h
theorem ldL_s {L : LV} {n : Nat} {v : Value} (h : ldL L n = some v) : ∃ x, v = .long x ∧ L[n]? = some (some (.long x)) := by
  unfold ldL at h
  split at h
  · rename_i x hx; cases h; exact ⟨x, rfl, hx⟩
  · cases h
def binI (f : Int32 → Int32 → Int32) (st : List Value) : Option (List Value) := match st with
  | .int y :: .int x :: r => some (.int (f x y) :: r)
  | _ => none
def binL (f : Int64 → Int64 → Int64) (st : List Value) : Option (List Value) := match st with
  | .long y :: .long x :: r => some (.long (f x y) :: r)
  | _ => none
theorem binI_s {f : Int32 → Int32 → Int32} {st r : List Value} (h : binI f st = some r) : ∃ x y q, st = .int y :: .int x :: q ∧ r = .int (f x y) :: q := by
  unfold binI at h
  split at h
  · cases h; exact ⟨_, _, _, rfl, rfl⟩
  · cases h
theorem binL_s {f : Int64 → Int64 → Int64} {st r : List Value} (h : binL f st = some r) : ∃ x y q, st = .long y :: .long x :: q ∧ r = .long (f x y) :: q := by
  unfold binL at h
  split at h
  · cases h; exact ⟨_, _, _, rfl, rfl⟩
  · cases h
def is1 (v : Value) : Bool := match v with
  | .int _ => true
  | .ref _ => true
  | _ => false
theorem is1_s {v : Value} (h : is1 v = true) : v.category = 1 := by cases v <;> first | rfl | (simp [is1] at h)
def getF (S : SH) (o idx : Nat) (st : List Value) (I : II) (J : JJ) : Option (List Value) := match st with
  | .ref k :: r => match flk o idx with
    | some (_, ci, j) => match S[k]? with
      | some (.inl (ci', fds)) => cond (Nat.beq ci ci') (match fds[j]? with
        | some fd => some (fdv I J k j fd :: r)
        | none => none) none
      | _ => none
    | none => none
  | _ => none
theorem getF_s {S : SH} {o idx : Nat} {st r : List Value} {I : II} {J : JJ} (h : getF S o idx st I J = some r) : ∃ k q nst ci j fds fd, st = .ref k :: q ∧ flk o idx = some (nst, ci, j) ∧ S[k]? = some (.inl (ci, fds)) ∧ fds[j]? = some fd ∧ r = fdv I J k j fd :: q := by
  unfold getF at h
  split at h
  · rename_i k q
    split at h
    · rename_i nst ci j hf
      split at h
      · rename_i ci' fds hs
        cases hb : Nat.beq ci ci' with
        | true =>
          rw [hb] at h
          have he : ci = ci' := Nat.eq_of_beq_eq_true hb
          subst he
          dsimp only [cond] at h
          split at h
          · rename_i fd hj
            cases h
            exact ⟨k, q, nst, ci, j, fds, fd, rfl, hf, hs, hj, rfl⟩
          · cases h
        | false => rw [hb] at h; cases h
      · cases h
    · cases h
  · cases h
def putF (S : SH) (o idx : Nat) (st : List Value) (I : II) (J : JJ) : Option (List Value × II × JJ) := match st with
  | v :: .ref k :: r => match flk o idx with
    | some (_, ci, j) => match S[k]? with
      | some (.inl (ci', fds)) => cond (Nat.beq ci ci') (match fds[j]? with
        | some fd => (match fd.1, v with
          | 1, .int x => some (r, up2 I k j x, J)
          | 2, .long x => some (r, I, up2 J k j x)
          | 3, .int x => if x = 0 then some (r, up2 I k j 0, J) else if x = 1 then some (r, up2 I k j 1, J) else none
          | _, _ => none)
        | none => none) none
      | _ => none
    | none => none
  | _ => none
theorem putF_s {S : SH} {M : MI} {pc idx : Nat} {L : LV} {st r : List Value} {I I' : II} {J J' : JJ} {G : II} {P : PP} (hS : SOk S) (h : putF S (miO M) idx st I J = some (r, I', J')) (hd : decode (miB M) pc = .ok (.putfield idx, 3)) (k : AW S M (pc + 3) L r I' J' G P) : AW S M pc L st I J G P := by
  unfold putF at h
  split at h
  · rename_i v k0 q
    split at h
    · rename_i nst ci j hf
      split at h
      · rename_i ci' fds hs
        cases hb : Nat.beq ci ci' with
        | true =>
          rw [hb] at h
          have he : ci = ci' := Nat.eq_of_beq_eq_true hb
          subst he
          dsimp only [cond] at h
          split at h
          · rename_i fd hj
            obtain ⟨f1, f2⟩ := fd
            dsimp only at h
            split at h
            · cases h
              exact aw_putI hS hf hs hj rfl hd k
            · cases h
              exact aw_putJ hS hf hs hj rfl hd k
            · split at h
              · rename_i hx
                cases h
                subst hx
                exact aw_putZ (Or.inl rfl) hS hf hs hj rfl hd k
              · split at h
                · rename_i hx
                  cases h
                  subst hx
                  exact aw_putZ (Or.inr rfl) hS hf hs hj rfl hd k
                · cases h
            · cases h
          · cases h
        | false => rw [hb] at h; cases h
      · cases h
    · cases h
  · cases h
def inB (i : Int32) (n : Nat) : Bool := !(decide (i < 0) || decide (n ≤ i.toNatClampNeg))
theorem inB_s {i : Int32} {n : Nat} (h : inB i n = true) : vp_in i n := by
  unfold vp_in
  simpa [inB] using h
/-- a constant, as nI of a number, or the negative of one -/
def lit (n : Int) : Int32 := match n with
  | .ofNat k => nI k
  | .negSucc k => -nI (k + 1)
theorem lit_ofInt (n : Int) : Int32.ofInt n = lit n := by
  cases n with
  | ofNat k => exact Int32.ofInt_eq_ofNat
  | negSucc k =>
    show Int32.ofInt (Int.negSucc k) = -Int32.ofNat (k + 1)
    rw [Int.negSucc_eq, Int32.ofInt_neg]
    congr 1
theorem lit_8 {n : Int} (h1 : -128 ≤ n) (h2 : n < 128) : (Int8.ofInt n).toInt32 = lit n := by
  rw [← lit_ofInt]
  apply Int32.toInt_inj.mp
  rw [Int8.toInt_toInt32, Int8.toInt_ofInt_of_le (by omega) (by omega), Int32.toInt_ofInt_of_le (by omega) (by omega)]
theorem lit_16 {n : Int} (h1 : -32768 ≤ n) (h2 : n < 32768) : (Int16.ofInt n).toInt32 = lit n := by
  rw [← lit_ofInt]
  apply Int32.toInt_inj.mp
  rw [Int16.toInt_toInt32, Int16.toInt_ofInt_of_le (by omega) (by omega), Int32.toInt_ofInt_of_le (by omega) (by omega)]
def ex1 (S : SH) (M : MI) (ins : Instr) (pc : Nat) (L : LV) (st : List Value) (I : II) (J : JJ) (G : II) : Option CF := match ins with
  | .iconst n => some (pc + 1, L, .int (lit n) :: st, I, J, G)
  | .bipush n => if -128 ≤ n ∧ n < 128 then some (pc + 2, L, .int (lit n) :: st, I, J, G) else none
  | .sipush n => if -32768 ≤ n ∧ n < 32768 then some (pc + 3, L, .int (lit n) :: st, I, J, G) else none
  | .lconst n => some (pc + 1, L, .long (Int64.ofNat n) :: st, I, J, G)
  | .ldc idx => match CIl.find? (fun q => q.1 == miO M && q.2.1 == idx) with
    | some q => some (pc + 2, L, .int q.2.2 :: st, I, J, G)
    | none => none
  | .ldc2_w idx => match CLl.find? (fun q => q.1 == miO M && q.2.1 == idx) with
    | some q => some (pc + 3, L, .long q.2.2 :: st, I, J, G)
    | none => none
  | .iload_n n => match ldI L n.val with
    | some v => some (pc + 1, L, v :: st, I, J, G)
    | none => none
  | .iload n => match ldI L n with
    | some v => some (pc + 2, L, v :: st, I, J, G)
    | none => none
  | .lload_n n => match ldL L n.val with
    | some v => some (pc + 1, L, v :: st, I, J, G)
    | none => none
  | .aload_n n => match ldA L n.val with
    | some v => some (pc + 1, L, v :: st, I, J, G)
    | none => none
  | .aload n => match ldA L n with
    | some v => some (pc + 2, L, v :: st, I, J, G)
    | none => none
  | .istore_n n => match st with
    | .int x :: r => if n.val < miX M then some (pc + 1, st1 L n.val (.int x), r, I, J, G) else none
    | _ => none
  | .istore n => match st with
    | .int x :: r => if n < miX M then some (pc + 2, st1 L n (.int x), r, I, J, G) else none
    | _ => none
  | .lstore_n n => match st with
    | .long x :: r => if n.val + 1 < miX M then some (pc + 1, st2 L n.val (.long x), r, I, J, G) else none
    | _ => none
  | .astore_n n => match st with
    | .ref x :: r => if n.val < miX M then some (pc + 1, st1 L n.val (.ref x), r, I, J, G) else none
    | _ => none
  | .astore n => match st with
    | .ref x :: r => if n < miX M then some (pc + 2, st1 L n (.ref x), r, I, J, G) else none
    | _ => none
  | .iinc i n => match L[i]? with
    | some (some (.int x)) => if i < miX M then some (pc + 3, st1 L i (.int (x + lit n)), st, I, J, G) else none
    | _ => none
  | .iadd => (binI (fun x y => x + y) st).map (fun r => (pc + 1, L, r, I, J, G))
  | .isub => (binI (fun x y => x - y) st).map (fun r => (pc + 1, L, r, I, J, G))
  | .imul => (binI (fun x y => x * y) st).map (fun r => (pc + 1, L, r, I, J, G))
  | .iand => (binI (fun x y => x &&& y) st).map (fun r => (pc + 1, L, r, I, J, G))
  | .ior => (binI (fun x y => x ||| y) st).map (fun r => (pc + 1, L, r, I, J, G))
  | .ixor => (binI (fun x y => x ^^^ y) st).map (fun r => (pc + 1, L, r, I, J, G))
  | .ishl => (binI (fun x y => x <<< (y &&& 31)) st).map (fun r => (pc + 1, L, r, I, J, G))
  | .ishr => (binI (fun x y => x >>> (y &&& 31)) st).map (fun r => (pc + 1, L, r, I, J, G))
  | .ladd => (binL (fun x y => x + y) st).map (fun r => (pc + 1, L, r, I, J, G))
  | .lmul => (binL (fun x y => x * y) st).map (fun r => (pc + 1, L, r, I, J, G))
  | .i2l => match st with
    | .int x :: r => some (pc + 1, L, .long x.toInt64 :: r, I, J, G)
    | _ => none
  | .l2i => match st with
    | .long x :: r => some (pc + 1, L, .int x.toInt32 :: r, I, J, G)
    | _ => none
  | .i2b => match st with
    | .int x :: r => some (pc + 1, L, .int x.toInt8.toInt32 :: r, I, J, G)
    | _ => none
  | .dup => match st with
    | v :: r => cond (is1 v) (some (pc + 1, L, v :: v :: r, I, J, G)) none
    | _ => none
  | .dup2 => match st with
    | v :: u :: r => cond (is1 v && is1 u) (some (pc + 1, L, v :: u :: v :: u :: r, I, J, G)) none
    | _ => none
  | .pop => match st with
    | v :: r => cond (is1 v) (some (pc + 1, L, r, I, J, G)) none
    | _ => none
  | .goto off => if 0 ≤ (pc : Int) + off then some (((pc : Int) + off).toNat, L, st, I, J, G) else none
  | .getfield idx => (getF S (miO M) idx st I J).map (fun r => (pc + 3, L, r, I, J, G))
  | .putfield idx => (putF S (miO M) idx st I J).map (fun r => (pc + 3, L, r.1, r.2.1, r.2.2, G))
  | .iaload => match st with
    | .int i :: .ref k :: r => match S[k]? with
      | some (.inr (0, n)) => cond (inB i n) (some (pc + 1, L, .int (G k i.toNatClampNeg) :: r, I, J, G)) none
      | _ => none
    | _ => none
  | .iastore => match st with
    | .int x :: .int i :: .ref k :: r => match S[k]? with
      | some (.inr (0, n)) => cond (inB i n) (some (pc + 1, L, r, I, J, va_up G k (upd (G k) i.toNatClampNeg x))) none
      | _ => none
    | _ => none
  | _ => none
def ilen (ins : Instr) : Nat := match ins with
  | .bipush _ => 2
  | .sipush _ => 3
  | .ldc _ => 2
  | .ldc2_w _ => 3
  | .iload _ => 2
  | .aload _ => 2
  | .istore _ => 2
  | .astore _ => 2
  | .iinc _ _ => 3
  | .goto _ => 3
  | .getfield _ => 3
  | .putfield _ => 3
  | _ => 1
set_option maxHeartbeats 4000000 in
theorem ex1_ok {S : SH} {M : MI} {ins : Instr} {pc : Nat} {L : LV} {st : List Value} {I : II} {J : JJ} {G : II} {c : CF} {P : PP} (hS : SOk S) (h : ex1 S M ins pc L st I J G = some c) (hd : decode (miB M) pc = .ok (ins, ilen ins)) (k : AW S M c.1 c.2.1 c.2.2.1 c.2.2.2.1 c.2.2.2.2.1 c.2.2.2.2.2 P) : AW S M pc L st I J G P := by
  unfold ex1 at h
  split at h
  · cases h; exact aw_iconst hd (by rw [lit_ofInt]; exact k)
  · split at h
    · rename_i hb; cases h; exact aw_bipush hd (by rw [lit_8 hb.1 hb.2]; exact k)
    · cases h
  · split at h
    · rename_i hb; cases h; exact aw_sipush hd (by rw [lit_16 hb.1 hb.2]; exact k)
    · cases h
  · cases h; exact aw_lconst hd k
  · split at h
    · rename_i q hq
      obtain ⟨q1, q2, q3⟩ := q
      cases h
      have h1 := List.mem_of_find?_eq_some hq
      have h2 := List.find?_some hq
      simp only [Bool.and_eq_true, beq_iff_eq] at h2
      obtain ⟨rfl, rfl⟩ := h2
      exact aw_ldc h1 hd k
    · cases h
  · split at h
    · rename_i q hq
      obtain ⟨q1, q2, q3⟩ := q
      cases h
      have h1 := List.mem_of_find?_eq_some hq
      have h2 := List.find?_some hq
      simp only [Bool.and_eq_true, beq_iff_eq] at h2
      obtain ⟨rfl, rfl⟩ := h2
      exact aw_ldc2 h1 hd k
    · cases h
  · split at h
    · rename_i v hv
      obtain ⟨x, rfl, hx⟩ := ldI_s hv
      cases h; exact aw_iload_n hx hd k
    · cases h
  · split at h
    · rename_i v hv
      obtain ⟨x, rfl, hx⟩ := ldI_s hv
      cases h; exact aw_iload hx hd k
    · cases h
  · split at h
    · rename_i v hv
      obtain ⟨x, rfl, hx⟩ := ldL_s hv
      cases h; exact aw_lload_n hx hd k
    · cases h
  · split at h
    · rename_i v hv
      obtain ⟨x, rfl, hx⟩ := ldA_s hv
      cases h; exact aw_aload_n hx hd k
    · cases h
  · split at h
    · rename_i v hv
      obtain ⟨x, rfl, hx⟩ := ldA_s hv
      cases h; exact aw_aload hx hd k
    · cases h
  · split at h
    · split at h
      · rename_i hn; cases h; exact aw_istore_n hn hd k
      · cases h
    · cases h
  · split at h
    · split at h
      · rename_i hn; cases h; exact aw_istore hn hd k
      · cases h
    · cases h
  · split at h
    · split at h
      · rename_i hn; cases h; exact aw_lstore_n hn hd k
      · cases h
    · cases h
  · split at h
    · split at h
      · rename_i hn; cases h; exact aw_astore_n hn hd k
      · cases h
    · cases h
  · split at h
    · split at h
      · rename_i hn; cases h; exact aw_astore hn hd k
      · cases h
    · cases h
  · split at h
    · rename_i x hx
      split at h
      · rename_i hn; cases h; exact aw_iinc hn hx hd (by rw [lit_ofInt]; exact k)
      · cases h
    · cases h
  · obtain ⟨r, h1, rfl⟩ := Option.map_eq_some_iff.mp h
    obtain ⟨x, y, q, rfl, rfl⟩ := binI_s h1
    exact aw_iadd hd k
  · obtain ⟨r, h1, rfl⟩ := Option.map_eq_some_iff.mp h
    obtain ⟨x, y, q, rfl, rfl⟩ := binI_s h1
    exact aw_isub hd k
  · obtain ⟨r, h1, rfl⟩ := Option.map_eq_some_iff.mp h
    obtain ⟨x, y, q, rfl, rfl⟩ := binI_s h1
    exact aw_imul hd k
  · obtain ⟨r, h1, rfl⟩ := Option.map_eq_some_iff.mp h
    obtain ⟨x, y, q, rfl, rfl⟩ := binI_s h1
    exact aw_iand hd k
  · obtain ⟨r, h1, rfl⟩ := Option.map_eq_some_iff.mp h
    obtain ⟨x, y, q, rfl, rfl⟩ := binI_s h1
    exact aw_ior hd k
  · obtain ⟨r, h1, rfl⟩ := Option.map_eq_some_iff.mp h
    obtain ⟨x, y, q, rfl, rfl⟩ := binI_s h1
    exact aw_ixor hd k
  · obtain ⟨r, h1, rfl⟩ := Option.map_eq_some_iff.mp h
    obtain ⟨x, y, q, rfl, rfl⟩ := binI_s h1
    exact aw_ishl hd k
  · obtain ⟨r, h1, rfl⟩ := Option.map_eq_some_iff.mp h
    obtain ⟨x, y, q, rfl, rfl⟩ := binI_s h1
    exact aw_ishr hd k
  · obtain ⟨r, h1, rfl⟩ := Option.map_eq_some_iff.mp h
    obtain ⟨x, y, q, rfl, rfl⟩ := binL_s h1
    exact aw_ladd hd k
  · obtain ⟨r, h1, rfl⟩ := Option.map_eq_some_iff.mp h
    obtain ⟨x, y, q, rfl, rfl⟩ := binL_s h1
    exact aw_lmul hd k
  · split at h
    · cases h; exact aw_i2l hd k
    · cases h
  · split at h
    · cases h; exact aw_l2i hd k
    · cases h
  · split at h
    · cases h; exact aw_i2b hd k
    · cases h
  · split at h
    · rename_i v r
      cases hv : is1 v with
      | true => rw [hv] at h; cases h; exact aw_dup (is1_s hv) hd k
      | false => rw [hv] at h; cases h
    · cases h
  · split at h
    · rename_i v u r
      cases hv : is1 v with
      | true =>
        cases hu : is1 u with
        | true => rw [hv, hu] at h; cases h; exact aw_dup2 (is1_s hv) (is1_s hu) hd k
        | false => rw [hv, hu] at h; cases h
      | false => rw [hv] at h; cases h
    · cases h
  · split at h
    · rename_i v r
      cases hv : is1 v with
      | true => rw [hv] at h; cases h; exact aw_pop (is1_s hv) hd k
      | false => rw [hv] at h; cases h
    · cases h
  · split at h
    · rename_i ho
      cases h
      exact aw_goto (by rw [Int.toNat_of_nonneg ho]) hd k
    · cases h
  · obtain ⟨r, h1, rfl⟩ := Option.map_eq_some_iff.mp h
    obtain ⟨k0, q, nst, ci, j, fds, fd, rfl, e1, e2, e3, rfl⟩ := getF_s h1
    exact aw_get e1 e2 e3 hd k
  · obtain ⟨r, h1, rfl⟩ := Option.map_eq_some_iff.mp h
    exact putF_s hS h1 hd k
  · split at h
    · rename_i i k0 r
      split at h
      · rename_i n hn
        cases hb : inB i n with
        | true => rw [hb] at h; cases h; exact aw_iald hn (inB_s hb) hd k
        | false => rw [hb] at h; cases h
      · cases h
    · cases h
  · split at h
    · rename_i x i k0 r
      split at h
      · rename_i n hn
        cases hb : inB i n with
        | true => rw [hb] at h; cases h; exact aw_iast hn (inB_s hb) hd k
        | false => rw [hb] at h; cases h
      · cases h
    · cases h
  · cases h
def exN (S : SH) (M : MI) : Nat → CF → Option CF
  | 0, c => some c
  | n + 1, c => match lkT (miT M) c.1 with
    | some (ins, len) => cond (Nat.beq len (ilen ins)) (match ex1 S M ins c.1 c.2.1 c.2.2.1 c.2.2.2.1 c.2.2.2.2.1 c.2.2.2.2.2 with
      | some c' => exN S M n c'
      | none => none) none
    | none => none
theorem exN_ok {S : SH} {M : MI} {P : PP} (hM : MOk M) (hS : SOk S) (n : Nat) : ∀ {c c' : CF}, exN S M n c = some c' → AW S M c'.1 c'.2.1 c'.2.2.1 c'.2.2.2.1 c'.2.2.2.2.1 c'.2.2.2.2.2 P → AW S M c.1 c.2.1 c.2.2.1 c.2.2.2.1 c.2.2.2.2.1 c.2.2.2.2.2 P := by
  induction n with
  | zero => intro c c' h k; cases h; exact k
  | succ n ih =>
    intro c c' h k
    unfold exN at h
    split at h
    · rename_i ins len hi
      cases hb : Nat.beq len (ilen ins) with
      | true =>
        rw [hb] at h
        dsimp only [cond] at h
        have he : len = ilen ins := Nat.eq_of_beq_eq_true hb
        subst he
        split at h
        · rename_i c1 h1
          exact ex1_ok hS h1 (hM.dec hi) (ih h k)
        · cases h
      | false => rw [hb] at h; cases h
    · cases h
/-- a straight stretch of n instructions -/
theorem aw_run {S : SH} {M : MI} {P : PP} (hM : MOk M) (hS : SOk S) (n : Nat) {pc pc' : Nat} {L L' : LV} {st st' : List Value} {I I' : II} {J J' : JJ} {G G' : II} (h : exN S M n (pc, L, st, I, J, G) = some (pc', L', st', I', J', G')) (k : AW S M pc' L' st' I' J' G' P) : AW S M pc L st I J G P :=
  exN_ok hM hS n h k
end
section
theorem mok_V {M : MI} (hs : miS M = false) (h1 : plainName (miY M).cls = true) (h2 : (miY M).cls = Rn (miO M)) (h3 : Cond.code (miY M) (miB M) (miX M) (miR M) ∈ Wd) (h4 : Cond.initialized (miY M).cls ∈ Wd) (h5 : Cond.instanceMethod (miY M) ∈ Wd) (h6 : Cond.selects (miY M).cls (miY M) (miY M) ∈ Wd) (h7 : (miY M).cls ≠ "java/lang/invoke/MethodHandle" ∧ (miY M).cls ≠ "java/lang/invoke/VarHandle" ∧ (parseMethodDescriptor (miY M).desc).map (fun d => d.parameters.length) = some (miN M)) (h8 : miX M ≤ 17) (h9 : ∀ q ∈ miT M, decode (miB M) q.1 = .ok (q.2.1, q.2.2)) : MOk M :=
  ⟨h1, h2, h3, h4, by rw [hs]; simp only [Bool.false_eq_true, if_false]; exact ⟨h5, h6⟩, h7, h8, h9⟩
theorem mok_S {M : MI} (hs : miS M = true) (h1 : plainName (miY M).cls = true) (h2 : (miY M).cls = Rn (miO M)) (h3 : Cond.code (miY M) (miB M) (miX M) (miR M) ∈ Wd) (h4 : Cond.initialized (miY M).cls ∈ Wd) (h5 : Cond.static (miY M) ∈ Wd) (h7 : (miY M).cls ≠ "java/lang/invoke/MethodHandle" ∧ (miY M).cls ≠ "java/lang/invoke/VarHandle" ∧ (parseMethodDescriptor (miY M).desc).map (fun d => d.parameters.length) = some (miN M)) (h8 : miX M ≤ 17) (h9 : ∀ q ∈ miT M, decode (miB M) q.1 = .ok (q.2.1, q.2.2)) : MOk M :=
  ⟨h1, h2, h3, h4, by rw [hs]; simp only [if_true]; exact h5, h7, h8, h9⟩
def mX0_addToWays : MI := (yX0_addToWays, cX0_addToWays, 3, none, 0, 0, false, 1, [(0, .iconst 5, 1), (1, .istore_n 2, 1), (2, .iload_n 2, 1), (3, .ifCond .le 37, 3), (6, .aload_n 0, 1), (7, .getfield 9, 3), (10, .iload_n 2, 1), (11, .aload_n 0, 1), (12, .getfield 9, 3), (15, .iload_n 2, 1), (16, .iaload, 1), (17, .iload_n 1, 1), (18, .imul, 1), (19, .aload_n 0, 1), (20, .getfield 9, 3), (23, .iload_n 2, 1), (24, .iconst 1, 1), (25, .isub, 1), (26, .iaload, 1), (27, .bipush 10, 2), (29, .iload_n 1, 1), (30, .isub, 1), (31, .imul, 1), (32, .iadd, 1), (33, .iastore, 1), (34, .iinc 2 (-1), 3), (37, .goto (-35), 3), (40, .aload_n 0, 1), (41, .getfield 9, 3), (44, .iconst 0, 1), (45, .dup2, 1), (46, .iaload, 1), (47, .iload_n 1, 1), (48, .imul, 1), (49, .iastore, 1), (50, .return_, 1)])
set_option maxRecDepth 20000 in
theorem oX0_addToWays : MOk mX0_addToWays := mok_V rfl (by decide +kernel) rfl (mW 600 (by decide +kernel) (by decide +kernel)) (mW 84 (by decide +kernel) (by decide +kernel)) (mW 599 (by decide +kernel) (by decide +kernel)) (mW 45 (by decide +kernel) (by decide +kernel)) ⟨(by decide +kernel), (by decide +kernel), (by decide +kernel)⟩ (by decide) (by decide +kernel)
def mX0_beginWays : MI := (yX0_beginWays, cX0_beginWays, 2, none, 0, 0, false, 0, [(0, .iconst 0, 1), (1, .istore_n 1, 1), (2, .iload_n 1, 1), (3, .iconst 5, 1), (4, .if_icmp .gt 16, 3), (7, .aload_n 0, 1), (8, .getfield 9, 3), (11, .iload_n 1, 1), (12, .iconst 0, 1), (13, .iastore, 1), (14, .iinc 1 1, 3), (17, .goto (-15), 3), (20, .aload_n 0, 1), (21, .getfield 9, 3), (24, .iconst 0, 1), (25, .iconst 1, 1), (26, .iastore, 1), (27, .return_, 1)])
set_option maxRecDepth 20000 in
theorem oX0_beginWays : MOk mX0_beginWays := mok_V rfl (by decide +kernel) rfl (mW 596 (by decide +kernel) (by decide +kernel)) (mW 84 (by decide +kernel) (by decide +kernel)) (mW 595 (by decide +kernel) (by decide +kernel)) (mW 44 (by decide +kernel) (by decide +kernel)) ⟨(by decide +kernel), (by decide +kernel), (by decide +kernel)⟩ (by decide) (by decide +kernel)
def mX0_inPort : MI := (yX0_inPort, cX0_inPort, 3, some .int, 0, 1, false, 0, [(0, .iconst 0, 1), (1, .istore_n 1, 1), (2, .iconst 0, 1), (3, .istore_n 2, 1), (4, .iload_n 2, 1), (5, .aload_n 0, 1), (6, .getfield 15, 3), (9, .getfield 23, 3), (12, .if_icmp .ge 26, 3), (15, .aload_n 0, 1), (16, .getfield 19, 3), (19, .iload_n 2, 1), (20, .invokevirtual 29, 3), (23, .ifCond .eq 9, 3), (26, .iload_n 1, 1), (27, .iconst 1, 1), (28, .iload_n 2, 1), (29, .ishl, 1), (30, .ior, 1), (31, .istore_n 1, 1), (32, .iinc 2 1, 3), (35, .goto (-31), 3), (38, .iload_n 1, 1), (39, .ireturn, 1)])
set_option maxRecDepth 20000 in
theorem oX0_inPort : MOk mX0_inPort := mok_V rfl (by decide +kernel) rfl (mW 510 (by decide +kernel) (by decide +kernel)) (mW 84 (by decide +kernel) (by decide +kernel)) (mW 509 (by decide +kernel) (by decide +kernel)) (mW 31 (by decide +kernel) (by decide +kernel)) ⟨(by decide +kernel), (by decide +kernel), (by decide +kernel)⟩ (by decide) (by decide +kernel)
def mX0_listedTogether : MI := (yX0_listedTogether, cX0_listedTogether, 4, some .int, 0, 1, false, 1, [(0, .iconst 0, 1), (1, .istore_n 2, 1), (2, .iconst 0, 1), (3, .istore_n 3, 1), (4, .iload_n 3, 1), (5, .aload_n 0, 1), (6, .getfield 15, 3), (9, .getfield 23, 3), (12, .if_icmp .ge 28, 3), (15, .iload_n 3, 1), (16, .iload_n 1, 1), (17, .invokestatic 45, 3), (20, .ifCond .eq 14, 3), (23, .iload_n 2, 1), (24, .aload_n 0, 1), (25, .getfield 19, 3), (28, .iload_n 3, 1), (29, .invokevirtual 49, 3), (32, .iadd, 1), (33, .istore_n 2, 1), (34, .iinc 3 1, 3), (37, .goto (-33), 3), (40, .iload_n 2, 1), (41, .ireturn, 1)])
set_option maxRecDepth 20000 in
theorem oX0_listedTogether : MOk mX0_listedTogether := mok_V rfl (by decide +kernel) rfl (mW 608 (by decide +kernel) (by decide +kernel)) (mW 84 (by decide +kernel) (by decide +kernel)) (mW 607 (by decide +kernel) (by decide +kernel)) (mW 46 (by decide +kernel) (by decide +kernel)) ⟨(by decide +kernel), (by decide +kernel), (by decide +kernel)⟩ (by decide) (by decide +kernel)
def mX0_readyIn : MI := (yX0_readyIn, cX0_readyIn, 4, some .int, 0, 0, false, 1, [(0, .iconst 0, 1), (1, .istore_n 2, 1), (2, .iconst 0, 1), (3, .istore_n 3, 1), (4, .iload_n 3, 1), (5, .aload_n 0, 1), (6, .getfield 15, 3), (9, .getfield 23, 3), (12, .if_icmp .ge 28, 3), (15, .aload_n 0, 1), (16, .getfield 15, 3), (19, .getfield 35, 3), (22, .iload_n 3, 1), (23, .iaload, 1), (24, .iload_n 1, 1), (25, .if_icmp .gt 9, 3), (28, .iload_n 2, 1), (29, .iconst 1, 1), (30, .iload_n 3, 1), (31, .ishl, 1), (32, .ior, 1), (33, .istore_n 2, 1), (34, .iinc 3 1, 3), (37, .goto (-33), 3), (40, .iload_n 2, 1), (41, .ireturn, 1)])
set_option maxRecDepth 20000 in
theorem oX0_readyIn : MOk mX0_readyIn := mok_V rfl (by decide +kernel) rfl (mW 546 (by decide +kernel) (by decide +kernel)) (mW 84 (by decide +kernel) (by decide +kernel)) (mW 545 (by decide +kernel) (by decide +kernel)) (mW 37 (by decide +kernel) (by decide +kernel)) ⟨(by decide +kernel), (by decide +kernel), (by decide +kernel)⟩ (by decide) (by decide +kernel)
def mX0_reckonGame : MI := (yX0_reckonGame, cX0_reckonGame, 10, none, 0, 3, false, 3, [(0, .aload_n 0, 1), (1, .iload_n 1, 1), (2, .iload_n 2, 1), (3, .invokevirtual 68, 3), (6, .istore 4, 2), (8, .aload_n 0, 1), (9, .iload_n 1, 1), (10, .iload_n 3, 1), (11, .invokevirtual 68, 3), (14, .istore 5, 2), (16, .aload_n 0, 1), (17, .iload_n 1, 1), (18, .invokevirtual 62, 3), (21, .bipush 10, 2), (23, .aload_n 0, 1), (24, .getfield 15, 3), (27, .getfield 65, 3), (30, .iload_n 2, 1), (31, .iaload, 1), (32, .isub, 1), (33, .imul, 1), (34, .istore 6, 2), (36, .aload_n 0, 1), (37, .iload_n 1, 1), (38, .invokevirtual 62, 3), (41, .bipush 10, 2), (43, .aload_n 0, 1), (44, .getfield 15, 3), (47, .getfield 65, 3), (50, .iload_n 3, 1), (51, .iaload, 1), (52, .isub, 1), (53, .imul, 1), (54, .istore 7, 2), (56, .iload 4, 2), (58, .iload 5, 2), (60, .invokestatic 71, 3), (63, .istore 8, 2), (65, .iload 4, 2), (67, .iload 7, 2), (69, .invokestatic 71, 3), (72, .iload 6, 2), (74, .iload 5, 2), (76, .invokestatic 71, 3), (79, .invokestatic 76, 3), (82, .istore 9, 2), (84, .iload 8, 2), (86, .iload 9, 2), (88, .if_icmp .lt 13, 3), (91, .aload_n 0, 1), (92, .iload 8, 2), (94, .iconst 1, 1), (95, .invokevirtual 79, 3), (98, .goto 29, 3), (101, .aload_n 0, 1), (102, .iload 6, 2), (104, .iload 7, 2), (106, .imul, 1), (107, .iload 4, 2), (109, .iload 5, 2), (111, .imul, 1), (112, .isub, 1), (113, .iload 6, 2), (115, .iload 7, 2), (117, .iadd, 1), (118, .iload 4, 2), (120, .isub, 1), (121, .iload 5, 2), (123, .isub, 1), (124, .invokevirtual 79, 3), (127, .return_, 1)])
set_option maxRecDepth 20000 in
theorem oX0_reckonGame : MOk mX0_reckonGame := mok_V rfl (by decide +kernel) rfl (mW 575 (by decide +kernel) (by decide +kernel)) (mW 84 (by decide +kernel) (by decide +kernel)) (mW 574 (by decide +kernel) (by decide +kernel)) (mW 41 (by decide +kernel) (by decide +kernel)) ⟨(by decide +kernel), (by decide +kernel), (by decide +kernel)⟩ (by decide) (by decide +kernel)
def mX0_reckonOdds : MI := (yX0_reckonOdds, cX0_reckonOdds, 9, none, 0, 2, false, 3, [(0, .aload_n 0, 1), (1, .getfield 15, 3), (4, .getfield 65, 3), (7, .iload_n 2, 1), (8, .iaload, 1), (9, .istore 4, 2), (11, .aload_n 0, 1), (12, .iload_n 1, 1), (13, .iload_n 2, 1), (14, .invokevirtual 58, 3), (17, .istore 5, 2), (19, .iconst 1, 1), (20, .istore 6, 2), (22, .aload_n 0, 1), (23, .invokevirtual 83, 3), (26, .iconst 0, 1), (27, .istore 7, 2), (29, .iload 7, 2), (31, .aload_n 0, 1), (32, .getfield 15, 3), (35, .getfield 23, 3), (38, .if_icmp .ge 38, 3), (41, .iload 7, 2), (43, .iload_n 1, 1), (44, .invokestatic 45, 3), (47, .ifCond .eq 23, 3), (50, .iload 7, 2), (52, .iload 5, 2), (54, .if_icmp .eq 16, 3), (57, .aload_n 0, 1), (58, .iload 4, 2), (60, .invokevirtual 86, 3), (63, .iload 6, 2), (65, .bipush 10, 2), (67, .imul, 1), (68, .istore 6, 2), (70, .iinc 7 1, 3), (73, .goto (-44), 3), (76, .iconst 0, 1), (77, .istore 7, 2), (79, .iload_n 3, 1), (80, .istore 8, 2), (82, .iload 8, 2), (84, .iconst 5, 1), (85, .if_icmp .gt 21, 3), (88, .iload 7, 2), (90, .aload_n 0, 1), (91, .getfield 9, 3), (94, .iload 8, 2), (96, .iaload, 1), (97, .iadd, 1), (98, .istore 7, 2), (100, .iinc 8 1, 3), (103, .goto (-21), 3), (106, .aload_n 0, 1), (107, .iload 7, 2), (109, .iload 6, 2), (111, .invokevirtual 79, 3), (114, .return_, 1)])
set_option maxRecDepth 20000 in
theorem oX0_reckonOdds : MOk mX0_reckonOdds := mok_V rfl (by decide +kernel) rfl (mW 592 (by decide +kernel) (by decide +kernel)) (mW 84 (by decide +kernel) (by decide +kernel)) (mW 591 (by decide +kernel) (by decide +kernel)) (mW 43 (by decide +kernel) (by decide +kernel)) ⟨(by decide +kernel), (by decide +kernel), (by decide +kernel)⟩ (by decide) (by decide +kernel)
def mX0_setFraction : MI := (yX0_setFraction, cX0_setFraction, 7, none, 0, 0, false, 2, [(0, .iload_n 1, 1), (1, .istore_n 3, 1), (2, .iload_n 2, 1), (3, .istore 4, 2), (5, .iconst 0, 1), (6, .istore 5, 2), (8, .iload 5, 2), (10, .bipush 100, 2), (12, .if_icmp .ge 27, 3), (15, .iload 4, 2), (17, .ifCond .eq 22, 3), (20, .iload_n 3, 1), (21, .iload 4, 2), (23, .irem, 1), (24, .istore 6, 2), (26, .iload 4, 2), (28, .istore_n 3, 1), (29, .iload 6, 2), (31, .istore 4, 2), (33, .iinc 5 1, 3), (36, .goto (-28), 3), (39, .iload_n 3, 1), (40, .iconst 1, 1), (41, .if_icmp .ge 7, 3), (44, .iconst 1, 1), (45, .goto 4, 3), (48, .iload_n 3, 1), (49, .istore 5, 2), (51, .aload_n 0, 1), (52, .iload_n 1, 1), (53, .iload 5, 2), (55, .idiv, 1), (56, .putfield 90, 3), (59, .aload_n 0, 1), (60, .iload_n 2, 1), (61, .iload 5, 2), (63, .idiv, 1), (64, .putfield 93, 3), (67, .return_, 1)])
set_option maxRecDepth 20000 in
theorem oX0_setFraction : MOk mX0_setFraction := mok_V rfl (by decide +kernel) rfl (mW 584 (by decide +kernel) (by decide +kernel)) (mW 84 (by decide +kernel) (by decide +kernel)) (mW 583 (by decide +kernel) (by decide +kernel)) (mW 42 (by decide +kernel) (by decide +kernel)) ⟨(by decide +kernel), (by decide +kernel), (by decide +kernel)⟩ (by decide) (by decide +kernel)
def mX0_silverOnTheReef : MI := (yX0_silverOnTheReef, cX0_silverOnTheReef, 3, some .int, 0, 1, false, 0, [(0, .iconst 0, 1), (1, .istore_n 1, 1), (2, .iconst 0, 1), (3, .istore_n 2, 1), (4, .iload_n 2, 1), (5, .aload_n 0, 1), (6, .getfield 15, 3), (9, .getfield 23, 3), (12, .if_icmp .ge 32, 3), (15, .aload_n 0, 1), (16, .getfield 19, 3), (19, .iload_n 2, 1), (20, .invokevirtual 38, 3), (23, .iconst 3, 1), (24, .if_icmp .ne 14, 3), (27, .iload_n 1, 1), (28, .aload_n 0, 1), (29, .getfield 19, 3), (32, .iload_n 2, 1), (33, .invokevirtual 42, 3), (36, .iadd, 1), (37, .istore_n 1, 1), (38, .iinc 2 1, 3), (41, .goto (-37), 3), (44, .iload_n 1, 1), (45, .ireturn, 1)])
set_option maxRecDepth 20000 in
theorem oX0_silverOnTheReef : MOk mX0_silverOnTheReef := mok_V rfl (by decide +kernel) rfl (mW 515 (by decide +kernel) (by decide +kernel)) (mW 84 (by decide +kernel) (by decide +kernel)) (mW 514 (by decide +kernel) (by decide +kernel)) (mW 32 (by decide +kernel) (by decide +kernel)) ⟨(by decide +kernel), (by decide +kernel), (by decide +kernel)⟩ (by decide) (by decide +kernel)
def mX0_silverTogether : MI := (yX0_silverTogether, cX0_silverTogether, 4, some .int, 0, 1, false, 1, [(0, .iconst 0, 1), (1, .istore_n 2, 1), (2, .iconst 0, 1), (3, .istore_n 3, 1), (4, .iload_n 3, 1), (5, .aload_n 0, 1), (6, .getfield 15, 3), (9, .getfield 23, 3), (12, .if_icmp .ge 28, 3), (15, .iload_n 3, 1), (16, .iload_n 1, 1), (17, .invokestatic 45, 3), (20, .ifCond .eq 14, 3), (23, .iload_n 2, 1), (24, .aload_n 0, 1), (25, .getfield 19, 3), (28, .iload_n 3, 1), (29, .invokevirtual 42, 3), (32, .iadd, 1), (33, .istore_n 2, 1), (34, .iinc 3 1, 3), (37, .goto (-33), 3), (40, .iload_n 2, 1), (41, .ireturn, 1)])
set_option maxRecDepth 20000 in
theorem oX0_silverTogether : MOk mX0_silverTogether := mok_V rfl (by decide +kernel) rfl (mW 529 (by decide +kernel) (by decide +kernel)) (mW 84 (by decide +kernel) (by decide +kernel)) (mW 528 (by decide +kernel) (by decide +kernel)) (mW 34 (by decide +kernel) (by decide +kernel)) ⟨(by decide +kernel), (by decide +kernel), (by decide +kernel)⟩ (by decide) (by decide +kernel)
def mX0_takenOf : MI := (yX0_takenOf, cX0_takenOf, 7, some .int, 0, 1, false, 2, [(0, .iconst 0, 1), (1, .istore_n 3, 1), (2, .bipush (-9), 2), (4, .istore 4, 2), (6, .iconst (-1), 1), (7, .istore 5, 2), (9, .iconst 0, 1), (10, .istore 6, 2), (12, .iload 6, 2), (14, .aload_n 0, 1), (15, .getfield 15, 3), (18, .getfield 23, 3), (21, .if_icmp .ge 60, 3), (24, .iload 6, 2), (26, .iload_n 1, 1), (27, .invokestatic 45, 3), (30, .ifCond .eq 45, 3), (33, .iload_n 3, 1), (34, .aload_n 0, 1), (35, .getfield 15, 3), (38, .getfield 52, 3), (41, .iload 6, 2), (43, .iaload, 1), (44, .iadd, 1), (45, .istore_n 3, 1), (46, .aload_n 0, 1), (47, .getfield 19, 3), (50, .iload 6, 2), (52, .invokevirtual 42, 3), (55, .iload 5, 2), (57, .if_icmp .le 18, 3), (60, .aload_n 0, 1), (61, .getfield 19, 3), (64, .iload 6, 2), (66, .invokevirtual 42, 3), (69, .istore 5, 2), (71, .iload 6, 2), (73, .istore 4, 2), (75, .iinc 6 1, 3), (78, .goto (-66), 3), (81, .iload_n 3, 1), (82, .aload_n 0, 1), (83, .getfield 15, 3), (86, .getfield 55, 3), (89, .iload_n 2, 1), (90, .iaload, 1), (91, .if_icmp .ge 8, 3), (94, .iload 4, 2), (96, .goto 5, 3), (99, .bipush (-9), 2), (101, .ireturn, 1)])
set_option maxRecDepth 20000 in
theorem oX0_takenOf : MOk mX0_takenOf := mok_V rfl (by decide +kernel) rfl (mW 457 (by decide +kernel) (by decide +kernel)) (mW 84 (by decide +kernel) (by decide +kernel)) (mW 456 (by decide +kernel) (by decide +kernel)) (mW 27 (by decide +kernel) (by decide +kernel)) ⟨(by decide +kernel), (by decide +kernel), (by decide +kernel)⟩ (by decide) (by decide +kernel)
def mX0_worthOf : MI := (yX0_worthOf, cX0_worthOf, 5, some .int, 0, 2, false, 2, [(0, .aload_n 0, 1), (1, .iload_n 1, 1), (2, .iload_n 2, 1), (3, .invokevirtual 58, 3), (6, .istore_n 3, 1), (7, .iload_n 3, 1), (8, .bipush (-9), 2), (10, .if_icmp .ne 7, 3), (13, .iconst 0, 1), (14, .goto 11, 3), (17, .aload_n 0, 1), (18, .getfield 19, 3), (21, .iload_n 3, 1), (22, .invokevirtual 42, 3), (25, .istore 4, 2), (27, .aload_n 0, 1), (28, .iload_n 1, 1), (29, .invokevirtual 62, 3), (32, .iload 4, 2), (34, .isub, 1), (35, .bipush 10, 2), (37, .aload_n 0, 1), (38, .getfield 15, 3), (41, .getfield 65, 3), (44, .iload_n 2, 1), (45, .iaload, 1), (46, .isub, 1), (47, .imul, 1), (48, .ireturn, 1)])
set_option maxRecDepth 20000 in
theorem oX0_worthOf : MOk mX0_worthOf := mok_V rfl (by decide +kernel) rfl (mW 524 (by decide +kernel) (by decide +kernel)) (mW 84 (by decide +kernel) (by decide +kernel)) (mW 523 (by decide +kernel) (by decide +kernel)) (mW 33 (by decide +kernel) (by decide +kernel)) ⟨(by decide +kernel), (by decide +kernel), (by decide +kernel)⟩ (by decide) (by decide +kernel)
def mX1_markAs : MI := (yX1_markAs, cX1_markAs, 3, some .int, 1, 4, false, 2, [(0, .iload_n 1, 1), (1, .tableswitch 75 0 5 #[39, 45, 51, 57, 63, 69], 39), (40, .aload_n 0, 1), (41, .iload_n 2, 1), (42, .invokevirtual 19, 3), (45, .ireturn, 1), (46, .aload_n 0, 1), (47, .iload_n 2, 1), (48, .invokevirtual 23, 3), (51, .ireturn, 1), (52, .aload_n 0, 1), (53, .iload_n 2, 1), (54, .invokevirtual 26, 3), (57, .ireturn, 1), (58, .aload_n 0, 1), (59, .iload_n 2, 1), (60, .invokevirtual 29, 3), (63, .ireturn, 1), (64, .aload_n 0, 1), (65, .iload_n 2, 1), (66, .invokevirtual 32, 3), (69, .ireturn, 1), (70, .aload_n 0, 1), (71, .iload_n 2, 1), (72, .invokevirtual 35, 3), (75, .ireturn, 1), (76, .ldc 38, 2), (78, .ireturn, 1)])
set_option maxRecDepth 20000 in
theorem oX1_markAs : MOk mX1_markAs := mok_V rfl (by decide +kernel) rfl (mW 618 (by decide +kernel) (by decide +kernel)) (mW 86 (by decide +kernel) (by decide +kernel)) (mW 617 (by decide +kernel) (by decide +kernel)) (mW 47 (by decide +kernel) (by decide +kernel)) ⟨(by decide +kernel), (by decide +kernel), (by decide +kernel)⟩ (by decide) (by decide +kernel)
def mX1_markChest : MI := (yX1_markChest, cX1_markChest, 2, some .int, 1, 3, false, 1, [(0, .aload_n 0, 1), (1, .dup, 1), (2, .getfield 39, 3), (5, .ldc2_w 61, 3), (8, .ladd, 1), (9, .putfield 39, 3), (12, .aload_n 0, 1), (13, .iload_n 1, 1), (14, .invokevirtual 23, 3), (17, .iconst 2, 1), (18, .imul, 1), (19, .ireturn, 1)])
set_option maxRecDepth 20000 in
theorem oX1_markChest : MOk mX1_markChest := mok_V rfl (by decide +kernel) rfl (mW 637 (by decide +kernel) (by decide +kernel)) (mW 86 (by decide +kernel) (by decide +kernel)) (mW 636 (by decide +kernel) (by decide +kernel)) (mW 51 (by decide +kernel) (by decide +kernel)) ⟨(by decide +kernel), (by decide +kernel), (by decide +kernel)⟩ (by decide) (by decide +kernel)
def mX1_markDecoy : MI := (yX1_markDecoy, cX1_markDecoy, 2, some .int, 1, 2, false, 1, [(0, .aload_n 0, 1), (1, .dup, 1), (2, .getfield 39, 3), (5, .ldc2_w 48, 3), (8, .ladd, 1), (9, .putfield 39, 3), (12, .aload_n 0, 1), (13, .iload_n 1, 1), (14, .invokevirtual 19, 3), (17, .aload_n 0, 1), (18, .getfield 11, 3), (21, .getfield 50, 3), (24, .iload_n 1, 1), (25, .iaload, 1), (26, .iadd, 1), (27, .ireturn, 1)])
set_option maxRecDepth 20000 in
theorem oX1_markDecoy : MOk mX1_markDecoy := mok_V rfl (by decide +kernel) rfl (mW 627 (by decide +kernel) (by decide +kernel)) (mW 86 (by decide +kernel) (by decide +kernel)) (mW 626 (by decide +kernel) (by decide +kernel)) (mW 49 (by decide +kernel) (by decide +kernel)) ⟨(by decide +kernel), (by decide +kernel), (by decide +kernel)⟩ (by decide) (by decide +kernel)
def mX1_markLetter : MI := (yX1_markLetter, cX1_markLetter, 2, some .int, 1, 3, false, 1, [(0, .aload_n 0, 1), (1, .dup, 1), (2, .getfield 39, 3), (5, .ldc2_w 63, 3), (8, .ladd, 1), (9, .putfield 39, 3), (12, .aload_n 0, 1), (13, .iload_n 1, 1), (14, .invokevirtual 26, 3), (17, .iload_n 1, 1), (18, .iadd, 1), (19, .ireturn, 1)])
set_option maxRecDepth 20000 in
theorem oX1_markLetter : MOk mX1_markLetter := mok_V rfl (by decide +kernel) rfl (mW 642 (by decide +kernel) (by decide +kernel)) (mW 86 (by decide +kernel) (by decide +kernel)) (mW 641 (by decide +kernel) (by decide +kernel)) (mW 52 (by decide +kernel) (by decide +kernel)) ⟨(by decide +kernel), (by decide +kernel), (by decide +kernel)⟩ (by decide) (by decide +kernel)
def mX1_markPilot : MI := (yX1_markPilot, cX1_markPilot, 2, some .int, 1, 2, false, 1, [(0, .aload_n 0, 1), (1, .dup, 1), (2, .getfield 39, 3), (5, .ldc2_w 65, 3), (8, .ladd, 1), (9, .putfield 39, 3), (12, .aload_n 0, 1), (13, .iload_n 1, 1), (14, .invokevirtual 19, 3), (17, .aload_n 0, 1), (18, .getfield 15, 3), (21, .invokevirtual 67, 3), (24, .iadd, 1), (25, .ireturn, 1)])
set_option maxRecDepth 20000 in
theorem oX1_markPilot : MOk mX1_markPilot := mok_V rfl (by decide +kernel) rfl (mW 647 (by decide +kernel) (by decide +kernel)) (mW 86 (by decide +kernel) (by decide +kernel)) (mW 646 (by decide +kernel) (by decide +kernel)) (mW 53 (by decide +kernel) (by decide +kernel)) ⟨(by decide +kernel), (by decide +kernel), (by decide +kernel)⟩ (by decide) (by decide +kernel)
def mX1_markShip : MI := (yX1_markShip, cX1_markShip, 2, some .int, 1, 1, false, 1, [(0, .aload_n 0, 1), (1, .dup, 1), (2, .getfield 39, 3), (5, .lconst 1, 1), (6, .ladd, 1), (7, .putfield 39, 3), (10, .aload_n 0, 1), (11, .getfield 15, 3), (14, .iload_n 1, 1), (15, .invokevirtual 43, 3), (18, .ireturn, 1)])
set_option maxRecDepth 20000 in
theorem oX1_markShip : MOk mX1_markShip := mok_V rfl (by decide +kernel) rfl (mW 622 (by decide +kernel) (by decide +kernel)) (mW 86 (by decide +kernel) (by decide +kernel)) (mW 621 (by decide +kernel) (by decide +kernel)) (mW 48 (by decide +kernel) (by decide +kernel)) ⟨(by decide +kernel), (by decide +kernel), (by decide +kernel)⟩ (by decide) (by decide +kernel)
def mX1_markSlow : MI := (yX1_markSlow, cX1_markSlow, 2, some .int, 1, 2, false, 1, [(0, .aload_n 0, 1), (1, .dup, 1), (2, .getfield 39, 3), (5, .ldc2_w 56, 3), (8, .ladd, 1), (9, .putfield 39, 3), (12, .aload_n 0, 1), (13, .iload_n 1, 1), (14, .invokevirtual 19, 3), (17, .aload_n 0, 1), (18, .getfield 11, 3), (21, .getfield 58, 3), (24, .iload_n 1, 1), (25, .iaload, 1), (26, .isub, 1), (27, .ireturn, 1)])
set_option maxRecDepth 20000 in
theorem oX1_markSlow : MOk mX1_markSlow := mok_V rfl (by decide +kernel) rfl (mW 632 (by decide +kernel) (by decide +kernel)) (mW 86 (by decide +kernel) (by decide +kernel)) (mW 631 (by decide +kernel) (by decide +kernel)) (mW 50 (by decide +kernel) (by decide +kernel)) ⟨(by decide +kernel), (by decide +kernel), (by decide +kernel)⟩ (by decide) (by decide +kernel)
def mX2_beginWith : MI := (yX2_beginWith, cX2_beginWith, 3, none, 2, 1, false, 1, [(0, .aload_n 0, 1), (1, .iconst 0, 1), (2, .putfield 18, 3), (5, .iconst 0, 1), (6, .istore_n 2, 1), (7, .iload_n 2, 1), (8, .bipush 18, 2), (10, .if_icmp .ge 16, 3), (13, .aload_n 0, 1), (14, .getfield 11, 3), (17, .iload_n 2, 1), (18, .iconst 0, 1), (19, .iastore, 1), (20, .iinc 2 1, 3), (23, .goto (-16), 3), (26, .iconst 0, 1), (27, .istore_n 2, 1), (28, .iload_n 2, 1), (29, .aload_n 1, 1), (30, .getfield 22, 3), (33, .if_icmp .ge 35, 3), (36, .aload_n 0, 1), (37, .getfield 11, 3), (40, .iconst 3, 1), (41, .iload_n 2, 1), (42, .iadd, 1), (43, .iconst 0, 1), (44, .iastore, 1), (45, .aload_n 0, 1), (46, .iload_n 2, 1), (47, .aload_n 1, 1), (48, .getfield 27, 3), (51, .iload_n 2, 1), (52, .iaload, 1), (53, .aload_n 1, 1), (54, .getfield 30, 3), (57, .iload_n 2, 1), (58, .iaload, 1), (59, .invokevirtual 33, 3), (62, .iinc 2 1, 3), (65, .goto (-37), 3), (68, .return_, 1)])
set_option maxRecDepth 20000 in
theorem oX2_beginWith : MOk mX2_beginWith := mok_V rfl (by decide +kernel) rfl (mW 385 (by decide +kernel) (by decide +kernel)) (mW 83 (by decide +kernel) (by decide +kernel)) (mW 384 (by decide +kernel) (by decide +kernel)) (mW 14 (by decide +kernel) (by decide +kernel)) ⟨(by decide +kernel), (by decide +kernel), (by decide +kernel)⟩ (by decide) (by decide +kernel)
def mX2_copyFrom : MI := (yX2_copyFrom, cX2_copyFrom, 2, none, 2, 1, false, 1, [(0, .aload_n 1, 1), (1, .getfield 11, 3), (4, .iconst 0, 1), (5, .aload_n 0, 1), (6, .getfield 11, 3), (9, .iconst 0, 1), (10, .bipush 18, 2), (12, .invokestatic 37, 3), (15, .aload_n 1, 1), (16, .getfield 15, 3), (19, .iconst 0, 1), (20, .aload_n 0, 1), (21, .getfield 15, 3), (24, .iconst 0, 1), (25, .sipush 180, 3), (28, .invokestatic 37, 3), (31, .aload_n 0, 1), (32, .aload_n 1, 1), (33, .getfield 18, 3), (36, .putfield 18, 3), (39, .return_, 1)])
set_option maxRecDepth 20000 in
theorem oX2_copyFrom : MOk mX2_copyFrom := mok_V rfl (by decide +kernel) rfl (mW 665 (by decide +kernel) (by decide +kernel)) (mW 83 (by decide +kernel) (by decide +kernel)) (mW 664 (by decide +kernel) (by decide +kernel)) (mW 55 (by decide +kernel) (by decide +kernel)) ⟨(by decide +kernel), (by decide +kernel), (by decide +kernel)⟩ (by decide) (by decide +kernel)
def mX2_goBack : MI := (yX2_goBack, cX2_goBack, 1, none, 2, 1, false, 0, [(0, .aload_n 0, 1), (1, .getfield 18, 3), (4, .ifCond .le 34, 3), (7, .aload_n 0, 1), (8, .dup, 1), (9, .getfield 18, 3), (12, .iconst 1, 1), (13, .isub, 1), (14, .putfield 18, 3), (17, .aload_n 0, 1), (18, .getfield 15, 3), (21, .aload_n 0, 1), (22, .getfield 18, 3), (25, .bipush 18, 2), (27, .imul, 1), (28, .aload_n 0, 1), (29, .getfield 11, 3), (32, .iconst 0, 1), (33, .bipush 18, 2), (35, .invokestatic 37, 3), (38, .return_, 1)])
set_option maxRecDepth 20000 in
theorem oX2_goBack : MOk mX2_goBack := mok_V rfl (by decide +kernel) rfl (mW 502 (by decide +kernel) (by decide +kernel)) (mW 83 (by decide +kernel) (by decide +kernel)) (mW 501 (by decide +kernel) (by decide +kernel)) (mW 30 (by decide +kernel) (by decide +kernel)) ⟨(by decide +kernel), (by decide +kernel), (by decide +kernel)⟩ (by decide) (by decide +kernel)
def mX2_hiddenOf : MI := (yX2_hiddenOf, cX2_hiddenOf, 2, some .int, 2, 0, false, 1, [(0, .aload_n 0, 1), (1, .getfield 11, 3), (4, .bipush 13, 2), (6, .iload_n 1, 1), (7, .iadd, 1), (8, .iaload, 1), (9, .ireturn, 1)])
set_option maxRecDepth 20000 in
theorem oX2_hiddenOf : MOk mX2_hiddenOf := mok_V rfl (by decide +kernel) rfl (mW 413 (by decide +kernel) (by decide +kernel)) (mW 83 (by decide +kernel) (by decide +kernel)) (mW 412 (by decide +kernel) (by decide +kernel)) (mW 19 (by decide +kernel) (by decide +kernel)) ⟨(by decide +kernel), (by decide +kernel), (by decide +kernel)⟩ (by decide) (by decide +kernel)
def mX2_isInPort : MI := (yX2_isInPort, cX2_isInPort, 2, some .boolean, 2, 0, false, 1, [(0, .aload_n 0, 1), (1, .getfield 11, 3), (4, .iconst 3, 1), (5, .iload_n 1, 1), (6, .iadd, 1), (7, .iaload, 1), (8, .ifCond .ne 7, 3), (11, .iconst 1, 1), (12, .goto 4, 3), (15, .iconst 0, 1), (16, .ireturn, 1)])
set_option maxRecDepth 20000 in
theorem oX2_isInPort : MOk mX2_isInPort := mok_V rfl (by decide +kernel) rfl (mW 453 (by decide +kernel) (by decide +kernel)) (mW 83 (by decide +kernel) (by decide +kernel)) (mW 452 (by decide +kernel) (by decide +kernel)) (mW 26 (by decide +kernel) (by decide +kernel)) ⟨(by decide +kernel), (by decide +kernel), (by decide +kernel)⟩ (by decide) (by decide +kernel)
def mX2_listedOf : MI := (yX2_listedOf, cX2_listedOf, 2, some .int, 2, 0, false, 1, [(0, .aload_n 0, 1), (1, .getfield 11, 3), (4, .bipush 8, 2), (6, .iload_n 1, 1), (7, .iadd, 1), (8, .iaload, 1), (9, .ireturn, 1)])
set_option maxRecDepth 20000 in
theorem oX2_listedOf : MOk mX2_listedOf := mok_V rfl (by decide +kernel) rfl (mW 409 (by decide +kernel) (by decide +kernel)) (mW 83 (by decide +kernel) (by decide +kernel)) (mW 408 (by decide +kernel) (by decide +kernel)) (mW 18 (by decide +kernel) (by decide +kernel)) ⟨(by decide +kernel), (by decide +kernel), (by decide +kernel)⟩ (by decide) (by decide +kernel)
def mX2_placeOf : MI := (yX2_placeOf, cX2_placeOf, 2, some .int, 2, 0, false, 1, [(0, .aload_n 0, 1), (1, .getfield 11, 3), (4, .iconst 3, 1), (5, .iload_n 1, 1), (6, .iadd, 1), (7, .iaload, 1), (8, .ireturn, 1)])
set_option maxRecDepth 20000 in
theorem oX2_placeOf : MOk mX2_placeOf := mok_V rfl (by decide +kernel) rfl (mW 417 (by decide +kernel) (by decide +kernel)) (mW 83 (by decide +kernel) (by decide +kernel)) (mW 416 (by decide +kernel) (by decide +kernel)) (mW 20 (by decide +kernel) (by decide +kernel)) ⟨(by decide +kernel), (by decide +kernel), (by decide +kernel)⟩ (by decide) (by decide +kernel)
def mX2_remember : MI := (yX2_remember, cX2_remember, 1, none, 2, 1, false, 0, [(0, .aload_n 0, 1), (1, .getfield 18, 3), (4, .bipush 10, 2), (6, .if_icmp .lt 26, 3), (9, .aload_n 0, 1), (10, .getfield 15, 3), (13, .bipush 18, 2), (15, .aload_n 0, 1), (16, .getfield 15, 3), (19, .iconst 0, 1), (20, .sipush 162, 3), (23, .invokestatic 37, 3), (26, .aload_n 0, 1), (27, .bipush 9, 2), (29, .putfield 18, 3), (32, .aload_n 0, 1), (33, .getfield 11, 3), (36, .iconst 0, 1), (37, .aload_n 0, 1), (38, .getfield 15, 3), (41, .aload_n 0, 1), (42, .getfield 18, 3), (45, .bipush 18, 2), (47, .imul, 1), (48, .bipush 18, 2), (50, .invokestatic 37, 3), (53, .aload_n 0, 1), (54, .dup, 1), (55, .getfield 18, 3), (58, .iconst 1, 1), (59, .iadd, 1), (60, .putfield 18, 3), (63, .return_, 1)])
set_option maxRecDepth 20000 in
theorem oX2_remember : MOk mX2_remember := mok_V rfl (by decide +kernel) rfl (mW 433 (by decide +kernel) (by decide +kernel)) (mW 83 (by decide +kernel) (by decide +kernel)) (mW 432 (by decide +kernel) (by decide +kernel)) (mW 23 (by decide +kernel) (by decide +kernel)) ⟨(by decide +kernel), (by decide +kernel), (by decide +kernel)⟩ (by decide) (by decide +kernel)
def mX2_setBars : MI := (yX2_setBars, cX2_setBars, 4, none, 2, 0, false, 3, [(0, .aload_n 0, 1), (1, .getfield 11, 3), (4, .bipush 8, 2), (6, .iload_n 1, 1), (7, .iadd, 1), (8, .iload_n 2, 1), (9, .iastore, 1), (10, .aload_n 0, 1), (11, .getfield 11, 3), (14, .bipush 13, 2), (16, .iload_n 1, 1), (17, .iadd, 1), (18, .iload_n 3, 1), (19, .iastore, 1), (20, .return_, 1)])
set_option maxRecDepth 20000 in
theorem oX2_setBars : MOk mX2_setBars := mok_V rfl (by decide +kernel) rfl (mW 389 (by decide +kernel) (by decide +kernel)) (mW 83 (by decide +kernel) (by decide +kernel)) (mW 388 (by decide +kernel) (by decide +kernel)) (mW 15 (by decide +kernel) (by decide +kernel)) ⟨(by decide +kernel), (by decide +kernel), (by decide +kernel)⟩ (by decide) (by decide +kernel)
def mX2_silverOf : MI := (yX2_silverOf, cX2_silverOf, 2, some .int, 2, 0, false, 1, [(0, .aload_n 0, 1), (1, .getfield 11, 3), (4, .bipush 8, 2), (6, .iload_n 1, 1), (7, .iadd, 1), (8, .iaload, 1), (9, .aload_n 0, 1), (10, .getfield 11, 3), (13, .bipush 13, 2), (15, .iload_n 1, 1), (16, .iadd, 1), (17, .iaload, 1), (18, .iadd, 1), (19, .ireturn, 1)])
set_option maxRecDepth 20000 in
theorem oX2_silverOf : MOk mX2_silverOf := mok_V rfl (by decide +kernel) rfl (mW 462 (by decide +kernel) (by decide +kernel)) (mW 83 (by decide +kernel) (by decide +kernel)) (mW 461 (by decide +kernel) (by decide +kernel)) (mW 28 (by decide +kernel) (by decide +kernel)) ⟨(by decide +kernel), (by decide +kernel), (by decide +kernel)⟩ (by decide) (by decide +kernel)
def mX2_theWeek : MI := (yX2_theWeek, cX2_theWeek, 1, some .int, 2, 0, false, 0, [(0, .aload_n 0, 1), (1, .getfield 11, 3), (4, .iconst 0, 1), (5, .iaload, 1), (6, .ireturn, 1)])
set_option maxRecDepth 20000 in
theorem oX2_theWeek : MOk mX2_theWeek := mok_V rfl (by decide +kernel) rfl (mW 429 (by decide +kernel) (by decide +kernel)) (mW 83 (by decide +kernel) (by decide +kernel)) (mW 428 (by decide +kernel) (by decide +kernel)) (mW 22 (by decide +kernel) (by decide +kernel)) ⟨(by decide +kernel), (by decide +kernel), (by decide +kernel)⟩ (by decide) (by decide +kernel)
def mX3_choose : MI := (yX3_choose, cX3_choose, 8, none, 3, 0, false, 3, [(0, .iload_n 1, 1), (1, .bipush 32, 2), (3, .imul, 1), (4, .iload_n 2, 1), (5, .iadd, 1), (6, .istore 4, 2), (8, .iload_n 1, 1), (9, .iconst 1, 1), (10, .iadd, 1), (11, .bipush 32, 2), (13, .imul, 1), (14, .istore 5, 2), (16, .aload_n 0, 1), (17, .getfield 9, 3), (20, .iload 4, 2), (22, .iconst (-1), 1), (23, .iastore, 1), (24, .iconst 0, 1), (25, .istore 6, 2), (27, .iload 6, 2), (29, .iload_n 3, 1), (30, .if_icmp .gt 72, 3), (33, .iload 6, 2), (35, .iload_n 3, 1), (36, .iconst (-1), 1), (37, .ixor, 1), (38, .iand, 1), (39, .ifCond .ne 57, 3), (42, .aload_n 0, 1), (43, .getfield 18, 3), (46, .iload 6, 2), (48, .iaload, 1), (49, .aload_n 0, 1), (50, .getfield 9, 3), (53, .iload 5, 2), (55, .iload_n 2, 1), (56, .iload 6, 2), (58, .iconst (-1), 1), (59, .ixor, 1), (60, .iand, 1), (61, .iadd, 1), (62, .iaload, 1), (63, .iadd, 1), (64, .istore 7, 2), (66, .iload 7, 2), (68, .aload_n 0, 1), (69, .getfield 9, 3), (72, .iload 4, 2), (74, .iaload, 1), (75, .if_icmp .le 21, 3), (78, .aload_n 0, 1), (79, .getfield 9, 3), (82, .iload 4, 2), (84, .iload 7, 2), (86, .iastore, 1), (87, .aload_n 0, 1), (88, .getfield 15, 3), (91, .iload 4, 2), (93, .iload 6, 2), (95, .iastore, 1), (96, .iinc 6 1, 3), (99, .goto (-72), 3), (102, .return_, 1)])
set_option maxRecDepth 20000 in
theorem oX3_choose : MOk mX3_choose := mok_V rfl (by decide +kernel) rfl (mW 555 (by decide +kernel) (by decide +kernel)) (mW 85 (by decide +kernel) (by decide +kernel)) (mW 554 (by decide +kernel) (by decide +kernel)) (mW 39 (by decide +kernel) (by decide +kernel)) ⟨(by decide +kernel), (by decide +kernel), (by decide +kernel)⟩ (by decide) (by decide +kernel)
def mX3_mostFrom : MI := (yX3_mostFrom, cX3_mostFrom, 2, some .int, 3, 5, false, 1, [(0, .iload_n 1, 1), (1, .aload_n 0, 1), (2, .getfield 21, 3), (5, .getfield 33, 3), (8, .if_icmp .lt 5, 3), (11, .iconst 0, 1), (12, .ireturn, 1), (13, .aload_n 0, 1), (14, .iload_n 1, 1), (15, .invokevirtual 39, 3), (18, .aload_n 0, 1), (19, .getfield 9, 3), (22, .iload_n 1, 1), (23, .bipush 32, 2), (25, .imul, 1), (26, .aload_n 0, 1), (27, .getfield 29, 3), (30, .invokevirtual 43, 3), (33, .iadd, 1), (34, .iaload, 1), (35, .ireturn, 1)])
set_option maxRecDepth 20000 in
theorem oX3_mostFrom : MOk mX3_mostFrom := mok_V rfl (by decide +kernel) rfl (mW 537 (by decide +kernel) (by decide +kernel)) (mW 85 (by decide +kernel) (by decide +kernel)) (mW 536 (by decide +kernel) (by decide +kernel)) (mW 35 (by decide +kernel) (by decide +kernel)) ⟨(by decide +kernel), (by decide +kernel), (by decide +kernel)⟩ (by decide) (by decide +kernel)
def mX3_reckonFrom : MI := (yX3_reckonFrom, cX3_reckonFrom, 6, none, 3, 4, false, 1, [(0, .aload_n 0, 1), (1, .getfield 29, 3), (4, .invokevirtual 43, 3), (7, .istore_n 2, 1), (8, .iconst 0, 1), (9, .istore_n 3, 1), (10, .iload_n 3, 1), (11, .bipush 32, 2), (13, .if_icmp .ge 27, 3), (16, .aload_n 0, 1), (17, .getfield 9, 3), (20, .aload_n 0, 1), (21, .getfield 21, 3), (24, .getfield 33, 3), (27, .bipush 32, 2), (29, .imul, 1), (30, .iload_n 3, 1), (31, .iadd, 1), (32, .iconst 0, 1), (33, .iastore, 1), (34, .iinc 3 1, 3), (37, .goto (-27), 3), (40, .aload_n 0, 1), (41, .getfield 21, 3), (44, .getfield 33, 3), (47, .iconst 1, 1), (48, .isub, 1), (49, .istore_n 3, 1), (50, .iload_n 3, 1), (51, .iload_n 1, 1), (52, .if_icmp .lt 64, 3), (55, .iload_n 2, 1), (56, .aload_n 0, 1), (57, .getfield 29, 3), (60, .iload_n 3, 1), (61, .invokevirtual 54, 3), (64, .iand, 1), (65, .istore 4, 2), (67, .aload_n 0, 1), (68, .iload 4, 2), (70, .iload_n 3, 1), (71, .invokevirtual 58, 3), (74, .iconst 0, 1), (75, .istore 5, 2), (77, .iload 5, 2), (79, .iload_n 2, 1), (80, .if_icmp .gt 30, 3), (83, .iload 5, 2), (85, .iload_n 2, 1), (86, .iconst (-1), 1), (87, .ixor, 1), (88, .iand, 1), (89, .ifCond .ne 15, 3), (92, .aload_n 0, 1), (93, .iload_n 3, 1), (94, .iload 5, 2), (96, .iload 5, 2), (98, .iload 4, 2), (100, .iand, 1), (101, .invokevirtual 62, 3), (104, .iinc 5 1, 3), (107, .goto (-30), 3), (110, .iinc 3 (-1), 3), (113, .goto (-63), 3), (116, .return_, 1)])
set_option maxRecDepth 20000 in
theorem oX3_reckonFrom : MOk mX3_reckonFrom := mok_V rfl (by decide +kernel) rfl (mW 541 (by decide +kernel) (by decide +kernel)) (mW 85 (by decide +kernel) (by decide +kernel)) (mW 540 (by decide +kernel) (by decide +kernel)) (mW 36 (by decide +kernel) (by decide +kernel)) ⟨(by decide +kernel), (by decide +kernel), (by decide +kernel)⟩ (by decide) (by decide +kernel)
def mX3_reckonWorths : MI := (yX3_reckonWorths, cX3_reckonWorths, 4, none, 3, 3, false, 2, [(0, .iconst 0, 1), (1, .istore_n 3, 1), (2, .iload_n 3, 1), (3, .iload_n 1, 1), (4, .if_icmp .gt 32, 3), (7, .iload_n 3, 1), (8, .iload_n 1, 1), (9, .iconst (-1), 1), (10, .ixor, 1), (11, .iand, 1), (12, .ifCond .ne 18, 3), (15, .aload_n 0, 1), (16, .getfield 18, 3), (19, .iload_n 3, 1), (20, .aload_n 0, 1), (21, .getfield 29, 3), (24, .iload_n 3, 1), (25, .iload_n 2, 1), (26, .invokevirtual 66, 3), (29, .iastore, 1), (30, .iinc 3 1, 3), (33, .goto (-31), 3), (36, .return_, 1)])
set_option maxRecDepth 20000 in
theorem oX3_reckonWorths : MOk mX3_reckonWorths := mok_V rfl (by decide +kernel) rfl (mW 550 (by decide +kernel) (by decide +kernel)) (mW 85 (by decide +kernel) (by decide +kernel)) (mW 549 (by decide +kernel) (by decide +kernel)) (mW 38 (by decide +kernel) (by decide +kernel)) ⟨(by decide +kernel), (by decide +kernel), (by decide +kernel)⟩ (by decide) (by decide +kernel)
def mX3_sailingIn : MI := (yX3_sailingIn, cX3_sailingIn, 4, some .int, 3, 5, false, 1, [(0, .aload_n 0, 1), (1, .aload_n 0, 1), (2, .getfield 25, 3), (5, .invokevirtual 49, 3), (8, .invokevirtual 39, 3), (11, .aload_n 0, 1), (12, .getfield 29, 3), (15, .invokevirtual 43, 3), (18, .istore_n 2, 1), (19, .aload_n 0, 1), (20, .getfield 25, 3), (23, .invokevirtual 49, 3), (26, .istore_n 3, 1), (27, .iload_n 3, 1), (28, .iload_n 1, 1), (29, .if_icmp .ge 25, 3), (32, .iload_n 2, 1), (33, .aload_n 0, 1), (34, .getfield 15, 3), (37, .iload_n 3, 1), (38, .bipush 32, 2), (40, .imul, 1), (41, .iload_n 2, 1), (42, .iadd, 1), (43, .iaload, 1), (44, .iconst (-1), 1), (45, .ixor, 1), (46, .iand, 1), (47, .istore_n 2, 1), (48, .iinc 3 1, 3), (51, .goto (-24), 3), (54, .aload_n 0, 1), (55, .getfield 15, 3), (58, .iload_n 1, 1), (59, .bipush 32, 2), (61, .imul, 1), (62, .iload_n 2, 1), (63, .iadd, 1), (64, .iaload, 1), (65, .ireturn, 1)])
set_option maxRecDepth 20000 in
theorem oX3_sailingIn : MOk mX3_sailingIn := mok_V rfl (by decide +kernel) rfl (mW 559 (by decide +kernel) (by decide +kernel)) (mW 85 (by decide +kernel) (by decide +kernel)) (mW 558 (by decide +kernel) (by decide +kernel)) (mW 40 (by decide +kernel) (by decide +kernel)) ⟨(by decide +kernel), (by decide +kernel), (by decide +kernel)⟩ (by decide) (by decide +kernel)
def mX4_addShip : MI := (yX4_addShip, cX4_addShip, 5, none, 4, 0, false, 4, [(0, .aload_n 0, 1), (1, .getfield 37, 3), (4, .iconst 5, 1), (5, .if_icmp .lt 4, 3), (8, .return_, 1), (9, .aload_n 0, 1), (10, .getfield 18, 3), (13, .aload_n 0, 1), (14, .getfield 37, 3), (17, .iload_n 1, 1), (18, .iastore, 1), (19, .aload_n 0, 1), (20, .getfield 21, 3), (23, .aload_n 0, 1), (24, .getfield 37, 3), (27, .iload_n 2, 1), (28, .iastore, 1), (29, .aload_n 0, 1), (30, .getfield 24, 3), (33, .aload_n 0, 1), (34, .getfield 37, 3), (37, .iload_n 3, 1), (38, .iastore, 1), (39, .aload_n 0, 1), (40, .getfield 27, 3), (43, .aload_n 0, 1), (44, .getfield 37, 3), (47, .iload 4, 2), (49, .iastore, 1), (50, .aload_n 0, 1), (51, .dup, 1), (52, .getfield 37, 3), (55, .iconst 1, 1), (56, .iadd, 1), (57, .putfield 37, 3), (60, .return_, 1)])
set_option maxRecDepth 20000 in
theorem oX4_addShip : MOk mX4_addShip := mok_V rfl (by decide +kernel) rfl (mW 370 (by decide +kernel) (by decide +kernel)) (mW 82 (by decide +kernel) (by decide +kernel)) (mW 369 (by decide +kernel) (by decide +kernel)) (mW 11 (by decide +kernel) (by decide +kernel)) ⟨(by decide +kernel), (by decide +kernel), (by decide +kernel)⟩ (by decide) (by decide +kernel)
def mX4_addWeek : MI := (yX4_addWeek, cX4_addWeek, 3, none, 4, 0, false, 2, [(0, .aload_n 0, 1), (1, .getfield 34, 3), (4, .bipush 12, 2), (6, .if_icmp .lt 4, 3), (9, .return_, 1), (10, .aload_n 0, 1), (11, .getfield 9, 3), (14, .aload_n 0, 1), (15, .getfield 34, 3), (18, .iload_n 1, 1), (19, .iastore, 1), (20, .aload_n 0, 1), (21, .getfield 15, 3), (24, .aload_n 0, 1), (25, .getfield 34, 3), (28, .iload_n 2, 1), (29, .iastore, 1), (30, .aload_n 0, 1), (31, .dup, 1), (32, .getfield 34, 3), (35, .iconst 1, 1), (36, .iadd, 1), (37, .putfield 34, 3), (40, .return_, 1)])
set_option maxRecDepth 20000 in
theorem oX4_addWeek : MOk mX4_addWeek := mok_V rfl (by decide +kernel) rfl (mW 366 (by decide +kernel) (by decide +kernel)) (mW 82 (by decide +kernel) (by decide +kernel)) (mW 365 (by decide +kernel) (by decide +kernel)) (mW 10 (by decide +kernel) (by decide +kernel)) ⟨(by decide +kernel), (by decide +kernel), (by decide +kernel)⟩ (by decide) (by decide +kernel)
def mX4_canTake : MI := (yX4_canTake, cX4_canTake, 2, some .boolean, 4, 0, false, 1, [(0, .iload_n 1, 1), (1, .lookupswitch 77 #[(107, 64), (115, 50), (119, 35)], 35), (36, .aload_n 0, 1), (37, .getfield 34, 3), (40, .bipush 12, 2), (42, .if_icmp .ge 7, 3), (45, .iconst 1, 1), (46, .goto 4, 3), (49, .iconst 0, 1), (50, .ireturn, 1), (51, .aload_n 0, 1), (52, .getfield 37, 3), (55, .iconst 5, 1), (56, .if_icmp .ge 7, 3), (59, .iconst 1, 1), (60, .goto 4, 3), (63, .iconst 0, 1), (64, .ireturn, 1), (65, .aload_n 0, 1), (66, .getfield 40, 3), (69, .ifCond .ne 7, 3), (72, .iconst 1, 1), (73, .goto 4, 3), (76, .iconst 0, 1), (77, .ireturn, 1), (78, .iconst 0, 1), (79, .ireturn, 1)])
set_option maxRecDepth 20000 in
theorem oX4_canTake : MOk mX4_canTake := mok_V rfl (by decide +kernel) rfl (mW 351 (by decide +kernel) (by decide +kernel)) (mW 82 (by decide +kernel) (by decide +kernel)) (mW 350 (by decide +kernel) (by decide +kernel)) (mW 8 (by decide +kernel) (by decide +kernel)) ⟨(by decide +kernel), (by decide +kernel), (by decide +kernel)⟩ (by decide) (by decide +kernel)
def mX4_copyFrom : MI := (yX4_copyFrom, cX4_copyFrom, 2, none, 4, 1, false, 1, [(0, .aload_n 1, 1), (1, .getfield 9, 3), (4, .iconst 0, 1), (5, .aload_n 0, 1), (6, .getfield 9, 3), (9, .iconst 0, 1), (10, .bipush 12, 2), (12, .invokestatic 44, 3), (15, .aload_n 1, 1), (16, .getfield 15, 3), (19, .iconst 0, 1), (20, .aload_n 0, 1), (21, .getfield 15, 3), (24, .iconst 0, 1), (25, .bipush 12, 2), (27, .invokestatic 44, 3), (30, .aload_n 1, 1), (31, .getfield 18, 3), (34, .iconst 0, 1), (35, .aload_n 0, 1), (36, .getfield 18, 3), (39, .iconst 0, 1), (40, .iconst 5, 1), (41, .invokestatic 44, 3), (44, .aload_n 1, 1), (45, .getfield 21, 3), (48, .iconst 0, 1), (49, .aload_n 0, 1), (50, .getfield 21, 3), (53, .iconst 0, 1), (54, .iconst 5, 1), (55, .invokestatic 44, 3), (58, .aload_n 1, 1), (59, .getfield 24, 3), (62, .iconst 0, 1), (63, .aload_n 0, 1), (64, .getfield 24, 3), (67, .iconst 0, 1), (68, .iconst 5, 1), (69, .invokestatic 44, 3), (72, .aload_n 1, 1), (73, .getfield 27, 3), (76, .iconst 0, 1), (77, .aload_n 0, 1), (78, .getfield 27, 3), (81, .iconst 0, 1), (82, .iconst 5, 1), (83, .invokestatic 44, 3), (86, .aload_n 0, 1), (87, .aload_n 1, 1), (88, .getfield 34, 3), (91, .putfield 34, 3), (94, .aload_n 0, 1), (95, .aload_n 1, 1), (96, .getfield 37, 3), (99, .putfield 37, 3), (102, .aload_n 0, 1), (103, .aload_n 1, 1), (104, .getfield 30, 3), (107, .putfield 30, 3), (110, .aload_n 0, 1), (111, .aload_n 1, 1), (112, .getfield 40, 3), (115, .putfield 40, 3), (118, .return_, 1)])
set_option maxRecDepth 20000 in
theorem oX4_copyFrom : MOk mX4_copyFrom := mok_V rfl (by decide +kernel) rfl (mW 378 (by decide +kernel) (by decide +kernel)) (mW 82 (by decide +kernel) (by decide +kernel)) (mW 377 (by decide +kernel) (by decide +kernel)) (mW 13 (by decide +kernel) (by decide +kernel)) ⟨(by decide +kernel), (by decide +kernel), (by decide +kernel)⟩ (by decide) (by decide +kernel)
def mX4_forgetAll : MI := (yX4_forgetAll, cX4_forgetAll, 1, none, 4, 0, false, 0, [(0, .aload_n 0, 1), (1, .iconst 0, 1), (2, .putfield 34, 3), (5, .aload_n 0, 1), (6, .iconst 0, 1), (7, .putfield 37, 3), (10, .aload_n 0, 1), (11, .iconst 2, 1), (12, .putfield 30, 3), (15, .aload_n 0, 1), (16, .iconst 0, 1), (17, .putfield 40, 3), (20, .return_, 1)])
set_option maxRecDepth 20000 in
theorem oX4_forgetAll : MOk mX4_forgetAll := mok_V rfl (by decide +kernel) rfl (mW 320 (by decide +kernel) (by decide +kernel)) (mW 82 (by decide +kernel) (by decide +kernel)) (mW 319 (by decide +kernel) (by decide +kernel)) (mW 1 (by decide +kernel) (by decide +kernel)) ⟨(by decide +kernel), (by decide +kernel), (by decide +kernel)⟩ (by decide) (by decide +kernel)
def mX4_hasSet : MI := (yX4_hasSet, cX4_hasSet, 2, some .boolean, 4, 0, false, 1, [(0, .iload_n 1, 1), (1, .ifCond .lt 17, 3), (4, .iload_n 1, 1), (5, .iconst 1, 1), (6, .aload_n 0, 1), (7, .getfield 37, 3), (10, .ishl, 1), (11, .if_icmp .ge 7, 3), (14, .iconst 1, 1), (15, .goto 4, 3), (18, .iconst 0, 1), (19, .ireturn, 1)])
set_option maxRecDepth 20000 in
theorem oX4_hasSet : MOk mX4_hasSet := mok_V rfl (by decide +kernel) rfl (mW 442 (by decide +kernel) (by decide +kernel)) (mW 82 (by decide +kernel) (by decide +kernel)) (mW 441 (by decide +kernel) (by decide +kernel)) (mW 24 (by decide +kernel) (by decide +kernel)) ⟨(by decide +kernel), (by decide +kernel), (by decide +kernel)⟩ (by decide) (by decide +kernel)
def mX4_hasShip : MI := (yX4_hasShip, cX4_hasShip, 2, some .boolean, 4, 0, false, 1, [(0, .iload_n 1, 1), (1, .ifCond .lt 15, 3), (4, .iload_n 1, 1), (5, .aload_n 0, 1), (6, .getfield 37, 3), (9, .if_icmp .ge 7, 3), (12, .iconst 1, 1), (13, .goto 4, 3), (16, .iconst 0, 1), (17, .ireturn, 1)])
set_option maxRecDepth 20000 in
theorem oX4_hasShip : MOk mX4_hasShip := mok_V rfl (by decide +kernel) rfl (mW 405 (by decide +kernel) (by decide +kernel)) (mW 82 (by decide +kernel) (by decide +kernel)) (mW 404 (by decide +kernel) (by decide +kernel)) (mW 17 (by decide +kernel) (by decide +kernel)) ⟨(by decide +kernel), (by decide +kernel), (by decide +kernel)⟩ (by decide) (by decide +kernel)
def mX4_hasWeek : MI := (yX4_hasWeek, cX4_hasWeek, 2, some .boolean, 4, 0, false, 1, [(0, .iload_n 1, 1), (1, .ifCond .lt 15, 3), (4, .iload_n 1, 1), (5, .aload_n 0, 1), (6, .getfield 34, 3), (9, .if_icmp .ge 7, 3), (12, .iconst 1, 1), (13, .goto 4, 3), (16, .iconst 0, 1), (17, .ireturn, 1)])
set_option maxRecDepth 20000 in
theorem oX4_hasWeek : MOk mX4_hasWeek := mok_V rfl (by decide +kernel) rfl (mW 397 (by decide +kernel) (by decide +kernel)) (mW 82 (by decide +kernel) (by decide +kernel)) (mW 396 (by decide +kernel) (by decide +kernel)) (mW 16 (by decide +kernel) (by decide +kernel)) ⟨(by decide +kernel), (by decide +kernel), (by decide +kernel)⟩ (by decide) (by decide +kernel)
def mX4_setShare : MI := (yX4_setShare, cX4_setShare, 2, none, 4, 0, false, 1, [(0, .aload_n 0, 1), (1, .iload_n 1, 1), (2, .putfield 30, 3), (5, .aload_n 0, 1), (6, .iconst 1, 1), (7, .putfield 40, 3), (10, .return_, 1)])
set_option maxRecDepth 20000 in
theorem oX4_setShare : MOk mX4_setShare := mok_V rfl (by decide +kernel) rfl (mW 374 (by decide +kernel) (by decide +kernel)) (mW 82 (by decide +kernel) (by decide +kernel)) (mW 373 (by decide +kernel) (by decide +kernel)) (mW 12 (by decide +kernel) (by decide +kernel)) ⟨(by decide +kernel), (by decide +kernel), (by decide +kernel)⟩ (by decide) (by decide +kernel)
def mX5_isDigitAt : MI := (yX5_isDigitAt, cX5_isDigitAt, 2, some .boolean, 5, 0, false, 1, [(0, .iload_n 1, 1), (1, .aload_n 0, 1), (2, .getfield 74, 3), (5, .if_icmp .ge 29, 3), (8, .aload_n 0, 1), (9, .getfield 9, 3), (12, .iload_n 1, 1), (13, .iaload, 1), (14, .bipush 48, 2), (16, .if_icmp .lt 18, 3), (19, .aload_n 0, 1), (20, .getfield 9, 3), (23, .iload_n 1, 1), (24, .iaload, 1), (25, .bipush 57, 2), (27, .if_icmp .gt 7, 3), (30, .iconst 1, 1), (31, .goto 4, 3), (34, .iconst 0, 1), (35, .ireturn, 1)])
set_option maxRecDepth 20000 in
theorem oX5_isDigitAt : MOk mX5_isDigitAt := mok_V rfl (by decide +kernel) rfl (mW 336 (by decide +kernel) (by decide +kernel)) (mW 81 (by decide +kernel) (by decide +kernel)) (mW 335 (by decide +kernel) (by decide +kernel)) (mW 5 (by decide +kernel) (by decide +kernel)) ⟨(by decide +kernel), (by decide +kernel), (by decide +kernel)⟩ (by decide) (by decide +kernel)
def mX5_isLetterAt : MI := (yX5_isLetterAt, cX5_isLetterAt, 2, some .boolean, 5, 0, false, 1, [(0, .iload_n 1, 1), (1, .aload_n 0, 1), (2, .getfield 74, 3), (5, .if_icmp .ge 29, 3), (8, .aload_n 0, 1), (9, .getfield 9, 3), (12, .iload_n 1, 1), (13, .iaload, 1), (14, .bipush 97, 2), (16, .if_icmp .lt 18, 3), (19, .aload_n 0, 1), (20, .getfield 9, 3), (23, .iload_n 1, 1), (24, .iaload, 1), (25, .bipush 122, 2), (27, .if_icmp .gt 7, 3), (30, .iconst 1, 1), (31, .goto 4, 3), (34, .iconst 0, 1), (35, .ireturn, 1)])
set_option maxRecDepth 20000 in
theorem oX5_isLetterAt : MOk mX5_isLetterAt := mok_V rfl (by decide +kernel) rfl (mW 328 (by decide +kernel) (by decide +kernel)) (mW 81 (by decide +kernel) (by decide +kernel)) (mW 327 (by decide +kernel) (by decide +kernel)) (mW 3 (by decide +kernel) (by decide +kernel)) ⟨(by decide +kernel), (by decide +kernel), (by decide +kernel)⟩ (by decide) (by decide +kernel)
def mX5_mostOf : MI := (yX5_mostOf, cX5_mostOf, 1, some (.array .int), 5, 0, true, 1, [(0, .iload_n 0, 1), (1, .bipush 119, 2), (3, .if_icmp .ne 7, 3), (6, .getstatic 68, 3), (9, .areturn, 1), (10, .iload_n 0, 1), (11, .bipush 115, 2), (13, .if_icmp .ne 9, 3), (16, .getstatic 13, 3), (19, .goto 6, 3), (22, .getstatic 71, 3), (25, .areturn, 1)])
set_option maxRecDepth 20000 in
theorem oX5_mostOf : MOk mX5_mostOf := mok_S rfl (by decide +kernel) rfl (mW 354 (by decide +kernel) (by decide +kernel)) (mW 81 (by decide +kernel) (by decide +kernel)) (mW 353 (by decide +kernel) (by decide +kernel)) ⟨(by decide +kernel), (by decide +kernel), (by decide +kernel)⟩ (by decide) (by decide +kernel)
def mX5_readInto : MI := (yX5_readInto, cX5_readInto, 3, some .int, 5, 5, false, 1, [(0, .aload_n 1, 1), (1, .invokevirtual 19, 3), (4, .aload_n 0, 1), (5, .iconst 0, 1), (6, .putfield 24, 3), (9, .aload_n 0, 1), (10, .invokevirtual 28, 3), (13, .iconst 0, 1), (14, .istore_n 2, 1), (15, .aload_n 0, 1), (16, .getfield 31, 3), (19, .ifCond .eq 32, 3), (22, .iload_n 2, 1), (23, .sipush 180, 3), (26, .if_icmp .ge 25, 3), (29, .aload_n 0, 1), (30, .aload_n 1, 1), (31, .invokevirtual 34, 3), (34, .ifCond .ne 11, 3), (37, .bipush (-10), 2), (39, .aload_n 0, 1), (40, .getfield 38, 3), (43, .isub, 1), (44, .ireturn, 1), (45, .iinc 2 1, 3), (48, .goto (-33), 3), (51, .iload_n 2, 1), (52, .ireturn, 1)])
set_option maxRecDepth 20000 in
theorem oX5_readInto : MOk mX5_readInto := mok_V rfl (by decide +kernel) rfl (mW 316 (by decide +kernel) (by decide +kernel)) (mW 81 (by decide +kernel) (by decide +kernel)) (mW 315 (by decide +kernel) (by decide +kernel)) (mW 0 (by decide +kernel) (by decide +kernel)) ⟨(by decide +kernel), (by decide +kernel), (by decide +kernel)⟩ (by decide) (by decide +kernel)
def mX5_readItem : MI := (yX5_readItem, cX5_readItem, 3, some .boolean, 5, 4, false, 1, [(0, .aload_n 0, 1), (1, .getfield 31, 3), (4, .iconst 1, 1), (5, .if_icmp .ne 10, 3), (8, .aload_n 0, 1), (9, .getfield 41, 3), (12, .goto 4, 3), (15, .iconst 0, 1), (16, .istore_n 2, 1), (17, .aload_n 1, 1), (18, .iload_n 2, 1), (19, .invokevirtual 44, 3), (22, .ifCond .eq 14, 3), (25, .aload_n 0, 1), (26, .iload_n 2, 1), (27, .invokestatic 48, 3), (30, .invokevirtual 52, 3), (33, .ifCond .ne 5, 3), (36, .iconst 0, 1), (37, .ireturn, 1), (38, .aload_n 0, 1), (39, .invokevirtual 28, 3), (42, .aload_n 0, 1), (43, .getfield 31, 3), (46, .iconst 3, 1), (47, .if_icmp .eq 5, 3), (50, .iconst 0, 1), (51, .ireturn, 1), (52, .iload_n 2, 1), (53, .bipush 119, 2), (55, .if_icmp .ne 22, 3), (58, .aload_n 1, 1), (59, .aload_n 0, 1), (60, .getfield 16, 3), (63, .iconst 0, 1), (64, .iaload, 1), (65, .aload_n 0, 1), (66, .getfield 16, 3), (69, .iconst 1, 1), (70, .iaload, 1), (71, .invokevirtual 56, 3), (74, .goto 50, 3), (77, .iload_n 2, 1), (78, .bipush 115, 2), (80, .if_icmp .ne 34, 3), (83, .aload_n 1, 1), (84, .aload_n 0, 1), (85, .getfield 16, 3), (88, .iconst 0, 1), (89, .iaload, 1), (90, .aload_n 0, 1), (91, .getfield 16, 3), (94, .iconst 1, 1), (95, .iaload, 1), (96, .aload_n 0, 1), (97, .getfield 16, 3), (100, .iconst 2, 1), (101, .iaload, 1), (102, .aload_n 0, 1), (103, .getfield 16, 3), (106, .iconst 3, 1), (107, .iaload, 1), (108, .invokevirtual 60, 3), (111, .goto 13, 3), (114, .aload_n 1, 1), (115, .aload_n 0, 1), (116, .getfield 16, 3), (119, .iconst 0, 1), (120, .iaload, 1), (121, .invokevirtual 64, 3), (124, .aload_n 0, 1), (125, .invokevirtual 28, 3), (128, .iconst 1, 1), (129, .ireturn, 1)])
set_option maxRecDepth 20000 in
theorem oX5_readItem : MOk mX5_readItem := mok_V rfl (by decide +kernel) rfl (mW 347 (by decide +kernel) (by decide +kernel)) (mW 81 (by decide +kernel) (by decide +kernel)) (mW 346 (by decide +kernel) (by decide +kernel)) (mW 7 (by decide +kernel) (by decide +kernel)) ⟨(by decide +kernel), (by decide +kernel), (by decide +kernel)⟩ (by decide) (by decide +kernel)
def mX5_readNumbers : MI := (yX5_readNumbers, cX5_readNumbers, 3, some .boolean, 5, 3, false, 1, [(0, .iconst 0, 1), (1, .istore_n 2, 1), (2, .iload_n 2, 1), (3, .aload_n 1, 1), (4, .arraylength, 1), (5, .if_icmp .ge 52, 3), (8, .iload_n 2, 1), (9, .aload_n 0, 1), (10, .getfield 16, 3), (13, .arraylength, 1), (14, .if_icmp .ge 43, 3), (17, .aload_n 0, 1), (18, .invokevirtual 28, 3), (21, .aload_n 0, 1), (22, .getfield 31, 3), (25, .iconst 2, 1), (26, .if_icmp .ne 13, 3), (29, .aload_n 0, 1), (30, .getfield 41, 3), (33, .aload_n 1, 1), (34, .iload_n 2, 1), (35, .iaload, 1), (36, .if_icmp .le 5, 3), (39, .iconst 0, 1), (40, .ireturn, 1), (41, .aload_n 0, 1), (42, .getfield 16, 3), (45, .iload_n 2, 1), (46, .aload_n 0, 1), (47, .getfield 41, 3), (50, .iastore, 1), (51, .iinc 2 1, 3), (54, .goto (-52), 3), (57, .iconst 1, 1), (58, .ireturn, 1)])
set_option maxRecDepth 20000 in
theorem oX5_readNumbers : MOk mX5_readNumbers := mok_V rfl (by decide +kernel) rfl (mW 362 (by decide +kernel) (by decide +kernel)) (mW 81 (by decide +kernel) (by decide +kernel)) (mW 361 (by decide +kernel) (by decide +kernel)) (mW 9 (by decide +kernel) (by decide +kernel)) ⟨(by decide +kernel), (by decide +kernel), (by decide +kernel)⟩ (by decide) (by decide +kernel)
def mX5_scan : MI := (yX5_scan, cX5_scan, 1, none, 5, 2, false, 0, [(0, .aload_n 0, 1), (1, .getfield 24, 3), (4, .aload_n 0, 1), (5, .getfield 74, 3), (8, .if_icmp .ge 30, 3), (11, .aload_n 0, 1), (12, .getfield 9, 3), (15, .aload_n 0, 1), (16, .getfield 24, 3), (19, .iaload, 1), (20, .bipush 32, 2), (22, .if_icmp .ne 16, 3), (25, .aload_n 0, 1), (26, .dup, 1), (27, .getfield 24, 3), (30, .iconst 1, 1), (31, .iadd, 1), (32, .putfield 24, 3), (35, .goto (-35), 3), (38, .aload_n 0, 1), (39, .aload_n 0, 1), (40, .getfield 24, 3), (43, .putfield 38, 3), (46, .aload_n 0, 1), (47, .getfield 24, 3), (50, .aload_n 0, 1), (51, .getfield 74, 3), (54, .if_icmp .lt 11, 3), (57, .aload_n 0, 1), (58, .iconst 0, 1), (59, .putfield 31, 3), (62, .goto 76, 3), (65, .aload_n 0, 1), (66, .getfield 9, 3), (69, .aload_n 0, 1), (70, .getfield 24, 3), (73, .iaload, 1), (74, .bipush 59, 2), (76, .if_icmp .ne 21, 3), (79, .aload_n 0, 1), (80, .iconst 3, 1), (81, .putfield 31, 3), (84, .aload_n 0, 1), (85, .dup, 1), (86, .getfield 24, 3), (89, .iconst 1, 1), (90, .iadd, 1), (91, .putfield 24, 3), (94, .goto 44, 3), (97, .aload_n 0, 1), (98, .aload_n 0, 1), (99, .getfield 24, 3), (102, .invokevirtual 77, 3), (105, .ifCond .eq 10, 3), (108, .aload_n 0, 1), (109, .invokevirtual 80, 3), (112, .goto 26, 3), (115, .aload_n 0, 1), (116, .aload_n 0, 1), (117, .getfield 24, 3), (120, .invokevirtual 83, 3), (123, .ifCond .eq 10, 3), (126, .aload_n 0, 1), (127, .invokevirtual 86, 3), (130, .goto 8, 3), (133, .aload_n 0, 1), (134, .iconst 4, 1), (135, .putfield 31, 3), (138, .return_, 1)])
set_option maxRecDepth 20000 in
theorem oX5_scan : MOk mX5_scan := mok_V rfl (by decide +kernel) rfl (mW 324 (by decide +kernel) (by decide +kernel)) (mW 81 (by decide +kernel) (by decide +kernel)) (mW 323 (by decide +kernel) (by decide +kernel)) (mW 2 (by decide +kernel) (by decide +kernel)) ⟨(by decide +kernel), (by decide +kernel), (by decide +kernel)⟩ (by decide) (by decide +kernel)
def mX5_scanLetters : MI := (yX5_scanLetters, cX5_scanLetters, 1, none, 5, 1, false, 0, [(0, .aload_n 0, 1), (1, .iconst 1, 1), (2, .putfield 31, 3), (5, .aload_n 0, 1), (6, .getfield 24, 3), (9, .aload_n 0, 1), (10, .getfield 74, 3), (13, .if_icmp .ge 27, 3), (16, .aload_n 0, 1), (17, .aload_n 0, 1), (18, .getfield 24, 3), (21, .invokevirtual 77, 3), (24, .ifCond .eq 16, 3), (27, .aload_n 0, 1), (28, .dup, 1), (29, .getfield 24, 3), (32, .iconst 1, 1), (33, .iadd, 1), (34, .putfield 24, 3), (37, .goto (-32), 3), (40, .aload_n 0, 1), (41, .aload_n 0, 1), (42, .getfield 24, 3), (45, .aload_n 0, 1), (46, .getfield 38, 3), (49, .iconst 1, 1), (50, .iadd, 1), (51, .if_icmp .ne 15, 3), (54, .aload_n 0, 1), (55, .getfield 9, 3), (58, .aload_n 0, 1), (59, .getfield 38, 3), (62, .iaload, 1), (63, .goto 4, 3), (66, .iconst 0, 1), (67, .putfield 41, 3), (70, .return_, 1)])
set_option maxRecDepth 20000 in
theorem oX5_scanLetters : MOk mX5_scanLetters := mok_V rfl (by decide +kernel) rfl (mW 332 (by decide +kernel) (by decide +kernel)) (mW 81 (by decide +kernel) (by decide +kernel)) (mW 331 (by decide +kernel) (by decide +kernel)) (mW 4 (by decide +kernel) (by decide +kernel)) ⟨(by decide +kernel), (by decide +kernel), (by decide +kernel)⟩ (by decide) (by decide +kernel)
def mX5_scanNumber : MI := (yX5_scanNumber, cX5_scanNumber, 2, none, 5, 1, false, 0, [(0, .aload_n 0, 1), (1, .iconst 0, 1), (2, .putfield 41, 3), (5, .aload_n 0, 1), (6, .getfield 24, 3), (9, .aload_n 0, 1), (10, .getfield 74, 3), (13, .if_icmp .ge 56, 3), (16, .aload_n 0, 1), (17, .aload_n 0, 1), (18, .getfield 24, 3), (21, .invokevirtual 83, 3), (24, .ifCond .eq 45, 3), (27, .aload_n 0, 1), (28, .aload_n 0, 1), (29, .getfield 41, 3), (32, .bipush 10, 2), (34, .imul, 1), (35, .aload_n 0, 1), (36, .getfield 9, 3), (39, .aload_n 0, 1), (40, .getfield 24, 3), (43, .iaload, 1), (44, .iadd, 1), (45, .bipush 48, 2), (47, .isub, 1), (48, .bipush 100, 2), (50, .invokestatic 89, 3), (53, .putfield 41, 3), (56, .aload_n 0, 1), (57, .dup, 1), (58, .getfield 24, 3), (61, .iconst 1, 1), (62, .iadd, 1), (63, .putfield 24, 3), (66, .goto (-61), 3), (69, .aload_n 0, 1), (70, .getfield 9, 3), (73, .aload_n 0, 1), (74, .getfield 38, 3), (77, .iaload, 1), (78, .bipush 48, 2), (80, .if_icmp .ne 20, 3), (83, .aload_n 0, 1), (84, .getfield 24, 3), (87, .aload_n 0, 1), (88, .getfield 38, 3), (91, .iconst 1, 1), (92, .iadd, 1), (93, .if_icmp .le 7, 3), (96, .iconst 1, 1), (97, .goto 4, 3), (100, .iconst 0, 1), (101, .istore_n 1, 1), (102, .aload_n 0, 1), (103, .aload_n 0, 1), (104, .getfield 41, 3), (107, .bipush 99, 2), (109, .if_icmp .gt 7, 3), (112, .iload_n 1, 1), (113, .ifCond .eq 7, 3), (116, .iconst 4, 1), (117, .goto 4, 3), (120, .iconst 2, 1), (121, .putfield 31, 3), (124, .return_, 1)])
set_option maxRecDepth 20000 in
theorem oX5_scanNumber : MOk mX5_scanNumber := mok_V rfl (by decide +kernel) rfl (mW 340 (by decide +kernel) (by decide +kernel)) (mW 81 (by decide +kernel) (by decide +kernel)) (mW 339 (by decide +kernel) (by decide +kernel)) (mW 6 (by decide +kernel) (by decide +kernel)) ⟨(by decide +kernel), (by decide +kernel), (by decide +kernel)⟩ (by decide) (by decide +kernel)
def mX6_back : MI := (yX6_back, cX6_back, 3, some .int, 6, 2, false, 1, [(0, .iload_n 1, 1), (1, .invokestatic 209, 3), (4, .ifCond .ne 5, 3), (7, .iconst (-1), 1), (8, .ireturn, 1), (9, .aload_n 0, 1), (10, .iload_n 1, 1), (11, .invokevirtual 212, 3), (14, .astore_n 2, 1), (15, .aload_n 2, 1), (16, .getfield 83, 3), (19, .ifCond .ne 6, 3), (22, .bipush (-2), 2), (24, .ireturn, 1), (25, .aload_n 0, 1), (26, .getfield 29, 3), (29, .aload_n 2, 1), (30, .invokevirtual 216, 3), (33, .aload_n 0, 1), (34, .getfield 29, 3), (37, .invokevirtual 126, 3), (40, .ireturn, 1)])
set_option maxRecDepth 20000 in
theorem oX6_back : MOk mX6_back := mok_V rfl (by decide +kernel) rfl (mW 669 (by decide +kernel) (by decide +kernel)) (mW 80 (by decide +kernel) (by decide +kernel)) (mW 667 (by decide +kernel) (by decide +kernel)) (mW 668 (by decide +kernel) (by decide +kernel)) ⟨(by decide +kernel), (by decide +kernel), (by decide +kernel)⟩ (by decide) (by decide +kernel)
def mX6_canSail : MI := (yX6_canSail, cX6_canSail, 3, some .boolean, 6, 1, false, 1, [(0, .iconst 0, 1), (1, .istore_n 2, 1), (2, .iload_n 2, 1), (3, .aload_n 0, 1), (4, .getfield 19, 3), (7, .getfield 140, 3), (10, .if_icmp .ge 49, 3), (13, .iload_n 2, 1), (14, .iload_n 1, 1), (15, .invokestatic 143, 3), (18, .ifCond .eq 35, 3), (21, .aload_n 0, 1), (22, .getfield 29, 3), (25, .iload_n 2, 1), (26, .invokevirtual 151, 3), (29, .ifCond .eq 22, 3), (32, .aload_n 0, 1), (33, .getfield 29, 3), (36, .invokevirtual 126, 3), (39, .aload_n 0, 1), (40, .getfield 19, 3), (43, .getfield 110, 3), (46, .iload_n 2, 1), (47, .iaload, 1), (48, .if_icmp .ge 5, 3), (51, .iconst 0, 1), (52, .ireturn, 1), (53, .iinc 2 1, 3), (56, .goto (-54), 3), (59, .iconst 1, 1), (60, .ireturn, 1)])
set_option maxRecDepth 20000 in
theorem oX6_canSail : MOk mX6_canSail := mok_V rfl (by decide +kernel) rfl (mW 446 (by decide +kernel) (by decide +kernel)) (mW 80 (by decide +kernel) (by decide +kernel)) (mW 445 (by decide +kernel) (by decide +kernel)) (mW 25 (by decide +kernel) (by decide +kernel)) ⟨(by decide +kernel), (by decide +kernel), (by decide +kernel)⟩ (by decide) (by decide +kernel)
def mX6_clear : MI := (yX6_clear, cX6_clear, 2, some .int, 6, 0, false, 0, [(0, .aload_n 0, 1), (1, .getfield 12, 3), (4, .getfield 64, 3), (7, .istore_n 1, 1), (8, .aload_n 0, 1), (9, .getfield 12, 3), (12, .iconst 0, 1), (13, .putfield 64, 3), (16, .iload_n 1, 1), (17, .ireturn, 1)])
set_option maxRecDepth 20000 in
theorem oX6_clear : MOk mX6_clear := mok_V rfl (by decide +kernel) rfl (mW 308 (by decide +kernel) (by decide +kernel)) (mW 80 (by decide +kernel) (by decide +kernel)) (mW 306 (by decide +kernel) (by decide +kernel)) (mW 307 (by decide +kernel) (by decide +kernel)) ⟨(by decide +kernel), (by decide +kernel), (by decide +kernel)⟩ (by decide) (by decide +kernel)
def mX6_count : MI := (yX6_count, cX6_count, 2, some .int, 6, 0, false, 1, [(0, .iload_n 1, 1), (1, .tableswitch 75 0 4 #[35, 43, 51, 59, 67], 35), (36, .aload_n 0, 1), (37, .getfield 19, 3), (40, .getfield 219, 3), (43, .ireturn, 1), (44, .aload_n 0, 1), (45, .getfield 19, 3), (48, .getfield 140, 3), (51, .ireturn, 1), (52, .aload_n 0, 1), (53, .getfield 19, 3), (56, .getfield 222, 3), (59, .ireturn, 1), (60, .aload_n 0, 1), (61, .getfield 29, 3), (64, .getfield 166, 3), (67, .ireturn, 1), (68, .aload_n 0, 1), (69, .getfield 12, 3), (72, .getfield 64, 3), (75, .ireturn, 1), (76, .iconst (-1), 1), (77, .ireturn, 1)])
set_option maxRecDepth 20000 in
theorem oX6_count : MOk mX6_count := mok_V rfl (by decide +kernel) rfl (mW 673 (by decide +kernel) (by decide +kernel)) (mW 80 (by decide +kernel) (by decide +kernel)) (mW 671 (by decide +kernel) (by decide +kernel)) (mW 672 (by decide +kernel) (by decide +kernel)) ⟨(by decide +kernel), (by decide +kernel), (by decide +kernel)⟩ (by decide) (by decide +kernel)
def mX6_drawOf : MI := (yX6_drawOf, cX6_drawOf, 5, some .int, 6, 0, true, 3, [(0, .ldc2_w 233, 3), (3, .iload_n 2, 1), (4, .i2l, 1), (5, .lmul, 1), (6, .ldc2_w 235, 3), (9, .iload_n 0, 1), (10, .i2l, 1), (11, .lmul, 1), (12, .ladd, 1), (13, .ldc2_w 237, 3), (16, .iload_n 1, 1), (17, .i2l, 1), (18, .lmul, 1), (19, .ladd, 1), (20, .lconst 1, 1), (21, .ladd, 1), (22, .lstore_n 3, 1), (23, .lload_n 3, 1), (24, .lload_n 3, 1), (25, .lmul, 1), (26, .ldc2_w 239, 3), (29, .lrem, 1), (30, .ldc2_w 241, 3), (33, .ldiv, 1), (34, .ldc2_w 243, 3), (37, .lrem, 1), (38, .l2i, 1), (39, .ireturn, 1)])
set_option maxRecDepth 20000 in
theorem oX6_drawOf : MOk mX6_drawOf := mok_S rfl (by decide +kernel) rfl (mW 469 (by decide +kernel) (by decide +kernel)) (mW 80 (by decide +kernel) (by decide +kernel)) (mW 468 (by decide +kernel) (by decide +kernel)) ⟨(by decide +kernel), (by decide +kernel), (by decide +kernel)⟩ (by decide) (by decide +kernel)
def mX6_game : MI := (yX6_game, cX6_game, 5, some .int, 6, 4, false, 4, [(0, .aload_n 0, 1), (1, .getfield 19, 3), (4, .iload_n 1, 1), (5, .invokevirtual 130, 3), (8, .ifCond .eq 38, 3), (11, .aload_n 0, 1), (12, .getfield 19, 3), (15, .iload_n 2, 1), (16, .invokevirtual 87, 3), (19, .ifCond .eq 27, 3), (22, .aload_n 0, 1), (23, .getfield 19, 3), (26, .iload_n 3, 1), (27, .invokevirtual 87, 3), (30, .ifCond .eq 16, 3), (33, .iload_n 2, 1), (34, .iload_n 3, 1), (35, .if_icmp .eq 11, 3), (38, .iload 4, 2), (40, .invokestatic 187, 3), (43, .ifCond .eq 5, 3), (46, .iconst (-1), 1), (47, .ireturn, 1), (48, .aload_n 0, 1), (49, .getfield 44, 3), (52, .iload_n 1, 1), (53, .iload_n 2, 1), (54, .iload_n 3, 1), (55, .invokevirtual 190, 3), (58, .iload 4, 2), (60, .ifCond .ne 13, 3), (63, .aload_n 0, 1), (64, .getfield 44, 3), (67, .getfield 193, 3), (70, .goto 10, 3), (73, .aload_n 0, 1), (74, .getfield 44, 3), (77, .getfield 196, 3), (80, .ireturn, 1)])
set_option maxRecDepth 20000 in
theorem oX6_game : MOk mX6_game := mok_V rfl (by decide +kernel) rfl (mW 568 (by decide +kernel) (by decide +kernel)) (mW 80 (by decide +kernel) (by decide +kernel)) (mW 566 (by decide +kernel) (by decide +kernel)) (mW 567 (by decide +kernel) (by decide +kernel)) ⟨(by decide +kernel), (by decide +kernel), (by decide +kernel)⟩ (by decide) (by decide +kernel)
def mX6_hides : MI := (yX6_hides, cX6_hides, 3, some .int, 6, 2, false, 2, [(0, .aload_n 0, 1), (1, .getfield 19, 3), (4, .iload_n 1, 1), (5, .invokevirtual 97, 3), (8, .ifCond .eq 14, 3), (11, .iload_n 2, 1), (12, .iconst 1, 1), (13, .if_icmp .lt 9, 3), (16, .iload_n 2, 1), (17, .bipush 60, 2), (19, .if_icmp .le 5, 3), (22, .iconst (-1), 1), (23, .ireturn, 1), (24, .aload_n 0, 1), (25, .getfield 29, 3), (28, .iload_n 1, 1), (29, .invokevirtual 151, 3), (32, .ifCond .eq 30, 3), (35, .aload_n 0, 1), (36, .getfield 29, 3), (39, .iload_n 1, 1), (40, .invokevirtual 100, 3), (43, .iload_n 2, 1), (44, .if_icmp .lt 18, 3), (47, .aload_n 0, 1), (48, .getfield 29, 3), (51, .iload_n 1, 1), (52, .invokevirtual 104, 3), (55, .iload_n 2, 1), (56, .iadd, 1), (57, .bipush 60, 2), (59, .if_icmp .le 6, 3), (62, .bipush (-2), 2), (64, .ireturn, 1), (65, .aload_n 0, 1), (66, .getfield 29, 3), (69, .invokevirtual 120, 3), (72, .aload_n 0, 1), (73, .getfield 29, 3), (76, .iload_n 1, 1), (77, .aload_n 0, 1), (78, .getfield 29, 3), (81, .iload_n 1, 1), (82, .invokevirtual 100, 3), (85, .iload_n 2, 1), (86, .isub, 1), (87, .aload_n 0, 1), (88, .getfield 29, 3), (91, .iload_n 1, 1), (92, .invokevirtual 104, 3), (95, .iload_n 2, 1), (96, .iadd, 1), (97, .invokevirtual 154, 3), (100, .aload_n 0, 1), (101, .getfield 29, 3), (104, .iload_n 1, 1), (105, .invokevirtual 104, 3), (108, .ireturn, 1)])
set_option maxRecDepth 20000 in
theorem oX6_hides : MOk mX6_hides := mok_V rfl (by decide +kernel) rfl (mW 485 (by decide +kernel) (by decide +kernel)) (mW 80 (by decide +kernel) (by decide +kernel)) (mW 483 (by decide +kernel) (by decide +kernel)) (mW 484 (by decide +kernel) (by decide +kernel)) ⟨(by decide +kernel), (by decide +kernel), (by decide +kernel)⟩ (by decide) (by decide +kernel)
def mX6_imageOf : MI := (yX6_imageOf, cX6_imageOf, 2, some (.object "SilverFleets$Log"), 6, 0, false, 1, [(0, .iload_n 1, 1), (1, .ifCond .ne 10, 3), (4, .aload_n 0, 1), (5, .getfield 33, 3), (8, .goto 7, 3), (11, .aload_n 0, 1), (12, .getfield 36, 3), (15, .areturn, 1)])
set_option maxRecDepth 20000 in
theorem oX6_imageOf : MOk mX6_imageOf := mok_V rfl (by decide +kernel) rfl (mW 661 (by decide +kernel) (by decide +kernel)) (mW 80 (by decide +kernel) (by decide +kernel)) (mW 660 (by decide +kernel) (by decide +kernel)) (mW 54 (by decide +kernel) (by decide +kernel)) ⟨(by decide +kernel), (by decide +kernel), (by decide +kernel)⟩ (by decide) (by decide +kernel)
def mX6_isImage : MI := (yX6_isImage, cX6_isImage, 1, some .boolean, 6, 0, true, 1, [(0, .iload_n 0, 1), (1, .ifCond .eq 8, 3), (4, .iload_n 0, 1), (5, .iconst 1, 1), (6, .if_icmp .ne 7, 3), (9, .iconst 1, 1), (10, .goto 4, 3), (13, .iconst 0, 1), (14, .ireturn, 1)])
set_option maxRecDepth 20000 in
theorem oX6_isImage : MOk mX6_isImage := mok_S rfl (by decide +kernel) rfl (mW 657 (by decide +kernel) (by decide +kernel)) (mW 80 (by decide +kernel) (by decide +kernel)) (mW 656 (by decide +kernel) (by decide +kernel)) ⟨(by decide +kernel), (by decide +kernel), (by decide +kernel)⟩ (by decide) (by decide +kernel)
def mX6_isIn : MI := (yX6_isIn, cX6_isIn, 2, some .boolean, 6, 0, true, 2, [(0, .iload_n 1, 1), (1, .iload_n 0, 1), (2, .ishr, 1), (3, .iconst 1, 1), (4, .iand, 1), (5, .iconst 1, 1), (6, .if_icmp .ne 7, 3), (9, .iconst 1, 1), (10, .goto 4, 3), (13, .iconst 0, 1), (14, .ireturn, 1)])
set_option maxRecDepth 20000 in
theorem oX6_isIn : MOk mX6_isIn := mok_S rfl (by decide +kernel) rfl (mW 449 (by decide +kernel) (by decide +kernel)) (mW 80 (by decide +kernel) (by decide +kernel)) (mW 448 (by decide +kernel) (by decide +kernel)) ⟨(by decide +kernel), (by decide +kernel), (by decide +kernel)⟩ (by decide) (by decide +kernel)
def mX6_isNoHalf : MI := (yX6_isNoHalf, cX6_isNoHalf, 1, some .boolean, 6, 0, true, 1, [(0, .iload_n 0, 1), (1, .ifCond .eq 12, 3), (4, .iload_n 0, 1), (5, .iconst 1, 1), (6, .if_icmp .eq 7, 3), (9, .iconst 1, 1), (10, .goto 4, 3), (13, .iconst 0, 1), (14, .ireturn, 1)])
set_option maxRecDepth 20000 in
theorem oX6_isNoHalf : MOk mX6_isNoHalf := mok_S rfl (by decide +kernel) rfl (mW 571 (by decide +kernel) (by decide +kernel)) (mW 80 (by decide +kernel) (by decide +kernel)) (mW 570 (by decide +kernel) (by decide +kernel)) ⟨(by decide +kernel), (by decide +kernel), (by decide +kernel)⟩ (by decide) (by decide +kernel)
def mX6_isOver : MI := (yX6_isOver, cX6_isOver, 1, some .boolean, 6, 1, false, 0, [(0, .aload_n 0, 1), (1, .getfield 29, 3), (4, .invokevirtual 126, 3), (7, .aload_n 0, 1), (8, .getfield 19, 3), (11, .getfield 219, 3), (14, .if_icmp .lt 7, 3), (17, .iconst 1, 1), (18, .goto 4, 3), (21, .iconst 0, 1), (22, .ireturn, 1)])
set_option maxRecDepth 20000 in
theorem oX6_isOver : MOk mX6_isOver := mok_V rfl (by decide +kernel) rfl (mW 425 (by decide +kernel) (by decide +kernel)) (mW 80 (by decide +kernel) (by decide +kernel)) (mW 424 (by decide +kernel) (by decide +kernel)) (mW 21 (by decide +kernel) (by decide +kernel)) ⟨(by decide +kernel), (by decide +kernel), (by decide +kernel)⟩ (by decide) (by decide +kernel)
def mX6_keep : MI := (yX6_keep, cX6_keep, 3, some .int, 6, 2, false, 1, [(0, .iload_n 1, 1), (1, .invokestatic 209, 3), (4, .ifCond .ne 5, 3), (7, .iconst (-1), 1), (8, .ireturn, 1), (9, .aload_n 0, 1), (10, .iload_n 1, 1), (11, .invokevirtual 212, 3), (14, .astore_n 2, 1), (15, .aload_n 2, 1), (16, .aload_n 0, 1), (17, .getfield 29, 3), (20, .invokevirtual 216, 3), (23, .aload_n 2, 1), (24, .iconst 1, 1), (25, .putfield 83, 3), (28, .aload_n 0, 1), (29, .getfield 29, 3), (32, .invokevirtual 126, 3), (35, .ireturn, 1)])
set_option maxRecDepth 20000 in
theorem oX6_keep : MOk mX6_keep := mok_V rfl (by decide +kernel) rfl (mW 654 (by decide +kernel) (by decide +kernel)) (mW 80 (by decide +kernel) (by decide +kernel)) (mW 652 (by decide +kernel) (by decide +kernel)) (mW 653 (by decide +kernel) (by decide +kernel)) ⟨(by decide +kernel), (by decide +kernel), (by decide +kernel)⟩ (by decide) (by decide +kernel)
def mX6_late : MI := (yX6_late, cX6_late, 1, some .int, 6, 6, false, 0, [(0, .aload_n 0, 1), (1, .getfield 53, 3), (4, .aload_n 0, 1), (5, .getfield 29, 3), (8, .invokevirtual 126, 3), (11, .iconst 1, 1), (12, .iadd, 1), (13, .invokevirtual 181, 3), (16, .ireturn, 1)])
set_option maxRecDepth 20000 in
theorem oX6_late : MOk mX6_late := mok_V rfl (by decide +kernel) rfl (mW 564 (by decide +kernel) (by decide +kernel)) (mW 80 (by decide +kernel) (by decide +kernel)) (mW 562 (by decide +kernel) (by decide +kernel)) (mW 563 (by decide +kernel) (by decide +kernel)) ⟨(by decide +kernel), (by decide +kernel), (by decide +kernel)⟩ (by decide) (by decide +kernel)
def mX6_lists : MI := (yX6_lists, cX6_lists, 3, some .int, 6, 2, false, 2, [(0, .aload_n 0, 1), (1, .getfield 19, 3), (4, .iload_n 1, 1), (5, .invokevirtual 97, 3), (8, .ifCond .eq 14, 3), (11, .iload_n 2, 1), (12, .iconst 1, 1), (13, .if_icmp .lt 9, 3), (16, .iload_n 2, 1), (17, .bipush 60, 2), (19, .if_icmp .le 5, 3), (22, .iconst (-1), 1), (23, .ireturn, 1), (24, .aload_n 0, 1), (25, .getfield 29, 3), (28, .iload_n 1, 1), (29, .invokevirtual 151, 3), (32, .ifCond .eq 30, 3), (35, .aload_n 0, 1), (36, .getfield 29, 3), (39, .iload_n 1, 1), (40, .invokevirtual 104, 3), (43, .iload_n 2, 1), (44, .if_icmp .lt 18, 3), (47, .aload_n 0, 1), (48, .getfield 29, 3), (51, .iload_n 1, 1), (52, .invokevirtual 100, 3), (55, .iload_n 2, 1), (56, .iadd, 1), (57, .bipush 60, 2), (59, .if_icmp .le 6, 3), (62, .bipush (-2), 2), (64, .ireturn, 1), (65, .aload_n 0, 1), (66, .getfield 29, 3), (69, .invokevirtual 120, 3), (72, .aload_n 0, 1), (73, .getfield 29, 3), (76, .iload_n 1, 1), (77, .aload_n 0, 1), (78, .getfield 29, 3), (81, .iload_n 1, 1), (82, .invokevirtual 100, 3), (85, .iload_n 2, 1), (86, .iadd, 1), (87, .aload_n 0, 1), (88, .getfield 29, 3), (91, .iload_n 1, 1), (92, .invokevirtual 104, 3), (95, .iload_n 2, 1), (96, .isub, 1), (97, .invokevirtual 154, 3), (100, .aload_n 0, 1), (101, .getfield 29, 3), (104, .iload_n 1, 1), (105, .invokevirtual 100, 3), (108, .ireturn, 1)])
set_option maxRecDepth 20000 in
theorem oX6_lists : MOk mX6_lists := mok_V rfl (by decide +kernel) rfl (mW 480 (by decide +kernel) (by decide +kernel)) (mW 80 (by decide +kernel) (by decide +kernel)) (mW 478 (by decide +kernel) (by decide +kernel)) (mW 479 (by decide +kernel) (by decide +kernel)) ⟨(by decide +kernel), (by decide +kernel), (by decide +kernel)⟩ (by decide) (by decide +kernel)
def mX6_mark : MI := (yX6_mark, cX6_mark, 3, some .int, 6, 5, false, 2, [(0, .iload_n 1, 1), (1, .ifCond .lt 19, 3), (4, .iload_n 1, 1), (5, .iconst 5, 1), (6, .if_icmp .gt 14, 3), (9, .aload_n 0, 1), (10, .getfield 19, 3), (13, .iload_n 2, 1), (14, .invokevirtual 97, 3), (17, .ifCond .ne 6, 3), (20, .ldc 205, 2), (22, .ireturn, 1), (23, .aload_n 0, 1), (24, .getfield 60, 3), (27, .iload_n 1, 1), (28, .iload_n 2, 1), (29, .invokevirtual 206, 3), (32, .ireturn, 1)])
set_option maxRecDepth 20000 in
theorem oX6_mark : MOk mX6_mark := mok_V rfl (by decide +kernel) rfl (mW 613 (by decide +kernel) (by decide +kernel)) (mW 80 (by decide +kernel) (by decide +kernel)) (mW 611 (by decide +kernel) (by decide +kernel)) (mW 612 (by decide +kernel) (by decide +kernel)) ⟨(by decide +kernel), (by decide +kernel), (by decide +kernel)⟩ (by decide) (by decide +kernel)
def mX6_now : MI := (yX6_now, cX6_now, 2, some .int, 6, 2, false, 1, [(0, .iload_n 1, 1), (1, .tableswitch 96 0 5 #[39, 47, 55, 65, 75, 88], 39), (40, .aload_n 0, 1), (41, .getfield 29, 3), (44, .invokevirtual 126, 3), (47, .ireturn, 1), (48, .aload_n 0, 1), (49, .getfield 44, 3), (52, .invokevirtual 172, 3), (55, .ireturn, 1), (56, .aload_n 0, 1), (57, .getfield 29, 3), (60, .getfield 123, 3), (63, .iconst 1, 1), (64, .iaload, 1), (65, .ireturn, 1), (66, .aload_n 0, 1), (67, .getfield 29, 3), (70, .getfield 123, 3), (73, .iconst 2, 1), (74, .iaload, 1), (75, .ireturn, 1), (76, .aload_n 0, 1), (77, .invokevirtual 116, 3), (80, .ifCond .eq 7, 3), (83, .iconst 1, 1), (84, .goto 4, 3), (87, .iconst 0, 1), (88, .ireturn, 1), (89, .aload_n 0, 1), (90, .getfield 44, 3), (93, .invokevirtual 175, 3), (96, .ireturn, 1), (97, .iconst (-1), 1), (98, .ireturn, 1)])
set_option maxRecDepth 20000 in
theorem oX6_now : MOk mX6_now := mok_V rfl (by decide +kernel) rfl (mW 506 (by decide +kernel) (by decide +kernel)) (mW 80 (by decide +kernel) (by decide +kernel)) (mW 504 (by decide +kernel) (by decide +kernel)) (mW 505 (by decide +kernel) (by decide +kernel)) ⟨(by decide +kernel), (by decide +kernel), (by decide +kernel)⟩ (by decide) (by decide +kernel)
def mX6_odds : MI := (yX6_odds, cX6_odds, 5, some .int, 6, 3, false, 4, [(0, .iload_n 1, 1), (1, .ifCond .eq 42, 3), (4, .aload_n 0, 1), (5, .getfield 19, 3), (8, .iload_n 1, 1), (9, .invokevirtual 130, 3), (12, .ifCond .eq 31, 3), (15, .aload_n 0, 1), (16, .getfield 19, 3), (19, .iload_n 2, 1), (20, .invokevirtual 87, 3), (23, .ifCond .eq 20, 3), (26, .iload_n 3, 1), (27, .ifCond .lt 16, 3), (30, .iload_n 3, 1), (31, .iconst 5, 1), (32, .if_icmp .gt 11, 3), (35, .iload 4, 2), (37, .invokestatic 187, 3), (40, .ifCond .eq 5, 3), (43, .iconst (-1), 1), (44, .ireturn, 1), (45, .aload_n 0, 1), (46, .getfield 44, 3), (49, .iload_n 1, 1), (50, .iload_n 2, 1), (51, .iload_n 3, 1), (52, .invokevirtual 199, 3), (55, .iload 4, 2), (57, .ifCond .ne 13, 3), (60, .aload_n 0, 1), (61, .getfield 44, 3), (64, .getfield 193, 3), (67, .goto 10, 3), (70, .aload_n 0, 1), (71, .getfield 44, 3), (74, .getfield 196, 3), (77, .ireturn, 1)])
set_option maxRecDepth 20000 in
theorem oX6_odds : MOk mX6_odds := mok_V rfl (by decide +kernel) rfl (mW 588 (by decide +kernel) (by decide +kernel)) (mW 80 (by decide +kernel) (by decide +kernel)) (mW 586 (by decide +kernel) (by decide +kernel)) (mW 587 (by decide +kernel) (by decide +kernel)) ⟨(by decide +kernel), (by decide +kernel), (by decide +kernel)⟩ (by decide) (by decide +kernel)
def mX6_plan : MI := (yX6_plan, cX6_plan, 2, some .int, 6, 6, false, 1, [(0, .iload_n 1, 1), (1, .iconst (-1), 1), (2, .if_icmp .ne 18, 3), (5, .aload_n 0, 1), (6, .getfield 53, 3), (9, .aload_n 0, 1), (10, .getfield 29, 3), (13, .invokevirtual 126, 3), (16, .invokevirtual 181, 3), (19, .ireturn, 1), (20, .aload_n 0, 1), (21, .getfield 19, 3), (24, .iload_n 1, 1), (25, .invokevirtual 87, 3), (28, .ifCond .eq 14, 3), (31, .iload_n 1, 1), (32, .aload_n 0, 1), (33, .getfield 29, 3), (36, .invokevirtual 126, 3), (39, .if_icmp .ge 5, 3), (42, .iconst (-1), 1), (43, .ireturn, 1), (44, .aload_n 0, 1), (45, .getfield 53, 3), (48, .iload_n 1, 1), (49, .invokevirtual 184, 3), (52, .ireturn, 1)])
set_option maxRecDepth 20000 in
theorem oX6_plan : MOk mX6_plan := mok_V rfl (by decide +kernel) rfl (mW 533 (by decide +kernel) (by decide +kernel)) (mW 80 (by decide +kernel) (by decide +kernel)) (mW 531 (by decide +kernel) (by decide +kernel)) (mW 532 (by decide +kernel) (by decide +kernel)) ⟨(by decide +kernel), (by decide +kernel), (by decide +kernel)⟩ (by decide) (by decide +kernel)
def mX6_raises : MI := (yX6_raises, cX6_raises, 3, some .int, 6, 2, false, 1, [(0, .aload_n 0, 1), (1, .getfield 19, 3), (4, .iload_n 1, 1), (5, .invokevirtual 97, 3), (8, .ifCond .ne 5, 3), (11, .iconst (-1), 1), (12, .ireturn, 1), (13, .aload_n 0, 1), (14, .getfield 29, 3), (17, .iload_n 1, 1), (18, .invokevirtual 113, 3), (21, .iconst 3, 1), (22, .if_icmp .eq 6, 3), (25, .bipush (-2), 2), (27, .ireturn, 1), (28, .aload_n 0, 1), (29, .getfield 29, 3), (32, .invokevirtual 120, 3), (35, .aload_n 0, 1), (36, .getfield 29, 3), (39, .iload_n 1, 1), (40, .invokevirtual 158, 3), (43, .iconst 2, 1), (44, .idiv, 1), (45, .istore_n 2, 1), (46, .aload_n 0, 1), (47, .getfield 29, 3), (50, .getfield 123, 3), (53, .iconst 1, 1), (54, .dup2, 1), (55, .iaload, 1), (56, .iload_n 2, 1), (57, .iadd, 1), (58, .iastore, 1), (59, .aload_n 0, 1), (60, .getfield 29, 3), (63, .getfield 123, 3), (66, .iconst 3, 1), (67, .iload_n 1, 1), (68, .iadd, 1), (69, .iconst 4, 1), (70, .iastore, 1), (71, .aload_n 0, 1), (72, .getfield 29, 3), (75, .iload_n 1, 1), (76, .iconst 0, 1), (77, .iconst 0, 1), (78, .invokevirtual 154, 3), (81, .iload_n 2, 1), (82, .ireturn, 1)])
set_option maxRecDepth 20000 in
theorem oX6_raises : MOk mX6_raises := mok_V rfl (by decide +kernel) rfl (mW 494 (by decide +kernel) (by decide +kernel)) (mW 80 (by decide +kernel) (by decide +kernel)) (mW 492 (by decide +kernel) (by decide +kernel)) (mW 493 (by decide +kernel) (by decide +kernel)) ⟨(by decide +kernel), (by decide +kernel), (by decide +kernel)⟩ (by decide) (by decide +kernel)
def mX6_register : MI := (yX6_register, cX6_register, 7, some .int, 6, 2, false, 2, [(0, .iload_n 1, 1), (1, .ifCond .lt 19, 3), (4, .iload_n 1, 1), (5, .sipush 300, 3), (8, .if_icmp .gt 12, 3), (11, .iload_n 2, 1), (12, .ifCond .lt 8, 3), (15, .iload_n 2, 1), (16, .iconst 2, 1), (17, .if_icmp .le 5, 3), (20, .iconst (-1), 1), (21, .ireturn, 1), (22, .iconst 0, 1), (23, .istore_n 3, 1), (24, .bipush 31, 2), (26, .istore 4, 2), (28, .iconst 0, 1), (29, .istore 5, 2), (31, .iconst 0, 1), (32, .istore 6, 2), (34, .iload 6, 2), (36, .bipush 32, 2), (38, .if_icmp .ge 51, 3), (41, .aload_n 0, 1), (42, .getfield 19, 3), (45, .iload 6, 2), (47, .invokevirtual 130, 3), (50, .ifCond .eq 39, 3), (53, .aload_n 0, 1), (54, .getfield 44, 3), (57, .iload 6, 2), (59, .invokevirtual 202, 3), (62, .iload_n 1, 1), (63, .if_icmp .ne 20, 3), (66, .iinc 3 1, 3), (69, .iload 4, 2), (71, .iload 6, 2), (73, .iand, 1), (74, .istore 4, 2), (76, .iload 5, 2), (78, .iload 6, 2), (80, .ior, 1), (81, .istore 5, 2), (83, .iinc 6 1, 3), (86, .goto (-52), 3), (89, .iload_n 2, 1), (90, .ifCond .ne 5, 3), (93, .iload_n 3, 1), (94, .ireturn, 1), (95, .iload_n 2, 1), (96, .iconst 2, 1), (97, .if_icmp .ne 6, 3), (100, .iload 5, 2), (102, .ireturn, 1), (103, .iload_n 3, 1), (104, .ifCond .ne 8, 3), (107, .bipush (-9), 2), (109, .goto 5, 3), (112, .iload 4, 2), (114, .ireturn, 1)])
set_option maxRecDepth 20000 in
theorem oX6_register : MOk mX6_register := mok_V rfl (by decide +kernel) rfl (mW 604 (by decide +kernel) (by decide +kernel)) (mW 80 (by decide +kernel) (by decide +kernel)) (mW 602 (by decide +kernel) (by decide +kernel)) (mW 603 (by decide +kernel) (by decide +kernel)) ⟨(by decide +kernel), (by decide +kernel), (by decide +kernel)⟩ (by decide) (by decide +kernel)
def mX6_sailOne : MI := (yX6_sailOne, cX6_sailOne, 5, some .int, 6, 1, false, 3, [(0, .aload_n 0, 1), (1, .getfield 29, 3), (4, .invokevirtual 126, 3), (7, .istore 4, 2), (9, .iload_n 2, 1), (10, .ifCond .eq 17, 3), (13, .aload_n 0, 1), (14, .getfield 29, 3), (17, .getfield 123, 3), (20, .iconst 3, 1), (21, .iload_n 1, 1), (22, .iadd, 1), (23, .iconst 2, 1), (24, .iastore, 1), (25, .iconst 0, 1), (26, .ireturn, 1), (27, .iload_n 1, 1), (28, .iload 4, 2), (30, .iload_n 3, 1), (31, .invokestatic 229, 3), (34, .aload_n 0, 1), (35, .getfield 19, 3), (38, .getfield 91, 3), (41, .iload 4, 2), (43, .iaload, 1), (44, .if_icmp .ge 17, 3), (47, .aload_n 0, 1), (48, .getfield 29, 3), (51, .getfield 123, 3), (54, .iconst 3, 1), (55, .iload_n 1, 1), (56, .iadd, 1), (57, .iconst 3, 1), (58, .iastore, 1), (59, .iconst 0, 1), (60, .ireturn, 1), (61, .aload_n 0, 1), (62, .getfield 29, 3), (65, .getfield 123, 3), (68, .iconst 3, 1), (69, .iload_n 1, 1), (70, .iadd, 1), (71, .iconst 1, 1), (72, .iastore, 1), (73, .aload_n 0, 1), (74, .getfield 29, 3), (77, .getfield 123, 3), (80, .iconst 1, 1), (81, .dup2, 1), (82, .iaload, 1), (83, .aload_n 0, 1), (84, .getfield 29, 3), (87, .iload_n 1, 1), (88, .invokevirtual 158, 3), (91, .iadd, 1), (92, .iastore, 1), (93, .aload_n 0, 1), (94, .getfield 29, 3), (97, .getfield 123, 3), (100, .iconst 2, 1), (101, .dup2, 1), (102, .iaload, 1), (103, .aload_n 0, 1), (104, .getfield 19, 3), (107, .getfield 222, 3), (110, .aload_n 0, 1), (111, .getfield 29, 3), (114, .iload_n 1, 1), (115, .invokevirtual 100, 3), (118, .imul, 1), (119, .bipush 10, 2), (121, .idiv, 1), (122, .iadd, 1), (123, .iastore, 1), (124, .iconst 1, 1), (125, .ireturn, 1)])
set_option maxRecDepth 20000 in
theorem oX6_sailOne : MOk mX6_sailOne := mok_V rfl (by decide +kernel) rfl (mW 466 (by decide +kernel) (by decide +kernel)) (mW 80 (by decide +kernel) (by decide +kernel)) (mW 465 (by decide +kernel) (by decide +kernel)) (mW 29 (by decide +kernel) (by decide +kernel)) ⟨(by decide +kernel), (by decide +kernel), (by decide +kernel)⟩ (by decide) (by decide +kernel)
def mX6_sails : MI := (yX6_sails, cX6_sails, 6, some .int, 6, 2, false, 2, [(0, .iload_n 1, 1), (1, .ifCond .eq 25, 3), (4, .aload_n 0, 1), (5, .getfield 19, 3), (8, .iload_n 1, 1), (9, .invokevirtual 130, 3), (12, .ifCond .eq 14, 3), (15, .iload_n 2, 1), (16, .ifCond .lt 10, 3), (19, .iload_n 2, 1), (20, .sipush 9999, 3), (23, .if_icmp .le 5, 3), (26, .iconst (-1), 1), (27, .ireturn, 1), (28, .aload_n 0, 1), (29, .invokevirtual 116, 3), (32, .ifCond .ne 11, 3), (35, .aload_n 0, 1), (36, .iload_n 1, 1), (37, .invokevirtual 133, 3), (40, .ifCond .ne 6, 3), (43, .bipush (-2), 2), (45, .ireturn, 1), (46, .aload_n 0, 1), (47, .getfield 29, 3), (50, .invokevirtual 120, 3), (53, .aload_n 0, 1), (54, .getfield 44, 3), (57, .iload_n 1, 1), (58, .aload_n 0, 1), (59, .getfield 29, 3), (62, .invokevirtual 126, 3), (65, .invokevirtual 136, 3), (68, .istore_n 3, 1), (69, .iconst 0, 1), (70, .istore 4, 2), (72, .iconst 0, 1), (73, .istore 5, 2), (75, .iload 5, 2), (77, .aload_n 0, 1), (78, .getfield 19, 3), (81, .getfield 140, 3), (84, .if_icmp .ge 41, 3), (87, .iload 5, 2), (89, .iload_n 1, 1), (90, .invokestatic 143, 3), (93, .ifCond .eq 26, 3), (96, .iload 4, 2), (98, .aload_n 0, 1), (99, .iload 5, 2), (101, .iload 5, 2), (103, .iload_n 3, 1), (104, .if_icmp .ne 7, 3), (107, .iconst 1, 1), (108, .goto 4, 3), (111, .iconst 0, 1), (112, .iload_n 2, 1), (113, .invokevirtual 147, 3), (116, .iadd, 1), (117, .istore 4, 2), (119, .iinc 5 1, 3), (122, .goto (-47), 3), (125, .iload 4, 2), (127, .ireturn, 1)])
set_option maxRecDepth 20000 in
theorem oX6_sails : MOk mX6_sails := mok_V rfl (by decide +kernel) rfl (mW 438 (by decide +kernel) (by decide +kernel)) (mW 80 (by decide +kernel) (by decide +kernel)) (mW 436 (by decide +kernel) (by decide +kernel)) (mW 437 (by decide +kernel) (by decide +kernel)) ⟨(by decide +kernel), (by decide +kernel), (by decide +kernel)⟩ (by decide) (by decide +kernel)
def mX6_season : MI := (yX6_season, cX6_season, 2, some .int, 6, 6, false, 0, [(0, .aload_n 0, 1), (1, .getfield 12, 3), (4, .aload_n 0, 1), (5, .getfield 23, 3), (8, .invokevirtual 72, 3), (11, .istore_n 1, 1), (12, .iload_n 1, 1), (13, .ifCond .ge 5, 3), (16, .iload_n 1, 1), (17, .ireturn, 1), (18, .aload_n 0, 1), (19, .getfield 12, 3), (22, .iconst 0, 1), (23, .putfield 64, 3), (26, .aload_n 0, 1), (27, .getfield 19, 3), (30, .aload_n 0, 1), (31, .getfield 23, 3), (34, .invokevirtual 76, 3), (37, .aload_n 0, 1), (38, .getfield 29, 3), (41, .aload_n 0, 1), (42, .getfield 19, 3), (45, .invokevirtual 80, 3), (48, .aload_n 0, 1), (49, .getfield 33, 3), (52, .iconst 0, 1), (53, .putfield 83, 3), (56, .aload_n 0, 1), (57, .getfield 36, 3), (60, .iconst 0, 1), (61, .putfield 83, 3), (64, .iload_n 1, 1), (65, .ireturn, 1)])
set_option maxRecDepth 20000 in
theorem oX6_season : MOk mX6_season := mok_V rfl (by decide +kernel) rfl (mW 312 (by decide +kernel) (by decide +kernel)) (mW 80 (by decide +kernel) (by decide +kernel)) (mW 310 (by decide +kernel) (by decide +kernel)) (mW 311 (by decide +kernel) (by decide +kernel)) ⟨(by decide +kernel), (by decide +kernel), (by decide +kernel)⟩ (by decide) (by decide +kernel)
def mX6_ship : MI := (yX6_ship, cX6_ship, 3, some .int, 6, 1, false, 2, [(0, .aload_n 0, 1), (1, .getfield 19, 3), (4, .iload_n 1, 1), (5, .invokevirtual 97, 3), (8, .ifCond .ne 5, 3), (11, .iconst (-1), 1), (12, .ireturn, 1), (13, .iload_n 2, 1), (14, .tableswitch 81 0 4 #[34, 43, 52, 62, 72], 34), (48, .aload_n 0, 1), (49, .getfield 29, 3), (52, .iload_n 1, 1), (53, .invokevirtual 100, 3), (56, .ireturn, 1), (57, .aload_n 0, 1), (58, .getfield 29, 3), (61, .iload_n 1, 1), (62, .invokevirtual 104, 3), (65, .ireturn, 1), (66, .aload_n 0, 1), (67, .getfield 19, 3), (70, .getfield 107, 3), (73, .iload_n 1, 1), (74, .iaload, 1), (75, .ireturn, 1), (76, .aload_n 0, 1), (77, .getfield 19, 3), (80, .getfield 110, 3), (83, .iload_n 1, 1), (84, .iaload, 1), (85, .ireturn, 1), (86, .aload_n 0, 1), (87, .getfield 29, 3), (90, .iload_n 1, 1), (91, .invokevirtual 113, 3), (94, .ireturn, 1), (95, .iconst (-1), 1), (96, .ireturn, 1)])
set_option maxRecDepth 20000 in
theorem oX6_ship : MOk mX6_ship := mok_V rfl (by decide +kernel) rfl (mW 401 (by decide +kernel) (by decide +kernel)) (mW 80 (by decide +kernel) (by decide +kernel)) (mW 399 (by decide +kernel) (by decide +kernel)) (mW 400 (by decide +kernel) (by decide +kernel)) ⟨(by decide +kernel), (by decide +kernel), (by decide +kernel)⟩ (by decide) (by decide +kernel)
def mX6_throwsOff : MI := (yX6_throwsOff, cX6_throwsOff, 4, some .int, 6, 2, false, 2, [(0, .aload_n 0, 1), (1, .getfield 19, 3), (4, .iload_n 1, 1), (5, .invokevirtual 97, 3), (8, .ifCond .eq 14, 3), (11, .iload_n 2, 1), (12, .iconst 1, 1), (13, .if_icmp .lt 9, 3), (16, .iload_n 2, 1), (17, .bipush 99, 2), (19, .if_icmp .le 5, 3), (22, .iconst (-1), 1), (23, .ireturn, 1), (24, .aload_n 0, 1), (25, .getfield 29, 3), (28, .iload_n 1, 1), (29, .invokevirtual 151, 3), (32, .ifCond .eq 15, 3), (35, .aload_n 0, 1), (36, .getfield 29, 3), (39, .iload_n 1, 1), (40, .invokevirtual 158, 3), (43, .iload_n 2, 1), (44, .if_icmp .ge 6, 3), (47, .bipush (-2), 2), (49, .ireturn, 1), (50, .aload_n 0, 1), (51, .getfield 29, 3), (54, .invokevirtual 120, 3), (57, .iload_n 2, 1), (58, .aload_n 0, 1), (59, .getfield 29, 3), (62, .iload_n 1, 1), (63, .invokevirtual 104, 3), (66, .invokestatic 161, 3), (69, .istore_n 3, 1), (70, .aload_n 0, 1), (71, .getfield 29, 3), (74, .iload_n 1, 1), (75, .aload_n 0, 1), (76, .getfield 29, 3), (79, .iload_n 1, 1), (80, .invokevirtual 100, 3), (83, .iload_n 2, 1), (84, .iload_n 3, 1), (85, .isub, 1), (86, .isub, 1), (87, .aload_n 0, 1), (88, .getfield 29, 3), (91, .iload_n 1, 1), (92, .invokevirtual 104, 3), (95, .iload_n 3, 1), (96, .isub, 1), (97, .invokevirtual 154, 3), (100, .aload_n 0, 1), (101, .getfield 29, 3), (104, .iload_n 1, 1), (105, .invokevirtual 158, 3), (108, .ireturn, 1)])
set_option maxRecDepth 20000 in
theorem oX6_throwsOff : MOk mX6_throwsOff := mok_V rfl (by decide +kernel) rfl (mW 489 (by decide +kernel) (by decide +kernel)) (mW 80 (by decide +kernel) (by decide +kernel)) (mW 487 (by decide +kernel) (by decide +kernel)) (mW 488 (by decide +kernel) (by decide +kernel)) ⟨(by decide +kernel), (by decide +kernel), (by decide +kernel)⟩ (by decide) (by decide +kernel)
def mX6_trace : MI := (yX6_trace, cX6_trace, 1, some .long, 6, 0, false, 0, [(0, .aload_n 0, 1), (1, .getfield 60, 3), (4, .getfield 225, 3), (7, .lreturn, 1)])
set_option maxRecDepth 20000 in
theorem oX6_trace : MOk mX6_trace := mok_V rfl (by decide +kernel) rfl (mW 677 (by decide +kernel) (by decide +kernel)) (mW 80 (by decide +kernel) (by decide +kernel)) (mW 675 (by decide +kernel) (by decide +kernel)) (mW 676 (by decide +kernel) (by decide +kernel)) ⟨(by decide +kernel), (by decide +kernel), (by decide +kernel)⟩ (by decide) (by decide +kernel)
def mX6_type : MI := (yX6_type, cX6_type, 2, some .int, 6, 0, false, 1, [(0, .iload_n 1, 1), (1, .ifCond .lt 10, 3), (4, .iload_n 1, 1), (5, .sipush 255, 3), (8, .if_icmp .le 5, 3), (11, .iconst (-1), 1), (12, .ireturn, 1), (13, .aload_n 0, 1), (14, .getfield 12, 3), (17, .getfield 64, 3), (20, .sipush 180, 3), (23, .if_icmp .lt 6, 3), (26, .bipush (-3), 2), (28, .ireturn, 1), (29, .aload_n 0, 1), (30, .getfield 12, 3), (33, .getfield 68, 3), (36, .aload_n 0, 1), (37, .getfield 12, 3), (40, .getfield 64, 3), (43, .iload_n 1, 1), (44, .iastore, 1), (45, .aload_n 0, 1), (46, .getfield 12, 3), (49, .dup, 1), (50, .getfield 64, 3), (53, .iconst 1, 1), (54, .iadd, 1), (55, .putfield 64, 3), (58, .aload_n 0, 1), (59, .getfield 12, 3), (62, .getfield 64, 3), (65, .ireturn, 1)])
set_option maxRecDepth 20000 in
theorem oX6_type : MOk mX6_type := mok_V rfl (by decide +kernel) rfl (mW 304 (by decide +kernel) (by decide +kernel)) (mW 80 (by decide +kernel) (by decide +kernel)) (mW 302 (by decide +kernel) (by decide +kernel)) (mW 303 (by decide +kernel) (by decide +kernel)) ⟨(by decide +kernel), (by decide +kernel), (by decide +kernel)⟩ (by decide) (by decide +kernel)
def mX6_undo : MI := (yX6_undo, cX6_undo, 1, some .int, 6, 2, false, 0, [(0, .aload_n 0, 1), (1, .getfield 29, 3), (4, .getfield 166, 3), (7, .ifCond .ne 6, 3), (10, .bipush (-2), 2), (12, .ireturn, 1), (13, .aload_n 0, 1), (14, .getfield 29, 3), (17, .invokevirtual 169, 3), (20, .aload_n 0, 1), (21, .getfield 29, 3), (24, .getfield 166, 3), (27, .ireturn, 1)])
set_option maxRecDepth 20000 in
theorem oX6_undo : MOk mX6_undo := mok_V rfl (by decide +kernel) rfl (mW 498 (by decide +kernel) (by decide +kernel)) (mW 80 (by decide +kernel) (by decide +kernel)) (mW 496 (by decide +kernel) (by decide +kernel)) (mW 497 (by decide +kernel) (by decide +kernel)) ⟨(by decide +kernel), (by decide +kernel), (by decide +kernel)⟩ (by decide) (by decide +kernel)
def mX6_waits : MI := (yX6_waits, cX6_waits, 1, some .int, 6, 2, false, 0, [(0, .aload_n 0, 1), (1, .invokevirtual 116, 3), (4, .ifCond .eq 6, 3), (7, .bipush (-2), 2), (9, .ireturn, 1), (10, .aload_n 0, 1), (11, .getfield 29, 3), (14, .invokevirtual 120, 3), (17, .aload_n 0, 1), (18, .getfield 29, 3), (21, .getfield 123, 3), (24, .iconst 0, 1), (25, .dup2, 1), (26, .iaload, 1), (27, .iconst 1, 1), (28, .iadd, 1), (29, .iastore, 1), (30, .aload_n 0, 1), (31, .getfield 29, 3), (34, .invokevirtual 126, 3), (37, .ireturn, 1)])
set_option maxRecDepth 20000 in
theorem oX6_waits : MOk mX6_waits := mok_V rfl (by decide +kernel) rfl (mW 421 (by decide +kernel) (by decide +kernel)) (mW 80 (by decide +kernel) (by decide +kernel)) (mW 419 (by decide +kernel) (by decide +kernel)) (mW 420 (by decide +kernel) (by decide +kernel)) ⟨(by decide +kernel), (by decide +kernel), (by decide +kernel)⟩ (by decide) (by decide +kernel)
def mX6_week : MI := (yX6_week, cX6_week, 3, some .int, 6, 1, false, 2, [(0, .aload_n 0, 1), (1, .getfield 19, 3), (4, .iload_n 1, 1), (5, .invokevirtual 87, 3), (8, .ifCond .ne 5, 3), (11, .iconst (-1), 1), (12, .ireturn, 1), (13, .iload_n 2, 1), (14, .lookupswitch 46 #[(0, 26), (1, 36)], 26), (40, .aload_n 0, 1), (41, .getfield 19, 3), (44, .getfield 91, 3), (47, .iload_n 1, 1), (48, .iaload, 1), (49, .ireturn, 1), (50, .aload_n 0, 1), (51, .getfield 19, 3), (54, .getfield 94, 3), (57, .iload_n 1, 1), (58, .iaload, 1), (59, .ireturn, 1), (60, .iconst (-1), 1), (61, .ireturn, 1)])
set_option maxRecDepth 20000 in
theorem oX6_week : MOk mX6_week := mok_V rfl (by decide +kernel) rfl (mW 393 (by decide +kernel) (by decide +kernel)) (mW 80 (by decide +kernel) (by decide +kernel)) (mW 391 (by decide +kernel) (by decide +kernel)) (mW 392 (by decide +kernel) (by decide +kernel)) ⟨(by decide +kernel), (by decide +kernel), (by decide +kernel)⟩ (by decide) (by decide +kernel)
def mX6_worth : MI := (yX6_worth, cX6_worth, 3, some .int, 6, 3, false, 2, [(0, .aload_n 0, 1), (1, .getfield 19, 3), (4, .iload_n 1, 1), (5, .invokevirtual 130, 3), (8, .ifCond .eq 14, 3), (11, .aload_n 0, 1), (12, .getfield 19, 3), (15, .iload_n 2, 1), (16, .invokevirtual 87, 3), (19, .ifCond .ne 5, 3), (22, .iconst (-1), 1), (23, .ireturn, 1), (24, .aload_n 0, 1), (25, .getfield 44, 3), (28, .iload_n 1, 1), (29, .iload_n 2, 1), (30, .invokevirtual 178, 3), (33, .ireturn, 1)])
set_option maxRecDepth 20000 in
theorem oX6_worth : MOk mX6_worth := mok_V rfl (by decide +kernel) rfl (mW 520 (by decide +kernel) (by decide +kernel)) (mW 80 (by decide +kernel) (by decide +kernel)) (mW 518 (by decide +kernel) (by decide +kernel)) (mW 519 (by decide +kernel) (by decide +kernel)) ⟨(by decide +kernel), (by decide +kernel), (by decide +kernel)⟩ (by decide) (by decide +kernel)
def mX7_all : MI := (yX7_all, cX7_all, 1, some .int, 7, 0, false, 0, [(0, .iconst 1, 1), (1, .aload_n 0, 1), (2, .getfield 23, 3), (5, .iconst 0, 1), (6, .iaload, 1), (7, .ishl, 1), (8, .iconst 1, 1), (9, .isub, 1), (10, .ireturn, 1)])
set_option maxRecDepth 20000 in
theorem oX7_all : MOk mX7_all := mok_V rfl (by decide +kernel) rfl (mW 835 (by decide +kernel) (by decide +kernel)) (mW 87 (by decide +kernel) (by decide +kernel)) (mW 834 (by decide +kernel) (by decide +kernel)) (mW 68 (by decide +kernel) (by decide +kernel)) ⟨(by decide +kernel), (by decide +kernel), (by decide +kernel)⟩ (by decide) (by decide +kernel)
def mX7_back : MI := (yX7_back, cX7_back, 3, some .int, 7, 1, false, 1, [(0, .iload_n 1, 1), (1, .iconst 0, 1), (2, .iconst 1, 1), (3, .invokestatic 60, 3), (6, .ifCond .ne 5, 3), (9, .iconst (-1), 1), (10, .ireturn, 1), (11, .aload_n 0, 1), (12, .getfield 44, 3), (15, .iload_n 1, 1), (16, .baload, 1), (17, .ifCond .ne 6, 3), (20, .bipush (-2), 2), (22, .ireturn, 1), (23, .iconst 0, 1), (24, .istore_n 2, 1), (25, .iload_n 2, 1), (26, .sipush 199, 3), (29, .if_icmp .ge 29, 3), (32, .aload_n 0, 1), (33, .getfield 41, 3), (36, .iload_n 2, 1), (37, .aload_n 0, 1), (38, .getfield 41, 3), (41, .sipush 199, 3), (44, .iconst 1, 1), (45, .iload_n 1, 1), (46, .iadd, 1), (47, .imul, 1), (48, .iload_n 2, 1), (49, .iadd, 1), (50, .iaload, 1), (51, .iastore, 1), (52, .iinc 2 1, 3), (55, .goto (-30), 3), (58, .aload_n 0, 1), (59, .getfield 41, 3), (62, .iconst 0, 1), (63, .iaload, 1), (64, .ireturn, 1)])
set_option maxRecDepth 20000 in
theorem oX7_back : MOk mX7_back := mok_V rfl (by decide +kernel) rfl (mW 951 (by decide +kernel) (by decide +kernel)) (mW 87 (by decide +kernel) (by decide +kernel)) (mW 949 (by decide +kernel) (by decide +kernel)) (mW 950 (by decide +kernel) (by decide +kernel)) ⟨(by decide +kernel), (by decide +kernel), (by decide +kernel)⟩ (by decide) (by decide +kernel)
def mX7_canSail : MI := (yX7_canSail, cX7_canSail, 4, some .boolean, 7, 1, false, 1, [(0, .aload_n 0, 1), (1, .invokevirtual 120, 3), (4, .ifCond .ne 19, 3), (7, .iload_n 1, 1), (8, .aload_n 0, 1), (9, .iconst 0, 1), (10, .invokevirtual 127, 3), (13, .iconst (-1), 1), (14, .ixor, 1), (15, .iand, 1), (16, .ifCond .ne 7, 3), (19, .iconst 1, 1), (20, .goto 4, 3), (23, .iconst 0, 1), (24, .istore_n 2, 1), (25, .iconst 0, 1), (26, .istore_n 3, 1), (27, .iload_n 3, 1), (28, .aload_n 0, 1), (29, .getfield 23, 3), (32, .iconst 0, 1), (33, .iaload, 1), (34, .if_icmp .ge 42, 3), (37, .iload_n 2, 1), (38, .ifCond .eq 30, 3), (41, .iload_n 1, 1), (42, .iload_n 3, 1), (43, .ishr, 1), (44, .iconst 1, 1), (45, .iand, 1), (46, .ifCond .eq 18, 3), (49, .aload_n 0, 1), (50, .getfield 35, 3), (53, .iload_n 3, 1), (54, .iaload, 1), (55, .aload_n 0, 1), (56, .getfield 41, 3), (59, .iconst 0, 1), (60, .iaload, 1), (61, .if_icmp .gt 7, 3), (64, .iconst 1, 1), (65, .goto 4, 3), (68, .iconst 0, 1), (69, .istore_n 2, 1), (70, .iinc 3 1, 3), (73, .goto (-46), 3), (76, .iload_n 2, 1), (77, .ireturn, 1)])
set_option maxRecDepth 20000 in
theorem oX7_canSail : MOk mX7_canSail := mok_V rfl (by decide +kernel) rfl (mW 839 (by decide +kernel) (by decide +kernel)) (mW 87 (by decide +kernel) (by decide +kernel)) (mW 838 (by decide +kernel) (by decide +kernel)) (mW 69 (by decide +kernel) (by decide +kernel)) ⟨(by decide +kernel), (by decide +kernel), (by decide +kernel)⟩ (by decide) (by decide +kernel)
def mX7_clear : MI := (yX7_clear, cX7_clear, 2, some .int, 7, 0, false, 0, [(0, .aload_n 0, 1), (1, .getfield 64, 3), (4, .istore_n 1, 1), (5, .aload_n 0, 1), (6, .iconst 0, 1), (7, .putfield 64, 3), (10, .iload_n 1, 1), (11, .ireturn, 1)])
set_option maxRecDepth 20000 in
theorem oX7_clear : MOk mX7_clear := mok_V rfl (by decide +kernel) rfl (mW 771 (by decide +kernel) (by decide +kernel)) (mW 87 (by decide +kernel) (by decide +kernel)) (mW 769 (by decide +kernel) (by decide +kernel)) (mW 770 (by decide +kernel) (by decide +kernel)) ⟨(by decide +kernel), (by decide +kernel), (by decide +kernel)⟩ (by decide) (by decide +kernel)
def mX7_count : MI := (yX7_count, cX7_count, 2, some .int, 7, 0, false, 1, [(0, .iload_n 1, 1), (1, .tableswitch 69 0 4 #[35, 42, 49, 56, 64], 35), (36, .aload_n 0, 1), (37, .getfield 13, 3), (40, .iconst 0, 1), (41, .iaload, 1), (42, .ireturn, 1), (43, .aload_n 0, 1), (44, .getfield 23, 3), (47, .iconst 0, 1), (48, .iaload, 1), (49, .ireturn, 1), (50, .aload_n 0, 1), (51, .getfield 38, 3), (54, .iconst 0, 1), (55, .iaload, 1), (56, .ireturn, 1), (57, .aload_n 0, 1), (58, .getfield 41, 3), (61, .bipush 18, 2), (63, .iaload, 1), (64, .ireturn, 1), (65, .aload_n 0, 1), (66, .getfield 64, 3), (69, .ireturn, 1), (70, .iconst (-1), 1), (71, .ireturn, 1)])
set_option maxRecDepth 20000 in
theorem oX7_count : MOk mX7_count := mok_V rfl (by decide +kernel) rfl (mW 955 (by decide +kernel) (by decide +kernel)) (mW 87 (by decide +kernel) (by decide +kernel)) (mW 953 (by decide +kernel) (by decide +kernel)) (mW 954 (by decide +kernel) (by decide +kernel)) ⟨(by decide +kernel), (by decide +kernel), (by decide +kernel)⟩ (by decide) (by decide +kernel)
def mX7_draw : MI := (yX7_draw, cX7_draw, 5, some .int, 7, 0, false, 2, [(0, .ldc2_w 130, 3), (3, .iload_n 1, 1), (4, .i2l, 1), (5, .lmul, 1), (6, .ldc2_w 132, 3), (9, .iload_n 2, 1), (10, .i2l, 1), (11, .lmul, 1), (12, .ladd, 1), (13, .ldc2_w 134, 3), (16, .aload_n 0, 1), (17, .getfield 41, 3), (20, .iconst 0, 1), (21, .iaload, 1), (22, .i2l, 1), (23, .lmul, 1), (24, .ladd, 1), (25, .lconst 1, 1), (26, .ladd, 1), (27, .lstore_n 3, 1), (28, .lload_n 3, 1), (29, .lload_n 3, 1), (30, .lmul, 1), (31, .ldc2_w 136, 3), (34, .lrem, 1), (35, .l2i, 1), (36, .bipush 8, 2), (38, .idiv, 1), (39, .bipush 10, 2), (41, .irem, 1), (42, .ireturn, 1)])
set_option maxRecDepth 20000 in
theorem oX7_draw : MOk mX7_draw := mok_V rfl (by decide +kernel) rfl (mW 855 (by decide +kernel) (by decide +kernel)) (mW 87 (by decide +kernel) (by decide +kernel)) (mW 854 (by decide +kernel) (by decide +kernel)) (mW 73 (by decide +kernel) (by decide +kernel)) ⟨(by decide +kernel), (by decide +kernel), (by decide +kernel)⟩ (by decide) (by decide +kernel)
def mX7_due : MI := (yX7_due, cX7_due, 3, some .int, 7, 2, false, 1, [(0, .aload_n 0, 1), (1, .getfield 78, 3), (4, .istore_n 2, 1), (5, .aload_n 0, 1), (6, .getfield 84, 3), (9, .bipush (-9), 2), (11, .if_icmp .ne 22, 3), (14, .iload_n 1, 1), (15, .ifCond .eq 10, 3), (18, .aload_n 0, 1), (19, .invokevirtual 87, 3), (22, .goto 11, 3), (25, .aload_n 0, 1), (26, .aload_n 0, 1), (27, .getfield 75, 3), (30, .putfield 84, 3), (33, .iload_n 2, 1), (34, .ireturn, 1)])
set_option maxRecDepth 20000 in
theorem oX7_due : MOk mX7_due := mok_V rfl (by decide +kernel) rfl (mW 791 (by decide +kernel) (by decide +kernel)) (mW 87 (by decide +kernel) (by decide +kernel)) (mW 790 (by decide +kernel) (by decide +kernel)) (mW 61 (by decide +kernel) (by decide +kernel)) ⟨(by decide +kernel), (by decide +kernel), (by decide +kernel)⟩ (by decide) (by decide +kernel)
def mX7_game : MI := (yX7_game, cX7_game, 13, some .int, 7, 3, false, 4, [(0, .iload_n 1, 1), (1, .iconst 0, 1), (2, .aload_n 0, 1), (3, .invokevirtual 138, 3), (6, .invokestatic 60, 3), (9, .ifCond .eq 34, 3), (12, .aload_n 0, 1), (13, .iload_n 2, 1), (14, .invokevirtual 114, 3), (17, .ifCond .eq 26, 3), (20, .aload_n 0, 1), (21, .iload_n 3, 1), (22, .invokevirtual 114, 3), (25, .ifCond .eq 18, 3), (28, .iload_n 2, 1), (29, .iload_n 3, 1), (30, .if_icmp .eq 13, 3), (33, .iload 4, 2), (35, .iconst 0, 1), (36, .iconst 1, 1), (37, .invokestatic 60, 3), (40, .ifCond .ne 5, 3), (43, .iconst (-1), 1), (44, .ireturn, 1), (45, .aload_n 0, 1), (46, .iload_n 1, 1), (47, .iload_n 2, 1), (48, .invokevirtual 157, 3), (51, .istore 5, 2), (53, .aload_n 0, 1), (54, .iload_n 1, 1), (55, .iload_n 3, 1), (56, .invokevirtual 157, 3), (59, .istore 6, 2), (61, .aload_n 0, 1), (62, .iload_n 1, 1), (63, .invokevirtual 154, 3), (66, .bipush 10, 2), (68, .aload_n 0, 1), (69, .getfield 17, 3), (72, .iload_n 2, 1), (73, .iaload, 1), (74, .isub, 1), (75, .imul, 1), (76, .istore 7, 2), (78, .aload_n 0, 1), (79, .iload_n 1, 1), (80, .invokevirtual 154, 3), (83, .bipush 10, 2), (85, .aload_n 0, 1), (86, .getfield 17, 3), (89, .iload_n 3, 1), (90, .iaload, 1), (91, .isub, 1), (92, .imul, 1), (93, .istore 8, 2), (95, .iload 5, 2), (97, .iload 6, 2), (99, .if_icmp .le 8, 3), (102, .iload 5, 2), (104, .goto 5, 3), (107, .iload 6, 2), (109, .istore 9, 2), (111, .iload 5, 2), (113, .iload 8, 2), (115, .if_icmp .le 8, 3), (118, .iload 5, 2), (120, .goto 5, 3), (123, .iload 8, 2), (125, .istore 10, 2), (127, .iload 7, 2), (129, .iload 6, 2), (131, .if_icmp .le 8, 3), (134, .iload 7, 2), (136, .goto 5, 3), (139, .iload 6, 2), (141, .istore 11, 2), (143, .iload 10, 2), (145, .iload 11, 2), (147, .if_icmp .ge 8, 3), (150, .iload 10, 2), (152, .goto 5, 3), (155, .iload 11, 2), (157, .istore 12, 2), (159, .iload 9, 2), (161, .iload 12, 2), (163, .if_icmp .ne 12, 3), (166, .iload 9, 2), (168, .iconst 1, 1), (169, .iload 4, 2), (171, .invokestatic 167, 3), (174, .ireturn, 1), (175, .iload 7, 2), (177, .iload 8, 2), (179, .imul, 1), (180, .iload 5, 2), (182, .iload 6, 2), (184, .imul, 1), (185, .isub, 1), (186, .iload 7, 2), (188, .iload 8, 2), (190, .iadd, 1), (191, .iload 5, 2), (193, .isub, 1), (194, .iload 6, 2), (196, .isub, 1), (197, .iload 4, 2), (199, .invokestatic 167, 3), (202, .ireturn, 1)])
set_option maxRecDepth 20000 in
theorem oX7_game : MOk mX7_game := mok_V rfl (by decide +kernel) rfl (mW 919 (by decide +kernel) (by decide +kernel)) (mW 87 (by decide +kernel) (by decide +kernel)) (mW 917 (by decide +kernel) (by decide +kernel)) (mW 918 (by decide +kernel) (by decide +kernel)) ⟨(by decide +kernel), (by decide +kernel), (by decide +kernel)⟩ (by decide) (by decide +kernel)
def mX7_here : MI := (yX7_here, cX7_here, 1, some .int, 7, 0, false, 0, [(0, .aload_n 0, 1), (1, .getfield 68, 3), (4, .aload_n 0, 1), (5, .getfield 64, 3), (8, .if_icmp .ge 19, 3), (11, .aload_n 0, 1), (12, .getfield 7, 3), (15, .aload_n 0, 1), (16, .getfield 68, 3), (19, .baload, 1), (20, .sipush 255, 3), (23, .iand, 1), (24, .goto 4, 3), (27, .iconst (-1), 1), (28, .ireturn, 1)])
set_option maxRecDepth 20000 in
theorem oX7_here : MOk mX7_here := mok_V rfl (by decide +kernel) rfl (mW 783 (by decide +kernel) (by decide +kernel)) (mW 87 (by decide +kernel) (by decide +kernel)) (mW 782 (by decide +kernel) (by decide +kernel)) (mW 59 (by decide +kernel) (by decide +kernel)) ⟨(by decide +kernel), (by decide +kernel), (by decide +kernel)⟩ (by decide) (by decide +kernel)
def mX7_hides : MI := (yX7_hides, cX7_hides, 3, some .int, 7, 3, false, 2, [(0, .aload_n 0, 1), (1, .iload_n 1, 1), (2, .iload_n 2, 1), (3, .bipush 8, 2), (5, .bipush 13, 2), (7, .invokevirtual 150, 3), (10, .ireturn, 1)])
set_option maxRecDepth 20000 in
theorem oX7_hides : MOk mX7_hides := mok_V rfl (by decide +kernel) rfl (mW 871 (by decide +kernel) (by decide +kernel)) (mW 87 (by decide +kernel) (by decide +kernel)) (mW 869 (by decide +kernel) (by decide +kernel)) (mW 870 (by decide +kernel) (by decide +kernel)) ⟨(by decide +kernel), (by decide +kernel), (by decide +kernel)⟩ (by decide) (by decide +kernel)
def mX7_in : MI := (yX7_in, cX7_in, 3, some .boolean, 7, 0, true, 3, [(0, .iload_n 0, 1), (1, .iload_n 1, 1), (2, .if_icmp .lt 12, 3), (5, .iload_n 0, 1), (6, .iload_n 2, 1), (7, .if_icmp .gt 7, 3), (10, .iconst 1, 1), (11, .goto 4, 3), (14, .iconst 0, 1), (15, .ireturn, 1)])
set_option maxRecDepth 20000 in
theorem oX7_in : MOk mX7_in := mok_S rfl (by decide +kernel) rfl (mW 767 (by decide +kernel) (by decide +kernel)) (mW 87 (by decide +kernel) (by decide +kernel)) (mW 766 (by decide +kernel) (by decide +kernel)) ⟨(by decide +kernel), (by decide +kernel), (by decide +kernel)⟩ (by decide) (by decide +kernel)
def mX7_isOver : MI := (yX7_isOver, cX7_isOver, 1, some .boolean, 7, 0, false, 0, [(0, .aload_n 0, 1), (1, .getfield 41, 3), (4, .iconst 0, 1), (5, .iaload, 1), (6, .aload_n 0, 1), (7, .getfield 13, 3), (10, .iconst 0, 1), (11, .iaload, 1), (12, .if_icmp .ne 7, 3), (15, .iconst 1, 1), (16, .goto 4, 3), (19, .iconst 0, 1), (20, .ireturn, 1)])
set_option maxRecDepth 20000 in
theorem oX7_isOver : MOk mX7_isOver := mok_V rfl (by decide +kernel) rfl (mW 823 (by decide +kernel) (by decide +kernel)) (mW 87 (by decide +kernel) (by decide +kernel)) (mW 822 (by decide +kernel) (by decide +kernel)) (mW 66 (by decide +kernel) (by decide +kernel)) ⟨(by decide +kernel), (by decide +kernel), (by decide +kernel)⟩ (by decide) (by decide +kernel)
def mX7_isShip : MI := (yX7_isShip, cX7_isShip, 2, some .boolean, 7, 1, false, 1, [(0, .iload_n 1, 1), (1, .iconst 0, 1), (2, .aload_n 0, 1), (3, .getfield 23, 3), (6, .iconst 0, 1), (7, .iaload, 1), (8, .iconst 1, 1), (9, .isub, 1), (10, .invokestatic 60, 3), (13, .ireturn, 1)])
set_option maxRecDepth 20000 in
theorem oX7_isShip : MOk mX7_isShip := mok_V rfl (by decide +kernel) rfl (mW 815 (by decide +kernel) (by decide +kernel)) (mW 87 (by decide +kernel) (by decide +kernel)) (mW 814 (by decide +kernel) (by decide +kernel)) (mW 65 (by decide +kernel) (by decide +kernel)) ⟨(by decide +kernel), (by decide +kernel), (by decide +kernel)⟩ (by decide) (by decide +kernel)
def mX7_isWeek : MI := (yX7_isWeek, cX7_isWeek, 2, some .boolean, 7, 1, false, 1, [(0, .iload_n 1, 1), (1, .iconst 0, 1), (2, .aload_n 0, 1), (3, .getfield 13, 3), (6, .iconst 0, 1), (7, .iaload, 1), (8, .iconst 1, 1), (9, .isub, 1), (10, .invokestatic 60, 3), (13, .ireturn, 1)])
set_option maxRecDepth 20000 in
theorem oX7_isWeek : MOk mX7_isWeek := mok_V rfl (by decide +kernel) rfl (mW 807 (by decide +kernel) (by decide +kernel)) (mW 87 (by decide +kernel) (by decide +kernel)) (mW 806 (by decide +kernel) (by decide +kernel)) (mW 64 (by decide +kernel) (by decide +kernel)) ⟨(by decide +kernel), (by decide +kernel), (by decide +kernel)⟩ (by decide) (by decide +kernel)
def mX7_keep : MI := (yX7_keep, cX7_keep, 3, some .int, 7, 1, false, 1, [(0, .iload_n 1, 1), (1, .iconst 0, 1), (2, .iconst 1, 1), (3, .invokestatic 60, 3), (6, .ifCond .ne 5, 3), (9, .iconst (-1), 1), (10, .ireturn, 1), (11, .iconst 0, 1), (12, .istore_n 2, 1), (13, .iload_n 2, 1), (14, .sipush 199, 3), (17, .if_icmp .ge 29, 3), (20, .aload_n 0, 1), (21, .getfield 41, 3), (24, .sipush 199, 3), (27, .iconst 1, 1), (28, .iload_n 1, 1), (29, .iadd, 1), (30, .imul, 1), (31, .iload_n 2, 1), (32, .iadd, 1), (33, .aload_n 0, 1), (34, .getfield 41, 3), (37, .iload_n 2, 1), (38, .iaload, 1), (39, .iastore, 1), (40, .iinc 2 1, 3), (43, .goto (-30), 3), (46, .aload_n 0, 1), (47, .getfield 44, 3), (50, .iload_n 1, 1), (51, .iconst 1, 1), (52, .bastore, 1), (53, .aload_n 0, 1), (54, .getfield 41, 3), (57, .iconst 0, 1), (58, .iaload, 1), (59, .ireturn, 1)])
set_option maxRecDepth 20000 in
theorem oX7_keep : MOk mX7_keep := mok_V rfl (by decide +kernel) rfl (mW 947 (by decide +kernel) (by decide +kernel)) (mW 87 (by decide +kernel) (by decide +kernel)) (mW 945 (by decide +kernel) (by decide +kernel)) (mW 946 (by decide +kernel) (by decide +kernel)) ⟨(by decide +kernel), (by decide +kernel), (by decide +kernel)⟩ (by decide) (by decide +kernel)
def mX7_know : MI := (yX7_know, cX7_know, 2, none, 7, 0, false, 0, [(0, .aload_n 0, 1), (1, .getfield 41, 3), (4, .bipush 18, 2), (6, .iaload, 1), (7, .bipush 10, 2), (9, .if_icmp .ne 47, 3), (12, .iconst 0, 1), (13, .istore_n 1, 1), (14, .iload_n 1, 1), (15, .sipush 162, 3), (18, .if_icmp .ge 27, 3), (21, .aload_n 0, 1), (22, .getfield 41, 3), (25, .bipush 19, 2), (27, .iload_n 1, 1), (28, .iadd, 1), (29, .aload_n 0, 1), (30, .getfield 41, 3), (33, .bipush 37, 2), (35, .iload_n 1, 1), (36, .iadd, 1), (37, .iaload, 1), (38, .iastore, 1), (39, .iinc 1 1, 3), (42, .goto (-28), 3), (45, .aload_n 0, 1), (46, .getfield 41, 3), (49, .bipush 18, 2), (51, .dup2, 1), (52, .iaload, 1), (53, .iconst 1, 1), (54, .isub, 1), (55, .iastore, 1), (56, .iconst 0, 1), (57, .istore_n 1, 1), (58, .iload_n 1, 1), (59, .bipush 18, 2), (61, .if_icmp .ge 35, 3), (64, .aload_n 0, 1), (65, .getfield 41, 3), (68, .bipush 19, 2), (70, .bipush 18, 2), (72, .aload_n 0, 1), (73, .getfield 41, 3), (76, .bipush 18, 2), (78, .iaload, 1), (79, .imul, 1), (80, .iadd, 1), (81, .iload_n 1, 1), (82, .iadd, 1), (83, .aload_n 0, 1), (84, .getfield 41, 3), (87, .iload_n 1, 1), (88, .iaload, 1), (89, .iastore, 1), (90, .iinc 1 1, 3), (93, .goto (-35), 3), (96, .aload_n 0, 1), (97, .getfield 41, 3), (100, .bipush 18, 2), (102, .dup2, 1), (103, .iaload, 1), (104, .iconst 1, 1), (105, .iadd, 1), (106, .iastore, 1), (107, .return_, 1)])
set_option maxRecDepth 20000 in
theorem oX7_know : MOk mX7_know := mok_V rfl (by decide +kernel) rfl (mW 827 (by decide +kernel) (by decide +kernel)) (mW 87 (by decide +kernel) (by decide +kernel)) (mW 826 (by decide +kernel) (by decide +kernel)) (mW 67 (by decide +kernel) (by decide +kernel)) ⟨(by decide +kernel), (by decide +kernel), (by decide +kernel)⟩ (by decide) (by decide +kernel)
def mX7_late : MI := (yX7_late, cX7_late, 2, some .int, 7, 4, false, 0, [(0, .aload_n 0, 1), (1, .getfield 41, 3), (4, .iconst 0, 1), (5, .iaload, 1), (6, .iconst 1, 1), (7, .iadd, 1), (8, .istore_n 1, 1), (9, .iload_n 1, 1), (10, .aload_n 0, 1), (11, .getfield 13, 3), (14, .iconst 0, 1), (15, .iaload, 1), (16, .if_icmp .lt 5, 3), (19, .iconst 0, 1), (20, .ireturn, 1), (21, .aload_n 0, 1), (22, .iload_n 1, 1), (23, .invokevirtual 164, 3), (26, .aload_n 0, 1), (27, .getfield 48, 3), (30, .bipush 32, 2), (32, .iload_n 1, 1), (33, .imul, 1), (34, .aload_n 0, 1), (35, .iconst 0, 1), (36, .invokevirtual 127, 3), (39, .iadd, 1), (40, .iaload, 1), (41, .ireturn, 1)])
set_option maxRecDepth 20000 in
theorem oX7_late : MOk mX7_late := mok_V rfl (by decide +kernel) rfl (mW 915 (by decide +kernel) (by decide +kernel)) (mW 87 (by decide +kernel) (by decide +kernel)) (mW 913 (by decide +kernel) (by decide +kernel)) (mW 914 (by decide +kernel) (by decide +kernel)) ⟨(by decide +kernel), (by decide +kernel), (by decide +kernel)⟩ (by decide) (by decide +kernel)
def mX7_lists : MI := (yX7_lists, cX7_lists, 3, some .int, 7, 3, false, 2, [(0, .aload_n 0, 1), (1, .iload_n 1, 1), (2, .iload_n 2, 1), (3, .bipush 13, 2), (5, .bipush 8, 2), (7, .invokevirtual 150, 3), (10, .ireturn, 1)])
set_option maxRecDepth 20000 in
theorem oX7_lists : MOk mX7_lists := mok_V rfl (by decide +kernel) rfl (mW 863 (by decide +kernel) (by decide +kernel)) (mW 87 (by decide +kernel) (by decide +kernel)) (mW 861 (by decide +kernel) (by decide +kernel)) (mW 862 (by decide +kernel) (by decide +kernel)) ⟨(by decide +kernel), (by decide +kernel), (by decide +kernel)⟩ (by decide) (by decide +kernel)
def mX7_manyOf : MI := (yX7_manyOf, cX7_manyOf, 3, some .int, 7, 0, true, 1, [(0, .iconst 0, 1), (1, .istore_n 1, 1), (2, .iconst 0, 1), (3, .istore_n 2, 1), (4, .iload_n 2, 1), (5, .iconst 5, 1), (6, .if_icmp .ge 17, 3), (9, .iload_n 1, 1), (10, .iload_n 0, 1), (11, .iload_n 2, 1), (12, .ishr, 1), (13, .iconst 1, 1), (14, .iand, 1), (15, .iadd, 1), (16, .istore_n 1, 1), (17, .iinc 2 1, 3), (20, .goto (-16), 3), (23, .iload_n 1, 1), (24, .ireturn, 1)])
set_option maxRecDepth 20000 in
theorem oX7_manyOf : MOk mX7_manyOf := mok_S rfl (by decide +kernel) rfl (mW 929 (by decide +kernel) (by decide +kernel)) (mW 87 (by decide +kernel) (by decide +kernel)) (mW 928 (by decide +kernel) (by decide +kernel)) ⟨(by decide +kernel), (by decide +kernel), (by decide +kernel)⟩ (by decide) (by decide +kernel)
def mX7_mark : MI := (yX7_mark, cX7_mark, 4, some .int, 7, 2, false, 2, [(0, .iload_n 1, 1), (1, .iconst 0, 1), (2, .iconst 5, 1), (3, .invokestatic 60, 3), (6, .ifCond .eq 11, 3), (9, .aload_n 0, 1), (10, .iload_n 2, 1), (11, .invokevirtual 117, 3), (14, .ifCond .ne 6, 3), (17, .ldc 174, 2), (19, .ireturn, 1), (20, .aload_n 0, 1), (21, .getfield 41, 3), (24, .bipush 8, 2), (26, .iload_n 2, 1), (27, .iadd, 1), (28, .iaload, 1), (29, .istore_n 3, 1), (30, .iload_n 1, 1), (31, .tableswitch 133 0 4 #[33, 45, 66, 87, 110], 33), (64, .aload_n 0, 1), (65, .dup, 1), (66, .getfield 175, 3), (69, .lconst 1, 1), (70, .ladd, 1), (71, .putfield 175, 3), (74, .iload_n 3, 1), (75, .ireturn, 1), (76, .aload_n 0, 1), (77, .dup, 1), (78, .getfield 175, 3), (81, .ldc2_w 179, 3), (84, .ladd, 1), (85, .putfield 175, 3), (88, .iload_n 3, 1), (89, .aload_n 0, 1), (90, .getfield 32, 3), (93, .iload_n 2, 1), (94, .iaload, 1), (95, .iadd, 1), (96, .ireturn, 1), (97, .aload_n 0, 1), (98, .dup, 1), (99, .getfield 175, 3), (102, .ldc2_w 181, 3), (105, .ladd, 1), (106, .putfield 175, 3), (109, .iload_n 3, 1), (110, .aload_n 0, 1), (111, .getfield 35, 3), (114, .iload_n 2, 1), (115, .iaload, 1), (116, .isub, 1), (117, .ireturn, 1), (118, .aload_n 0, 1), (119, .dup, 1), (120, .getfield 175, 3), (123, .ldc2_w 183, 3), (126, .ladd, 1), (127, .putfield 175, 3), (130, .iconst 2, 1), (131, .iload_n 3, 1), (132, .aload_n 0, 1), (133, .getfield 32, 3), (136, .iload_n 2, 1), (137, .iaload, 1), (138, .iadd, 1), (139, .imul, 1), (140, .ireturn, 1), (141, .aload_n 0, 1), (142, .dup, 1), (143, .getfield 175, 3), (146, .ldc2_w 185, 3), (149, .ladd, 1), (150, .putfield 175, 3), (153, .iload_n 3, 1), (154, .aload_n 0, 1), (155, .getfield 35, 3), (158, .iload_n 2, 1), (159, .iaload, 1), (160, .isub, 1), (161, .iload_n 2, 1), (162, .iadd, 1), (163, .ireturn, 1), (164, .aload_n 0, 1), (165, .dup, 1), (166, .getfield 175, 3), (169, .ldc2_w 187, 3), (172, .ladd, 1), (173, .putfield 175, 3), (176, .iload_n 3, 1), (177, .aload_n 0, 1), (178, .getfield 41, 3), (181, .iconst 0, 1), (182, .iaload, 1), (183, .iadd, 1), (184, .ireturn, 1)])
set_option maxRecDepth 20000 in
theorem oX7_mark : MOk mX7_mark := mok_V rfl (by decide +kernel) rfl (mW 937 (by decide +kernel) (by decide +kernel)) (mW 87 (by decide +kernel) (by decide +kernel)) (mW 935 (by decide +kernel) (by decide +kernel)) (mW 936 (by decide +kernel) (by decide +kernel)) ⟨(by decide +kernel), (by decide +kernel), (by decide +kernel)⟩ (by decide) (by decide +kernel)
def mX7_mayBe : MI := (yX7_mayBe, cX7_mayBe, 2, some .boolean, 7, 0, false, 1, [(0, .iload_n 1, 1), (1, .lookupswitch 81 #[(107, 68), (115, 52), (119, 35)], 35), (36, .aload_n 0, 1), (37, .getfield 13, 3), (40, .iconst 1, 1), (41, .iaload, 1), (42, .bipush 12, 2), (44, .if_icmp .ge 7, 3), (47, .iconst 1, 1), (48, .goto 4, 3), (51, .iconst 0, 1), (52, .ireturn, 1), (53, .aload_n 0, 1), (54, .getfield 23, 3), (57, .iconst 1, 1), (58, .iaload, 1), (59, .iconst 5, 1), (60, .if_icmp .ge 7, 3), (63, .iconst 1, 1), (64, .goto 4, 3), (67, .iconst 0, 1), (68, .ireturn, 1), (69, .aload_n 0, 1), (70, .getfield 94, 3), (73, .ifCond .ne 7, 3), (76, .iconst 1, 1), (77, .goto 4, 3), (80, .iconst 0, 1), (81, .ireturn, 1), (82, .iconst 0, 1), (83, .ireturn, 1)])
set_option maxRecDepth 20000 in
theorem oX7_mayBe : MOk mX7_mayBe := mok_V rfl (by decide +kernel) rfl (mW 787 (by decide +kernel) (by decide +kernel)) (mW 87 (by decide +kernel) (by decide +kernel)) (mW 786 (by decide +kernel) (by decide +kernel)) (mW 60 (by decide +kernel) (by decide +kernel)) ⟨(by decide +kernel), (by decide +kernel), (by decide +kernel)⟩ (by decide) (by decide +kernel)
def mX7_mayGo : MI := (yX7_mayGo, cX7_mayGo, 5, some .boolean, 7, 0, false, 2, [(0, .iconst 1, 1), (1, .istore_n 3, 1), (2, .iconst 0, 1), (3, .istore 4, 2), (5, .iload 4, 2), (7, .aload_n 0, 1), (8, .getfield 23, 3), (11, .iconst 0, 1), (12, .iaload, 1), (13, .if_icmp .ge 39, 3), (16, .iload_n 3, 1), (17, .ifCond .eq 27, 3), (20, .iload_n 1, 1), (21, .iload 4, 2), (23, .ishr, 1), (24, .iconst 1, 1), (25, .iand, 1), (26, .ifCond .eq 14, 3), (29, .aload_n 0, 1), (30, .getfield 35, 3), (33, .iload 4, 2), (35, .iaload, 1), (36, .iload_n 2, 1), (37, .if_icmp .gt 7, 3), (40, .iconst 1, 1), (41, .goto 4, 3), (44, .iconst 0, 1), (45, .istore_n 3, 1), (46, .iinc 4 1, 3), (49, .goto (-44), 3), (52, .iload_n 3, 1), (53, .ireturn, 1)])
set_option maxRecDepth 20000 in
theorem oX7_mayGo : MOk mX7_mayGo := mok_V rfl (by decide +kernel) rfl (mW 911 (by decide +kernel) (by decide +kernel)) (mW 87 (by decide +kernel) (by decide +kernel)) (mW 910 (by decide +kernel) (by decide +kernel)) (mW 78 (by decide +kernel) (by decide +kernel)) ⟨(by decide +kernel), (by decide +kernel), (by decide +kernel)⟩ (by decide) (by decide +kernel)
def mX7_measure : MI := (yX7_measure, cX7_measure, 7, none, 7, 3, false, 1, [(0, .iconst 0, 1), (1, .istore_n 2, 1), (2, .iload_n 2, 1), (3, .bipush 32, 2), (5, .if_icmp .ge 26, 3), (8, .aload_n 0, 1), (9, .getfield 48, 3), (12, .bipush 32, 2), (14, .aload_n 0, 1), (15, .getfield 13, 3), (18, .iconst 0, 1), (19, .iaload, 1), (20, .imul, 1), (21, .iload_n 2, 1), (22, .iadd, 1), (23, .iconst 0, 1), (24, .iastore, 1), (25, .iinc 2 1, 3), (28, .goto (-26), 3), (31, .aload_n 0, 1), (32, .getfield 13, 3), (35, .iconst 0, 1), (36, .iaload, 1), (37, .iconst 1, 1), (38, .isub, 1), (39, .istore_n 2, 1), (40, .iload_n 2, 1), (41, .iload_n 1, 1), (42, .if_icmp .lt 159, 3), (45, .iconst 0, 1), (46, .istore_n 3, 1), (47, .iload_n 3, 1), (48, .aload_n 0, 1), (49, .invokevirtual 138, 3), (52, .if_icmp .gt 143, 3), (55, .aload_n 0, 1), (56, .getfield 48, 3), (59, .bipush 32, 2), (61, .iload_n 2, 1), (62, .imul, 1), (63, .iload_n 3, 1), (64, .iadd, 1), (65, .bipush (-9), 2), (67, .iastore, 1), (68, .iconst 0, 1), (69, .istore 4, 2), (71, .iload 4, 2), (73, .iload_n 3, 1), (74, .if_icmp .gt 115, 3), (77, .iload 4, 2), (79, .iload_n 3, 1), (80, .iconst (-1), 1), (81, .ixor, 1), (82, .iand, 1), (83, .ifCond .ne 17, 3), (86, .aload_n 0, 1), (87, .iload 4, 2), (89, .iload_n 2, 1), (90, .invokevirtual 160, 3), (93, .ifCond .eq 7, 3), (96, .iconst 1, 1), (97, .goto 4, 3), (100, .iconst 0, 1), (101, .istore 5, 2), (103, .iload 5, 2), (105, .ifCond .eq 32, 3), (108, .aload_n 0, 1), (109, .iload 4, 2), (111, .iload_n 2, 1), (112, .invokevirtual 157, 3), (115, .aload_n 0, 1), (116, .getfield 48, 3), (119, .bipush 32, 2), (121, .iload_n 2, 1), (122, .iconst 1, 1), (123, .iadd, 1), (124, .imul, 1), (125, .iload_n 3, 1), (126, .iload 4, 2), (128, .iconst (-1), 1), (129, .ixor, 1), (130, .iand, 1), (131, .iadd, 1), (132, .iaload, 1), (133, .iadd, 1), (134, .goto 5, 3), (137, .bipush (-9), 2), (139, .istore 6, 2), (141, .iload 6, 2), (143, .aload_n 0, 1), (144, .getfield 48, 3), (147, .bipush 32, 2), (149, .iload_n 2, 1), (150, .imul, 1), (151, .iload_n 3, 1), (152, .iadd, 1), (153, .iaload, 1), (154, .if_icmp .le 29, 3), (157, .aload_n 0, 1), (158, .getfield 48, 3), (161, .bipush 32, 2), (163, .iload_n 2, 1), (164, .imul, 1), (165, .iload_n 3, 1), (166, .iadd, 1), (167, .iload 6, 2), (169, .iastore, 1), (170, .aload_n 0, 1), (171, .getfield 51, 3), (174, .bipush 32, 2), (176, .iload_n 2, 1), (177, .imul, 1), (178, .iload_n 3, 1), (179, .iadd, 1), (180, .iload 4, 2), (182, .iastore, 1), (183, .iinc 4 1, 3), (186, .goto (-115), 3), (189, .iinc 3 1, 3), (192, .goto (-145), 3), (195, .iinc 2 (-1), 3), (198, .goto (-158), 3), (201, .return_, 1)])
set_option maxRecDepth 20000 in
theorem oX7_measure : MOk mX7_measure := mok_V rfl (by decide +kernel) rfl (mW 907 (by decide +kernel) (by decide +kernel)) (mW 87 (by decide +kernel) (by decide +kernel)) (mW 906 (by decide +kernel) (by decide +kernel)) (mW 77 (by decide +kernel) (by decide +kernel)) ⟨(by decide +kernel), (by decide +kernel), (by decide +kernel)⟩ (by decide) (by decide +kernel)
def mX7_now : MI := (yX7_now, cX7_now, 2, some .int, 7, 2, false, 1, [(0, .iload_n 1, 1), (1, .tableswitch 89 0 5 #[39, 46, 52, 59, 66, 79], 39), (40, .aload_n 0, 1), (41, .getfield 41, 3), (44, .iconst 0, 1), (45, .iaload, 1), (46, .ireturn, 1), (47, .aload_n 0, 1), (48, .iconst 0, 1), (49, .invokevirtual 127, 3), (52, .ireturn, 1), (53, .aload_n 0, 1), (54, .getfield 41, 3), (57, .iconst 1, 1), (58, .iaload, 1), (59, .ireturn, 1), (60, .aload_n 0, 1), (61, .getfield 41, 3), (64, .iconst 2, 1), (65, .iaload, 1), (66, .ireturn, 1), (67, .aload_n 0, 1), (68, .invokevirtual 120, 3), (71, .ifCond .eq 7, 3), (74, .iconst 1, 1), (75, .goto 4, 3), (78, .iconst 0, 1), (79, .ireturn, 1), (80, .aload_n 0, 1), (81, .aload_n 0, 1), (82, .iconst 3, 1), (83, .invokevirtual 127, 3), (86, .invokevirtual 154, 3), (89, .ireturn, 1), (90, .iconst (-1), 1), (91, .ireturn, 1)])
set_option maxRecDepth 20000 in
theorem oX7_now : MOk mX7_now := mok_V rfl (by decide +kernel) rfl (mW 887 (by decide +kernel) (by decide +kernel)) (mW 87 (by decide +kernel) (by decide +kernel)) (mW 885 (by decide +kernel) (by decide +kernel)) (mW 886 (by decide +kernel) (by decide +kernel)) ⟨(by decide +kernel), (by decide +kernel), (by decide +kernel)⟩ (by decide) (by decide +kernel)
def mX7_number : MI := (yX7_number, cX7_number, 3, some .int, 7, 3, false, 2, [(0, .aload_n 0, 1), (1, .aload_n 0, 1), (2, .getfield 81, 3), (5, .iconst 1, 1), (6, .if_icmp .ne 19, 3), (9, .aload_n 0, 1), (10, .getfield 78, 3), (13, .iload_n 1, 1), (14, .iload_n 2, 1), (15, .invokestatic 60, 3), (18, .ifCond .eq 7, 3), (21, .iconst 1, 1), (22, .goto 4, 3), (25, .iconst 0, 1), (26, .invokevirtual 90, 3), (29, .ireturn, 1)])
set_option maxRecDepth 20000 in
theorem oX7_number : MOk mX7_number := mok_V rfl (by decide +kernel) rfl (mW 799 (by decide +kernel) (by decide +kernel)) (mW 87 (by decide +kernel) (by decide +kernel)) (mW 798 (by decide +kernel) (by decide +kernel)) (mW 63 (by decide +kernel) (by decide +kernel)) ⟨(by decide +kernel), (by decide +kernel), (by decide +kernel)⟩ (by decide) (by decide +kernel)
def mX7_odds : MI := (yX7_odds, cX7_odds, 12, some .int, 7, 2, false, 4, [(0, .iload_n 1, 1), (1, .iconst 1, 1), (2, .aload_n 0, 1), (3, .invokevirtual 138, 3), (6, .invokestatic 60, 3), (9, .ifCond .eq 30, 3), (12, .aload_n 0, 1), (13, .iload_n 2, 1), (14, .invokevirtual 114, 3), (17, .ifCond .eq 22, 3), (20, .iload_n 3, 1), (21, .iconst 0, 1), (22, .iconst 5, 1), (23, .invokestatic 60, 3), (26, .ifCond .eq 13, 3), (29, .iload 4, 2), (31, .iconst 0, 1), (32, .iconst 1, 1), (33, .invokestatic 60, 3), (36, .ifCond .ne 5, 3), (39, .iconst (-1), 1), (40, .ireturn, 1), (41, .aload_n 0, 1), (42, .iload_n 1, 1), (43, .iload_n 2, 1), (44, .invokevirtual 144, 3), (47, .istore 5, 2), (49, .iload 5, 2), (51, .bipush (-9), 2), (53, .if_icmp .ne 7, 3), (56, .iload_n 1, 1), (57, .goto 11, 3), (60, .iload_n 1, 1), (61, .iconst 1, 1), (62, .iload 5, 2), (64, .ishl, 1), (65, .iconst (-1), 1), (66, .ixor, 1), (67, .iand, 1), (68, .istore 6, 2), (70, .iconst 0, 1), (71, .istore 7, 2), (73, .iconst 1, 1), (74, .istore 8, 2), (76, .iconst 0, 1), (77, .istore 9, 2), (79, .iload 9, 2), (81, .iload 6, 2), (83, .if_icmp .gt 110, 3), (86, .iload 9, 2), (88, .iload 6, 2), (90, .iconst (-1), 1), (91, .ixor, 1), (92, .iand, 1), (93, .ifCond .ne 16, 3), (96, .iload 9, 2), (98, .invokestatic 171, 3), (101, .iload_n 3, 1), (102, .if_icmp .lt 7, 3), (105, .iconst 1, 1), (106, .goto 4, 3), (109, .iconst 0, 1), (110, .istore 10, 2), (112, .iconst 0, 1), (113, .istore 11, 2), (115, .iload 11, 2), (117, .aload_n 0, 1), (118, .getfield 23, 3), (121, .iconst 0, 1), (122, .iaload, 1), (123, .if_icmp .ge 57, 3), (126, .iload 10, 2), (128, .iload 6, 2), (130, .iload 11, 2), (132, .ishr, 1), (133, .iconst 1, 1), (134, .iand, 1), (135, .ifCond .ne 7, 3), (138, .iconst 1, 1), (139, .goto 32, 3), (142, .iload 9, 2), (144, .iload 11, 2), (146, .ishr, 1), (147, .iconst 1, 1), (148, .iand, 1), (149, .iconst 1, 1), (150, .if_icmp .ne 15, 3), (153, .bipush 10, 2), (155, .aload_n 0, 1), (156, .getfield 17, 3), (159, .iload_n 2, 1), (160, .iaload, 1), (161, .isub, 1), (162, .goto 9, 3), (165, .aload_n 0, 1), (166, .getfield 17, 3), (169, .iload_n 2, 1), (170, .iaload, 1), (171, .imul, 1), (172, .istore 10, 2), (174, .iinc 11 1, 3), (177, .goto (-62), 3), (180, .iload 7, 2), (182, .iload 10, 2), (184, .iadd, 1), (185, .istore 7, 2), (187, .iinc 9 1, 3), (190, .goto (-111), 3), (193, .iconst 0, 1), (194, .istore 9, 2), (196, .iload 9, 2), (198, .iload 6, 2), (200, .invokestatic 171, 3), (203, .if_icmp .ge 16, 3), (206, .iload 8, 2), (208, .bipush 10, 2), (210, .imul, 1), (211, .istore 8, 2), (213, .iinc 9 1, 3), (216, .goto (-20), 3), (219, .iload 7, 2), (221, .iload 8, 2), (223, .iload 4, 2), (225, .invokestatic 167, 3), (228, .ireturn, 1)])
set_option maxRecDepth 20000 in
theorem oX7_odds : MOk mX7_odds := mok_V rfl (by decide +kernel) rfl (mW 926 (by decide +kernel) (by decide +kernel)) (mW 87 (by decide +kernel) (by decide +kernel)) (mW 924 (by decide +kernel) (by decide +kernel)) (mW 925 (by decide +kernel) (by decide +kernel)) ⟨(by decide +kernel), (by decide +kernel), (by decide +kernel)⟩ (by decide) (by decide +kernel)
def mX7_part : MI := (yX7_part, cX7_part, 6, some .int, 7, 0, true, 3, [(0, .iload_n 0, 1), (1, .istore_n 3, 1), (2, .iload_n 1, 1), (3, .istore 4, 2), (5, .iload 4, 2), (7, .ifCond .eq 19, 3), (10, .iload_n 3, 1), (11, .iload 4, 2), (13, .irem, 1), (14, .istore 5, 2), (16, .iload 4, 2), (18, .istore_n 3, 1), (19, .iload 5, 2), (21, .istore 4, 2), (23, .goto (-18), 3), (26, .iload_n 2, 1), (27, .ifCond .ne 9, 3), (30, .iload_n 0, 1), (31, .iload_n 3, 1), (32, .idiv, 1), (33, .goto 6, 3), (36, .iload_n 1, 1), (37, .iload_n 3, 1), (38, .idiv, 1), (39, .ireturn, 1)])
set_option maxRecDepth 20000 in
theorem oX7_part : MOk mX7_part := mok_S rfl (by decide +kernel) rfl (mW 922 (by decide +kernel) (by decide +kernel)) (mW 87 (by decide +kernel) (by decide +kernel)) (mW 921 (by decide +kernel) (by decide +kernel)) ⟨(by decide +kernel), (by decide +kernel), (by decide +kernel)⟩ (by decide) (by decide +kernel)
def mX7_plain : MI := (yX7_plain, cX7_plain, 1, none, 7, 0, false, 0, [(0, .aload_n 0, 1), (1, .getfield 13, 3), (4, .iconst 1, 1), (5, .iconst 0, 1), (6, .iastore, 1), (7, .aload_n 0, 1), (8, .getfield 23, 3), (11, .iconst 1, 1), (12, .iconst 0, 1), (13, .iastore, 1), (14, .aload_n 0, 1), (15, .getfield 38, 3), (18, .iconst 1, 1), (19, .iconst 2, 1), (20, .iastore, 1), (21, .aload_n 0, 1), (22, .iconst 0, 1), (23, .putfield 94, 3), (26, .return_, 1)])
set_option maxRecDepth 20000 in
theorem oX7_plain : MOk mX7_plain := mok_V rfl (by decide +kernel) rfl (mW 687 (by decide +kernel) (by decide +kernel)) (mW 87 (by decide +kernel) (by decide +kernel)) (mW 686 (by decide +kernel) (by decide +kernel)) (mW 56 (by decide +kernel) (by decide +kernel)) ⟨(by decide +kernel), (by decide +kernel), (by decide +kernel)⟩ (by decide) (by decide +kernel)
def mX7_plan : MI := (yX7_plan, cX7_plan, 4, some .int, 7, 4, false, 1, [(0, .iload_n 1, 1), (1, .iconst (-1), 1), (2, .if_icmp .eq 26, 3), (5, .iload_n 1, 1), (6, .aload_n 0, 1), (7, .getfield 41, 3), (10, .iconst 0, 1), (11, .iaload, 1), (12, .aload_n 0, 1), (13, .getfield 13, 3), (16, .iconst 0, 1), (17, .iaload, 1), (18, .iconst 1, 1), (19, .isub, 1), (20, .invokestatic 60, 3), (23, .ifCond .ne 5, 3), (26, .iconst (-1), 1), (27, .ireturn, 1), (28, .aload_n 0, 1), (29, .aload_n 0, 1), (30, .getfield 41, 3), (33, .iconst 0, 1), (34, .iaload, 1), (35, .invokevirtual 164, 3), (38, .aload_n 0, 1), (39, .iconst 0, 1), (40, .invokevirtual 127, 3), (43, .istore_n 2, 1), (44, .iload_n 1, 1), (45, .iconst (-1), 1), (46, .if_icmp .ne 20, 3), (49, .aload_n 0, 1), (50, .getfield 48, 3), (53, .bipush 32, 2), (55, .aload_n 0, 1), (56, .getfield 41, 3), (59, .iconst 0, 1), (60, .iaload, 1), (61, .imul, 1), (62, .iload_n 2, 1), (63, .iadd, 1), (64, .iaload, 1), (65, .ireturn, 1), (66, .aload_n 0, 1), (67, .getfield 41, 3), (70, .iconst 0, 1), (71, .iaload, 1), (72, .istore_n 3, 1), (73, .iload_n 3, 1), (74, .iload_n 1, 1), (75, .if_icmp .ge 25, 3), (78, .iload_n 2, 1), (79, .aload_n 0, 1), (80, .getfield 51, 3), (83, .bipush 32, 2), (85, .iload_n 3, 1), (86, .imul, 1), (87, .iload_n 2, 1), (88, .iadd, 1), (89, .iaload, 1), (90, .iconst (-1), 1), (91, .ixor, 1), (92, .iand, 1), (93, .istore_n 2, 1), (94, .iinc 3 1, 3), (97, .goto (-24), 3), (100, .aload_n 0, 1), (101, .getfield 51, 3), (104, .bipush 32, 2), (106, .iload_n 1, 1), (107, .imul, 1), (108, .iload_n 2, 1), (109, .iadd, 1), (110, .iaload, 1), (111, .ireturn, 1)])
set_option maxRecDepth 20000 in
theorem oX7_plan : MOk mX7_plan := mok_V rfl (by decide +kernel) rfl (mW 903 (by decide +kernel) (by decide +kernel)) (mW 87 (by decide +kernel) (by decide +kernel)) (mW 901 (by decide +kernel) (by decide +kernel)) (mW 902 (by decide +kernel) (by decide +kernel)) ⟨(by decide +kernel), (by decide +kernel), (by decide +kernel)⟩ (by decide) (by decide +kernel)
def mX7_raises : MI := (yX7_raises, cX7_raises, 3, some .int, 7, 2, false, 1, [(0, .aload_n 0, 1), (1, .iload_n 1, 1), (2, .invokevirtual 117, 3), (5, .ifCond .ne 5, 3), (8, .iconst (-1), 1), (9, .ireturn, 1), (10, .aload_n 0, 1), (11, .getfield 41, 3), (14, .iconst 3, 1), (15, .iload_n 1, 1), (16, .iadd, 1), (17, .iaload, 1), (18, .iconst 3, 1), (19, .if_icmp .eq 6, 3), (22, .bipush (-2), 2), (24, .ireturn, 1), (25, .aload_n 0, 1), (26, .invokevirtual 124, 3), (29, .aload_n 0, 1), (30, .iload_n 1, 1), (31, .invokevirtual 110, 3), (34, .iconst 2, 1), (35, .idiv, 1), (36, .istore_n 2, 1), (37, .aload_n 0, 1), (38, .getfield 41, 3), (41, .iconst 1, 1), (42, .dup2, 1), (43, .iaload, 1), (44, .iload_n 2, 1), (45, .iadd, 1), (46, .iastore, 1), (47, .aload_n 0, 1), (48, .getfield 41, 3), (51, .bipush 8, 2), (53, .iload_n 1, 1), (54, .iadd, 1), (55, .iconst 0, 1), (56, .iastore, 1), (57, .aload_n 0, 1), (58, .getfield 41, 3), (61, .bipush 13, 2), (63, .iload_n 1, 1), (64, .iadd, 1), (65, .iconst 0, 1), (66, .iastore, 1), (67, .aload_n 0, 1), (68, .getfield 41, 3), (71, .iconst 3, 1), (72, .iload_n 1, 1), (73, .iadd, 1), (74, .iconst 4, 1), (75, .iastore, 1), (76, .iload_n 2, 1), (77, .ireturn, 1)])
set_option maxRecDepth 20000 in
theorem oX7_raises : MOk mX7_raises := mok_V rfl (by decide +kernel) rfl (mW 879 (by decide +kernel) (by decide +kernel)) (mW 87 (by decide +kernel) (by decide +kernel)) (mW 877 (by decide +kernel) (by decide +kernel)) (mW 878 (by decide +kernel) (by decide +kernel)) ⟨(by decide +kernel), (by decide +kernel), (by decide +kernel)⟩ (by decide) (by decide +kernel)
def mX7_readRow : MI := (yX7_readRow, cX7_readRow, 2, none, 7, 4, false, 1, [(0, .iload_n 1, 1), (1, .lookupswitch 171 #[(115, 82), (119, 27)], 27), (28, .aload_n 0, 1), (29, .getfield 17, 3), (32, .bipush 12, 2), (34, .aload_n 0, 1), (35, .getfield 13, 3), (38, .iconst 1, 1), (39, .iaload, 1), (40, .iadd, 1), (41, .aload_n 0, 1), (42, .iconst 0, 1), (43, .bipush 10, 2), (45, .invokevirtual 98, 3), (48, .iastore, 1), (49, .aload_n 0, 1), (50, .getfield 20, 3), (53, .bipush 12, 2), (55, .aload_n 0, 1), (56, .getfield 13, 3), (59, .iconst 1, 1), (60, .iaload, 1), (61, .iadd, 1), (62, .aload_n 0, 1), (63, .iconst 0, 1), (64, .bipush 40, 2), (66, .invokevirtual 98, 3), (69, .iastore, 1), (70, .aload_n 0, 1), (71, .getfield 13, 3), (74, .iconst 1, 1), (75, .dup2, 1), (76, .iaload, 1), (77, .iconst 1, 1), (78, .iadd, 1), (79, .iastore, 1), (80, .goto 110, 3), (83, .aload_n 0, 1), (84, .getfield 26, 3), (87, .aload_n 0, 1), (88, .getfield 23, 3), (91, .iconst 1, 1), (92, .iaload, 1), (93, .aload_n 0, 1), (94, .iconst 0, 1), (95, .bipush 60, 2), (97, .invokevirtual 98, 3), (100, .iastore, 1), (101, .aload_n 0, 1), (102, .getfield 29, 3), (105, .aload_n 0, 1), (106, .getfield 23, 3), (109, .iconst 1, 1), (110, .iaload, 1), (111, .aload_n 0, 1), (112, .iconst 0, 1), (113, .bipush 60, 2), (115, .invokevirtual 98, 3), (118, .iastore, 1), (119, .aload_n 0, 1), (120, .getfield 32, 3), (123, .iconst 5, 1), (124, .aload_n 0, 1), (125, .getfield 23, 3), (128, .iconst 1, 1), (129, .iaload, 1), (130, .iadd, 1), (131, .aload_n 0, 1), (132, .iconst 0, 1), (133, .bipush 9, 2), (135, .invokevirtual 98, 3), (138, .iastore, 1), (139, .aload_n 0, 1), (140, .getfield 35, 3), (143, .iconst 5, 1), (144, .aload_n 0, 1), (145, .getfield 23, 3), (148, .iconst 1, 1), (149, .iaload, 1), (150, .iadd, 1), (151, .aload_n 0, 1), (152, .iconst 0, 1), (153, .bipush 11, 2), (155, .invokevirtual 98, 3), (158, .iastore, 1), (159, .aload_n 0, 1), (160, .getfield 23, 3), (163, .iconst 1, 1), (164, .dup2, 1), (165, .iaload, 1), (166, .iconst 1, 1), (167, .iadd, 1), (168, .iastore, 1), (169, .goto 21, 3), (172, .aload_n 0, 1), (173, .getfield 38, 3), (176, .iconst 1, 1), (177, .aload_n 0, 1), (178, .iconst 0, 1), (179, .bipush 10, 2), (181, .invokevirtual 98, 3), (184, .iastore, 1), (185, .aload_n 0, 1), (186, .iconst 1, 1), (187, .putfield 94, 3), (190, .return_, 1)])
set_option maxRecDepth 20000 in
theorem oX7_readRow : MOk mX7_readRow := mok_V rfl (by decide +kernel) rfl (mW 795 (by decide +kernel) (by decide +kernel)) (mW 87 (by decide +kernel) (by decide +kernel)) (mW 794 (by decide +kernel) (by decide +kernel)) (mW 62 (by decide +kernel) (by decide +kernel)) ⟨(by decide +kernel), (by decide +kernel), (by decide +kernel)⟩ (by decide) (by decide +kernel)
def mX7_register : MI := (yX7_register, cX7_register, 9, some .int, 7, 1, false, 2, [(0, .iload_n 1, 1), (1, .iconst 0, 1), (2, .sipush 300, 3), (5, .invokestatic 60, 3), (8, .ifCond .eq 12, 3), (11, .iload_n 2, 1), (12, .iconst 0, 1), (13, .iconst 2, 1), (14, .invokestatic 60, 3), (17, .ifCond .ne 5, 3), (20, .iconst (-1), 1), (21, .ireturn, 1), (22, .iconst 0, 1), (23, .istore_n 3, 1), (24, .aload_n 0, 1), (25, .invokevirtual 138, 3), (28, .istore 4, 2), (30, .iconst 0, 1), (31, .istore 5, 2), (33, .iconst 0, 1), (34, .istore 6, 2), (36, .iload 6, 2), (38, .aload_n 0, 1), (39, .invokevirtual 138, 3), (42, .if_icmp .gt 85, 3), (45, .iconst 0, 1), (46, .istore 7, 2), (48, .iconst 0, 1), (49, .istore 8, 2), (51, .iload 8, 2), (53, .aload_n 0, 1), (54, .getfield 23, 3), (57, .iconst 0, 1), (58, .iaload, 1), (59, .if_icmp .ge 39, 3), (62, .iload 7, 2), (64, .iload 6, 2), (66, .iload 8, 2), (68, .ishr, 1), (69, .iconst 1, 1), (70, .iand, 1), (71, .iconst 1, 1), (72, .if_icmp .ne 16, 3), (75, .aload_n 0, 1), (76, .getfield 41, 3), (79, .bipush 8, 2), (81, .iload 8, 2), (83, .iadd, 1), (84, .iaload, 1), (85, .goto 4, 3), (88, .iconst 0, 1), (89, .iadd, 1), (90, .istore 7, 2), (92, .iinc 8 1, 3), (95, .goto (-44), 3), (98, .iload 7, 2), (100, .iload_n 1, 1), (101, .if_icmp .ne 20, 3), (104, .iinc 3 1, 3), (107, .iload 4, 2), (109, .iload 6, 2), (111, .iand, 1), (112, .istore 4, 2), (114, .iload 5, 2), (116, .iload 6, 2), (118, .ior, 1), (119, .istore 5, 2), (121, .iinc 6 1, 3), (124, .goto (-88), 3), (127, .iload_n 2, 1), (128, .ifCond .ne 7, 3), (131, .iload_n 3, 1), (132, .goto 24, 3), (135, .iload_n 2, 1), (136, .iconst 2, 1), (137, .if_icmp .ne 8, 3), (140, .iload 5, 2), (142, .goto 14, 3), (145, .iload_n 3, 1), (146, .ifCond .ne 8, 3), (149, .bipush (-9), 2), (151, .goto 5, 3), (154, .iload 4, 2), (156, .ireturn, 1)])
set_option maxRecDepth 20000 in
theorem oX7_register : MOk mX7_register := mok_V rfl (by decide +kernel) rfl (mW 933 (by decide +kernel) (by decide +kernel)) (mW 87 (by decide +kernel) (by decide +kernel)) (mW 931 (by decide +kernel) (by decide +kernel)) (mW 932 (by decide +kernel) (by decide +kernel)) ⟨(by decide +kernel), (by decide +kernel), (by decide +kernel)⟩ (by decide) (by decide +kernel)
def mX7_sails : MI := (yX7_sails, cX7_sails, 7, some .int, 7, 2, false, 2, [(0, .iload_n 1, 1), (1, .iconst 1, 1), (2, .aload_n 0, 1), (3, .invokevirtual 138, 3), (6, .invokestatic 60, 3), (9, .ifCond .eq 14, 3), (12, .iload_n 2, 1), (13, .iconst 0, 1), (14, .sipush 9999, 3), (17, .invokestatic 60, 3), (20, .ifCond .ne 5, 3), (23, .iconst (-1), 1), (24, .ireturn, 1), (25, .aload_n 0, 1), (26, .iload_n 1, 1), (27, .invokevirtual 141, 3), (30, .ifCond .ne 6, 3), (33, .bipush (-2), 2), (35, .ireturn, 1), (36, .aload_n 0, 1), (37, .invokevirtual 124, 3), (40, .aload_n 0, 1), (41, .getfield 41, 3), (44, .iconst 0, 1), (45, .iaload, 1), (46, .istore_n 3, 1), (47, .aload_n 0, 1), (48, .iload_n 1, 1), (49, .iload_n 3, 1), (50, .invokevirtual 144, 3), (53, .istore 4, 2), (55, .iconst 0, 1), (56, .istore 5, 2), (58, .iconst 0, 1), (59, .istore 6, 2), (61, .iload 6, 2), (63, .aload_n 0, 1), (64, .getfield 23, 3), (67, .iconst 0, 1), (68, .iaload, 1), (69, .if_icmp .ge 120, 3), (72, .iload_n 1, 1), (73, .iload 6, 2), (75, .ishr, 1), (76, .iconst 1, 1), (77, .iand, 1), (78, .iconst 1, 1), (79, .if_icmp .ne 104, 3), (82, .aload_n 0, 1), (83, .getfield 41, 3), (86, .iconst 3, 1), (87, .iload 6, 2), (89, .iadd, 1), (90, .iload 6, 2), (92, .iload 4, 2), (94, .if_icmp .ne 7, 3), (97, .iconst 2, 1), (98, .goto 24, 3), (101, .aload_n 0, 1), (102, .iload_n 2, 1), (103, .iload 6, 2), (105, .invokevirtual 147, 3), (108, .aload_n 0, 1), (109, .getfield 17, 3), (112, .iload_n 3, 1), (113, .iaload, 1), (114, .if_icmp .ge 7, 3), (117, .iconst 3, 1), (118, .goto 4, 3), (121, .iconst 1, 1), (122, .iastore, 1), (123, .aload_n 0, 1), (124, .getfield 41, 3), (127, .iconst 3, 1), (128, .iload 6, 2), (130, .iadd, 1), (131, .iaload, 1), (132, .iconst 1, 1), (133, .if_icmp .ne 50, 3), (136, .aload_n 0, 1), (137, .getfield 41, 3), (140, .iconst 1, 1), (141, .dup2, 1), (142, .iaload, 1), (143, .aload_n 0, 1), (144, .iload 6, 2), (146, .invokevirtual 110, 3), (149, .iadd, 1), (150, .iastore, 1), (151, .aload_n 0, 1), (152, .getfield 41, 3), (155, .iconst 2, 1), (156, .dup2, 1), (157, .iaload, 1), (158, .aload_n 0, 1), (159, .getfield 38, 3), (162, .iconst 0, 1), (163, .iaload, 1), (164, .aload_n 0, 1), (165, .getfield 41, 3), (168, .bipush 8, 2), (170, .iload 6, 2), (172, .iadd, 1), (173, .iaload, 1), (174, .imul, 1), (175, .bipush 10, 2), (177, .idiv, 1), (178, .iadd, 1), (179, .iastore, 1), (180, .iinc 5 1, 3), (183, .iinc 6 1, 3), (186, .goto (-125), 3), (189, .iload 5, 2), (191, .ireturn, 1)])
set_option maxRecDepth 20000 in
theorem oX7_sails : MOk mX7_sails := mok_V rfl (by decide +kernel) rfl (mW 831 (by decide +kernel) (by decide +kernel)) (mW 87 (by decide +kernel) (by decide +kernel)) (mW 829 (by decide +kernel) (by decide +kernel)) (mW 830 (by decide +kernel) (by decide +kernel)) ⟨(by decide +kernel), (by decide +kernel), (by decide +kernel)⟩ (by decide) (by decide +kernel)
def mX7_season : MI := (yX7_season, cX7_season, 3, some .int, 7, 5, false, 0, [(0, .aload_n 0, 1), (1, .iconst 0, 1), (2, .putfield 68, 3), (5, .aload_n 0, 1), (6, .bipush (-9), 2), (8, .putfield 84, 3), (11, .aload_n 0, 1), (12, .invokevirtual 54, 3), (15, .iconst 0, 1), (16, .istore_n 1, 1), (17, .aload_n 0, 1), (18, .invokevirtual 87, 3), (21, .aload_n 0, 1), (22, .getfield 84, 3), (25, .bipush (-9), 2), (27, .if_icmp .ne 64, 3), (30, .aload_n 0, 1), (31, .getfield 81, 3), (34, .iconst 3, 1), (35, .if_icmp .eq 56, 3), (38, .aload_n 0, 1), (39, .getfield 81, 3), (42, .istore_n 2, 1), (43, .aload_n 0, 1), (44, .aload_n 0, 1), (45, .iload_n 2, 1), (46, .invokevirtual 102, 3), (49, .invokevirtual 90, 3), (52, .pop, 1), (53, .aload_n 0, 1), (54, .getfield 84, 3), (57, .bipush (-9), 2), (59, .if_icmp .ne 29, 3), (62, .aload_n 0, 1), (63, .iload_n 2, 1), (64, .invokevirtual 106, 3), (67, .aload_n 0, 1), (68, .aload_n 0, 1), (69, .getfield 81, 3), (72, .iconst 2, 1), (73, .if_icmp .ne 7, 3), (76, .iconst 1, 1), (77, .goto 4, 3), (80, .iconst 0, 1), (81, .invokevirtual 90, 3), (84, .pop, 1), (85, .iinc 1 1, 3), (88, .goto (-67), 3), (91, .aload_n 0, 1), (92, .getfield 84, 3), (95, .bipush (-9), 2), (97, .if_icmp .eq 11, 3), (100, .bipush (-10), 2), (102, .aload_n 0, 1), (103, .getfield 84, 3), (106, .isub, 1), (107, .ireturn, 1), (108, .aload_n 0, 1), (109, .invokevirtual 57, 3), (112, .aload_n 0, 1), (113, .iconst 0, 1), (114, .putfield 64, 3), (117, .iload_n 1, 1), (118, .ireturn, 1)])
set_option maxRecDepth 20000 in
theorem oX7_season : MOk mX7_season := mok_V rfl (by decide +kernel) rfl (mW 775 (by decide +kernel) (by decide +kernel)) (mW 87 (by decide +kernel) (by decide +kernel)) (mW 773 (by decide +kernel) (by decide +kernel)) (mW 774 (by decide +kernel) (by decide +kernel)) ⟨(by decide +kernel), (by decide +kernel), (by decide +kernel)⟩ (by decide) (by decide +kernel)
def mX7_setIn : MI := (yX7_setIn, cX7_setIn, 4, some .int, 7, 0, false, 1, [(0, .iconst 0, 1), (1, .istore_n 2, 1), (2, .iconst 0, 1), (3, .istore_n 3, 1), (4, .iload_n 3, 1), (5, .aload_n 0, 1), (6, .getfield 23, 3), (9, .iconst 0, 1), (10, .iaload, 1), (11, .if_icmp .ge 31, 3), (14, .iload_n 2, 1), (15, .aload_n 0, 1), (16, .getfield 41, 3), (19, .iconst 3, 1), (20, .iload_n 3, 1), (21, .iadd, 1), (22, .iaload, 1), (23, .iload_n 1, 1), (24, .if_icmp .ne 9, 3), (27, .iconst 1, 1), (28, .iload_n 3, 1), (29, .ishl, 1), (30, .goto 4, 3), (33, .iconst 0, 1), (34, .ior, 1), (35, .istore_n 2, 1), (36, .iinc 3 1, 3), (39, .goto (-35), 3), (42, .iload_n 2, 1), (43, .ireturn, 1)])
set_option maxRecDepth 20000 in
theorem oX7_setIn : MOk mX7_setIn := mok_V rfl (by decide +kernel) rfl (mW 843 (by decide +kernel) (by decide +kernel)) (mW 87 (by decide +kernel) (by decide +kernel)) (mW 842 (by decide +kernel) (by decide +kernel)) (mW 70 (by decide +kernel) (by decide +kernel)) ⟨(by decide +kernel), (by decide +kernel), (by decide +kernel)⟩ (by decide) (by decide +kernel)
def mX7_shift : MI := (yX7_shift, cX7_shift, 5, some .int, 7, 2, false, 4, [(0, .aload_n 0, 1), (1, .iload_n 1, 1), (2, .invokevirtual 117, 3), (5, .ifCond .eq 13, 3), (8, .iload_n 2, 1), (9, .iconst 1, 1), (10, .bipush 60, 2), (12, .invokestatic 60, 3), (15, .ifCond .ne 5, 3), (18, .iconst (-1), 1), (19, .ireturn, 1), (20, .aload_n 0, 1), (21, .getfield 41, 3), (24, .iconst 3, 1), (25, .iload_n 1, 1), (26, .iadd, 1), (27, .iaload, 1), (28, .ifCond .ne 31, 3), (31, .aload_n 0, 1), (32, .getfield 41, 3), (35, .iload_n 3, 1), (36, .iload_n 1, 1), (37, .iadd, 1), (38, .iaload, 1), (39, .iload_n 2, 1), (40, .if_icmp .lt 19, 3), (43, .aload_n 0, 1), (44, .getfield 41, 3), (47, .iload 4, 2), (49, .iload_n 1, 1), (50, .iadd, 1), (51, .iaload, 1), (52, .iload_n 2, 1), (53, .iadd, 1), (54, .bipush 60, 2), (56, .if_icmp .le 6, 3), (59, .bipush (-2), 2), (61, .ireturn, 1), (62, .aload_n 0, 1), (63, .invokevirtual 124, 3), (66, .aload_n 0, 1), (67, .getfield 41, 3), (70, .iload_n 3, 1), (71, .iload_n 1, 1), (72, .iadd, 1), (73, .dup2, 1), (74, .iaload, 1), (75, .iload_n 2, 1), (76, .isub, 1), (77, .iastore, 1), (78, .aload_n 0, 1), (79, .getfield 41, 3), (82, .iload 4, 2), (84, .iload_n 1, 1), (85, .iadd, 1), (86, .dup2, 1), (87, .iaload, 1), (88, .iload_n 2, 1), (89, .iadd, 1), (90, .iastore, 1), (91, .aload_n 0, 1), (92, .getfield 41, 3), (95, .iload 4, 2), (97, .iload_n 1, 1), (98, .iadd, 1), (99, .iaload, 1), (100, .ireturn, 1)])
set_option maxRecDepth 20000 in
theorem oX7_shift : MOk mX7_shift := mok_V rfl (by decide +kernel) rfl (mW 867 (by decide +kernel) (by decide +kernel)) (mW 87 (by decide +kernel) (by decide +kernel)) (mW 866 (by decide +kernel) (by decide +kernel)) (mW 74 (by decide +kernel) (by decide +kernel)) ⟨(by decide +kernel), (by decide +kernel), (by decide +kernel)⟩ (by decide) (by decide +kernel)
def mX7_ship : MI := (yX7_ship, cX7_ship, 3, some .int, 7, 2, false, 2, [(0, .aload_n 0, 1), (1, .iload_n 1, 1), (2, .invokevirtual 117, 3), (5, .ifCond .ne 5, 3), (8, .iconst (-1), 1), (9, .ireturn, 1), (10, .iload_n 2, 1), (11, .tableswitch 76 0 4 #[33, 43, 53, 60, 67], 33), (44, .aload_n 0, 1), (45, .getfield 41, 3), (48, .bipush 8, 2), (50, .iload_n 1, 1), (51, .iadd, 1), (52, .iaload, 1), (53, .ireturn, 1), (54, .aload_n 0, 1), (55, .getfield 41, 3), (58, .bipush 13, 2), (60, .iload_n 1, 1), (61, .iadd, 1), (62, .iaload, 1), (63, .ireturn, 1), (64, .aload_n 0, 1), (65, .getfield 32, 3), (68, .iload_n 1, 1), (69, .iaload, 1), (70, .ireturn, 1), (71, .aload_n 0, 1), (72, .getfield 35, 3), (75, .iload_n 1, 1), (76, .iaload, 1), (77, .ireturn, 1), (78, .aload_n 0, 1), (79, .getfield 41, 3), (82, .iconst 3, 1), (83, .iload_n 1, 1), (84, .iadd, 1), (85, .iaload, 1), (86, .ireturn, 1), (87, .iconst (-1), 1), (88, .ireturn, 1)])
set_option maxRecDepth 20000 in
theorem oX7_ship : MOk mX7_ship := mok_V rfl (by decide +kernel) rfl (mW 811 (by decide +kernel) (by decide +kernel)) (mW 87 (by decide +kernel) (by decide +kernel)) (mW 809 (by decide +kernel) (by decide +kernel)) (mW 810 (by decide +kernel) (by decide +kernel)) ⟨(by decide +kernel), (by decide +kernel), (by decide +kernel)⟩ (by decide) (by decide +kernel)
def mX7_silver : MI := (yX7_silver, cX7_silver, 2, some .int, 7, 0, false, 1, [(0, .aload_n 0, 1), (1, .getfield 41, 3), (4, .bipush 8, 2), (6, .iload_n 1, 1), (7, .iadd, 1), (8, .iaload, 1), (9, .aload_n 0, 1), (10, .getfield 41, 3), (13, .bipush 13, 2), (15, .iload_n 1, 1), (16, .iadd, 1), (17, .iaload, 1), (18, .iadd, 1), (19, .ireturn, 1)])
set_option maxRecDepth 20000 in
theorem oX7_silver : MOk mX7_silver := mok_V rfl (by decide +kernel) rfl (mW 851 (by decide +kernel) (by decide +kernel)) (mW 87 (by decide +kernel) (by decide +kernel)) (mW 850 (by decide +kernel) (by decide +kernel)) (mW 72 (by decide +kernel) (by decide +kernel)) ⟨(by decide +kernel), (by decide +kernel), (by decide +kernel)⟩ (by decide) (by decide +kernel)
def mX7_silverOf : MI := (yX7_silverOf, cX7_silverOf, 4, some .int, 7, 1, false, 1, [(0, .iconst 0, 1), (1, .istore_n 2, 1), (2, .iconst 0, 1), (3, .istore_n 3, 1), (4, .iload_n 3, 1), (5, .aload_n 0, 1), (6, .getfield 23, 3), (9, .iconst 0, 1), (10, .iaload, 1), (11, .if_icmp .ge 30, 3), (14, .iload_n 2, 1), (15, .iload_n 1, 1), (16, .iload_n 3, 1), (17, .ishr, 1), (18, .iconst 1, 1), (19, .iand, 1), (20, .iconst 1, 1), (21, .if_icmp .ne 11, 3), (24, .aload_n 0, 1), (25, .iload_n 3, 1), (26, .invokevirtual 110, 3), (29, .goto 4, 3), (32, .iconst 0, 1), (33, .iadd, 1), (34, .istore_n 2, 1), (35, .iinc 3 1, 3), (38, .goto (-34), 3), (41, .iload_n 2, 1), (42, .ireturn, 1)])
set_option maxRecDepth 20000 in
theorem oX7_silverOf : MOk mX7_silverOf := mok_V rfl (by decide +kernel) rfl (mW 891 (by decide +kernel) (by decide +kernel)) (mW 87 (by decide +kernel) (by decide +kernel)) (mW 890 (by decide +kernel) (by decide +kernel)) (mW 75 (by decide +kernel) (by decide +kernel)) ⟨(by decide +kernel), (by decide +kernel), (by decide +kernel)⟩ (by decide) (by decide +kernel)
def mX7_step : MI := (yX7_step, cX7_step, 2, none, 7, 1, false, 0, [(0, .aload_n 0, 1), (1, .invokevirtual 71, 3), (4, .bipush 32, 2), (6, .if_icmp .ne 16, 3), (9, .aload_n 0, 1), (10, .dup, 1), (11, .getfield 68, 3), (14, .iconst 1, 1), (15, .iadd, 1), (16, .putfield 68, 3), (19, .goto (-19), 3), (22, .aload_n 0, 1), (23, .aload_n 0, 1), (24, .getfield 68, 3), (27, .putfield 75, 3), (30, .aload_n 0, 1), (31, .iconst 0, 1), (32, .putfield 78, 3), (35, .aload_n 0, 1), (36, .invokevirtual 71, 3), (39, .istore_n 1, 1), (40, .iload_n 1, 1), (41, .ifCond .ge 11, 3), (44, .aload_n 0, 1), (45, .iconst 3, 1), (46, .putfield 81, 3), (49, .goto 204, 3), (52, .iload_n 1, 1), (53, .bipush 97, 2), (55, .bipush 122, 2), (57, .invokestatic 60, 3), (60, .ifCond .eq 55, 3), (63, .aload_n 0, 1), (64, .invokevirtual 71, 3), (67, .bipush 97, 2), (69, .bipush 122, 2), (71, .invokestatic 60, 3), (74, .ifCond .eq 16, 3), (77, .aload_n 0, 1), (78, .dup, 1), (79, .getfield 68, 3), (82, .iconst 1, 1), (83, .iadd, 1), (84, .putfield 68, 3), (87, .goto (-24), 3), (90, .aload_n 0, 1), (91, .aload_n 0, 1), (92, .getfield 68, 3), (95, .aload_n 0, 1), (96, .getfield 75, 3), (99, .isub, 1), (100, .iconst 1, 1), (101, .if_icmp .ne 7, 3), (104, .iload_n 1, 1), (105, .goto 4, 3), (108, .iconst 4, 1), (109, .putfield 81, 3), (112, .goto 141, 3), (115, .iload_n 1, 1), (116, .bipush 48, 2), (118, .bipush 57, 2), (120, .invokestatic 60, 3), (123, .ifCond .eq 105, 3), (126, .aload_n 0, 1), (127, .invokevirtual 71, 3), (130, .bipush 48, 2), (132, .bipush 57, 2), (134, .invokestatic 60, 3), (137, .ifCond .eq 51, 3), (140, .aload_n 0, 1), (141, .aload_n 0, 1), (142, .getfield 78, 3), (145, .bipush 99, 2), (147, .if_icmp .le 10, 3), (150, .aload_n 0, 1), (151, .getfield 78, 3), (154, .goto 18, 3), (157, .bipush 10, 2), (159, .aload_n 0, 1), (160, .getfield 78, 3), (163, .imul, 1), (164, .aload_n 0, 1), (165, .invokevirtual 71, 3), (168, .iadd, 1), (169, .bipush 48, 2), (171, .isub, 1), (172, .putfield 78, 3), (175, .aload_n 0, 1), (176, .dup, 1), (177, .getfield 68, 3), (180, .iconst 1, 1), (181, .iadd, 1), (182, .putfield 68, 3), (185, .goto (-59), 3), (188, .aload_n 0, 1), (189, .aload_n 0, 1), (190, .getfield 78, 3), (193, .bipush 99, 2), (195, .if_icmp .gt 22, 3), (198, .iload_n 1, 1), (199, .bipush 48, 2), (201, .if_icmp .ne 20, 3), (204, .aload_n 0, 1), (205, .getfield 68, 3), (208, .aload_n 0, 1), (209, .getfield 75, 3), (212, .isub, 1), (213, .iconst 1, 1), (214, .if_icmp .le 7, 3), (217, .iconst 4, 1), (218, .goto 4, 3), (221, .iconst 1, 1), (222, .putfield 81, 3), (225, .goto 28, 3), (228, .aload_n 0, 1), (229, .dup, 1), (230, .getfield 68, 3), (233, .iconst 1, 1), (234, .iadd, 1), (235, .putfield 68, 3), (238, .aload_n 0, 1), (239, .iload_n 1, 1), (240, .bipush 59, 2), (242, .if_icmp .ne 7, 3), (245, .iconst 2, 1), (246, .goto 4, 3), (249, .iconst 4, 1), (250, .putfield 81, 3), (253, .return_, 1)])
set_option maxRecDepth 20000 in
theorem oX7_step : MOk mX7_step := mok_V rfl (by decide +kernel) rfl (mW 779 (by decide +kernel) (by decide +kernel)) (mW 87 (by decide +kernel) (by decide +kernel)) (mW 778 (by decide +kernel) (by decide +kernel)) (mW 58 (by decide +kernel) (by decide +kernel)) ⟨(by decide +kernel), (by decide +kernel), (by decide +kernel)⟩ (by decide) (by decide +kernel)
def mX7_takeDraft : MI := (yX7_takeDraft, cX7_takeDraft, 2, none, 7, 0, false, 0, [(0, .aload_n 0, 1), (1, .getfield 13, 3), (4, .iconst 0, 1), (5, .aload_n 0, 1), (6, .getfield 13, 3), (9, .iconst 1, 1), (10, .iaload, 1), (11, .iastore, 1), (12, .aload_n 0, 1), (13, .getfield 23, 3), (16, .iconst 0, 1), (17, .aload_n 0, 1), (18, .getfield 23, 3), (21, .iconst 1, 1), (22, .iaload, 1), (23, .iastore, 1), (24, .aload_n 0, 1), (25, .getfield 38, 3), (28, .iconst 0, 1), (29, .aload_n 0, 1), (30, .getfield 38, 3), (33, .iconst 1, 1), (34, .iaload, 1), (35, .iastore, 1), (36, .iconst 0, 1), (37, .istore_n 1, 1), (38, .iload_n 1, 1), (39, .bipush 12, 2), (41, .if_icmp .ge 39, 3), (44, .aload_n 0, 1), (45, .getfield 17, 3), (48, .iload_n 1, 1), (49, .aload_n 0, 1), (50, .getfield 17, 3), (53, .bipush 12, 2), (55, .iload_n 1, 1), (56, .iadd, 1), (57, .iaload, 1), (58, .iastore, 1), (59, .aload_n 0, 1), (60, .getfield 20, 3), (63, .iload_n 1, 1), (64, .aload_n 0, 1), (65, .getfield 20, 3), (68, .bipush 12, 2), (70, .iload_n 1, 1), (71, .iadd, 1), (72, .iaload, 1), (73, .iastore, 1), (74, .iinc 1 1, 3), (77, .goto (-39), 3), (80, .iconst 0, 1), (81, .istore_n 1, 1), (82, .iload_n 1, 1), (83, .bipush 18, 2), (85, .if_icmp .ge 16, 3), (88, .aload_n 0, 1), (89, .getfield 41, 3), (92, .iload_n 1, 1), (93, .iconst 0, 1), (94, .iastore, 1), (95, .iinc 1 1, 3), (98, .goto (-16), 3), (101, .iconst 0, 1), (102, .istore_n 1, 1), (103, .iload_n 1, 1), (104, .aload_n 0, 1), (105, .getfield 23, 3), (108, .iconst 0, 1), (109, .iaload, 1), (110, .if_icmp .ge 67, 3), (113, .aload_n 0, 1), (114, .getfield 32, 3), (117, .iload_n 1, 1), (118, .aload_n 0, 1), (119, .getfield 32, 3), (122, .iconst 5, 1), (123, .iload_n 1, 1), (124, .iadd, 1), (125, .iaload, 1), (126, .iastore, 1), (127, .aload_n 0, 1), (128, .getfield 35, 3), (131, .iload_n 1, 1), (132, .aload_n 0, 1), (133, .getfield 35, 3), (136, .iconst 5, 1), (137, .iload_n 1, 1), (138, .iadd, 1), (139, .iaload, 1), (140, .iastore, 1), (141, .aload_n 0, 1), (142, .getfield 41, 3), (145, .bipush 8, 2), (147, .iload_n 1, 1), (148, .iadd, 1), (149, .aload_n 0, 1), (150, .getfield 26, 3), (153, .iload_n 1, 1), (154, .iaload, 1), (155, .iastore, 1), (156, .aload_n 0, 1), (157, .getfield 41, 3), (160, .bipush 13, 2), (162, .iload_n 1, 1), (163, .iadd, 1), (164, .aload_n 0, 1), (165, .getfield 29, 3), (168, .iload_n 1, 1), (169, .iaload, 1), (170, .iastore, 1), (171, .iinc 1 1, 3), (174, .goto (-71), 3), (177, .aload_n 0, 1), (178, .getfield 41, 3), (181, .bipush 18, 2), (183, .iconst 0, 1), (184, .iastore, 1), (185, .aload_n 0, 1), (186, .getfield 44, 3), (189, .iconst 0, 1), (190, .iconst 0, 1), (191, .bastore, 1), (192, .aload_n 0, 1), (193, .getfield 44, 3), (196, .iconst 1, 1), (197, .iconst 0, 1), (198, .bastore, 1), (199, .return_, 1)])
set_option maxRecDepth 20000 in
theorem oX7_takeDraft : MOk mX7_takeDraft := mok_V rfl (by decide +kernel) rfl (mW 691 (by decide +kernel) (by decide +kernel)) (mW 87 (by decide +kernel) (by decide +kernel)) (mW 690 (by decide +kernel) (by decide +kernel)) (mW 57 (by decide +kernel) (by decide +kernel)) ⟨(by decide +kernel), (by decide +kernel), (by decide +kernel)⟩ (by decide) (by decide +kernel)
def mX7_takenOf : MI := (yX7_takenOf, cX7_takenOf, 6, some .int, 7, 1, false, 2, [(0, .iconst 0, 1), (1, .istore_n 3, 1), (2, .bipush (-9), 2), (4, .istore 4, 2), (6, .iconst 0, 1), (7, .istore 5, 2), (9, .iload 5, 2), (11, .aload_n 0, 1), (12, .getfield 23, 3), (15, .iconst 0, 1), (16, .iaload, 1), (17, .if_icmp .ge 60, 3), (20, .iload_n 1, 1), (21, .iload 5, 2), (23, .ishr, 1), (24, .iconst 1, 1), (25, .iand, 1), (26, .iconst 1, 1), (27, .if_icmp .ne 44, 3), (30, .iload_n 3, 1), (31, .aload_n 0, 1), (32, .getfield 32, 3), (35, .iload 5, 2), (37, .iaload, 1), (38, .iadd, 1), (39, .istore_n 3, 1), (40, .iload 4, 2), (42, .bipush (-9), 2), (44, .if_icmp .eq 18, 3), (47, .aload_n 0, 1), (48, .iload 5, 2), (50, .invokevirtual 110, 3), (53, .aload_n 0, 1), (54, .iload 4, 2), (56, .invokevirtual 110, 3), (59, .if_icmp .le 8, 3), (62, .iload 5, 2), (64, .goto 5, 3), (67, .iload 4, 2), (69, .istore 4, 2), (71, .iinc 5 1, 3), (74, .goto (-65), 3), (77, .iload_n 3, 1), (78, .aload_n 0, 1), (79, .getfield 20, 3), (82, .iload_n 2, 1), (83, .iaload, 1), (84, .if_icmp .ge 8, 3), (87, .iload 4, 2), (89, .goto 5, 3), (92, .bipush (-9), 2), (94, .ireturn, 1)])
set_option maxRecDepth 20000 in
theorem oX7_takenOf : MOk mX7_takenOf := mok_V rfl (by decide +kernel) rfl (mW 847 (by decide +kernel) (by decide +kernel)) (mW 87 (by decide +kernel) (by decide +kernel)) (mW 846 (by decide +kernel) (by decide +kernel)) (mW 71 (by decide +kernel) (by decide +kernel)) ⟨(by decide +kernel), (by decide +kernel), (by decide +kernel)⟩ (by decide) (by decide +kernel)
def mX7_throwsOff : MI := (yX7_throwsOff, cX7_throwsOff, 4, some .int, 7, 2, false, 2, [(0, .aload_n 0, 1), (1, .iload_n 1, 1), (2, .invokevirtual 117, 3), (5, .ifCond .eq 13, 3), (8, .iload_n 2, 1), (9, .iconst 1, 1), (10, .bipush 99, 2), (12, .invokestatic 60, 3), (15, .ifCond .ne 5, 3), (18, .iconst (-1), 1), (19, .ireturn, 1), (20, .aload_n 0, 1), (21, .getfield 41, 3), (24, .iconst 3, 1), (25, .iload_n 1, 1), (26, .iadd, 1), (27, .iaload, 1), (28, .ifCond .ne 12, 3), (31, .aload_n 0, 1), (32, .iload_n 1, 1), (33, .invokevirtual 110, 3), (36, .iload_n 2, 1), (37, .if_icmp .ge 6, 3), (40, .bipush (-2), 2), (42, .ireturn, 1), (43, .aload_n 0, 1), (44, .invokevirtual 124, 3), (47, .iload_n 2, 1), (48, .aload_n 0, 1), (49, .getfield 41, 3), (52, .bipush 13, 2), (54, .iload_n 1, 1), (55, .iadd, 1), (56, .iaload, 1), (57, .if_icmp .ge 7, 3), (60, .iload_n 2, 1), (61, .goto 12, 3), (64, .aload_n 0, 1), (65, .getfield 41, 3), (68, .bipush 13, 2), (70, .iload_n 1, 1), (71, .iadd, 1), (72, .iaload, 1), (73, .istore_n 3, 1), (74, .aload_n 0, 1), (75, .getfield 41, 3), (78, .bipush 13, 2), (80, .iload_n 1, 1), (81, .iadd, 1), (82, .dup2, 1), (83, .iaload, 1), (84, .iload_n 3, 1), (85, .isub, 1), (86, .iastore, 1), (87, .aload_n 0, 1), (88, .getfield 41, 3), (91, .bipush 8, 2), (93, .iload_n 1, 1), (94, .iadd, 1), (95, .dup2, 1), (96, .iaload, 1), (97, .iload_n 2, 1), (98, .iload_n 3, 1), (99, .isub, 1), (100, .isub, 1), (101, .iastore, 1), (102, .aload_n 0, 1), (103, .iload_n 1, 1), (104, .invokevirtual 110, 3), (107, .ireturn, 1)])
set_option maxRecDepth 20000 in
theorem oX7_throwsOff : MOk mX7_throwsOff := mok_V rfl (by decide +kernel) rfl (mW 875 (by decide +kernel) (by decide +kernel)) (mW 87 (by decide +kernel) (by decide +kernel)) (mW 873 (by decide +kernel) (by decide +kernel)) (mW 874 (by decide +kernel) (by decide +kernel)) ⟨(by decide +kernel), (by decide +kernel), (by decide +kernel)⟩ (by decide) (by decide +kernel)
def mX7_trace : MI := (yX7_trace, cX7_trace, 1, some .long, 7, 0, false, 0, [(0, .aload_n 0, 1), (1, .getfield 175, 3), (4, .lreturn, 1)])
set_option maxRecDepth 20000 in
theorem oX7_trace : MOk mX7_trace := mok_V rfl (by decide +kernel) rfl (mW 959 (by decide +kernel) (by decide +kernel)) (mW 87 (by decide +kernel) (by decide +kernel)) (mW 957 (by decide +kernel) (by decide +kernel)) (mW 958 (by decide +kernel) (by decide +kernel)) ⟨(by decide +kernel), (by decide +kernel), (by decide +kernel)⟩ (by decide) (by decide +kernel)
def mX7_type : MI := (yX7_type, cX7_type, 2, some .int, 7, 1, false, 1, [(0, .iload_n 1, 1), (1, .iconst 0, 1), (2, .sipush 255, 3), (5, .invokestatic 60, 3), (8, .ifCond .ne 5, 3), (11, .iconst (-1), 1), (12, .ireturn, 1), (13, .aload_n 0, 1), (14, .getfield 64, 3), (17, .sipush 180, 3), (20, .if_icmp .ne 6, 3), (23, .bipush (-3), 2), (25, .ireturn, 1), (26, .aload_n 0, 1), (27, .getfield 7, 3), (30, .aload_n 0, 1), (31, .getfield 64, 3), (34, .iload_n 1, 1), (35, .i2b, 1), (36, .bastore, 1), (37, .aload_n 0, 1), (38, .dup, 1), (39, .getfield 64, 3), (42, .iconst 1, 1), (43, .iadd, 1), (44, .putfield 64, 3), (47, .aload_n 0, 1), (48, .getfield 64, 3), (51, .ireturn, 1)])
set_option maxRecDepth 20000 in
theorem oX7_type : MOk mX7_type := mok_V rfl (by decide +kernel) rfl (mW 764 (by decide +kernel) (by decide +kernel)) (mW 87 (by decide +kernel) (by decide +kernel)) (mW 762 (by decide +kernel) (by decide +kernel)) (mW 763 (by decide +kernel) (by decide +kernel)) ⟨(by decide +kernel), (by decide +kernel), (by decide +kernel)⟩ (by decide) (by decide +kernel)
def mX7_undo : MI := (yX7_undo, cX7_undo, 2, some .int, 7, 0, false, 0, [(0, .aload_n 0, 1), (1, .getfield 41, 3), (4, .bipush 18, 2), (6, .iaload, 1), (7, .ifCond .ne 6, 3), (10, .bipush (-2), 2), (12, .ireturn, 1), (13, .aload_n 0, 1), (14, .getfield 41, 3), (17, .bipush 18, 2), (19, .dup2, 1), (20, .iaload, 1), (21, .iconst 1, 1), (22, .isub, 1), (23, .iastore, 1), (24, .iconst 0, 1), (25, .istore_n 1, 1), (26, .iload_n 1, 1), (27, .bipush 18, 2), (29, .if_icmp .ge 35, 3), (32, .aload_n 0, 1), (33, .getfield 41, 3), (36, .iload_n 1, 1), (37, .aload_n 0, 1), (38, .getfield 41, 3), (41, .bipush 19, 2), (43, .bipush 18, 2), (45, .aload_n 0, 1), (46, .getfield 41, 3), (49, .bipush 18, 2), (51, .iaload, 1), (52, .imul, 1), (53, .iadd, 1), (54, .iload_n 1, 1), (55, .iadd, 1), (56, .iaload, 1), (57, .iastore, 1), (58, .iinc 1 1, 3), (61, .goto (-35), 3), (64, .aload_n 0, 1), (65, .getfield 41, 3), (68, .bipush 18, 2), (70, .iaload, 1), (71, .ireturn, 1)])
set_option maxRecDepth 20000 in
theorem oX7_undo : MOk mX7_undo := mok_V rfl (by decide +kernel) rfl (mW 883 (by decide +kernel) (by decide +kernel)) (mW 87 (by decide +kernel) (by decide +kernel)) (mW 881 (by decide +kernel) (by decide +kernel)) (mW 882 (by decide +kernel) (by decide +kernel)) ⟨(by decide +kernel), (by decide +kernel), (by decide +kernel)⟩ (by decide) (by decide +kernel)
def mX7_waits : MI := (yX7_waits, cX7_waits, 1, some .int, 7, 1, false, 0, [(0, .aload_n 0, 1), (1, .invokevirtual 120, 3), (4, .ifCond .eq 6, 3), (7, .bipush (-2), 2), (9, .ireturn, 1), (10, .aload_n 0, 1), (11, .invokevirtual 124, 3), (14, .aload_n 0, 1), (15, .getfield 41, 3), (18, .iconst 0, 1), (19, .dup2, 1), (20, .iaload, 1), (21, .iconst 1, 1), (22, .iadd, 1), (23, .iastore, 1), (24, .aload_n 0, 1), (25, .getfield 41, 3), (28, .iconst 0, 1), (29, .iaload, 1), (30, .ireturn, 1)])
set_option maxRecDepth 20000 in
theorem oX7_waits : MOk mX7_waits := mok_V rfl (by decide +kernel) rfl (mW 819 (by decide +kernel) (by decide +kernel)) (mW 87 (by decide +kernel) (by decide +kernel)) (mW 817 (by decide +kernel) (by decide +kernel)) (mW 818 (by decide +kernel) (by decide +kernel)) ⟨(by decide +kernel), (by decide +kernel), (by decide +kernel)⟩ (by decide) (by decide +kernel)
def mX7_week : MI := (yX7_week, cX7_week, 3, some .int, 7, 2, false, 2, [(0, .aload_n 0, 1), (1, .iload_n 1, 1), (2, .invokevirtual 114, 3), (5, .ifCond .eq 12, 3), (8, .iload_n 2, 1), (9, .iconst 0, 1), (10, .iconst 1, 1), (11, .invokestatic 60, 3), (14, .ifCond .ne 5, 3), (17, .iconst (-1), 1), (18, .ireturn, 1), (19, .iload_n 2, 1), (20, .ifCond .ne 12, 3), (23, .aload_n 0, 1), (24, .getfield 17, 3), (27, .iload_n 1, 1), (28, .iaload, 1), (29, .goto 9, 3), (32, .aload_n 0, 1), (33, .getfield 20, 3), (36, .iload_n 1, 1), (37, .iaload, 1), (38, .ireturn, 1)])
set_option maxRecDepth 20000 in
theorem oX7_week : MOk mX7_week := mok_V rfl (by decide +kernel) rfl (mW 803 (by decide +kernel) (by decide +kernel)) (mW 87 (by decide +kernel) (by decide +kernel)) (mW 801 (by decide +kernel) (by decide +kernel)) (mW 802 (by decide +kernel) (by decide +kernel)) ⟨(by decide +kernel), (by decide +kernel), (by decide +kernel)⟩ (by decide) (by decide +kernel)
def mX7_worth : MI := (yX7_worth, cX7_worth, 3, some .int, 7, 3, false, 2, [(0, .iload_n 1, 1), (1, .iconst 0, 1), (2, .aload_n 0, 1), (3, .invokevirtual 138, 3), (6, .invokestatic 60, 3), (9, .ifCond .eq 20, 3), (12, .aload_n 0, 1), (13, .iload_n 2, 1), (14, .invokevirtual 114, 3), (17, .ifCond .eq 12, 3), (20, .aload_n 0, 1), (21, .iload_n 1, 1), (22, .iload_n 2, 1), (23, .invokevirtual 157, 3), (26, .goto 4, 3), (29, .iconst (-1), 1), (30, .ireturn, 1)])
set_option maxRecDepth 20000 in
theorem oX7_worth : MOk mX7_worth := mok_V rfl (by decide +kernel) rfl (mW 895 (by decide +kernel) (by decide +kernel)) (mW 87 (by decide +kernel) (by decide +kernel)) (mW 893 (by decide +kernel) (by decide +kernel)) (mW 894 (by decide +kernel) (by decide +kernel)) ⟨(by decide +kernel), (by decide +kernel), (by decide +kernel)⟩ (by decide) (by decide +kernel)
def mX7_worthOf : MI := (yX7_worthOf, cX7_worthOf, 4, some .int, 7, 2, false, 2, [(0, .aload_n 0, 1), (1, .iload_n 1, 1), (2, .iload_n 2, 1), (3, .invokevirtual 144, 3), (6, .istore_n 3, 1), (7, .aload_n 0, 1), (8, .iload_n 1, 1), (9, .invokevirtual 154, 3), (12, .iload_n 3, 1), (13, .bipush (-9), 2), (15, .if_icmp .ne 7, 3), (18, .iconst 0, 1), (19, .goto 8, 3), (22, .aload_n 0, 1), (23, .iload_n 3, 1), (24, .invokevirtual 110, 3), (27, .isub, 1), (28, .bipush 10, 2), (30, .aload_n 0, 1), (31, .getfield 17, 3), (34, .iload_n 2, 1), (35, .iaload, 1), (36, .isub, 1), (37, .imul, 1), (38, .ireturn, 1)])
set_option maxRecDepth 20000 in
theorem oX7_worthOf : MOk mX7_worthOf := mok_V rfl (by decide +kernel) rfl (mW 899 (by decide +kernel) (by decide +kernel)) (mW 87 (by decide +kernel) (by decide +kernel)) (mW 898 (by decide +kernel) (by decide +kernel)) (mW 76 (by decide +kernel) (by decide +kernel)) ⟨(by decide +kernel), (by decide +kernel), (by decide +kernel)⟩ (by decide) (by decide +kernel)
theorem k0_29 : lkOk 0 29 mX2_isInPort := Or.inr (mN 511 (by decide +kernel) (by decide +kernel))
theorem k0_38 : lkOk 0 38 mX2_placeOf := Or.inr (mN 516 (by decide +kernel) (by decide +kernel))
theorem k0_42 : lkOk 0 42 mX2_silverOf := Or.inr (mN 459 (by decide +kernel) (by decide +kernel))
theorem k0_45 : lkOk 0 45 mX6_isIn := Or.inr (mN 458 (by decide +kernel) (by decide +kernel))
theorem k0_49 : lkOk 0 49 mX2_listedOf := Or.inr (mN 609 (by decide +kernel) (by decide +kernel))
theorem k0_58 : lkOk 0 58 mX0_takenOf := Or.inl (mW 525 (by decide +kernel) (by decide +kernel))
theorem k0_62 : lkOk 0 62 mX0_silverTogether := Or.inl (mW 526 (by decide +kernel) (by decide +kernel))
theorem k0_68 : lkOk 0 68 mX0_worthOf := Or.inl (mW 576 (by decide +kernel) (by decide +kernel))
theorem n0_71 : ∀ w ∈ [Cond.methodLink (Rn 0) 71 Lib.Math.max.name, Cond.static Lib.Math.max.name, Cond.initialized "java/lang/Math", Cond.code Lib.Math.max.name Lib.Math.max.code 2 (some .int)], w ∈ Wd := mWs _ [577, 578, 88, 579] (by decide +kernel) (by decide +kernel)
theorem n0_76 : ∀ w ∈ [Cond.methodLink (Rn 0) 76 Lib.Math.min.name, Cond.static Lib.Math.min.name, Cond.initialized "java/lang/Math", Cond.code Lib.Math.min.name Lib.Math.min.code 2 (some .int)], w ∈ Wd := mWs _ [580, 342, 88, 343] (by decide +kernel) (by decide +kernel)
theorem k0_79 : lkOk 0 79 mX0_setFraction := Or.inl (mW 581 (by decide +kernel) (by decide +kernel))
theorem k0_83 : lkOk 0 83 mX0_beginWays := Or.inl (mW 593 (by decide +kernel) (by decide +kernel))
theorem k0_86 : lkOk 0 86 mX0_addToWays := Or.inl (mW 597 (by decide +kernel) (by decide +kernel))
theorem k1_19 : lkOk 1 19 mX1_markShip := Or.inl (mW 619 (by decide +kernel) (by decide +kernel))
theorem k1_23 : lkOk 1 23 mX1_markDecoy := Or.inl (mW 624 (by decide +kernel) (by decide +kernel))
theorem k1_26 : lkOk 1 26 mX1_markSlow := Or.inl (mW 629 (by decide +kernel) (by decide +kernel))
theorem k1_29 : lkOk 1 29 mX1_markChest := Or.inl (mW 634 (by decide +kernel) (by decide +kernel))
theorem k1_32 : lkOk 1 32 mX1_markLetter := Or.inl (mW 639 (by decide +kernel) (by decide +kernel))
theorem k1_35 : lkOk 1 35 mX1_markPilot := Or.inl (mW 644 (by decide +kernel) (by decide +kernel))
theorem k1_43 : lkOk 1 43 mX2_listedOf := Or.inr (mN 623 (by decide +kernel) (by decide +kernel))
theorem k1_67 : lkOk 1 67 mX2_theWeek := Or.inr (mN 649 (by decide +kernel) (by decide +kernel))
theorem k2_33 : lkOk 2 33 mX2_setBars := Or.inl (mW 386 (by decide +kernel) (by decide +kernel))
theorem n2_37 : ∀ w ∈ [Cond.methodLink (Rn 2) 37 arraycopyName, Cond.native arraycopyName, Cond.static arraycopyName, Cond.initialized "java/lang/System"], w ∈ Wd := mWs _ [434, 381, 380, 89] (by decide +kernel) (by decide +kernel)
theorem k3_39 : lkOk 3 39 mX3_reckonFrom := Or.inl (mW 538 (by decide +kernel) (by decide +kernel))
theorem k3_43 : lkOk 3 43 mX0_inPort := Or.inr (mN 542 (by decide +kernel) (by decide +kernel))
theorem k3_49 : lkOk 3 49 mX2_theWeek := Or.inr (mN 560 (by decide +kernel) (by decide +kernel))
theorem k3_54 : lkOk 3 54 mX0_readyIn := Or.inr (mN 543 (by decide +kernel) (by decide +kernel))
theorem k3_58 : lkOk 3 58 mX3_reckonWorths := Or.inl (mW 547 (by decide +kernel) (by decide +kernel))
theorem k3_62 : lkOk 3 62 mX3_choose := Or.inl (mW 552 (by decide +kernel) (by decide +kernel))
theorem k3_66 : lkOk 3 66 mX0_worthOf := Or.inr (mN 551 (by decide +kernel) (by decide +kernel))
theorem n4_44 : ∀ w ∈ [Cond.methodLink (Rn 4) 44 arraycopyName, Cond.native arraycopyName, Cond.static arraycopyName, Cond.initialized "java/lang/System"], w ∈ Wd := mWs _ [379, 381, 380, 89] (by decide +kernel) (by decide +kernel)
theorem k5_19 : lkOk 5 19 mX4_forgetAll := Or.inr (mN 317 (by decide +kernel) (by decide +kernel))
theorem k5_28 : lkOk 5 28 mX5_scan := Or.inl (mW 321 (by decide +kernel) (by decide +kernel))
theorem k5_34 : lkOk 5 34 mX5_readItem := Or.inl (mW 344 (by decide +kernel) (by decide +kernel))
theorem k5_44 : lkOk 5 44 mX4_canTake := Or.inr (mN 348 (by decide +kernel) (by decide +kernel))
theorem k5_48 : lkOk 5 48 mX5_mostOf := Or.inl (mW 352 (by decide +kernel) (by decide +kernel))
theorem k5_52 : lkOk 5 52 mX5_readNumbers := Or.inl (mW 359 (by decide +kernel) (by decide +kernel))
theorem k5_56 : lkOk 5 56 mX4_addWeek := Or.inr (mN 363 (by decide +kernel) (by decide +kernel))
theorem k5_60 : lkOk 5 60 mX4_addShip := Or.inr (mN 367 (by decide +kernel) (by decide +kernel))
theorem k5_64 : lkOk 5 64 mX4_setShare := Or.inr (mN 371 (by decide +kernel) (by decide +kernel))
theorem k5_77 : lkOk 5 77 mX5_isLetterAt := Or.inl (mW 325 (by decide +kernel) (by decide +kernel))
theorem k5_80 : lkOk 5 80 mX5_scanLetters := Or.inl (mW 329 (by decide +kernel) (by decide +kernel))
theorem k5_83 : lkOk 5 83 mX5_isDigitAt := Or.inl (mW 333 (by decide +kernel) (by decide +kernel))
theorem k5_86 : lkOk 5 86 mX5_scanNumber := Or.inl (mW 337 (by decide +kernel) (by decide +kernel))
theorem n5_89 : ∀ w ∈ [Cond.methodLink (Rn 5) 89 Lib.Math.min.name, Cond.static Lib.Math.min.name, Cond.initialized "java/lang/Math", Cond.code Lib.Math.min.name Lib.Math.min.code 2 (some .int)], w ∈ Wd := mWs _ [341, 342, 88, 343] (by decide +kernel) (by decide +kernel)
theorem k6_72 : lkOk 6 72 mX5_readInto := Or.inr (mN 313 (by decide +kernel) (by decide +kernel))
theorem k6_76 : lkOk 6 76 mX4_copyFrom := Or.inr (mN 375 (by decide +kernel) (by decide +kernel))
theorem k6_80 : lkOk 6 80 mX2_beginWith := Or.inr (mN 382 (by decide +kernel) (by decide +kernel))
theorem k6_87 : lkOk 6 87 mX4_hasWeek := Or.inr (mN 394 (by decide +kernel) (by decide +kernel))
theorem k6_97 : lkOk 6 97 mX4_hasShip := Or.inr (mN 402 (by decide +kernel) (by decide +kernel))
theorem k6_100 : lkOk 6 100 mX2_listedOf := Or.inr (mN 406 (by decide +kernel) (by decide +kernel))
theorem k6_104 : lkOk 6 104 mX2_hiddenOf := Or.inr (mN 410 (by decide +kernel) (by decide +kernel))
theorem k6_113 : lkOk 6 113 mX2_placeOf := Or.inr (mN 414 (by decide +kernel) (by decide +kernel))
theorem k6_116 : lkOk 6 116 mX6_isOver := Or.inl (mW 422 (by decide +kernel) (by decide +kernel))
theorem k6_120 : lkOk 6 120 mX2_remember := Or.inr (mN 430 (by decide +kernel) (by decide +kernel))
theorem k6_126 : lkOk 6 126 mX2_theWeek := Or.inr (mN 426 (by decide +kernel) (by decide +kernel))
theorem k6_130 : lkOk 6 130 mX4_hasSet := Or.inr (mN 439 (by decide +kernel) (by decide +kernel))
theorem k6_133 : lkOk 6 133 mX6_canSail := Or.inl (mW 443 (by decide +kernel) (by decide +kernel))
theorem k6_136 : lkOk 6 136 mX0_takenOf := Or.inr (mN 454 (by decide +kernel) (by decide +kernel))
theorem k6_143 : lkOk 6 143 mX6_isIn := Or.inl (mW 447 (by decide +kernel) (by decide +kernel))
theorem k6_147 : lkOk 6 147 mX6_sailOne := Or.inl (mW 463 (by decide +kernel) (by decide +kernel))
theorem k6_151 : lkOk 6 151 mX2_isInPort := Or.inr (mN 450 (by decide +kernel) (by decide +kernel))
theorem k6_154 : lkOk 6 154 mX2_setBars := Or.inr (mN 481 (by decide +kernel) (by decide +kernel))
theorem k6_158 : lkOk 6 158 mX2_silverOf := Or.inr (mN 476 (by decide +kernel) (by decide +kernel))
theorem n6_161 : ∀ w ∈ [Cond.methodLink (Rn 6) 161 Lib.Math.min.name, Cond.static Lib.Math.min.name, Cond.initialized "java/lang/Math", Cond.code Lib.Math.min.name Lib.Math.min.code 2 (some .int)], w ∈ Wd := mWs _ [490, 342, 88, 343] (by decide +kernel) (by decide +kernel)
theorem k6_169 : lkOk 6 169 mX2_goBack := Or.inr (mN 499 (by decide +kernel) (by decide +kernel))
theorem k6_172 : lkOk 6 172 mX0_inPort := Or.inr (mN 507 (by decide +kernel) (by decide +kernel))
theorem k6_175 : lkOk 6 175 mX0_silverOnTheReef := Or.inr (mN 512 (by decide +kernel) (by decide +kernel))
theorem k6_178 : lkOk 6 178 mX0_worthOf := Or.inr (mN 521 (by decide +kernel) (by decide +kernel))
theorem k6_181 : lkOk 6 181 mX3_mostFrom := Or.inr (mN 534 (by decide +kernel) (by decide +kernel))
theorem k6_184 : lkOk 6 184 mX3_sailingIn := Or.inr (mN 556 (by decide +kernel) (by decide +kernel))
theorem k6_187 : lkOk 6 187 mX6_isNoHalf := Or.inl (mW 569 (by decide +kernel) (by decide +kernel))
theorem k6_190 : lkOk 6 190 mX0_reckonGame := Or.inr (mN 572 (by decide +kernel) (by decide +kernel))
theorem k6_199 : lkOk 6 199 mX0_reckonOdds := Or.inr (mN 589 (by decide +kernel) (by decide +kernel))
theorem k6_202 : lkOk 6 202 mX0_listedTogether := Or.inr (mN 605 (by decide +kernel) (by decide +kernel))
theorem k6_206 : lkOk 6 206 mX1_markAs := Or.inr (mN 615 (by decide +kernel) (by decide +kernel))
theorem k6_209 : lkOk 6 209 mX6_isImage := Or.inl (mW 655 (by decide +kernel) (by decide +kernel))
theorem k6_212 : lkOk 6 212 mX6_imageOf := Or.inl (mW 658 (by decide +kernel) (by decide +kernel))
theorem k6_216 : lkOk 6 216 mX2_copyFrom := Or.inr (mN 662 (by decide +kernel) (by decide +kernel))
theorem k6_229 : lkOk 6 229 mX6_drawOf := Or.inl (mW 467 (by decide +kernel) (by decide +kernel))
theorem k7_54 : lkOk 7 54 mX7_plain := Or.inl (mW 684 (by decide +kernel) (by decide +kernel))
theorem k7_57 : lkOk 7 57 mX7_takeDraft := Or.inl (mW 688 (by decide +kernel) (by decide +kernel))
theorem k7_60 : lkOk 7 60 mX7_in := Or.inl (mW 765 (by decide +kernel) (by decide +kernel))
theorem k7_71 : lkOk 7 71 mX7_here := Or.inl (mW 780 (by decide +kernel) (by decide +kernel))
theorem k7_87 : lkOk 7 87 mX7_step := Or.inl (mW 776 (by decide +kernel) (by decide +kernel))
theorem k7_90 : lkOk 7 90 mX7_due := Or.inl (mW 788 (by decide +kernel) (by decide +kernel))
theorem k7_98 : lkOk 7 98 mX7_number := Or.inl (mW 796 (by decide +kernel) (by decide +kernel))
theorem k7_102 : lkOk 7 102 mX7_mayBe := Or.inl (mW 784 (by decide +kernel) (by decide +kernel))
theorem k7_106 : lkOk 7 106 mX7_readRow := Or.inl (mW 792 (by decide +kernel) (by decide +kernel))
theorem k7_110 : lkOk 7 110 mX7_silver := Or.inl (mW 848 (by decide +kernel) (by decide +kernel))
theorem k7_114 : lkOk 7 114 mX7_isWeek := Or.inl (mW 804 (by decide +kernel) (by decide +kernel))
theorem k7_117 : lkOk 7 117 mX7_isShip := Or.inl (mW 812 (by decide +kernel) (by decide +kernel))
theorem k7_120 : lkOk 7 120 mX7_isOver := Or.inl (mW 820 (by decide +kernel) (by decide +kernel))
theorem k7_124 : lkOk 7 124 mX7_know := Or.inl (mW 824 (by decide +kernel) (by decide +kernel))
theorem k7_127 : lkOk 7 127 mX7_setIn := Or.inl (mW 840 (by decide +kernel) (by decide +kernel))
theorem k7_138 : lkOk 7 138 mX7_all := Or.inl (mW 832 (by decide +kernel) (by decide +kernel))
theorem k7_141 : lkOk 7 141 mX7_canSail := Or.inl (mW 836 (by decide +kernel) (by decide +kernel))
theorem k7_144 : lkOk 7 144 mX7_takenOf := Or.inl (mW 844 (by decide +kernel) (by decide +kernel))
theorem k7_147 : lkOk 7 147 mX7_draw := Or.inl (mW 852 (by decide +kernel) (by decide +kernel))
theorem k7_150 : lkOk 7 150 mX7_shift := Or.inl (mW 864 (by decide +kernel) (by decide +kernel))
theorem k7_154 : lkOk 7 154 mX7_silverOf := Or.inl (mW 888 (by decide +kernel) (by decide +kernel))
theorem k7_157 : lkOk 7 157 mX7_worthOf := Or.inl (mW 896 (by decide +kernel) (by decide +kernel))
theorem k7_160 : lkOk 7 160 mX7_mayGo := Or.inl (mW 908 (by decide +kernel) (by decide +kernel))
theorem k7_164 : lkOk 7 164 mX7_measure := Or.inl (mW 904 (by decide +kernel) (by decide +kernel))
theorem k7_167 : lkOk 7 167 mX7_part := Or.inl (mW 920 (by decide +kernel) (by decide +kernel))
theorem k7_171 : lkOk 7 171 mX7_manyOf := Or.inl (mW 927 (by decide +kernel) (by decide +kernel))
end
section
/-- the class's world: 0 SilverFleets, 1 Text, 2 season, 3 draft, 4 log, 5 first, 6 second image, 7 fleet, 8 planner, 9 kinds; arrays from 10 on -/
def SX : SH := [.inl (6, [(0, 1), (0, 2), (0, 3), (0, 4), (0, 5), (0, 6), (0, 7), (0, 8), (0, 9)]), .inl (5, [(0, 10), (1, 0), (1, 0), (1, 0), (1, 0), (1, 0), (0, 11)]), .inl (4, [(0, 12), (0, 13), (0, 14), (0, 15), (0, 16), (0, 17), (1, 0), (1, 0), (1, 0), (3, 0)]), .inl (4, [(0, 18), (0, 19), (0, 20), (0, 21), (0, 22), (0, 23), (1, 0), (1, 0), (1, 0), (3, 0)]), .inl (2, [(0, 24), (0, 25), (1, 0), (3, 0)]), .inl (2, [(0, 26), (0, 27), (1, 0), (3, 0)]), .inl (2, [(0, 28), (0, 29), (1, 0), (3, 0)]), .inl (0, [(0, 2), (0, 4), (0, 30), (1, 0), (1, 0)]), .inl (3, [(0, 2), (0, 4), (0, 7), (0, 31), (0, 32), (0, 33)]), .inl (1, [(0, 2), (0, 4), (2, 0)]), .inr (0, 180), .inr (0, 4), .inr (0, 12), .inr (0, 12), .inr (0, 5), .inr (0, 5), .inr (0, 5), .inr (0, 5), .inr (0, 12), .inr (0, 12), .inr (0, 5), .inr (0, 5), .inr (0, 5), .inr (0, 5), .inr (0, 18), .inr (0, 180), .inr (0, 18), .inr (0, 180), .inr (0, 18), .inr (0, 180), .inr (0, 6), .inr (0, 416), .inr (0, 416), .inr (0, 32)]
/-- the reference's world: 0 the object; arrays from 1 on -/
def SM : SH := [.inl (7, [(2, 0), (0, 1), (1, 0), (0, 2), (0, 3), (0, 4), (0, 5), (0, 6), (0, 7), (0, 8), (0, 9), (0, 10), (3, 0), (1, 0), (1, 0), (1, 0), (1, 0), (1, 0), (0, 11), (0, 12), (0, 13), (0, 14)]), .inr (1, 180), .inr (0, 2), .inr (0, 24), .inr (0, 24), .inr (0, 2), .inr (0, 5), .inr (0, 5), .inr (0, 10), .inr (0, 10), .inr (0, 2), .inr (0, 597), .inr (2, 2), .inr (0, 448), .inr (0, 448)]
theorem sxOk : SOk SX := by
  show SX.all shOk = true
  decide +kernel
theorem smOk : SOk SM := by
  show SM.all shOk = true
  decide +kernel
end
section
/-! numbers seen as Nat, and rows that say what they do in Nat -/
def PE (r : Option Value) (I : II) (J : JJ) (G : II) : PP := fun r' I' J' G' => r' = r ∧ I' = I ∧ J' = J ∧ G' = G
theorem addN {x y : Int32} {a b : Nat} (hx : x = nI a) (hy : y = nI b) : x + y = nI (a + b) := by rw [hx, hy, nI_add]
theorem mulN {x y : Int32} {a b : Nat} (hx : x = nI a) (hy : y = nI b) : x * y = nI (a * b) := by rw [hx, hy, pk_mul]
theorem subN {x y : Int32} {a b : Nat} (hx : x = nI a) (hy : y = nI b) (h : b ≤ a) : x - y = nI (a - b) := by rw [hx, hy, pk_sub h]
theorem sub1N {x : Int32} {a : Nat} (hx : x = nI a) (h : 1 ≤ a) : x + -nI 1 = nI (a - 1) := by
  rw [hx]
  obtain ⟨b, rfl⟩ : ∃ b, a = b + 1 := ⟨a - 1, by omega⟩
  exact pk_m1 b
section AWN
variable {S : SH} {M : MI} {pc : Nat} {L : LV} {st : List Value} {I : II} {J : JJ} {G : II} {P : PP}
theorem aw_eqS {stk : List Value} (h : stk = st) (k : AW S M pc L st I J G P) : AW S M pc L stk I J G P := h ▸ k
theorem aw_eqL {L' : LV} (h : L = L') (k : AW S M pc L' st I J G P) : AW S M pc L st I J G P := h ▸ k
theorem aw_eqG {G' : II} (h : G = G') (k : AW S M pc L st I J G' P) : AW S M pc L st I J G P := h ▸ k
theorem aw_eqI {I' : II} (h : I = I') (k : AW S M pc L st I' J G P) : AW S M pc L st I J G P := h ▸ k
theorem aw_cV {M' : MI} {idx : Nat} (k0 : Nat) {ci : Nat} {fds : List (Nat × Nat)} (as : List Value) {stk : List Value} {r : Option Value} {I' : II} {J' : JJ} {G' : II} (hM' : MOk M') (lk : lkOk (miO M) idx M') (hs : miS M' = false) (hdep : Nat.blt (miD M') (miD M) = true) (hk : S[k0]? = some (.inl (ci, fds))) (hci : Nat.blt ci 8 = true) (hcn : (miY M').cls = Rn ci) (hn : as.length = miN M') (hroom : Nat.ble (st.map fun v => v.category).sum 8 = true) (hstk : stk = as.reverse ++ .ref k0 :: st) (hd : decode (miB M) pc = .ok (.invokevirtual idx, 3))
    (hA : AMet S M' (.ref k0 :: as) I J G (PE r I' J' G')) (k : AW S M (pc + 3) L (r.toList ++ st) I' J' G' P) : AW S M pc L stk I J G P :=
  aw_callV hM' hs lk (Nat.le_of_ble_eq_true hdep) hk (Nat.le_of_ble_eq_true hci) hcn hn (Nat.le_of_ble_eq_true hroom) hstk hd hA (fun r1 I1 J1 G1 h => by obtain ⟨rfl, rfl, rfl, rfl⟩ := h; exact k)
theorem aw_cS {M' : MI} {idx : Nat} (as : List Value) {stk : List Value} {r : Option Value} {I' : II} {J' : JJ} {G' : II} (hM' : MOk M') (lk : lkOk (miO M) idx M') (hs : miS M' = true) (hdep : Nat.blt (miD M') (miD M) = true) (hn : as.length = miN M') (hroom : Nat.ble (st.map fun v => v.category).sum 8 = true) (hstk : stk = as.reverse ++ st) (hd : decode (miB M) pc = .ok (.invokestatic idx, 3))
    (hA : AMet S M' as I J G (PE r I' J' G')) (k : AW S M (pc + 3) L (r.toList ++ st) I' J' G' P) : AW S M pc L stk I J G P :=
  aw_callS hM' hs lk (Nat.le_of_ble_eq_true hdep) hn (Nat.le_of_ble_eq_true hroom) hstk hd hA (fun r1 I1 J1 G1 h => by obtain ⟨rfl, rfl, rfl, rfl⟩ := h; exact k)
theorem aw_cVP {M' : MI} {idx : Nat} (k0 : Nat) {ci : Nat} {fds : List (Nat × Nat)} (as : List Value) {stk : List Value} {Q : PP} (hM' : MOk M') (lk : lkOk (miO M) idx M') (hs : miS M' = false) (hdep : Nat.blt (miD M') (miD M) = true) (hk : S[k0]? = some (.inl (ci, fds))) (hci : Nat.blt ci 8 = true) (hcn : (miY M').cls = Rn ci) (hn : as.length = miN M') (hroom : Nat.ble (st.map fun v => v.category).sum 8 = true) (hstk : stk = as.reverse ++ .ref k0 :: st) (hd : decode (miB M) pc = .ok (.invokevirtual idx, 3))
    (hA : AMet S M' (.ref k0 :: as) I J G Q) (k : ∀ r I' J' G', Q r I' J' G' → AW S M (pc + 3) L (r.toList ++ st) I' J' G' P) : AW S M pc L stk I J G P :=
  aw_callV hM' hs lk (Nat.le_of_ble_eq_true hdep) hk (Nat.le_of_ble_eq_true hci) hcn hn (Nat.le_of_ble_eq_true hroom) hstk hd hA k
theorem aw_iaN {k0 n : Nat} {i : Int32} (m : Nat) (hS : SOk S) (hk : S[k0]? = some (.inr (0, n))) (hi : i = nI m) (hm : m < n) (hd : decode (miB M) pc = .ok (.iaload, 1)) (k : AW S M (pc + 1) L (.int (G k0 m) :: st) I J G P) : AW S M pc L (.int i :: .ref k0 :: st) I J G P := by
  subst hi
  have hn := (hS.arr hk).2
  refine aw_iald hk (vp_in_nI hm (by omega)) hd ?_
  rw [nI_clamp (by omega)]
  exact k
theorem aw_baN {k0 n : Nat} {i : Int32} (m : Nat) (hS : SOk S) (hk : S[k0]? = some (.inr (1, n))) (hi : i = nI m) (hm : m < n) (hd : decode (miB M) pc = .ok (.baload, 1)) (k : AW S M (pc + 1) L (.int (G k0 m) :: st) I J G P) : AW S M pc L (.int i :: .ref k0 :: st) I J G P := by
  subst hi
  have hn := (hS.arr hk).2
  refine aw_bald hk (vp_in_nI hm (by omega)) hd ?_
  rw [nI_clamp (by omega)]
  exact k
theorem aw_zaN {k0 n : Nat} {i : Int32} (m : Nat) (hS : SOk S) (hk : S[k0]? = some (.inr (2, n))) (hi : i = nI m) (hm : m < n) (hd : decode (miB M) pc = .ok (.baload, 1)) (k : AW S M (pc + 1) L (.int (G k0 m) :: st) I J G P) : AW S M pc L (.int i :: .ref k0 :: st) I J G P := by
  subst hi
  have hn := (hS.arr hk).2
  refine aw_zald hk (vp_in_nI hm (by omega)) hd ?_
  rw [nI_clamp (by omega)]
  exact k
theorem aw_isN {k0 n : Nat} {i x : Int32} (m : Nat) (hS : SOk S) (hk : S[k0]? = some (.inr (0, n))) (hi : i = nI m) (hm : m < n) (hd : decode (miB M) pc = .ok (.iastore, 1)) (k : AW S M (pc + 1) L st I J (va_up G k0 (upd (G k0) m x)) P) : AW S M pc L (.int x :: .int i :: .ref k0 :: st) I J G P := by
  subst hi
  have hn := (hS.arr hk).2
  refine aw_iast hk (vp_in_nI hm (by omega)) hd ?_
  rw [nI_clamp (by omega)]
  exact k
theorem aw_bsN {k0 n : Nat} {i x : Int32} (m : Nat) (hS : SOk S) (hk : S[k0]? = some (.inr (1, n))) (hi : i = nI m) (hm : m < n) (hd : decode (miB M) pc = .ok (.bastore, 1)) (k : AW S M (pc + 1) L st I J (va_up G k0 (upd (G k0) m (vp_nar .byte x))) P) : AW S M pc L (.int x :: .int i :: .ref k0 :: st) I J G P := by
  subst hi
  have hn := (hS.arr hk).2
  refine aw_bast hk (vp_in_nI hm (by omega)) hd ?_
  rw [nI_clamp (by omega)]
  exact k
theorem aw_zsN {k0 n : Nat} {i x : Int32} (m : Nat) (hS : SOk S) (hk : S[k0]? = some (.inr (2, n))) (hi : i = nI m) (hm : m < n) (hd : decode (miB M) pc = .ok (.bastore, 1)) (hx : x = 0 ∨ x = 1) (k : AW S M (pc + 1) L st I J (va_up G k0 (upd (G k0) m x)) P) : AW S M pc L (.int x :: .int i :: .ref k0 :: st) I J G P := by
  subst hi
  have hn := (hS.arr hk).2
  refine aw_zast hk (vp_in_nI hm (by omega)) hd ?_
  rw [nI_clamp (by omega)]
  have e : vp_nar .boolean x = x := by rcases hx with rfl | rfl <;> rfl
  rw [e]
  exact k
theorem aw_taN {k0 : Nat} {i : Int32} (m : Nat) (hk : isSt k0 = true) (hi : i = nI m) (hm : m < (snl k0).length) (hd : decode (miB M) pc = .ok (.iaload, 1)) (k : AW S M (pc + 1) L (.int ((snl k0).getD m 0) :: st) I J G P) : AW S M pc L (.int i :: .ref k0 :: st) I J G P := by
  subst hi
  have hn : (snl k0).length ≤ 4 := by unfold snl; split <;> decide
  refine aw_tald hk (vp_in_nI hm (by omega)) hd ?_
  rw [nI_clamp (by omega)]
  exact k
variable {x y : Int32} {a b : Nat} {off : Int} {tgt : Nat}
theorem aw_ltN (hx : x = nI a) (hy : y = nI b) (ha : a < 2 ^ 31) (hb : b < 2 ^ 31) (hd : decode (miB M) pc = .ok (.if_icmp .lt off, 3)) (ht : (pc : Int) + off = (tgt : Int)) (kt : a < b → AW S M tgt L st I J G P) (kf : b ≤ a → AW S M (pc + 3) L st I J G P) : AW S M pc L (.int y :: .int x :: st) I J G P := by
  subst hx; subst hy
  exact aw_icmp_lt hd ht (fun h => kt ((nI_ltI ha hb).mp h)) (fun h => kf (by have := mt (nI_ltI ha hb).mpr h; omega))
theorem aw_geN (hx : x = nI a) (hy : y = nI b) (ha : a < 2 ^ 31) (hb : b < 2 ^ 31) (hd : decode (miB M) pc = .ok (.if_icmp .ge off, 3)) (ht : (pc : Int) + off = (tgt : Int)) (kt : b ≤ a → AW S M tgt L st I J G P) (kf : a < b → AW S M (pc + 3) L st I J G P) : AW S M pc L (.int y :: .int x :: st) I J G P := by
  subst hx; subst hy
  exact aw_icmp_ge hd ht (fun h => kt ((nI_leI hb ha).mp h)) (fun h => kf (by have := mt (nI_leI hb ha).mpr h; omega))
theorem aw_gtN (hx : x = nI a) (hy : y = nI b) (ha : a < 2 ^ 31) (hb : b < 2 ^ 31) (hd : decode (miB M) pc = .ok (.if_icmp .gt off, 3)) (ht : (pc : Int) + off = (tgt : Int)) (kt : b < a → AW S M tgt L st I J G P) (kf : a ≤ b → AW S M (pc + 3) L st I J G P) : AW S M pc L (.int y :: .int x :: st) I J G P := by
  subst hx; subst hy
  exact aw_icmp_gt hd ht (fun h => kt ((nI_ltI hb ha).mp h)) (fun h => kf (by have := mt (nI_ltI hb ha).mpr h; omega))
theorem aw_leN (hx : x = nI a) (hy : y = nI b) (ha : a < 2 ^ 31) (hb : b < 2 ^ 31) (hd : decode (miB M) pc = .ok (.if_icmp .le off, 3)) (ht : (pc : Int) + off = (tgt : Int)) (kt : a ≤ b → AW S M tgt L st I J G P) (kf : b < a → AW S M (pc + 3) L st I J G P) : AW S M pc L (.int y :: .int x :: st) I J G P := by
  subst hx; subst hy
  exact aw_icmp_le hd ht (fun h => kt ((nI_leI ha hb).mp h)) (fun h => kf (by have := mt (nI_leI ha hb).mpr h; omega))
theorem aw_eqN (hx : x = nI a) (hy : y = nI b) (ha : a < 2 ^ 31) (hb : b < 2 ^ 31) (hd : decode (miB M) pc = .ok (.if_icmp .eq off, 3)) (ht : (pc : Int) + off = (tgt : Int)) (kt : a = b → AW S M tgt L st I J G P) (kf : a ≠ b → AW S M (pc + 3) L st I J G P) : AW S M pc L (.int y :: .int x :: st) I J G P := by
  subst hx; subst hy
  exact aw_icmp_eq hd ht (fun h => kt ((nI_eq ha hb).mp h)) (fun h => kf (mt (nI_eq ha hb).mpr h))
theorem aw_neN (hx : x = nI a) (hy : y = nI b) (ha : a < 2 ^ 31) (hb : b < 2 ^ 31) (hd : decode (miB M) pc = .ok (.if_icmp .ne off, 3)) (ht : (pc : Int) + off = (tgt : Int)) (kt : a ≠ b → AW S M tgt L st I J G P) (kf : a = b → AW S M (pc + 3) L st I J G P) : AW S M pc L (.int y :: .int x :: st) I J G P := by
  subst hx; subst hy
  exact aw_icmp_ne hd ht (fun h => kt (mt (nI_eq ha hb).mpr h)) (fun h => kf ((nI_eq ha hb).mp h))
theorem aw_0eqN (hx : x = nI a) (ha : a < 2 ^ 31) (hd : decode (miB M) pc = .ok (.ifCond .eq off, 3)) (ht : (pc : Int) + off = (tgt : Int)) (kt : a = 0 → AW S M tgt L st I J G P) (kf : a ≠ 0 → AW S M (pc + 3) L st I J G P) : AW S M pc L (.int x :: st) I J G P := by
  subst hx
  exact aw_if_eq hd ht (fun h => kt ((nI_eq ha (by decide)).mp h)) (fun h => kf (mt (nI_eq ha (by decide)).mpr h))
theorem aw_0neN (hx : x = nI a) (ha : a < 2 ^ 31) (hd : decode (miB M) pc = .ok (.ifCond .ne off, 3)) (ht : (pc : Int) + off = (tgt : Int)) (kt : a ≠ 0 → AW S M tgt L st I J G P) (kf : a = 0 → AW S M (pc + 3) L st I J G P) : AW S M pc L (.int x :: st) I J G P := by
  subst hx
  exact aw_if_ne hd ht (fun h => kt (mt (nI_eq ha (by decide)).mpr h)) (fun h => kf ((nI_eq ha (by decide)).mp h))
theorem aw_0ltN (hx : x = nI a) (ha : a < 2 ^ 31) (hd : decode (miB M) pc = .ok (.ifCond .lt off, 3)) (ht : (pc : Int) + off = (tgt : Int)) (kf : AW S M (pc + 3) L st I J G P) : AW S M pc L (.int x :: st) I J G P := by
  subst hx
  exact aw_if_lt hd ht (fun h => absurd h (nI_pos ha)) (fun h => kf)
theorem aw_0geN (hx : x = nI a) (ha : a < 2 ^ 31) (hd : decode (miB M) pc = .ok (.ifCond .ge off, 3)) (ht : (pc : Int) + off = (tgt : Int)) (kt : AW S M tgt L st I J G P) : AW S M pc L (.int x :: st) I J G P := by
  subst hx
  exact aw_if_ge hd ht (fun h => kt) (fun h => absurd (nI_pos' ha) h)
theorem aw_0gtN (hx : x = nI a) (ha : a < 2 ^ 31) (hd : decode (miB M) pc = .ok (.ifCond .gt off, 3)) (ht : (pc : Int) + off = (tgt : Int)) (kt : 0 < a → AW S M tgt L st I J G P) (kf : a = 0 → AW S M (pc + 3) L st I J G P) : AW S M pc L (.int x :: st) I J G P := by
  subst hx
  exact aw_if_gt hd ht (fun h => kt ((nI_ltI (by decide) ha).mp h)) (fun h => kf (by have := mt (nI_ltI (a := 0) (by decide) ha).mpr h; omega))
theorem aw_0leN (hx : x = nI a) (ha : a < 2 ^ 31) (hd : decode (miB M) pc = .ok (.ifCond .le off, 3)) (ht : (pc : Int) + off = (tgt : Int)) (kt : a = 0 → AW S M tgt L st I J G P) (kf : 0 < a → AW S M (pc + 3) L st I J G P) : AW S M pc L (.int x :: st) I J G P := by
  subst hx
  exact aw_if_le hd ht (fun h => kt (by have := (nI_leI ha (b := 0) (by decide)).mp h; omega)) (fun h => kf (by have := mt (nI_leI ha (b := 0) (by decide)).mpr h; omega))
end AWN
end
section
theorem amet_en {S : SH} {M : MI} {I : II} {J : JJ} {G : II} {P : PP} {as : List Value} {L : LV} (hM : MOk M) (hl : Nat.ble as.length (miX M) = true) (hc : as.all is1 = true) (hL : as.map some ++ List.replicate (miX M - as.length) none = L) (h : AW S M 0 L [] I J G P) : AMet S M as I J G P :=
  amet_of hM (Nat.le_of_ble_eq_true hl) (fun v hv => is1_s (List.all_eq_true.mp hc v hv)) (by rw [hL]; exact h)
theorem PE_of {r : Option Value} {I : II} {J : JJ} {G : II} {r' : Option Value} {I' : II} {J' : JJ} {G' : II} (h1 : r' = r) (h2 : I' = I) (h3 : J' = J) (h4 : G' = G) : PE r I J G r' I' J' G' := ⟨h1, h2, h3, h4⟩
theorem pe_rfl {r : Option Value} {I : II} {J : JJ} {G : II} : PE r I J G r I J G := ⟨rfl, rfl, rfl, rfl⟩
/-- the Int32 of a truth -/
def b1 (b : Bool) : Int32 := if b = true then nI 1 else nI 0
def sil (f : Nat → Int32) (s : Nat) : Int32 := f (8 + s) + f (13 + s)
theorem pe_i {x y : Int32} {I : II} {J : JJ} {G : II} (h : x = y) : PE (some (.int y)) I J G (some (.int x)) I J G := ⟨by rw [h], rfl, rfl, rfl⟩
theorem b1_t {c : Prop} [Decidable c] (h : c) : nI 1 = b1 (decide c) := by simp [b1, h]
theorem b1_f {c : Prop} [Decidable c] (h : ¬ c) : nI 0 = b1 (decide c) := by simp [b1, h]
theorem b1_nat (b : Bool) : b1 b = nI b.toNat := by cases b <;> rfl
/-! arguments that are no index; bits; sets -/
def notIn (w : Int32) (n : Nat) : Prop := ∀ j, j < n → w ≠ nI j
theorem notIn_ge {w : Int32} {n : Nat} (h : notIn w n) (hn : n < 2 ^ 31) (h0 : ¬ w < 0) : nI n ≤ w := by
  obtain ⟨j, hj, rfl⟩ := nI_of h0
  rcases Nat.lt_or_ge j n with h1 | h1
  · exact absurd rfl (h j h1)
  · exact nI_le h1 hj
theorem idxc (w : Int32) (n : Nat) : notIn w n ∨ ∃ j, j < n ∧ w = nI j := by
  by_cases h : ∃ j, j < n ∧ w = nI j
  · exact Or.inr h
  · exact Or.inl (fun j hj e => h ⟨j, hj, e⟩)
theorem sm32 : ∀ n, n < 32 → ((nI n &&& 31).toBitVec.smod 32).toNat = n := by decide +kernel
def bitN (σ s : Nat) : Nat := (σ.testBit s).toNat
theorem bitN_or (σ s : Nat) : bitN σ s = 0 ∨ bitN σ s = 1 := by
  unfold bitN
  cases σ.testBit s <;> simp
theorem bitN_1 {σ s : Nat} (h : bitN σ s = 1) : σ.testBit s = true := by
  unfold bitN at h
  cases hb : σ.testBit s with
  | true => rfl
  | false => rw [hb] at h; cases h
theorem bitN_0 {σ s : Nat} (h : bitN σ s = 0) : σ.testBit s = false := by
  unfold bitN at h
  cases hb : σ.testBit s with
  | false => rfl
  | true => rw [hb] at h; cases h
theorem bitN_n1 {σ s : Nat} (h : bitN σ s ≠ 1) : σ.testBit s = false := bitN_0 (by rcases bitN_or σ s with h1 | h1; exact h1; exact absurd h1 h)
theorem bitN_n0 {σ s : Nat} (h : bitN σ s ≠ 0) : σ.testBit s = true := bitN_1 (by rcases bitN_or σ s with h1 | h1; exact absurd h1 h; exact h1)
theorem bitNI {x y : Int32} {σ s : Nat} (hx : x = nI σ) (hy : y = nI s) (hσ : σ < 2 ^ 31) (hs : s < 32) : (x >>> (y &&& 31)) &&& nI 1 = nI (bitN σ s) := by
  subst hx; subst hy
  rw [pk_shrN hσ _ s (sm32 s hs), pk_andN (by have : σ / 2 ^ s ≤ σ := Nat.div_le_self _ _; omega) 1 (by decide)]
  congr 1
  unfold bitN
  rw [Nat.testBit_eq_decide_div_mod_eq]
  rcases Nat.mod_two_eq_zero_or_one (σ / 2 ^ s) with h | h <;> simp [h]
theorem shl1N {y : Int32} {s : Nat} (hy : y = nI s) (hs : s < 31) : nI 1 <<< (y &&& 31) = nI (2 ^ s) := by
  subst hy
  have : 2 ^ s < 2 ^ 32 := Nat.pow_lt_pow_right (by decide) (by omega)
  rw [pk_shlN _ s (sm32 s (by omega)) (by omega), Nat.one_mul]
theorem nx_or (a b : Nat) : nI a ||| nI b = nI (a ||| b) := by
  apply Int32.toBitVec_inj.1
  show BitVec.ofNat 32 a ||| BitVec.ofNat 32 b = BitVec.ofNat 32 (a ||| b)
  apply BitVec.eq_of_getLsbD_eq
  intro i hi
  simp [hi]
theorem nx_and (a b : Nat) : nI a &&& nI b = nI (a &&& b) := by
  apply Int32.toBitVec_inj.1
  show BitVec.ofNat 32 a &&& BitVec.ofNat 32 b = BitVec.ofNat 32 (a &&& b)
  apply BitVec.eq_of_getLsbD_eq
  intro i hi
  simp [hi]
theorem orN {x y : Int32} {a b : Nat} (hx : x = nI a) (hy : y = nI b) : x ||| y = nI (a ||| b) := by rw [hx, hy, nx_or]
theorem andN {x y : Int32} {a b : Nat} (hx : x = nI a) (hy : y = nI b) : x &&& y = nI (a &&& b) := by rw [hx, hy, nx_and]
/-- a without what is in b (of five bits) -/
def anN (a b : Nat) : Nat := a &&& (b ^^^ 31)
theorem anT : ∀ a, a < 32 → ∀ b, b < 32 → nI a &&& (nI b ^^^ -nI 1) = nI (anN a b) := by decide +kernel
theorem anNI {x y : Int32} {a b : Nat} (hx : x = nI a) (hy : y = nI b) (ha : a < 32) (hb : b < 32) : x &&& (y ^^^ -nI 1) = nI (anN a b) := by
  subst hx; subst hy
  exact anT a ha b hb
theorem anN_lt : ∀ a, a < 32 → ∀ b, b < 32 → anN a b < 32 := by decide +kernel
/-- the set of those below n of which q holds -/
def setN (q : Nat → Bool) : Nat → Nat
  | 0 => 0
  | n + 1 => setN q n + (if q n = true then 2 ^ n else 0)
theorem setN_lt (q : Nat → Bool) (n : Nat) : setN q n < 2 ^ n := by
  induction n with
  | zero => exact Nat.one_pos
  | succ n ih => unfold setN; rw [Nat.pow_succ]; split <;> omega
theorem setN_or {q : Nat → Bool} {n : Nat} (h : q n = true) : setN q n ||| 2 ^ n = setN q (n + 1) := by
  rw [Nat.or_two_pow_eq_add_of_lt (setN_lt q n)]
  show _ = setN q n + _
  rw [if_pos h]
theorem setN_no {q : Nat → Bool} {n : Nat} (h : ¬ q n = true) : setN q n = setN q (n + 1) := by
  show _ = setN q n + _
  rw [if_neg h, Nat.add_zero]
theorem setN_bit (q : Nat → Bool) (n j : Nat) : (setN q n).testBit j = (decide (j < n) && q j) := by
  induction n with
  | zero => simp [setN]
  | succ n ih =>
    by_cases hq : q n = true
    · rw [← setN_or hq, Nat.testBit_or, ih, Nat.testBit_two_pow]
      by_cases h1 : j < n
      · have h2 : ¬ n = j := by omega
        have h3 : j < n + 1 := by omega
        simp [h1, h2, h3]
      · by_cases h2 : n = j
        · subst h2; simp [hq]
        · have h3 : ¬ j < n + 1 := by omega
          simp [h1, h2, h3]
    · rw [← setN_no hq, ih]
      by_cases h1 : j < n
      · have h3 : j < n + 1 := by omega
        simp [h1, h3]
      · by_cases h2 : n = j
        · subst h2; simp [hq]
        · have h3 : ¬ j < n + 1 := by omega
          simp [h1, h3]
/-- the sum of x over those below n of which q holds -/
def sumC (x : Nat → Int32) (q : Nat → Bool) : Nat → Int32
  | 0 => nI 0
  | n + 1 => if q n = true then sumC x q n + x n else sumC x q n
abbrev sumS (x : Nat → Int32) (σ n : Nat) : Int32 := sumC x (fun j => σ.testBit j) n
theorem sumC_t {x : Nat → Int32} {q : Nat → Bool} {n : Nat} (h : q n = true) : sumC x q n + x n = sumC x q (n + 1) := by
  show _ = if q n = true then _ else _
  rw [if_pos h]
theorem sumC_f {x : Nat → Int32} {q : Nat → Bool} {n : Nat} (h : ¬ q n = true) : sumC x q n = sumC x q (n + 1) := by
  show _ = if q n = true then _ else _
  rw [if_neg h]
/-- that of most silver, the lowest of several -/
def rich (f : Nat → Int32) (σ : Nat) : Nat → Option Nat
  | 0 => none
  | n + 1 => if σ.testBit n = true then (match rich f σ n with
    | none => some n
    | some r => if sil f r < sil f n then some n else some r) else rich f σ n
def mostO (f : Nat → Int32) (o : Option Nat) : Int32 := match o with
  | none => -nI 1
  | some r => sil f r
theorem rich_no {f : Nat → Int32} {σ n : Nat} (h : σ.testBit n = false) : rich f σ (n + 1) = rich f σ n := by
  show (if σ.testBit n = true then _ else _) = _
  rw [if_neg (by rw [h]; decide)]
theorem rich_new {f : Nat → Int32} {σ n : Nat} (h : σ.testBit n = true) (h1 : ¬ sil f n ≤ mostO f (rich f σ n)) : rich f σ (n + 1) = some n := by
  show (if σ.testBit n = true then _ else _) = _
  rw [if_pos h]
  cases hr : rich f σ n with
  | none => rfl
  | some r =>
    rw [hr] at h1
    have h2 : sil f r < sil f n := Int32.not_le.mp h1
    simp [h2]
theorem rich_old {f : Nat → Int32} {σ n : Nat} (h : σ.testBit n = true) (h0 : nI 0 ≤ sil f n) (h1 : sil f n ≤ mostO f (rich f σ n)) : rich f σ (n + 1) = rich f σ n := by
  show (if σ.testBit n = true then _ else _) = _
  rw [if_pos h]
  cases hr : rich f σ n with
  | none =>
    rw [hr] at h1
    have h2 := Int32.le_trans h0 h1
    exact absurd (show nI 0 ≤ -nI 1 from h2) (by decide)
  | some r =>
    rw [hr] at h1
    have h2 : ¬ sil f r < sil f n := Int32.not_lt.mpr h1
    simp [h2]
theorem rich_lt {f : Nat → Int32} {σ : Nat} : ∀ {n r : Nat}, rich f σ n = some r → r < n ∧ σ.testBit r = true := by
  intro n
  induction n with
  | zero => intro r h; cases h
  | succ n ih =>
    intro r h
    unfold rich at h
    split at h
    · rename_i hb
      split at h
      · cases h; exact ⟨by omega, hb⟩
      · rename_i r' hr
        split at h
        · cases h; exact ⟨by omega, hb⟩
        · cases h; have := ih hr; exact ⟨by omega, this.2⟩
    · have := ih h; exact ⟨by omega, this.2⟩
def encO (o : Option Nat) : Int32 := match o with
  | none => -nI 9
  | some r => nI r
def tak (f g : Nat → Int32) (pir : Int32) (P σ : Nat) : Option Nat := if sumS g σ P < pir then rich f σ P else none
def lost (f : Nat → Int32) (o : Option Nat) : Int32 := match o with
  | none => nI 0
  | some r => sil f r
def wor (f g : Nat → Int32) (pir sto : Int32) (P σ : Nat) : Int32 := (sumS (sil f) σ P - lost f (tak f g pir P σ)) * (nI 10 - sto)
theorem bitN_b (σ s : Nat) : bitN σ s < 2 ^ 31 := by rcases bitN_or σ s with h | h <;> rw [h] <;> decide
theorem aw_0eqD {S : SH} {M : MI} {pc : Nat} {L : LV} {st : List Value} {I : II} {J : JJ} {G : II} {P : PP} {c : Prop} [Decidable c] {off : Int} {tgt : Nat} (hd : decode (miB M) pc = .ok (.ifCond .eq off, 3)) (ht : (pc : Int) + off = (tgt : Int)) (kt : ¬ c → AW S M tgt L st I J G P) (kf : c → AW S M (pc + 3) L st I J G P) : AW S M pc L (.int (b1 (decide c)) :: st) I J G P := by
  refine aw_if_eq hd ht (fun h => kt (fun hc => ?_)) (fun h => kf (Classical.byContradiction fun hc => h ?_))
  · rw [← b1_t hc] at h; revert h; decide
  · rw [← b1_f hc]; rfl
theorem aw_0neD {S : SH} {M : MI} {pc : Nat} {L : LV} {st : List Value} {I : II} {J : JJ} {G : II} {P : PP} {c : Prop} [Decidable c] {off : Int} {tgt : Nat} (hd : decode (miB M) pc = .ok (.ifCond .ne off, 3)) (ht : (pc : Int) + off = (tgt : Int)) (kt : c → AW S M tgt L st I J G P) (kf : ¬ c → AW S M (pc + 3) L st I J G P) : AW S M pc L (.int (b1 (decide c)) :: st) I J G P := by
  refine aw_if_ne hd ht (fun h => kt (Classical.byContradiction fun hc => h ?_)) (fun h => kf (fun hc => ?_))
  · rw [← b1_f hc]; rfl
  · rw [← b1_t hc] at h; revert h; decide
theorem tak_lt {f g : Nat → Int32} {pir : Int32} {P σ r : Nat} (h : tak f g pir P σ = some r) : r < P ∧ σ.testBit r = true := by
  unfold tak at h
  split at h
  · exact rich_lt h
  · cases h
theorem aw_forget1 {S : SH} {M : MI} {pc : Nat} {L L' : LV} {st : List Value} {I : II} {J : JJ} {G : II} {P : PP} (k : Nat) (h : L.set k none = L') (kk : AW S M pc L' st I J G P) : AW S M pc L st I J G P := by
  refine aw_forget (fun i v hi => ?_) kk
  rw [← h, List.getElem?_set] at hi
  split at hi
  · split at hi <;> simp at hi
  · exact hi
theorem divN {x y : Int32} {a b : Nat} (hx : x = nI a) (hy : y = nI b) (ha : a < 2 ^ 31) (h0 : 0 < b) (hb : b < 2 ^ 31) : x / y = nI (a / b) := by rw [hx, hy, pk_div ha h0 hb]
theorem remN {x y : Int32} {a b : Nat} (hx : x = nI a) (hy : y = nI b) (ha : a < 2 ^ 31) (h0 : 0 < b) (hb : b < 2 ^ 31) : x - x / y * y = nI (a % b) := by rw [hx, hy, pk_rem ha h0 hb]
theorem ne0N {y : Int32} {b : Nat} (hy : y = nI b) (h0 : 0 < b) (hb : b < 2 ^ 31) : ¬ y = 0 := by rw [hy]; exact nI_ne0 h0 hb
theorem maxN {x y : Int32} {a b : Nat} (hx : x = nI a) (hy : y = nI b) (ha : a < 2 ^ 31) (hb : b < 2 ^ 31) : (if x < y then y else x) = nI (max a b) := by
  subst hx; subst hy
  by_cases h : a < b
  · rw [if_pos ((nI_ltI ha hb).mpr h), Nat.max_eq_right (by omega)]
  · rw [if_neg (mt (nI_ltI ha hb).mp h), Nat.max_eq_left (by omega)]
theorem minN {x y : Int32} {a b : Nat} (hx : x = nI a) (hy : y = nI b) (ha : a < 2 ^ 31) (hb : b < 2 ^ 31) : (if y < x then y else x) = nI (min a b) := by
  subst hx; subst hy
  by_cases h : b < a
  · rw [if_pos ((nI_ltI hb ha).mpr h), Nat.min_eq_right (by omega)]
  · rw [if_neg (mt (nI_ltI hb ha).mp h), Nat.min_eq_left (by omega)]
/-- Euclid's steps that are left suffice -/
def gcJ (n a b : Nat) : Prop := (b ≤ a ∧ a * b < 2 ^ n) ∨ (1 ≤ n ∧ a * b < 2 ^ (n - 1))
theorem gcJ_0 {a b : Nat} (h : gcJ 0 a b) : b = 0 := by
  rcases h with ⟨h1, h2⟩ | ⟨h1, -⟩
  · rcases Nat.eq_zero_or_pos b with h | h
    · exact h
    · have : 1 * 1 ≤ a * b := Nat.mul_le_mul (by omega) h
      omega
  · omega
theorem gcJ_s {n a b : Nat} (h : gcJ (n + 1) a b) (hb : 0 < b) : gcJ n b (a % b) := by
  have hlt := Nat.mod_lt a hb
  refine Or.inl ⟨by omega, ?_⟩
  rcases Nat.lt_or_ge a b with hab | hab
  · rw [Nat.mod_eq_of_lt hab, Nat.mul_comm]
    rcases h with ⟨h1, -⟩ | ⟨-, h2⟩
    · omega
    · exact h2
  · have h3 : 2 * (a % b) ≤ a := by
      have h4 := Nat.div_add_mod a b
      have h5 : 1 ≤ a / b := (Nat.one_le_div_iff hb).mpr hab
      have h6 : b * 1 ≤ b * (a / b) := Nat.mul_le_mul_left b h5
      omega
    have h7 : a * b < 2 ^ (n + 1) := by
      rcases h with ⟨-, h2⟩ | ⟨-, h2⟩
      · exact h2
      · have : 2 ^ (n + 1 - 1) ≤ 2 ^ (n + 1) := Nat.pow_le_pow_right (by decide) (by omega)
        omega
    have h8 : 2 * (a % b) * b ≤ a * b := Nat.mul_le_mul_right b h3
    have h9 : b * (a % b) * 2 = 2 * (a % b) * b := by
      rw [Nat.mul_comm b, Nat.mul_assoc, Nat.mul_comm b 2, ← Nat.mul_assoc, Nat.mul_comm (a % b) 2]
    rw [Nat.pow_succ] at h7
    omega
theorem gcJ_100 {a b : Nat} (ha : a < 2 ^ 31) (hb : b < 2 ^ 31) : gcJ 100 a b := by
  refine Or.inr ⟨by decide, ?_⟩
  have h1 : a * b ≤ 2 ^ 31 * 2 ^ 31 := Nat.mul_le_mul (by omega) (by omega)
  have h2 : (2 : Nat) ^ 31 * 2 ^ 31 < 2 ^ 99 := by decide
  exact Nat.lt_of_le_of_lt h1 h2
theorem gcd_s (a b : Nat) : Nat.gcd b (a % b) = Nat.gcd a b := by
  rw [Nat.gcd_comm b, ← Nat.gcd_rec, Nat.gcd_comm]
theorem nI_n9 {r : Nat} (h : r < 2 ^ 31) : ¬ nI r = -nI 9 := fun e => by
  have h1 : (nI r).toInt = r := nI_toInt h
  rw [e] at h1
  have h2 : (-nI 9).toInt = -9 := by decide
  omega
theorem clN {x : Int32} {a : Nat} (hx : x = nI a) (ha : a < 2 ^ 31) : x.toNatClampNeg = a := by rw [hx]; exact nI_clamp ha
theorem upG_id (G : II) (k : Nat) : va_up G k (G k) = G := by
  funext q
  unfold va_up
  split
  · rename_i h; rw [h]
  · rfl
/-- the game's fraction, not yet in least terms -/
def gFr (α A β B : Nat) : Nat × Nat := if min (max α B) (max A β) ≤ max α β then (max α β, 1) else (A * B - α * β, A + B - α - β)
def frU (q : Nat × Nat) : Nat := q.1 / Nat.gcd q.1 q.2
def frL (q : Nat × Nat) : Nat := q.2 / Nat.gcd q.1 q.2
theorem gFr_s {α A β B : Nat} (h : min (max α B) (max A β) ≤ max α β) : gFr α A β B = (max α β, 1) := if_pos h
theorem gFr_n {α A β B : Nat} (h : max α β < min (max α B) (max A β)) : gFr α A β B = (A * B - α * β, A + B - α - β) := if_neg (by omega)
/-- in how many of the tenths' cases just j come home -/
def w0 (j : Nat) : Nat := if j = 0 then 1 else 0
def addW (τ : Nat) (v : Nat → Nat) (j : Nat) : Nat := if j = 0 then v 0 * τ else v j * τ + v (j - 1) * (10 - τ)
def cntB (q : Nat → Bool) : Nat → Nat
  | 0 => 0
  | n + 1 => cntB q n + (if q n = true then 1 else 0)
theorem cntB_le (q : Nat → Bool) (n : Nat) : cntB q n ≤ n := by
  induction n with
  | zero => exact Nat.le_refl _
  | succ n ih => unfold cntB; split <;> omega
theorem cntB_t {q : Nat → Bool} {n : Nat} (h : q n = true) : cntB q (n + 1) = cntB q n + 1 := by
  show cntB q n + _ = _
  rw [if_pos h]
theorem cntB_f {q : Nat → Bool} {n : Nat} (h : ¬ q n = true) : cntB q (n + 1) = cntB q n := by
  show cntB q n + _ = _
  rw [if_neg h, Nat.add_zero]
def itW (τ : Nat) : Nat → Nat → Nat
  | 0 => w0
  | c + 1 => addW τ (itW τ c)
def gs (v : Nat → Nat) (k : Nat) : Nat → Nat
  | 0 => 0
  | m + 1 => gs v k m + v (k + m)
theorem itW_le {τ : Nat} (hτ : τ ≤ 10) : ∀ c j, itW τ c j ≤ 10 ^ c := by
  intro c
  induction c with
  | zero => intro j; show w0 j ≤ 1; unfold w0; split <;> omega
  | succ c ih =>
    intro j
    show addW τ (itW τ c) j ≤ _
    have e : 10 ^ (c + 1) = 10 ^ c * τ + 10 ^ c * (10 - τ) := by rw [← Nat.mul_add, Nat.pow_succ, show τ + (10 - τ) = 10 by omega]
    rw [e]
    unfold addW
    split
    · have := Nat.mul_le_mul_right τ (ih 0); omega
    · have h1 := Nat.mul_le_mul_right τ (ih j)
      have h2 := Nat.mul_le_mul_right (10 - τ) (ih (j - 1))
      omega
theorem gs_le {τ c k m : Nat} (hc : c < 6) (hτ : τ ≤ 10) (hm : m < 7) : gs (itW τ c) k m ≤ 600000 := by
  have h1 : ∀ m, gs (itW τ c) k m ≤ m * 10 ^ c := by
    intro m
    induction m with
    | zero => exact Nat.zero_le _
    | succ m ih =>
      show gs _ k m + _ ≤ _
      have := itW_le hτ c (k + m)
      rw [Nat.succ_mul]
      omega
  have h2 := h1 m
  have h3 : 10 ^ c ≤ 10 ^ 5 := Nat.pow_le_pow_right (by decide) (by omega)
  have h4 : m * 10 ^ c ≤ 6 * 10 ^ 5 := Nat.mul_le_mul (by omega) h3
  omega
theorem encO_s {s : Nat} {t : Option Nat} {P : Nat} (hs : s < 2 ^ 31) (ht : ∀ r, t = some r → r < P) (hP : P < 2 ^ 31) : nI s = encO t ↔ t = some s := by
  cases t with
  | none => exact ⟨fun h => absurd h (nI_n9 hs), fun h => by cases h⟩
  | some r =>
    have hr := ht r rfl
    show nI s = nI r ↔ _
    rw [nI_eq hs (by omega)]
    exact ⟨fun h => by rw [h], fun h => by cases h; rfl⟩
/-- who is counted in the odds -/
def oq (σ : Nat) (t : Option Nat) (s : Nat) : Bool := σ.testBit s && decide (t ≠ some s)
def oFr (σ : Nat) (t : Option Nat) (P τ k : Nat) : Nat × Nat := (gs (itW τ (cntB (oq σ t) P)) k (6 - k), 10 ^ cntB (oq σ t) P)
end
section
set_option maxRecDepth 20000 in
theorem c_theWeek {I : II} {J : JJ} {G : II}  : AMet SX mX2_theWeek [.ref 4] I J G (PE (some (.int (G 24 0))) I J G) := by
  refine amet_en oX2_theWeek rfl rfl (L := [some (.ref 4)]) rfl ?_
  refine aw_run oX2_theWeek sxOk 3 (pc' := 5) (L' := [some (.ref 4)]) (st' := [.int (nI 0), .ref 24]) (I' := I) (J' := J) (G' := G) rfl ?_
  refine aw_iaN 0 sxOk rfl rfl (by omega) (oX2_theWeek.dec rfl) ?_
  exact aw_iret rfl (oX2_theWeek.dec rfl) pe_rfl
set_option maxRecDepth 20000 in
theorem c_placeOf {I : II} {J : JJ} {G : II} {s : Nat} (hs : s < 5) : AMet SX mX2_placeOf [.ref 4, .int (nI s)] I J G (PE (some (.int (G 24 (3 + s)))) I J G) := by
  refine amet_en oX2_placeOf rfl rfl (L := [some (.ref 4), some (.int (nI s))]) rfl ?_
  refine aw_run oX2_placeOf sxOk 5 (pc' := 7) (L' := [some (.ref 4), some (.int (nI s))]) (st' := [.int ((nI 3) + (nI s)), .ref 24]) (I' := I) (J' := J) (G' := G) rfl ?_
  refine aw_iaN (3 + s) sxOk rfl (addN rfl rfl) (by omega) (oX2_placeOf.dec rfl) ?_
  exact aw_iret rfl (oX2_placeOf.dec rfl) pe_rfl
set_option maxRecDepth 20000 in
theorem c_listedOf {I : II} {J : JJ} {G : II} {s : Nat} (hs : s < 5) : AMet SX mX2_listedOf [.ref 4, .int (nI s)] I J G (PE (some (.int (G 24 (8 + s)))) I J G) := by
  refine amet_en oX2_listedOf rfl rfl (L := [some (.ref 4), some (.int (nI s))]) rfl ?_
  refine aw_run oX2_listedOf sxOk 5 (pc' := 8) (L' := [some (.ref 4), some (.int (nI s))]) (st' := [.int ((nI 8) + (nI s)), .ref 24]) (I' := I) (J' := J) (G' := G) rfl ?_
  refine aw_iaN (8 + s) sxOk rfl (addN rfl rfl) (by omega) (oX2_listedOf.dec rfl) ?_
  exact aw_iret rfl (oX2_listedOf.dec rfl) pe_rfl
set_option maxRecDepth 20000 in
theorem c_hiddenOf {I : II} {J : JJ} {G : II} {s : Nat} (hs : s < 5) : AMet SX mX2_hiddenOf [.ref 4, .int (nI s)] I J G (PE (some (.int (G 24 (13 + s)))) I J G) := by
  refine amet_en oX2_hiddenOf rfl rfl (L := [some (.ref 4), some (.int (nI s))]) rfl ?_
  refine aw_run oX2_hiddenOf sxOk 5 (pc' := 8) (L' := [some (.ref 4), some (.int (nI s))]) (st' := [.int ((nI 13) + (nI s)), .ref 24]) (I' := I) (J' := J) (G' := G) rfl ?_
  refine aw_iaN (13 + s) sxOk rfl (addN rfl rfl) (by omega) (oX2_hiddenOf.dec rfl) ?_
  exact aw_iret rfl (oX2_hiddenOf.dec rfl) pe_rfl
set_option maxRecDepth 20000 in
theorem c_silverOf {I : II} {J : JJ} {G : II} {s : Nat} (hs : s < 5) : AMet SX mX2_silverOf [.ref 4, .int (nI s)] I J G (PE (some (.int (sil (G 24) s))) I J G) := by
  refine amet_en oX2_silverOf rfl rfl (L := [some (.ref 4), some (.int (nI s))]) rfl ?_
  refine aw_run oX2_silverOf sxOk 5 (pc' := 8) (L' := [some (.ref 4), some (.int (nI s))]) (st' := [.int ((nI 8) + (nI s)), .ref 24]) (I' := I) (J' := J) (G' := G) rfl ?_
  refine aw_iaN (8 + s) sxOk rfl (addN rfl rfl) (by omega) (oX2_silverOf.dec rfl) ?_
  refine aw_run oX2_silverOf sxOk 5 (pc' := 17) (L' := [some (.ref 4), some (.int (nI s))]) (st' := [.int ((nI 13) + (nI s)), .ref 24, .int (G 24 (8 + s))]) (I' := I) (J' := J) (G' := G) rfl ?_
  refine aw_iaN (13 + s) sxOk rfl (addN rfl rfl) (by omega) (oX2_silverOf.dec rfl) ?_
  refine aw_run oX2_silverOf sxOk 1 (pc' := 19) (L' := [some (.ref 4), some (.int (nI s))]) (st' := [.int ((G 24 (8 + s)) + (G 24 (13 + s)))]) (I' := I) (J' := J) (G' := G) rfl ?_
  exact aw_iret rfl (oX2_silverOf.dec rfl) pe_rfl
set_option maxRecDepth 20000 in
theorem c_isInPort {I : II} {J : JJ} {G : II} {s : Nat} (hs : s < 5) : AMet SX mX2_isInPort [.ref 4, .int (nI s)] I J G (PE (some (.int (b1 (decide (G 24 (3 + s) = nI 0))))) I J G) := by
  refine amet_en oX2_isInPort rfl rfl (L := [some (.ref 4), some (.int (nI s))]) rfl ?_
  refine aw_run oX2_isInPort sxOk 5 (pc' := 7) (L' := [some (.ref 4), some (.int (nI s))]) (st' := [.int ((nI 3) + (nI s)), .ref 24]) (I' := I) (J' := J) (G' := G) rfl ?_
  refine aw_iaN (3 + s) sxOk rfl (addN rfl rfl) (by omega) (oX2_isInPort.dec rfl) ?_
  refine aw_if_ne (oX2_isInPort.dec rfl) (tgt := 15) rfl (fun h8 => ?_) (fun h8 => ?_)
  · refine aw_run oX2_isInPort sxOk 1 (pc' := 16) (L' := [some (.ref 4), some (.int (nI s))]) (st' := [.int (nI 0)]) (I' := I) (J' := J) (G' := G) rfl ?_
    exact aw_zret rfl (by first | exact Or.inl rfl | exact Or.inr rfl) (oX2_isInPort.dec rfl) (pe_i (b1_f h8))
  · refine aw_run oX2_isInPort sxOk 2 (pc' := 16) (L' := [some (.ref 4), some (.int (nI s))]) (st' := [.int (nI 1)]) (I' := I) (J' := J) (G' := G) rfl ?_
    exact aw_zret rfl (by first | exact Or.inl rfl | exact Or.inr rfl) (oX2_isInPort.dec rfl) (pe_i (b1_t h8))
set_option maxRecDepth 20000 in
theorem c_setBars {I : II} {J : JJ} {G : II} {s : Nat} {a b : Int32} (hs : s < 5) : AMet SX mX2_setBars [.ref 4, .int (nI s), .int a, .int b] I J G (PE none I J (va_up G 24 (upd (upd (G 24) (8 + s) a) (13 + s) b))) := by
  refine amet_en oX2_setBars rfl rfl (L := [some (.ref 4), some (.int (nI s)), some (.int a), some (.int b)]) rfl ?_
  refine aw_run oX2_setBars sxOk 6 (pc' := 9) (L' := [some (.ref 4), some (.int (nI s)), some (.int a), some (.int b)]) (st' := [.int a, .int ((nI 8) + (nI s)), .ref 24]) (I' := I) (J' := J) (G' := G) rfl ?_
  refine aw_isN (8 + s) sxOk rfl (addN rfl rfl) (by omega) (oX2_setBars.dec rfl) ?_
  refine aw_eqG (G' := va_up G 24 (upd (G 24) (8 + s) a)) (rfl) ?_
  refine aw_run oX2_setBars sxOk 6 (pc' := 19) (L' := [some (.ref 4), some (.int (nI s)), some (.int a), some (.int b)]) (st' := [.int b, .int ((nI 13) + (nI s)), .ref 24]) (I' := I) (J' := J) (G' := va_up G 24 (upd (G 24) (8 + s) a)) rfl ?_
  refine aw_isN (13 + s) sxOk rfl (addN rfl rfl) (by omega) (oX2_setBars.dec rfl) ?_
  refine aw_eqG (G' := va_up G 24 (upd (upd (G 24) (8 + s) a) (13 + s) b)) (bx_uu _ _ _ _) ?_
  exact aw_vret rfl (oX2_setBars.dec rfl) pe_rfl
end
section
set_option maxRecDepth 20000 in
theorem c_isIn {I : II} {J : JJ} {G : II} {s σ : Nat} (hs : s < 32) (hσ : σ < 2 ^ 31) : AMet SX mX6_isIn [.int (nI s), .int (nI σ)] I J G (PE (some (.int (nI (bitN σ s)))) I J G) := by
  refine amet_en oX6_isIn rfl rfl (L := [some (.int (nI s)), some (.int (nI σ))]) rfl ?_
  refine aw_run oX6_isIn sxOk 6 (pc' := 6) (L' := [some (.int (nI s)), some (.int (nI σ))]) (st' := [.int (nI 1), .int (((nI σ) >>> ((nI s) &&& 31)) &&& (nI 1))]) (I' := I) (J' := J) (G' := G) rfl ?_
  refine aw_neN (bitNI rfl rfl (by omega) (by omega)) rfl (bitN_b _ _) (by omega) (oX6_isIn.dec rfl) (tgt := 13) rfl (fun h6 => ?_) (fun h6 => ?_)
  · refine aw_run oX6_isIn sxOk 1 (pc' := 14) (L' := [some (.int (nI s)), some (.int (nI σ))]) (st' := [.int (nI 0)]) (I' := I) (J' := J) (G' := G) rfl ?_
    exact aw_zret rfl (by first | exact Or.inl rfl | exact Or.inr rfl) (oX6_isIn.dec rfl) (pe_i (by rcases bitN_or σ s with h | h; rw [h]; exact absurd h h6))
  · refine aw_run oX6_isIn sxOk 2 (pc' := 14) (L' := [some (.int (nI s)), some (.int (nI σ))]) (st' := [.int (nI 1)]) (I' := I) (J' := J) (G' := G) rfl ?_
    exact aw_zret rfl (by first | exact Or.inl rfl | exact Or.inr rfl) (oX6_isIn.dec rfl) (pe_i (by rw [h6]))
set_option maxRecDepth 20000 in
theorem c_hasWeek_t {I : II} {J : JJ} {G : II} {Wk : Nat} (hW : I 2 6 = nI Wk) (hWk : Wk ≤ 12) {j : Nat} (hj : j < Wk) : AMet SX mX4_hasWeek [.ref 2, .int (nI j)] I J G (PE (some (.int (nI 1))) I J G) := by
  refine amet_en oX4_hasWeek rfl rfl (L := [some (.ref 2), some (.int (nI j))]) rfl ?_
  refine aw_run oX4_hasWeek sxOk 1 (pc' := 1) (L' := [some (.ref 2), some (.int (nI j))]) (st' := [.int (nI j)]) (I' := I) (J' := J) (G' := G) rfl ?_
  refine aw_0ltN rfl (by omega) (oX4_hasWeek.dec rfl) (tgt := 16) rfl ?_
  refine aw_run oX4_hasWeek sxOk 3 (pc' := 9) (L' := [some (.ref 2), some (.int (nI j))]) (st' := [.int (I 2 6), .int (nI j)]) (I' := I) (J' := J) (G' := G) rfl ?_
  refine aw_geN rfl hW (by omega) (by omega) (oX4_hasWeek.dec rfl) (tgt := 16) rfl (fun h9 => absurd h9 (by omega)) (fun h9 => ?_)
  refine aw_run oX4_hasWeek sxOk 2 (pc' := 17) (L' := [some (.ref 2), some (.int (nI j))]) (st' := [.int (nI 1)]) (I' := I) (J' := J) (G' := G) rfl ?_
  exact aw_zret rfl (by first | exact Or.inl rfl | exact Or.inr rfl) (oX4_hasWeek.dec rfl) pe_rfl
set_option maxRecDepth 20000 in
theorem c_hasWeek_f {I : II} {J : JJ} {G : II} {Wk : Nat} (hW : I 2 6 = nI Wk) (hWk : Wk ≤ 12) {x : Int32} (hx : notIn x Wk) : AMet SX mX4_hasWeek [.ref 2, .int x] I J G (PE (some (.int (nI 0))) I J G) := by
  refine amet_en oX4_hasWeek rfl rfl (L := [some (.ref 2), some (.int x)]) rfl ?_
  refine aw_run oX4_hasWeek sxOk 1 (pc' := 1) (L' := [some (.ref 2), some (.int x)]) (st' := [.int x]) (I' := I) (J' := J) (G' := G) rfl ?_
  refine aw_if_lt (oX4_hasWeek.dec rfl) (tgt := 16) rfl (fun h1 => ?_) (fun h1 => ?_)
  · refine aw_run oX4_hasWeek sxOk 1 (pc' := 17) (L' := [some (.ref 2), some (.int x)]) (st' := [.int (nI 0)]) (I' := I) (J' := J) (G' := G) rfl ?_
    exact aw_zret rfl (by first | exact Or.inl rfl | exact Or.inr rfl) (oX4_hasWeek.dec rfl) pe_rfl
  · refine aw_run oX4_hasWeek sxOk 3 (pc' := 9) (L' := [some (.ref 2), some (.int x)]) (st' := [.int (I 2 6), .int x]) (I' := I) (J' := J) (G' := G) rfl ?_
    refine aw_icmp_ge (oX4_hasWeek.dec rfl) (tgt := 16) rfl (fun h9 => ?_) (fun h9 => absurd (by rw [hW]; exact notIn_ge hx (by omega) h1) h9)
    refine aw_run oX4_hasWeek sxOk 1 (pc' := 17) (L' := [some (.ref 2), some (.int x)]) (st' := [.int (nI 0)]) (I' := I) (J' := J) (G' := G) rfl ?_
    exact aw_zret rfl (by first | exact Or.inl rfl | exact Or.inr rfl) (oX4_hasWeek.dec rfl) pe_rfl
set_option maxRecDepth 20000 in
theorem c_hasShip_t {I : II} {J : JJ} {G : II} {P : Nat} (hP : I 2 7 = nI P) (hP5 : P ≤ 5) {j : Nat} (hj : j < P) : AMet SX mX4_hasShip [.ref 2, .int (nI j)] I J G (PE (some (.int (nI 1))) I J G) := by
  refine amet_en oX4_hasShip rfl rfl (L := [some (.ref 2), some (.int (nI j))]) rfl ?_
  refine aw_run oX4_hasShip sxOk 1 (pc' := 1) (L' := [some (.ref 2), some (.int (nI j))]) (st' := [.int (nI j)]) (I' := I) (J' := J) (G' := G) rfl ?_
  refine aw_0ltN rfl (by omega) (oX4_hasShip.dec rfl) (tgt := 16) rfl ?_
  refine aw_run oX4_hasShip sxOk 3 (pc' := 9) (L' := [some (.ref 2), some (.int (nI j))]) (st' := [.int (I 2 7), .int (nI j)]) (I' := I) (J' := J) (G' := G) rfl ?_
  refine aw_geN rfl hP (by omega) (by omega) (oX4_hasShip.dec rfl) (tgt := 16) rfl (fun h9 => absurd h9 (by omega)) (fun h9 => ?_)
  refine aw_run oX4_hasShip sxOk 2 (pc' := 17) (L' := [some (.ref 2), some (.int (nI j))]) (st' := [.int (nI 1)]) (I' := I) (J' := J) (G' := G) rfl ?_
  exact aw_zret rfl (by first | exact Or.inl rfl | exact Or.inr rfl) (oX4_hasShip.dec rfl) pe_rfl
set_option maxRecDepth 20000 in
theorem c_hasShip_f {I : II} {J : JJ} {G : II} {P : Nat} (hP : I 2 7 = nI P) (hP5 : P ≤ 5) {x : Int32} (hx : notIn x P) : AMet SX mX4_hasShip [.ref 2, .int x] I J G (PE (some (.int (nI 0))) I J G) := by
  refine amet_en oX4_hasShip rfl rfl (L := [some (.ref 2), some (.int x)]) rfl ?_
  refine aw_run oX4_hasShip sxOk 1 (pc' := 1) (L' := [some (.ref 2), some (.int x)]) (st' := [.int x]) (I' := I) (J' := J) (G' := G) rfl ?_
  refine aw_if_lt (oX4_hasShip.dec rfl) (tgt := 16) rfl (fun h1 => ?_) (fun h1 => ?_)
  · refine aw_run oX4_hasShip sxOk 1 (pc' := 17) (L' := [some (.ref 2), some (.int x)]) (st' := [.int (nI 0)]) (I' := I) (J' := J) (G' := G) rfl ?_
    exact aw_zret rfl (by first | exact Or.inl rfl | exact Or.inr rfl) (oX4_hasShip.dec rfl) pe_rfl
  · refine aw_run oX4_hasShip sxOk 3 (pc' := 9) (L' := [some (.ref 2), some (.int x)]) (st' := [.int (I 2 7), .int x]) (I' := I) (J' := J) (G' := G) rfl ?_
    refine aw_icmp_ge (oX4_hasShip.dec rfl) (tgt := 16) rfl (fun h9 => ?_) (fun h9 => absurd (by rw [hP]; exact notIn_ge hx (by omega) h1) h9)
    refine aw_run oX4_hasShip sxOk 1 (pc' := 17) (L' := [some (.ref 2), some (.int x)]) (st' := [.int (nI 0)]) (I' := I) (J' := J) (G' := G) rfl ?_
    exact aw_zret rfl (by first | exact Or.inl rfl | exact Or.inr rfl) (oX4_hasShip.dec rfl) pe_rfl
set_option maxRecDepth 20000 in
theorem c_hasSet_t {I : II} {J : JJ} {G : II} {P : Nat} (hP : I 2 7 = nI P) (hP5 : P ≤ 5) {j : Nat} (hj : j < 2 ^ P) : AMet SX mX4_hasSet [.ref 2, .int (nI j)] I J G (PE (some (.int (nI 1))) I J G) := by
  have hp : 2 ^ P ≤ 32 := Nat.pow_le_pow_right (by decide) hP5
  refine amet_en oX4_hasSet rfl rfl (L := [some (.ref 2), some (.int (nI j))]) rfl ?_
  refine aw_run oX4_hasSet sxOk 1 (pc' := 1) (L' := [some (.ref 2), some (.int (nI j))]) (st' := [.int (nI j)]) (I' := I) (J' := J) (G' := G) rfl ?_
  refine aw_0ltN rfl (by omega) (oX4_hasSet.dec rfl) (tgt := 18) rfl ?_
  refine aw_run oX4_hasSet sxOk 5 (pc' := 11) (L' := [some (.ref 2), some (.int (nI j))]) (st' := [.int ((nI 1) <<< ((I 2 7) &&& 31)), .int (nI j)]) (I' := I) (J' := J) (G' := G) rfl ?_
  refine aw_geN rfl (shl1N hP (by omega)) (by omega) (by omega) (oX4_hasSet.dec rfl) (tgt := 18) rfl (fun h11 => absurd h11 (by omega)) (fun h11 => ?_)
  refine aw_run oX4_hasSet sxOk 2 (pc' := 19) (L' := [some (.ref 2), some (.int (nI j))]) (st' := [.int (nI 1)]) (I' := I) (J' := J) (G' := G) rfl ?_
  exact aw_zret rfl (by first | exact Or.inl rfl | exact Or.inr rfl) (oX4_hasSet.dec rfl) pe_rfl
set_option maxRecDepth 20000 in
theorem c_hasSet_f {I : II} {J : JJ} {G : II} {P : Nat} (hP : I 2 7 = nI P) (hP5 : P ≤ 5) {x : Int32} (hx : notIn x (2 ^ P)) : AMet SX mX4_hasSet [.ref 2, .int x] I J G (PE (some (.int (nI 0))) I J G) := by
  have hp : 2 ^ P ≤ 32 := Nat.pow_le_pow_right (by decide) hP5
  refine amet_en oX4_hasSet rfl rfl (L := [some (.ref 2), some (.int x)]) rfl ?_
  refine aw_run oX4_hasSet sxOk 1 (pc' := 1) (L' := [some (.ref 2), some (.int x)]) (st' := [.int x]) (I' := I) (J' := J) (G' := G) rfl ?_
  refine aw_if_lt (oX4_hasSet.dec rfl) (tgt := 18) rfl (fun h1 => ?_) (fun h1 => ?_)
  · refine aw_run oX4_hasSet sxOk 1 (pc' := 19) (L' := [some (.ref 2), some (.int x)]) (st' := [.int (nI 0)]) (I' := I) (J' := J) (G' := G) rfl ?_
    exact aw_zret rfl (by first | exact Or.inl rfl | exact Or.inr rfl) (oX4_hasSet.dec rfl) pe_rfl
  · refine aw_run oX4_hasSet sxOk 5 (pc' := 11) (L' := [some (.ref 2), some (.int x)]) (st' := [.int ((nI 1) <<< ((I 2 7) &&& 31)), .int x]) (I' := I) (J' := J) (G' := G) rfl ?_
    refine aw_icmp_ge (oX4_hasSet.dec rfl) (tgt := 18) rfl (fun h11 => ?_) (fun h11 => absurd (by rw [shl1N hP (by omega)]; exact notIn_ge hx (by omega) h1) h11)
    refine aw_run oX4_hasSet sxOk 1 (pc' := 19) (L' := [some (.ref 2), some (.int x)]) (st' := [.int (nI 0)]) (I' := I) (J' := J) (G' := G) rfl ?_
    exact aw_zret rfl (by first | exact Or.inl rfl | exact Or.inr rfl) (oX4_hasSet.dec rfl) pe_rfl
set_option maxRecDepth 20000 in
theorem c_inPort {I : II} {J : JJ} {G : II} {P : Nat} (hP : I 2 7 = nI P) (hP5 : P ≤ 5) : AMet SX mX0_inPort [.ref 7] I J G (PE (some (.int (nI (setN (fun s => decide (G 24 (3 + s) = nI 0)) P)))) I J G) := by
  refine amet_en oX0_inPort rfl rfl (L := [some (.ref 7), none, none]) rfl ?_
  have loop : ∀ (n s : Nat) (x : Int32) (acc : Int32), s + n = P → x = nI s → acc = nI (setN (fun s => decide (G 24 (3 + s) = nI 0)) s) → AW SX mX0_inPort 4 [some (.ref 7), some (.int acc), some (.int x)] [] I J G (PE (some (.int (nI (setN (fun s => decide (G 24 (3 + s) = nI 0)) P)))) I J G) := by
    intro n
    induction n with
    | zero =>
      intro s x acc hsn hx hacc
      refine aw_run oX0_inPort sxOk 4 (pc' := 12) (L' := [some (.ref 7), some (.int acc), some (.int x)]) (st' := [.int (I 2 7), .int x]) (I' := I) (J' := J) (G' := G) rfl ?_
      refine aw_geN hx hP (by omega) (by omega) (oX0_inPort.dec rfl) (tgt := 38) rfl (fun h12 => ?_) (fun h12 => absurd h12 (by omega))
      refine aw_run oX0_inPort sxOk 1 (pc' := 39) (L' := [some (.ref 7), some (.int acc), some (.int x)]) (st' := [.int acc]) (I' := I) (J' := J) (G' := G) rfl ?_
      exact aw_iret rfl (oX0_inPort.dec rfl) (pe_i (by rw [hacc, show s = P by omega]))
    | succ n ih =>
      intro s x acc hsn hx hacc
      refine aw_run oX0_inPort sxOk 4 (pc' := 12) (L' := [some (.ref 7), some (.int acc), some (.int x)]) (st' := [.int (I 2 7), .int x]) (I' := I) (J' := J) (G' := G) rfl ?_
      refine aw_geN hx hP (by omega) (by omega) (oX0_inPort.dec rfl) (tgt := 38) rfl (fun h12 => absurd h12 (by omega)) (fun h12 => ?_)
      refine aw_run oX0_inPort sxOk 3 (pc' := 20) (L' := [some (.ref 7), some (.int acc), some (.int x)]) (st' := [.int x, .ref 4]) (I' := I) (J' := J) (G' := G) rfl ?_
      refine aw_eqS (st := [.int (nI s), .ref 4]) (by rw [show x = nI s from hx]) ?_
      refine aw_cV (st := []) 4 [.int (nI s)] oX2_isInPort k0_29 rfl rfl rfl rfl rfl rfl rfl rfl (oX0_inPort.dec rfl) (c_isInPort (by omega)) ?_
      refine aw_eqS (st := [.int (b1 (decide (G 24 (3 + s) = nI 0)))]) rfl ?_
      refine aw_0eqD (oX0_inPort.dec rfl) (tgt := 32) rfl (fun h23 => ?_) (fun h23 => ?_)
      · refine aw_run oX0_inPort sxOk 2 (pc' := 4) (L' := [some (.ref 7), some (.int acc), some (.int (x + (nI 1)))]) (st' := []) (I' := I) (J' := J) (G' := G) rfl ?_
        exact ih (s + 1) _ _ (by omega) (addN hx rfl) (hacc.trans (by rw [← setN_no (q := fun s => decide (G 24 (3 + s) = nI 0)) (by simpa using h23)]))
      · refine aw_run oX0_inPort sxOk 8 (pc' := 4) (L' := [some (.ref 7), some (.int (acc ||| ((nI 1) <<< (x &&& 31)))), some (.int (x + (nI 1)))]) (st' := []) (I' := I) (J' := J) (G' := G) rfl ?_
        exact ih (s + 1) _ _ (by omega) (addN hx rfl) ((orN hacc (shl1N hx (by omega))).trans (by rw [setN_or (q := fun s => decide (G 24 (3 + s) = nI 0)) (by simpa using h23)]))
  refine aw_run oX0_inPort sxOk 4 (pc' := 4) (L' := [some (.ref 7), some (.int (nI 0)), some (.int (nI 0))]) (st' := []) (I' := I) (J' := J) (G' := G) rfl ?_
  exact loop P 0 _ _ (by omega) rfl rfl
set_option maxRecDepth 20000 in
theorem c_readyIn {I : II} {J : JJ} {G : II} {P : Nat} (hP : I 2 7 = nI P) (hP5 : P ≤ 5) {w : Nat} : AMet SX mX0_readyIn [.ref 7, .int (nI w)] I J G (PE (some (.int (nI (setN (fun s => decide (G 17 s ≤ nI w)) P)))) I J G) := by
  refine amet_en oX0_readyIn rfl rfl (L := [some (.ref 7), some (.int (nI w)), none, none]) rfl ?_
  have loop : ∀ (n s : Nat) (x : Int32) (acc : Int32), s + n = P → x = nI s → acc = nI (setN (fun s => decide (G 17 s ≤ nI w)) s) → AW SX mX0_readyIn 4 [some (.ref 7), some (.int (nI w)), some (.int acc), some (.int x)] [] I J G (PE (some (.int (nI (setN (fun s => decide (G 17 s ≤ nI w)) P)))) I J G) := by
    intro n
    induction n with
    | zero =>
      intro s x acc hsn hx hacc
      refine aw_run oX0_readyIn sxOk 4 (pc' := 12) (L' := [some (.ref 7), some (.int (nI w)), some (.int acc), some (.int x)]) (st' := [.int (I 2 7), .int x]) (I' := I) (J' := J) (G' := G) rfl ?_
      refine aw_geN hx hP (by omega) (by omega) (oX0_readyIn.dec rfl) (tgt := 40) rfl (fun h12 => ?_) (fun h12 => absurd h12 (by omega))
      refine aw_run oX0_readyIn sxOk 1 (pc' := 41) (L' := [some (.ref 7), some (.int (nI w)), some (.int acc), some (.int x)]) (st' := [.int acc]) (I' := I) (J' := J) (G' := G) rfl ?_
      exact aw_iret rfl (oX0_readyIn.dec rfl) (pe_i (by rw [hacc, show s = P by omega]))
    | succ n ih =>
      intro s x acc hsn hx hacc
      refine aw_run oX0_readyIn sxOk 4 (pc' := 12) (L' := [some (.ref 7), some (.int (nI w)), some (.int acc), some (.int x)]) (st' := [.int (I 2 7), .int x]) (I' := I) (J' := J) (G' := G) rfl ?_
      refine aw_geN hx hP (by omega) (by omega) (oX0_readyIn.dec rfl) (tgt := 40) rfl (fun h12 => absurd h12 (by omega)) (fun h12 => ?_)
      refine aw_run oX0_readyIn sxOk 4 (pc' := 23) (L' := [some (.ref 7), some (.int (nI w)), some (.int acc), some (.int x)]) (st' := [.int x, .ref 17]) (I' := I) (J' := J) (G' := G) rfl ?_
      refine aw_iaN s sxOk rfl hx (by omega) (oX0_readyIn.dec rfl) ?_
      refine aw_run oX0_readyIn sxOk 1 (pc' := 25) (L' := [some (.ref 7), some (.int (nI w)), some (.int acc), some (.int x)]) (st' := [.int (nI w), .int (G 17 s)]) (I' := I) (J' := J) (G' := G) rfl ?_
      refine aw_icmp_gt (oX0_readyIn.dec rfl) (tgt := 34) rfl (fun h25 => ?_) (fun h25 => ?_)
      · refine aw_run oX0_readyIn sxOk 2 (pc' := 4) (L' := [some (.ref 7), some (.int (nI w)), some (.int acc), some (.int (x + (nI 1)))]) (st' := []) (I' := I) (J' := J) (G' := G) rfl ?_
        exact ih (s + 1) _ _ (by omega) (addN hx rfl) (hacc.trans (by rw [← setN_no (q := fun s => decide (G 17 s ≤ nI w)) (by simpa [Int32.not_le] using h25)]))
      · refine aw_run oX0_readyIn sxOk 8 (pc' := 4) (L' := [some (.ref 7), some (.int (nI w)), some (.int (acc ||| ((nI 1) <<< (x &&& 31)))), some (.int (x + (nI 1)))]) (st' := []) (I' := I) (J' := J) (G' := G) rfl ?_
        exact ih (s + 1) _ _ (by omega) (addN hx rfl) ((orN hacc (shl1N hx (by omega))).trans (by rw [setN_or (q := fun s => decide (G 17 s ≤ nI w)) (by simpa [Int32.not_lt] using h25)]))
  refine aw_run oX0_readyIn sxOk 4 (pc' := 4) (L' := [some (.ref 7), some (.int (nI w)), some (.int (nI 0)), some (.int (nI 0))]) (st' := []) (I' := I) (J' := J) (G' := G) rfl ?_
  exact loop P 0 _ _ (by omega) rfl rfl
set_option maxRecDepth 20000 in
theorem c_reef {I : II} {J : JJ} {G : II} {P : Nat} (hP : I 2 7 = nI P) (hP5 : P ≤ 5) : AMet SX mX0_silverOnTheReef [.ref 7] I J G (PE (some (.int (sumC (sil (G 24)) (fun s => decide (G 24 (3 + s) = nI 3)) P))) I J G) := by
  refine amet_en oX0_silverOnTheReef rfl rfl (L := [some (.ref 7), none, none]) rfl ?_
  have loop : ∀ (n s : Nat) (x : Int32) (acc : Int32), s + n = P → x = nI s → acc = sumC (sil (G 24)) (fun s => decide (G 24 (3 + s) = nI 3)) s → AW SX mX0_silverOnTheReef 4 [some (.ref 7), some (.int acc), some (.int x)] [] I J G (PE (some (.int (sumC (sil (G 24)) (fun s => decide (G 24 (3 + s) = nI 3)) P))) I J G) := by
    intro n
    induction n with
    | zero =>
      intro s x acc hsn hx hacc
      refine aw_run oX0_silverOnTheReef sxOk 4 (pc' := 12) (L' := [some (.ref 7), some (.int acc), some (.int x)]) (st' := [.int (I 2 7), .int x]) (I' := I) (J' := J) (G' := G) rfl ?_
      refine aw_geN hx hP (by omega) (by omega) (oX0_silverOnTheReef.dec rfl) (tgt := 44) rfl (fun h12 => ?_) (fun h12 => absurd h12 (by omega))
      refine aw_run oX0_silverOnTheReef sxOk 1 (pc' := 45) (L' := [some (.ref 7), some (.int acc), some (.int x)]) (st' := [.int acc]) (I' := I) (J' := J) (G' := G) rfl ?_
      exact aw_iret rfl (oX0_silverOnTheReef.dec rfl) (pe_i (by rw [hacc, show s = P by omega]))
    | succ n ih =>
      intro s x acc hsn hx hacc
      refine aw_run oX0_silverOnTheReef sxOk 4 (pc' := 12) (L' := [some (.ref 7), some (.int acc), some (.int x)]) (st' := [.int (I 2 7), .int x]) (I' := I) (J' := J) (G' := G) rfl ?_
      refine aw_geN hx hP (by omega) (by omega) (oX0_silverOnTheReef.dec rfl) (tgt := 44) rfl (fun h12 => absurd h12 (by omega)) (fun h12 => ?_)
      refine aw_run oX0_silverOnTheReef sxOk 3 (pc' := 20) (L' := [some (.ref 7), some (.int acc), some (.int x)]) (st' := [.int x, .ref 4]) (I' := I) (J' := J) (G' := G) rfl ?_
      refine aw_eqS (st := [.int (nI s), .ref 4]) (by rw [show x = nI s from hx]) ?_
      refine aw_cV (st := []) 4 [.int (nI s)] oX2_placeOf k0_38 rfl rfl rfl rfl rfl rfl rfl rfl (oX0_silverOnTheReef.dec rfl) (c_placeOf (by omega)) ?_
      refine aw_eqS (st := [.int (G 24 (3 + s))]) rfl ?_
      refine aw_run oX0_silverOnTheReef sxOk 1 (pc' := 24) (L' := [some (.ref 7), some (.int acc), some (.int x)]) (st' := [.int (nI 3), .int (G 24 (3 + s))]) (I' := I) (J' := J) (G' := G) rfl ?_
      refine aw_icmp_ne (oX0_silverOnTheReef.dec rfl) (tgt := 38) rfl (fun h24 => ?_) (fun h24 => ?_)
      · refine aw_run oX0_silverOnTheReef sxOk 2 (pc' := 4) (L' := [some (.ref 7), some (.int acc), some (.int (x + (nI 1)))]) (st' := []) (I' := I) (J' := J) (G' := G) rfl ?_
        exact ih (s + 1) _ _ (by omega) (addN hx rfl) (hacc.trans (sumC_f (q := fun s => decide (G 24 (3 + s) = nI 3)) (by simpa using h24)))
      · refine aw_run oX0_silverOnTheReef sxOk 4 (pc' := 33) (L' := [some (.ref 7), some (.int acc), some (.int x)]) (st' := [.int x, .ref 4, .int acc]) (I' := I) (J' := J) (G' := G) rfl ?_
        refine aw_eqS (st := [.int (nI s), .ref 4, .int acc]) (by rw [show x = nI s from hx]) ?_
        refine aw_cV (st := [.int acc]) 4 [.int (nI s)] oX2_silverOf k0_42 rfl rfl rfl rfl rfl rfl rfl rfl (oX0_silverOnTheReef.dec rfl) (c_silverOf (by omega)) ?_
        refine aw_eqS (st := [.int (sil (G 24) s), .int acc]) rfl ?_
        refine aw_run oX0_silverOnTheReef sxOk 4 (pc' := 4) (L' := [some (.ref 7), some (.int (acc + (sil (G 24) s))), some (.int (x + (nI 1)))]) (st' := []) (I' := I) (J' := J) (G' := G) rfl ?_
        exact ih (s + 1) _ _ (by omega) (addN hx rfl) (by rw [hacc, sumC_t (x := sil (G 24)) (q := fun s => decide (G 24 (3 + s) = nI 3)) (by simpa using h24)])
  refine aw_run oX0_silverOnTheReef sxOk 4 (pc' := 4) (L' := [some (.ref 7), some (.int (nI 0)), some (.int (nI 0))]) (st' := []) (I' := I) (J' := J) (G' := G) rfl ?_
  exact loop P 0 _ _ (by omega) rfl rfl
set_option maxRecDepth 20000 in
theorem c_listedTogether {I : II} {J : JJ} {G : II} {P : Nat} (hP : I 2 7 = nI P) (hP5 : P ≤ 5) {σ : Nat} (hσ : σ < 32) : AMet SX mX0_listedTogether [.ref 7, .int (nI σ)] I J G (PE (some (.int (sumS (fun s => G 24 (8 + s)) σ P))) I J G) := by
  refine amet_en oX0_listedTogether rfl rfl (L := [some (.ref 7), some (.int (nI σ)), none, none]) rfl ?_
  have loop : ∀ (n s : Nat) (x : Int32) (acc : Int32), s + n = P → x = nI s → acc = sumS (fun s => G 24 (8 + s)) σ s → AW SX mX0_listedTogether 4 [some (.ref 7), some (.int (nI σ)), some (.int acc), some (.int x)] [] I J G (PE (some (.int (sumS (fun s => G 24 (8 + s)) σ P))) I J G) := by
    intro n
    induction n with
    | zero =>
      intro s x acc hsn hx hacc
      refine aw_run oX0_listedTogether sxOk 4 (pc' := 12) (L' := [some (.ref 7), some (.int (nI σ)), some (.int acc), some (.int x)]) (st' := [.int (I 2 7), .int x]) (I' := I) (J' := J) (G' := G) rfl ?_
      refine aw_geN hx hP (by omega) (by omega) (oX0_listedTogether.dec rfl) (tgt := 40) rfl (fun h12 => ?_) (fun h12 => absurd h12 (by omega))
      refine aw_run oX0_listedTogether sxOk 1 (pc' := 41) (L' := [some (.ref 7), some (.int (nI σ)), some (.int acc), some (.int x)]) (st' := [.int acc]) (I' := I) (J' := J) (G' := G) rfl ?_
      exact aw_iret rfl (oX0_listedTogether.dec rfl) (pe_i (by rw [hacc, show s = P by omega]))
    | succ n ih =>
      intro s x acc hsn hx hacc
      refine aw_run oX0_listedTogether sxOk 4 (pc' := 12) (L' := [some (.ref 7), some (.int (nI σ)), some (.int acc), some (.int x)]) (st' := [.int (I 2 7), .int x]) (I' := I) (J' := J) (G' := G) rfl ?_
      refine aw_geN hx hP (by omega) (by omega) (oX0_listedTogether.dec rfl) (tgt := 40) rfl (fun h12 => absurd h12 (by omega)) (fun h12 => ?_)
      refine aw_run oX0_listedTogether sxOk 2 (pc' := 17) (L' := [some (.ref 7), some (.int (nI σ)), some (.int acc), some (.int x)]) (st' := [.int (nI σ), .int x]) (I' := I) (J' := J) (G' := G) rfl ?_
      refine aw_eqS (st := [.int (nI σ), .int (nI s)]) (by rw [show x = nI s from hx]) ?_
      refine aw_cS (st := []) [.int (nI s), .int (nI σ)] oX6_isIn k0_45 rfl rfl rfl rfl rfl (oX0_listedTogether.dec rfl) (c_isIn (by omega) (by omega)) ?_
      refine aw_eqS (st := [.int (nI (bitN σ s))]) rfl ?_
      refine aw_0eqN rfl (bitN_b _ _) (oX0_listedTogether.dec rfl) (tgt := 34) rfl (fun h20 => ?_) (fun h20 => ?_)
      · refine aw_run oX0_listedTogether sxOk 2 (pc' := 4) (L' := [some (.ref 7), some (.int (nI σ)), some (.int acc), some (.int (x + (nI 1)))]) (st' := []) (I' := I) (J' := J) (G' := G) rfl ?_
        exact ih (s + 1) _ _ (by omega) (addN hx rfl) (hacc.trans (sumC_f (q := fun j => σ.testBit j) (by rw [bitN_0 h20]; decide)))
      · refine aw_run oX0_listedTogether sxOk 4 (pc' := 29) (L' := [some (.ref 7), some (.int (nI σ)), some (.int acc), some (.int x)]) (st' := [.int x, .ref 4, .int acc]) (I' := I) (J' := J) (G' := G) rfl ?_
        refine aw_eqS (st := [.int (nI s), .ref 4, .int acc]) (by rw [show x = nI s from hx]) ?_
        refine aw_cV (st := [.int acc]) 4 [.int (nI s)] oX2_listedOf k0_49 rfl rfl rfl rfl rfl rfl rfl rfl (oX0_listedTogether.dec rfl) (c_listedOf (by omega)) ?_
        refine aw_eqS (st := [.int (G 24 (8 + s)), .int acc]) rfl ?_
        refine aw_run oX0_listedTogether sxOk 4 (pc' := 4) (L' := [some (.ref 7), some (.int (nI σ)), some (.int (acc + (G 24 (8 + s)))), some (.int (x + (nI 1)))]) (st' := []) (I' := I) (J' := J) (G' := G) rfl ?_
        exact ih (s + 1) _ _ (by omega) (addN hx rfl) (by rw [hacc]; exact sumC_t (x := fun s => G 24 (8 + s)) (q := fun j => σ.testBit j) (bitN_n0 h20))
  refine aw_run oX0_listedTogether sxOk 4 (pc' := 4) (L' := [some (.ref 7), some (.int (nI σ)), some (.int (nI 0)), some (.int (nI 0))]) (st' := []) (I' := I) (J' := J) (G' := G) rfl ?_
  exact loop P 0 _ _ (by omega) rfl rfl
set_option maxRecDepth 20000 in
theorem c_silverTogether {I : II} {J : JJ} {G : II} {P : Nat} (hP : I 2 7 = nI P) (hP5 : P ≤ 5) {σ : Nat} (hσ : σ < 32) : AMet SX mX0_silverTogether [.ref 7, .int (nI σ)] I J G (PE (some (.int (sumS (sil (G 24)) σ P))) I J G) := by
  refine amet_en oX0_silverTogether rfl rfl (L := [some (.ref 7), some (.int (nI σ)), none, none]) rfl ?_
  have loop : ∀ (n s : Nat) (x : Int32) (acc : Int32), s + n = P → x = nI s → acc = sumS (sil (G 24)) σ s → AW SX mX0_silverTogether 4 [some (.ref 7), some (.int (nI σ)), some (.int acc), some (.int x)] [] I J G (PE (some (.int (sumS (sil (G 24)) σ P))) I J G) := by
    intro n
    induction n with
    | zero =>
      intro s x acc hsn hx hacc
      refine aw_run oX0_silverTogether sxOk 4 (pc' := 12) (L' := [some (.ref 7), some (.int (nI σ)), some (.int acc), some (.int x)]) (st' := [.int (I 2 7), .int x]) (I' := I) (J' := J) (G' := G) rfl ?_
      refine aw_geN hx hP (by omega) (by omega) (oX0_silverTogether.dec rfl) (tgt := 40) rfl (fun h12 => ?_) (fun h12 => absurd h12 (by omega))
      refine aw_run oX0_silverTogether sxOk 1 (pc' := 41) (L' := [some (.ref 7), some (.int (nI σ)), some (.int acc), some (.int x)]) (st' := [.int acc]) (I' := I) (J' := J) (G' := G) rfl ?_
      exact aw_iret rfl (oX0_silverTogether.dec rfl) (pe_i (by rw [hacc, show s = P by omega]))
    | succ n ih =>
      intro s x acc hsn hx hacc
      refine aw_run oX0_silverTogether sxOk 4 (pc' := 12) (L' := [some (.ref 7), some (.int (nI σ)), some (.int acc), some (.int x)]) (st' := [.int (I 2 7), .int x]) (I' := I) (J' := J) (G' := G) rfl ?_
      refine aw_geN hx hP (by omega) (by omega) (oX0_silverTogether.dec rfl) (tgt := 40) rfl (fun h12 => absurd h12 (by omega)) (fun h12 => ?_)
      refine aw_run oX0_silverTogether sxOk 2 (pc' := 17) (L' := [some (.ref 7), some (.int (nI σ)), some (.int acc), some (.int x)]) (st' := [.int (nI σ), .int x]) (I' := I) (J' := J) (G' := G) rfl ?_
      refine aw_eqS (st := [.int (nI σ), .int (nI s)]) (by rw [show x = nI s from hx]) ?_
      refine aw_cS (st := []) [.int (nI s), .int (nI σ)] oX6_isIn k0_45 rfl rfl rfl rfl rfl (oX0_silverTogether.dec rfl) (c_isIn (by omega) (by omega)) ?_
      refine aw_eqS (st := [.int (nI (bitN σ s))]) rfl ?_
      refine aw_0eqN rfl (bitN_b _ _) (oX0_silverTogether.dec rfl) (tgt := 34) rfl (fun h20 => ?_) (fun h20 => ?_)
      · refine aw_run oX0_silverTogether sxOk 2 (pc' := 4) (L' := [some (.ref 7), some (.int (nI σ)), some (.int acc), some (.int (x + (nI 1)))]) (st' := []) (I' := I) (J' := J) (G' := G) rfl ?_
        exact ih (s + 1) _ _ (by omega) (addN hx rfl) (hacc.trans (sumC_f (q := fun j => σ.testBit j) (by rw [bitN_0 h20]; decide)))
      · refine aw_run oX0_silverTogether sxOk 4 (pc' := 29) (L' := [some (.ref 7), some (.int (nI σ)), some (.int acc), some (.int x)]) (st' := [.int x, .ref 4, .int acc]) (I' := I) (J' := J) (G' := G) rfl ?_
        refine aw_eqS (st := [.int (nI s), .ref 4, .int acc]) (by rw [show x = nI s from hx]) ?_
        refine aw_cV (st := [.int acc]) 4 [.int (nI s)] oX2_silverOf k0_42 rfl rfl rfl rfl rfl rfl rfl rfl (oX0_silverTogether.dec rfl) (c_silverOf (by omega)) ?_
        refine aw_eqS (st := [.int (sil (G 24) s), .int acc]) rfl ?_
        refine aw_run oX0_silverTogether sxOk 4 (pc' := 4) (L' := [some (.ref 7), some (.int (nI σ)), some (.int (acc + (sil (G 24) s))), some (.int (x + (nI 1)))]) (st' := []) (I' := I) (J' := J) (G' := G) rfl ?_
        exact ih (s + 1) _ _ (by omega) (addN hx rfl) (by rw [hacc]; exact sumC_t (x := sil (G 24)) (q := fun j => σ.testBit j) (bitN_n0 h20))
  refine aw_run oX0_silverTogether sxOk 4 (pc' := 4) (L' := [some (.ref 7), some (.int (nI σ)), some (.int (nI 0)), some (.int (nI 0))]) (st' := []) (I' := I) (J' := J) (G' := G) rfl ?_
  exact loop P 0 _ _ (by omega) rfl rfl
set_option maxRecDepth 20000 in
theorem c_takenOf {I : II} {J : JJ} {G : II} {P : Nat} (hP : I 2 7 = nI P) (hP5 : P ≤ 5) {σ w : Nat} (hσ : σ < 32) (hw : w < 12) (hsil : ∀ s, s < P → nI 0 ≤ sil (G 24) s) : AMet SX mX0_takenOf [.ref 7, .int (nI σ), .int (nI w)] I J G (PE (some (.int (encO (tak (G 24) (G 16) (G 13 w) P σ)))) I J G) := by
  refine amet_en oX0_takenOf rfl rfl (L := [some (.ref 7), some (.int (nI σ)), some (.int (nI w)), none, none, none, none]) rfl ?_
  have loop : ∀ (n s : Nat) (x : Int32) (g : Int32) (r : Int32) (t : Int32), s + n = P → x = nI s → g = sumS (G 16) σ s → r = encO (rich (G 24) σ s) → t = mostO (G 24) (rich (G 24) σ s) → AW SX mX0_takenOf 12 [some (.ref 7), some (.int (nI σ)), some (.int (nI w)), some (.int g), some (.int r), some (.int t), some (.int x)] [] I J G (PE (some (.int (encO (tak (G 24) (G 16) (G 13 w) P σ)))) I J G) := by
    intro n
    induction n with
    | zero =>
      intro s x g r t hsn hx hg hr ht
      refine aw_run oX0_takenOf sxOk 4 (pc' := 21) (L' := [some (.ref 7), some (.int (nI σ)), some (.int (nI w)), some (.int g), some (.int r), some (.int t), some (.int x)]) (st' := [.int (I 2 7), .int x]) (I' := I) (J' := J) (G' := G) rfl ?_
      refine aw_geN hx hP (by omega) (by omega) (oX0_takenOf.dec rfl) (tgt := 81) rfl (fun h21 => ?_) (fun h21 => absurd h21 (by omega))
      refine aw_run oX0_takenOf sxOk 5 (pc' := 90) (L' := [some (.ref 7), some (.int (nI σ)), some (.int (nI w)), some (.int g), some (.int r), some (.int t), some (.int x)]) (st' := [.int (nI w), .ref 13, .int g]) (I' := I) (J' := J) (G' := G) rfl ?_
      refine aw_iaN w sxOk rfl rfl (by omega) (oX0_takenOf.dec rfl) ?_
      refine aw_icmp_ge (oX0_takenOf.dec rfl) (tgt := 99) rfl (fun h91 => ?_) (fun h91 => ?_)
      · refine aw_run oX0_takenOf sxOk 1 (pc' := 101) (L' := [some (.ref 7), some (.int (nI σ)), some (.int (nI w)), some (.int g), some (.int r), some (.int t), some (.int x)]) (st' := [.int (-nI 9)]) (I' := I) (J' := J) (G' := G) rfl ?_
        exact aw_iret rfl (oX0_takenOf.dec rfl) (pe_i (by unfold tak; rw [if_neg (by rw [← show s = P by omega, ← hg]; exact Int32.not_lt.mpr h91)]; rfl))
      · refine aw_run oX0_takenOf sxOk 2 (pc' := 101) (L' := [some (.ref 7), some (.int (nI σ)), some (.int (nI w)), some (.int g), some (.int r), some (.int t), some (.int x)]) (st' := [.int r]) (I' := I) (J' := J) (G' := G) rfl ?_
        exact aw_iret rfl (oX0_takenOf.dec rfl) (pe_i (by unfold tak; rw [if_pos (by rw [← show s = P by omega, ← hg]; exact Int32.not_le.mp h91), ← show s = P by omega]; exact hr))
    | succ n ih =>
      intro s x g r t hsn hx hg hr ht
      refine aw_run oX0_takenOf sxOk 4 (pc' := 21) (L' := [some (.ref 7), some (.int (nI σ)), some (.int (nI w)), some (.int g), some (.int r), some (.int t), some (.int x)]) (st' := [.int (I 2 7), .int x]) (I' := I) (J' := J) (G' := G) rfl ?_
      refine aw_geN hx hP (by omega) (by omega) (oX0_takenOf.dec rfl) (tgt := 81) rfl (fun h21 => absurd h21 (by omega)) (fun h21 => ?_)
      refine aw_run oX0_takenOf sxOk 2 (pc' := 27) (L' := [some (.ref 7), some (.int (nI σ)), some (.int (nI w)), some (.int g), some (.int r), some (.int t), some (.int x)]) (st' := [.int (nI σ), .int x]) (I' := I) (J' := J) (G' := G) rfl ?_
      refine aw_eqS (st := [.int (nI σ), .int (nI s)]) (by rw [show x = nI s from hx]) ?_
      refine aw_cS (st := []) [.int (nI s), .int (nI σ)] oX6_isIn k0_45 rfl rfl rfl rfl rfl (oX0_takenOf.dec rfl) (c_isIn (by omega) (by omega)) ?_
      refine aw_eqS (st := [.int (nI (bitN σ s))]) rfl ?_
      refine aw_0eqN rfl (bitN_b _ _) (oX0_takenOf.dec rfl) (tgt := 75) rfl (fun h30 => ?_) (fun h30 => ?_)
      · refine aw_run oX0_takenOf sxOk 2 (pc' := 12) (L' := [some (.ref 7), some (.int (nI σ)), some (.int (nI w)), some (.int g), some (.int r), some (.int t), some (.int (x + (nI 1)))]) (st' := []) (I' := I) (J' := J) (G' := G) rfl ?_
        exact ih (s + 1) _ _ _ _ (by omega) (addN hx rfl) (hg.trans (sumC_f (q := fun j => σ.testBit j) (by rw [bitN_0 h30]; decide))) (by rw [hr, rich_no (bitN_0 h30)]) (by rw [ht, rich_no (bitN_0 h30)])
      · refine aw_run oX0_takenOf sxOk 5 (pc' := 43) (L' := [some (.ref 7), some (.int (nI σ)), some (.int (nI w)), some (.int g), some (.int r), some (.int t), some (.int x)]) (st' := [.int x, .ref 16, .int g]) (I' := I) (J' := J) (G' := G) rfl ?_
        refine aw_iaN s sxOk rfl hx (by omega) (oX0_takenOf.dec rfl) ?_
        refine aw_run oX0_takenOf sxOk 5 (pc' := 52) (L' := [some (.ref 7), some (.int (nI σ)), some (.int (nI w)), some (.int (g + (G 16 s))), some (.int r), some (.int t), some (.int x)]) (st' := [.int x, .ref 4]) (I' := I) (J' := J) (G' := G) rfl ?_
        refine aw_eqS (st := [.int (nI s), .ref 4]) (by rw [show x = nI s from hx]) ?_
        refine aw_cV (st := []) 4 [.int (nI s)] oX2_silverOf k0_42 rfl rfl rfl rfl rfl rfl rfl rfl (oX0_takenOf.dec rfl) (c_silverOf (by omega)) ?_
        refine aw_eqS (st := [.int (sil (G 24) s)]) rfl ?_
        refine aw_run oX0_takenOf sxOk 1 (pc' := 57) (L' := [some (.ref 7), some (.int (nI σ)), some (.int (nI w)), some (.int (g + (G 16 s))), some (.int r), some (.int t), some (.int x)]) (st' := [.int t, .int (sil (G 24) s)]) (I' := I) (J' := J) (G' := G) rfl ?_
        refine aw_icmp_le (oX0_takenOf.dec rfl) (tgt := 75) rfl (fun h57 => ?_) (fun h57 => ?_)
        · refine aw_run oX0_takenOf sxOk 2 (pc' := 12) (L' := [some (.ref 7), some (.int (nI σ)), some (.int (nI w)), some (.int (g + (G 16 s))), some (.int r), some (.int t), some (.int (x + (nI 1)))]) (st' := []) (I' := I) (J' := J) (G' := G) rfl ?_
          exact ih (s + 1) _ _ _ _ (by omega) (addN hx rfl) (by rw [hg]; exact sumC_t (x := G 16) (q := fun j => σ.testBit j) (bitN_n0 h30)) (by rw [hr, rich_old (bitN_n0 h30) (hsil s (by omega)) (by rw [← ht]; exact h57)]) (by rw [ht, rich_old (bitN_n0 h30) (hsil s (by omega)) (by rw [← ht]; exact h57)])
        · refine aw_run oX0_takenOf sxOk 3 (pc' := 66) (L' := [some (.ref 7), some (.int (nI σ)), some (.int (nI w)), some (.int (g + (G 16 s))), some (.int r), some (.int t), some (.int x)]) (st' := [.int x, .ref 4]) (I' := I) (J' := J) (G' := G) rfl ?_
          refine aw_eqS (st := [.int (nI s), .ref 4]) (by rw [show x = nI s from hx]) ?_
          refine aw_cV (st := []) 4 [.int (nI s)] oX2_silverOf k0_42 rfl rfl rfl rfl rfl rfl rfl rfl (oX0_takenOf.dec rfl) (c_silverOf (by omega)) ?_
          refine aw_eqS (st := [.int (sil (G 24) s)]) rfl ?_
          refine aw_run oX0_takenOf sxOk 5 (pc' := 12) (L' := [some (.ref 7), some (.int (nI σ)), some (.int (nI w)), some (.int (g + (G 16 s))), some (.int x), some (.int (sil (G 24) s)), some (.int (x + (nI 1)))]) (st' := []) (I' := I) (J' := J) (G' := G) rfl ?_
          exact ih (s + 1) _ _ _ _ (by omega) (addN hx rfl) (by rw [hg]; exact sumC_t (x := G 16) (q := fun j => σ.testBit j) (bitN_n0 h30)) (by rw [rich_new (bitN_n0 h30) (by rw [← ht]; exact h57)]; exact hx) (by rw [rich_new (bitN_n0 h30) (by rw [← ht]; exact h57)]; rfl)
  refine aw_run oX0_takenOf sxOk 8 (pc' := 12) (L' := [some (.ref 7), some (.int (nI σ)), some (.int (nI w)), some (.int (nI 0)), some (.int (-nI 9)), some (.int (-nI 1)), some (.int (nI 0))]) (st' := []) (I' := I) (J' := J) (G' := G) rfl ?_
  exact loop P 0 _ _ _ _ (by omega) rfl rfl rfl rfl
end
section
set_option maxRecDepth 20000 in
theorem c_worthOf {I : II} {J : JJ} {G : II} {P : Nat} (hP : I 2 7 = nI P) (hP5 : P ≤ 5) {σ w : Nat} (hσ : σ < 32) (hw : w < 12) (hsil : ∀ s, s < P → nI 0 ≤ sil (G 24) s) : AMet SX mX0_worthOf [.ref 7, .int (nI σ), .int (nI w)] I J G (PE (some (.int (wor (G 24) (G 16) (G 13 w) (G 12 w) P σ))) I J G) := by
  refine amet_en oX0_worthOf rfl rfl (L := [some (.ref 7), some (.int (nI σ)), some (.int (nI w)), none, none]) rfl ?_
  cases htk : tak (G 24) (G 16) (G 13 w) P σ with
  | none =>
    refine aw_run oX0_worthOf sxOk 3 (pc' := 3) (L' := [some (.ref 7), some (.int (nI σ)), some (.int (nI w)), none, none]) (st' := [.int (nI w), .int (nI σ), .ref 7]) (I' := I) (J' := J) (G' := G) rfl ?_
    refine aw_cV (st := []) 7 [.int (nI σ), .int (nI w)] oX0_takenOf k0_58 rfl rfl rfl rfl rfl rfl rfl rfl (oX0_worthOf.dec rfl) (c_takenOf hP (by omega) (by omega) (by omega) hsil) ?_
    refine aw_eqS (st := [.int (encO (tak (G 24) (G 16) (G 13 w) P σ))]) rfl ?_
    refine aw_eqS (st := [.int (-nI 9)]) (by rw [htk]; rfl) ?_
    refine aw_run oX0_worthOf sxOk 3 (pc' := 10) (L' := [some (.ref 7), some (.int (nI σ)), some (.int (nI w)), some (.int (-nI 9)), none]) (st' := [.int (-nI 9), .int (-nI 9)]) (I' := I) (J' := J) (G' := G) rfl ?_
    refine aw_icmp_ne (oX0_worthOf.dec rfl) (tgt := 17) rfl (fun h10 => absurd h10 (by decide)) (fun h10 => ?_)
    refine aw_run oX0_worthOf sxOk 5 (pc' := 29) (L' := [some (.ref 7), some (.int (nI σ)), some (.int (nI w)), some (.int (-nI 9)), some (.int (nI 0))]) (st' := [.int (nI σ), .ref 7]) (I' := I) (J' := J) (G' := G) rfl ?_
    refine aw_cV (st := []) 7 [.int (nI σ)] oX0_silverTogether k0_62 rfl rfl rfl rfl rfl rfl rfl rfl (oX0_worthOf.dec rfl) (c_silverTogether hP (by omega) (by omega)) ?_
    refine aw_eqS (st := [.int (sumS (sil (G 24)) σ P)]) rfl ?_
    refine aw_run oX0_worthOf sxOk 7 (pc' := 45) (L' := [some (.ref 7), some (.int (nI σ)), some (.int (nI w)), some (.int (-nI 9)), some (.int (nI 0))]) (st' := [.int (nI w), .ref 12, .int (nI 10), .int ((sumS (sil (G 24)) σ P) - (nI 0))]) (I' := I) (J' := J) (G' := G) rfl ?_
    refine aw_iaN w sxOk rfl rfl (by omega) (oX0_worthOf.dec rfl) ?_
    refine aw_run oX0_worthOf sxOk 2 (pc' := 48) (L' := [some (.ref 7), some (.int (nI σ)), some (.int (nI w)), some (.int (-nI 9)), some (.int (nI 0))]) (st' := [.int (((sumS (sil (G 24)) σ P) - (nI 0)) * ((nI 10) - (G 12 w)))]) (I' := I) (J' := J) (G' := G) rfl ?_
    exact aw_iret rfl (oX0_worthOf.dec rfl) (pe_i (by unfold wor; rw [htk]; rfl))
  | some r =>
    have hr := (tak_lt htk).1
    refine aw_run oX0_worthOf sxOk 3 (pc' := 3) (L' := [some (.ref 7), some (.int (nI σ)), some (.int (nI w)), none, none]) (st' := [.int (nI w), .int (nI σ), .ref 7]) (I' := I) (J' := J) (G' := G) rfl ?_
    refine aw_cV (st := []) 7 [.int (nI σ), .int (nI w)] oX0_takenOf k0_58 rfl rfl rfl rfl rfl rfl rfl rfl (oX0_worthOf.dec rfl) (c_takenOf hP (by omega) (by omega) (by omega) hsil) ?_
    refine aw_eqS (st := [.int (encO (tak (G 24) (G 16) (G 13 w) P σ))]) rfl ?_
    refine aw_eqS (st := [.int (nI r)]) (by rw [htk]; rfl) ?_
    refine aw_run oX0_worthOf sxOk 3 (pc' := 10) (L' := [some (.ref 7), some (.int (nI σ)), some (.int (nI w)), some (.int (nI r)), none]) (st' := [.int (-nI 9), .int (nI r)]) (I' := I) (J' := J) (G' := G) rfl ?_
    refine aw_icmp_ne (oX0_worthOf.dec rfl) (tgt := 17) rfl (fun h10 => ?_) (fun h10 => absurd h10 (nI_n9 (by omega)))
    refine aw_run oX0_worthOf sxOk 3 (pc' := 22) (L' := [some (.ref 7), some (.int (nI σ)), some (.int (nI w)), some (.int (nI r)), none]) (st' := [.int (nI r), .ref 4]) (I' := I) (J' := J) (G' := G) rfl ?_
    refine aw_cV (st := []) 4 [.int (nI r)] oX2_silverOf k0_42 rfl rfl rfl rfl rfl rfl rfl rfl (oX0_worthOf.dec rfl) (c_silverOf (by omega)) ?_
    refine aw_eqS (st := [.int (sil (G 24) r)]) rfl ?_
    refine aw_run oX0_worthOf sxOk 3 (pc' := 29) (L' := [some (.ref 7), some (.int (nI σ)), some (.int (nI w)), some (.int (nI r)), some (.int (sil (G 24) r))]) (st' := [.int (nI σ), .ref 7]) (I' := I) (J' := J) (G' := G) rfl ?_
    refine aw_cV (st := []) 7 [.int (nI σ)] oX0_silverTogether k0_62 rfl rfl rfl rfl rfl rfl rfl rfl (oX0_worthOf.dec rfl) (c_silverTogether hP (by omega) (by omega)) ?_
    refine aw_eqS (st := [.int (sumS (sil (G 24)) σ P)]) rfl ?_
    refine aw_run oX0_worthOf sxOk 7 (pc' := 45) (L' := [some (.ref 7), some (.int (nI σ)), some (.int (nI w)), some (.int (nI r)), some (.int (sil (G 24) r))]) (st' := [.int (nI w), .ref 12, .int (nI 10), .int ((sumS (sil (G 24)) σ P) - (sil (G 24) r))]) (I' := I) (J' := J) (G' := G) rfl ?_
    refine aw_iaN w sxOk rfl rfl (by omega) (oX0_worthOf.dec rfl) ?_
    refine aw_run oX0_worthOf sxOk 2 (pc' := 48) (L' := [some (.ref 7), some (.int (nI σ)), some (.int (nI w)), some (.int (nI r)), some (.int (sil (G 24) r))]) (st' := [.int (((sumS (sil (G 24)) σ P) - (sil (G 24) r)) * ((nI 10) - (G 12 w)))]) (I' := I) (J' := J) (G' := G) rfl ?_
    exact aw_iret rfl (oX0_worthOf.dec rfl) (pe_i (by unfold wor; rw [htk]; rfl))
set_option maxRecDepth 20000 in
theorem c_setFraction {I : II} {J : JJ} {G : II}  {a b : Nat} (ha : a < 2 ^ 31) (hb : b < 2 ^ 31) (hb0 : 0 < b) : AMet SX mX0_setFraction [.ref 7, .int (nI a), .int (nI b)] I J G (PE none (up2 (up2 I 7 3 (nI (a / Nat.gcd a b))) 7 4 (nI (b / Nat.gcd a b))) J G) := by
  refine amet_en oX0_setFraction rfl rfl (L := [some (.ref 7), some (.int (nI a)), some (.int (nI b)), none, none, none, none]) rfl ?_
  have hg0 : 0 < Nat.gcd a b := Nat.gcd_pos_of_pos_right a hb0
  have hgb : Nat.gcd a b ≤ b := Nat.gcd_le_right a hb0
  have fin : ∀ (A : Int32), A = nI (Nat.gcd a b) →  AW SX mX0_setFraction 39 [some (.ref 7), some (.int (nI a)), some (.int (nI b)), some (.int A), none, none, none] [] I J G (PE none (up2 (up2 I 7 3 (nI (a / Nat.gcd a b))) 7 4 (nI (b / Nat.gcd a b))) J G) := by
    intro A hA
    refine aw_run oX0_setFraction sxOk 2 (pc' := 41) (L' := [some (.ref 7), some (.int (nI a)), some (.int (nI b)), some (.int A), none, none, none]) (st' := [.int (nI 1), .int A]) (I' := I) (J' := J) (G' := G) rfl ?_
    refine aw_geN hA rfl (by omega) (by omega) (oX0_setFraction.dec rfl) (tgt := 48) rfl (fun h41 => ?_) (fun h41 => absurd h41 (by omega))
    refine aw_run oX0_setFraction sxOk 5 (pc' := 55) (L' := [some (.ref 7), some (.int (nI a)), some (.int (nI b)), some (.int A), none, some (.int A), none]) (st' := [.int A, .int (nI a), .ref 7]) (I' := I) (J' := J) (G' := G) rfl ?_
    refine aw_idiv (ne0N hA (by omega) (by omega)) (oX0_setFraction.dec rfl) ?_
    refine aw_run oX0_setFraction sxOk 4 (pc' := 63) (L' := [some (.ref 7), some (.int (nI a)), some (.int (nI b)), some (.int A), none, some (.int A), none]) (st' := [.int A, .int (nI b), .ref 7]) (I' := up2 I 7 3 ((nI a) / A)) (J' := J) (G' := G) rfl ?_
    refine aw_idiv (ne0N hA (by omega) (by omega)) (oX0_setFraction.dec rfl) ?_
    refine aw_run oX0_setFraction sxOk 1 (pc' := 67) (L' := [some (.ref 7), some (.int (nI a)), some (.int (nI b)), some (.int A), none, some (.int A), none]) (st' := []) (I' := up2 (up2 I 7 3 ((nI a) / A)) 7 4 ((nI b) / A)) (J' := J) (G' := G) rfl ?_
    exact aw_vret rfl (oX0_setFraction.dec rfl) (⟨rfl, by rw [divN rfl hA ha (by omega) (by omega), divN rfl hA hb (by omega) (by omega)], rfl, rfl⟩)
  have loop : ∀ (n s : Nat) (x : Int32) (A : Int32) (B : Int32) (a' : Nat) (b' : Nat), s + n = 100 → x = nI s → A = nI a' → B = nI b' → a' < 2 ^ 31 → b' < 2 ^ 31 → Nat.gcd a' b' = Nat.gcd a b → gcJ n a' b' → AW SX mX0_setFraction 8 [some (.ref 7), some (.int (nI a)), some (.int (nI b)), some (.int A), some (.int B), some (.int x), none] [] I J G (PE none (up2 (up2 I 7 3 (nI (a / Nat.gcd a b))) 7 4 (nI (b / Nat.gcd a b))) J G) := by
    intro n
    induction n with
    | zero =>
      intro s x A B a' b' hsn hx hA hB ha2 hb2 hgc hJ
      refine aw_run oX0_setFraction sxOk 2 (pc' := 12) (L' := [some (.ref 7), some (.int (nI a)), some (.int (nI b)), some (.int A), some (.int B), some (.int x), none]) (st' := [.int (nI 100), .int x]) (I' := I) (J' := J) (G' := G) rfl ?_
      refine aw_geN hx rfl (by omega) (by omega) (oX0_setFraction.dec rfl) (tgt := 39) rfl (fun h12 => ?_) (fun h12 => absurd h12 (by omega))
      refine aw_forget1 4 (L' := [some (.ref 7), some (.int (nI a)), some (.int (nI b)), some (.int A), none, some (.int x), none]) rfl ?_
      refine aw_forget1 5 (L' := [some (.ref 7), some (.int (nI a)), some (.int (nI b)), some (.int A), none, none, none]) rfl ?_
      exact fin _ (by rw [hA, show Nat.gcd a b = a' by rw [← hgc, gcJ_0 hJ, Nat.gcd_zero_right]])
    | succ n ih =>
      intro s x A B a' b' hsn hx hA hB ha2 hb2 hgc hJ
      refine aw_run oX0_setFraction sxOk 2 (pc' := 12) (L' := [some (.ref 7), some (.int (nI a)), some (.int (nI b)), some (.int A), some (.int B), some (.int x), none]) (st' := [.int (nI 100), .int x]) (I' := I) (J' := J) (G' := G) rfl ?_
      refine aw_geN hx rfl (by omega) (by omega) (oX0_setFraction.dec rfl) (tgt := 39) rfl (fun h12 => absurd h12 (by omega)) (fun h12 => ?_)
      refine aw_run oX0_setFraction sxOk 1 (pc' := 17) (L' := [some (.ref 7), some (.int (nI a)), some (.int (nI b)), some (.int A), some (.int B), some (.int x), none]) (st' := [.int B]) (I' := I) (J' := J) (G' := G) rfl ?_
      refine aw_0eqN hB (by omega) (oX0_setFraction.dec rfl) (tgt := 39) rfl (fun h17 => ?_) (fun h17 => ?_)
      · refine aw_forget1 4 (L' := [some (.ref 7), some (.int (nI a)), some (.int (nI b)), some (.int A), none, some (.int x), none]) rfl ?_
        refine aw_forget1 5 (L' := [some (.ref 7), some (.int (nI a)), some (.int (nI b)), some (.int A), none, none, none]) rfl ?_
        exact fin _ (by rw [hA, show Nat.gcd a b = a' by rw [← hgc, h17, Nat.gcd_zero_right]])
      · refine aw_run oX0_setFraction sxOk 2 (pc' := 23) (L' := [some (.ref 7), some (.int (nI a)), some (.int (nI b)), some (.int A), some (.int B), some (.int x), none]) (st' := [.int B, .int A]) (I' := I) (J' := J) (G' := G) rfl ?_
        refine aw_irem (ne0N hB (by omega) (by omega)) (oX0_setFraction.dec rfl) ?_
        refine aw_run oX0_setFraction sxOk 7 (pc' := 8) (L' := [some (.ref 7), some (.int (nI a)), some (.int (nI b)), some (.int B), some (.int (A - A / B * B)), some (.int (x + (nI 1))), some (.int (A - A / B * B))]) (st' := []) (I' := I) (J' := J) (G' := G) rfl ?_
        refine aw_forget1 6 (L' := [some (.ref 7), some (.int (nI a)), some (.int (nI b)), some (.int B), some (.int (A - A / B * B)), some (.int (x + (nI 1))), none]) rfl ?_
        exact ih (s + 1) _ _ _ _ _ (by omega) (addN hx rfl) hB (remN hA hB (by omega) (by omega) (by omega)) (by omega) (by have := Nat.mod_lt a' (Nat.pos_of_ne_zero h17); omega) (by rw [gcd_s]; exact hgc) (gcJ_s hJ (by omega))
  refine aw_run oX0_setFraction sxOk 6 (pc' := 8) (L' := [some (.ref 7), some (.int (nI a)), some (.int (nI b)), some (.int (nI a)), some (.int (nI b)), some (.int (nI 0)), none]) (st' := []) (I' := I) (J' := J) (G' := G) rfl ?_
  exact loop 100 0 _ _ _ _ _ (by omega) rfl rfl rfl ha hb rfl (gcJ_100 ha hb)
end
section
set_option maxRecDepth 20000 in
theorem c_reckonGame {I : II} {J : JJ} {G : II} {P : Nat} (hP : I 2 7 = nI P) (hP5 : P ≤ 5) {σ a b : Nat} (hσ : σ < 32) (ha : a < 12) (hb : b < 12) (hsil : ∀ s, s < P → nI 0 ≤ sil (G 24) s) {α A β B : Nat} (hα : wor (G 24) (G 16) (G 13 a) (G 12 a) P σ = nI α) (hβ : wor (G 24) (G 16) (G 13 b) (G 12 b) P σ = nI β) (hA : (sumS (sil (G 24)) σ P) * (nI 10 - (G 12 a)) = nI A) (hB : (sumS (sil (G 24)) σ P) * (nI 10 - (G 12 b)) = nI B) (h1 : α ≤ A) (h2 : β ≤ B) (h3 : A ≤ 6000) (h4 : B ≤ 6000) : AMet SX mX0_reckonGame [.ref 7, .int (nI σ), .int (nI a), .int (nI b)] I J G (PE none (up2 (up2 I 7 3 (nI (frU (gFr α A β B)))) 7 4 (nI (frL (gFr α A β B)))) J G) := by
  have hm : α * β ≤ A * B := Nat.mul_le_mul h1 h2
  have hM : A * B ≤ 6000 * 6000 := Nat.mul_le_mul h3 h4
  refine amet_en oX0_reckonGame rfl rfl (L := [some (.ref 7), some (.int (nI σ)), some (.int (nI a)), some (.int (nI b)), none, none, none, none, none, none]) rfl ?_
  refine aw_run oX0_reckonGame sxOk 3 (pc' := 3) (L' := [some (.ref 7), some (.int (nI σ)), some (.int (nI a)), some (.int (nI b)), none, none, none, none, none, none]) (st' := [.int (nI a), .int (nI σ), .ref 7]) (I' := I) (J' := J) (G' := G) rfl ?_
  refine aw_cV (st := []) 7 [.int (nI σ), .int (nI a)] oX0_worthOf k0_68 rfl rfl rfl rfl rfl rfl rfl rfl (oX0_reckonGame.dec rfl) (c_worthOf hP (by omega) (by omega) (by omega) hsil) ?_
  refine aw_eqS (st := [.int (wor (G 24) (G 16) (G 13 a) (G 12 a) P σ)]) rfl ?_
  refine aw_run oX0_reckonGame sxOk 4 (pc' := 11) (L' := [some (.ref 7), some (.int (nI σ)), some (.int (nI a)), some (.int (nI b)), some (.int (wor (G 24) (G 16) (G 13 a) (G 12 a) P σ)), none, none, none, none, none]) (st' := [.int (nI b), .int (nI σ), .ref 7]) (I' := I) (J' := J) (G' := G) rfl ?_
  refine aw_cV (st := []) 7 [.int (nI σ), .int (nI b)] oX0_worthOf k0_68 rfl rfl rfl rfl rfl rfl rfl rfl (oX0_reckonGame.dec rfl) (c_worthOf hP (by omega) (by omega) (by omega) hsil) ?_
  refine aw_eqS (st := [.int (wor (G 24) (G 16) (G 13 b) (G 12 b) P σ)]) rfl ?_
  refine aw_run oX0_reckonGame sxOk 3 (pc' := 18) (L' := [some (.ref 7), some (.int (nI σ)), some (.int (nI a)), some (.int (nI b)), some (.int (wor (G 24) (G 16) (G 13 a) (G 12 a) P σ)), some (.int (wor (G 24) (G 16) (G 13 b) (G 12 b) P σ)), none, none, none, none]) (st' := [.int (nI σ), .ref 7]) (I' := I) (J' := J) (G' := G) rfl ?_
  refine aw_cV (st := []) 7 [.int (nI σ)] oX0_silverTogether k0_62 rfl rfl rfl rfl rfl rfl rfl rfl (oX0_reckonGame.dec rfl) (c_silverTogether hP (by omega) (by omega)) ?_
  refine aw_eqS (st := [.int (sumS (sil (G 24)) σ P)]) rfl ?_
  refine aw_run oX0_reckonGame sxOk 5 (pc' := 31) (L' := [some (.ref 7), some (.int (nI σ)), some (.int (nI a)), some (.int (nI b)), some (.int (wor (G 24) (G 16) (G 13 a) (G 12 a) P σ)), some (.int (wor (G 24) (G 16) (G 13 b) (G 12 b) P σ)), none, none, none, none]) (st' := [.int (nI a), .ref 12, .int (nI 10), .int (sumS (sil (G 24)) σ P)]) (I' := I) (J' := J) (G' := G) rfl ?_
  refine aw_iaN a sxOk rfl rfl (by omega) (oX0_reckonGame.dec rfl) ?_
  refine aw_run oX0_reckonGame sxOk 5 (pc' := 38) (L' := [some (.ref 7), some (.int (nI σ)), some (.int (nI a)), some (.int (nI b)), some (.int (wor (G 24) (G 16) (G 13 a) (G 12 a) P σ)), some (.int (wor (G 24) (G 16) (G 13 b) (G 12 b) P σ)), some (.int ((sumS (sil (G 24)) σ P) * ((nI 10) - (G 12 a)))), none, none, none]) (st' := [.int (nI σ), .ref 7]) (I' := I) (J' := J) (G' := G) rfl ?_
  refine aw_cV (st := []) 7 [.int (nI σ)] oX0_silverTogether k0_62 rfl rfl rfl rfl rfl rfl rfl rfl (oX0_reckonGame.dec rfl) (c_silverTogether hP (by omega) (by omega)) ?_
  refine aw_eqS (st := [.int (sumS (sil (G 24)) σ P)]) rfl ?_
  refine aw_run oX0_reckonGame sxOk 5 (pc' := 51) (L' := [some (.ref 7), some (.int (nI σ)), some (.int (nI a)), some (.int (nI b)), some (.int (wor (G 24) (G 16) (G 13 a) (G 12 a) P σ)), some (.int (wor (G 24) (G 16) (G 13 b) (G 12 b) P σ)), some (.int ((sumS (sil (G 24)) σ P) * ((nI 10) - (G 12 a)))), none, none, none]) (st' := [.int (nI b), .ref 12, .int (nI 10), .int (sumS (sil (G 24)) σ P)]) (I' := I) (J' := J) (G' := G) rfl ?_
  refine aw_iaN b sxOk rfl rfl (by omega) (oX0_reckonGame.dec rfl) ?_
  refine aw_run oX0_reckonGame sxOk 5 (pc' := 60) (L' := [some (.ref 7), some (.int (nI σ)), some (.int (nI a)), some (.int (nI b)), some (.int (wor (G 24) (G 16) (G 13 a) (G 12 a) P σ)), some (.int (wor (G 24) (G 16) (G 13 b) (G 12 b) P σ)), some (.int ((sumS (sil (G 24)) σ P) * ((nI 10) - (G 12 a)))), some (.int ((sumS (sil (G 24)) σ P) * ((nI 10) - (G 12 b)))), none, none]) (st' := [.int (wor (G 24) (G 16) (G 13 b) (G 12 b) P σ), .int (wor (G 24) (G 16) (G 13 a) (G 12 a) P σ)]) (I' := I) (J' := J) (G' := G) rfl ?_
  refine aw_max n0_71 (by decide) (Nat.le_of_ble_eq_true rfl) (oX0_reckonGame.dec rfl) ?_
  refine aw_run oX0_reckonGame sxOk 3 (pc' := 69) (L' := [some (.ref 7), some (.int (nI σ)), some (.int (nI a)), some (.int (nI b)), some (.int (wor (G 24) (G 16) (G 13 a) (G 12 a) P σ)), some (.int (wor (G 24) (G 16) (G 13 b) (G 12 b) P σ)), some (.int ((sumS (sil (G 24)) σ P) * ((nI 10) - (G 12 a)))), some (.int ((sumS (sil (G 24)) σ P) * ((nI 10) - (G 12 b)))), some (.int (if wor (G 24) (G 16) (G 13 a) (G 12 a) P σ < wor (G 24) (G 16) (G 13 b) (G 12 b) P σ then wor (G 24) (G 16) (G 13 b) (G 12 b) P σ else wor (G 24) (G 16) (G 13 a) (G 12 a) P σ)), none]) (st' := [.int ((sumS (sil (G 24)) σ P) * ((nI 10) - (G 12 b))), .int (wor (G 24) (G 16) (G 13 a) (G 12 a) P σ)]) (I' := I) (J' := J) (G' := G) rfl ?_
  refine aw_max n0_71 (by decide) (Nat.le_of_ble_eq_true rfl) (oX0_reckonGame.dec rfl) ?_
  refine aw_run oX0_reckonGame sxOk 2 (pc' := 76) (L' := [some (.ref 7), some (.int (nI σ)), some (.int (nI a)), some (.int (nI b)), some (.int (wor (G 24) (G 16) (G 13 a) (G 12 a) P σ)), some (.int (wor (G 24) (G 16) (G 13 b) (G 12 b) P σ)), some (.int ((sumS (sil (G 24)) σ P) * ((nI 10) - (G 12 a)))), some (.int ((sumS (sil (G 24)) σ P) * ((nI 10) - (G 12 b)))), some (.int (if wor (G 24) (G 16) (G 13 a) (G 12 a) P σ < wor (G 24) (G 16) (G 13 b) (G 12 b) P σ then wor (G 24) (G 16) (G 13 b) (G 12 b) P σ else wor (G 24) (G 16) (G 13 a) (G 12 a) P σ)), none]) (st' := [.int (wor (G 24) (G 16) (G 13 b) (G 12 b) P σ), .int ((sumS (sil (G 24)) σ P) * ((nI 10) - (G 12 a))), .int (if wor (G 24) (G 16) (G 13 a) (G 12 a) P σ < (sumS (sil (G 24)) σ P) * ((nI 10) - (G 12 b)) then (sumS (sil (G 24)) σ P) * ((nI 10) - (G 12 b)) else wor (G 24) (G 16) (G 13 a) (G 12 a) P σ)]) (I' := I) (J' := J) (G' := G) rfl ?_
  refine aw_max n0_71 (by decide) (Nat.le_of_ble_eq_true rfl) (oX0_reckonGame.dec rfl) ?_
  refine aw_min n0_76 (by decide) (Nat.le_of_ble_eq_true rfl) (oX0_reckonGame.dec rfl) ?_
  refine aw_run oX0_reckonGame sxOk 3 (pc' := 88) (L' := [some (.ref 7), some (.int (nI σ)), some (.int (nI a)), some (.int (nI b)), some (.int (wor (G 24) (G 16) (G 13 a) (G 12 a) P σ)), some (.int (wor (G 24) (G 16) (G 13 b) (G 12 b) P σ)), some (.int ((sumS (sil (G 24)) σ P) * ((nI 10) - (G 12 a)))), some (.int ((sumS (sil (G 24)) σ P) * ((nI 10) - (G 12 b)))), some (.int (if wor (G 24) (G 16) (G 13 a) (G 12 a) P σ < wor (G 24) (G 16) (G 13 b) (G 12 b) P σ then wor (G 24) (G 16) (G 13 b) (G 12 b) P σ else wor (G 24) (G 16) (G 13 a) (G 12 a) P σ)), some (.int (if (if (sumS (sil (G 24)) σ P) * ((nI 10) - (G 12 a)) < wor (G 24) (G 16) (G 13 b) (G 12 b) P σ then wor (G 24) (G 16) (G 13 b) (G 12 b) P σ else (sumS (sil (G 24)) σ P) * ((nI 10) - (G 12 a))) < (if wor (G 24) (G 16) (G 13 a) (G 12 a) P σ < (sumS (sil (G 24)) σ P) * ((nI 10) - (G 12 b)) then (sumS (sil (G 24)) σ P) * ((nI 10) - (G 12 b)) else wor (G 24) (G 16) (G 13 a) (G 12 a) P σ) then (if (sumS (sil (G 24)) σ P) * ((nI 10) - (G 12 a)) < wor (G 24) (G 16) (G 13 b) (G 12 b) P σ then wor (G 24) (G 16) (G 13 b) (G 12 b) P σ else (sumS (sil (G 24)) σ P) * ((nI 10) - (G 12 a))) else (if wor (G 24) (G 16) (G 13 a) (G 12 a) P σ < (sumS (sil (G 24)) σ P) * ((nI 10) - (G 12 b)) then (sumS (sil (G 24)) σ P) * ((nI 10) - (G 12 b)) else wor (G 24) (G 16) (G 13 a) (G 12 a) P σ)))]) (st' := [.int (if (if (sumS (sil (G 24)) σ P) * ((nI 10) - (G 12 a)) < wor (G 24) (G 16) (G 13 b) (G 12 b) P σ then wor (G 24) (G 16) (G 13 b) (G 12 b) P σ else (sumS (sil (G 24)) σ P) * ((nI 10) - (G 12 a))) < (if wor (G 24) (G 16) (G 13 a) (G 12 a) P σ < (sumS (sil (G 24)) σ P) * ((nI 10) - (G 12 b)) then (sumS (sil (G 24)) σ P) * ((nI 10) - (G 12 b)) else wor (G 24) (G 16) (G 13 a) (G 12 a) P σ) then (if (sumS (sil (G 24)) σ P) * ((nI 10) - (G 12 a)) < wor (G 24) (G 16) (G 13 b) (G 12 b) P σ then wor (G 24) (G 16) (G 13 b) (G 12 b) P σ else (sumS (sil (G 24)) σ P) * ((nI 10) - (G 12 a))) else (if wor (G 24) (G 16) (G 13 a) (G 12 a) P σ < (sumS (sil (G 24)) σ P) * ((nI 10) - (G 12 b)) then (sumS (sil (G 24)) σ P) * ((nI 10) - (G 12 b)) else wor (G 24) (G 16) (G 13 a) (G 12 a) P σ)), .int (if wor (G 24) (G 16) (G 13 a) (G 12 a) P σ < wor (G 24) (G 16) (G 13 b) (G 12 b) P σ then wor (G 24) (G 16) (G 13 b) (G 12 b) P σ else wor (G 24) (G 16) (G 13 a) (G 12 a) P σ)]) (I' := I) (J' := J) (G' := G) rfl ?_
  refine aw_ltN (maxN hα hβ (by omega) (by omega)) (minN (maxN hα hB (by omega) (by omega)) (maxN hA hβ (by omega) (by omega)) (by omega) (by omega)) (by omega) (by omega) (oX0_reckonGame.dec rfl) (tgt := 101) rfl (fun h88 => ?_) (fun h88 => ?_)
  · refine aw_run oX0_reckonGame sxOk 15 (pc' := 124) (L' := [some (.ref 7), some (.int (nI σ)), some (.int (nI a)), some (.int (nI b)), some (.int (wor (G 24) (G 16) (G 13 a) (G 12 a) P σ)), some (.int (wor (G 24) (G 16) (G 13 b) (G 12 b) P σ)), some (.int ((sumS (sil (G 24)) σ P) * ((nI 10) - (G 12 a)))), some (.int ((sumS (sil (G 24)) σ P) * ((nI 10) - (G 12 b)))), some (.int (if wor (G 24) (G 16) (G 13 a) (G 12 a) P σ < wor (G 24) (G 16) (G 13 b) (G 12 b) P σ then wor (G 24) (G 16) (G 13 b) (G 12 b) P σ else wor (G 24) (G 16) (G 13 a) (G 12 a) P σ)), some (.int (if (if (sumS (sil (G 24)) σ P) * ((nI 10) - (G 12 a)) < wor (G 24) (G 16) (G 13 b) (G 12 b) P σ then wor (G 24) (G 16) (G 13 b) (G 12 b) P σ else (sumS (sil (G 24)) σ P) * ((nI 10) - (G 12 a))) < (if wor (G 24) (G 16) (G 13 a) (G 12 a) P σ < (sumS (sil (G 24)) σ P) * ((nI 10) - (G 12 b)) then (sumS (sil (G 24)) σ P) * ((nI 10) - (G 12 b)) else wor (G 24) (G 16) (G 13 a) (G 12 a) P σ) then (if (sumS (sil (G 24)) σ P) * ((nI 10) - (G 12 a)) < wor (G 24) (G 16) (G 13 b) (G 12 b) P σ then wor (G 24) (G 16) (G 13 b) (G 12 b) P σ else (sumS (sil (G 24)) σ P) * ((nI 10) - (G 12 a))) else (if wor (G 24) (G 16) (G 13 a) (G 12 a) P σ < (sumS (sil (G 24)) σ P) * ((nI 10) - (G 12 b)) then (sumS (sil (G 24)) σ P) * ((nI 10) - (G 12 b)) else wor (G 24) (G 16) (G 13 a) (G 12 a) P σ)))]) (st' := [.int (((((sumS (sil (G 24)) σ P) * ((nI 10) - (G 12 a))) + ((sumS (sil (G 24)) σ P) * ((nI 10) - (G 12 b)))) - (wor (G 24) (G 16) (G 13 a) (G 12 a) P σ)) - (wor (G 24) (G 16) (G 13 b) (G 12 b) P σ)), .int ((((sumS (sil (G 24)) σ P) * ((nI 10) - (G 12 a))) * ((sumS (sil (G 24)) σ P) * ((nI 10) - (G 12 b)))) - ((wor (G 24) (G 16) (G 13 a) (G 12 a) P σ) * (wor (G 24) (G 16) (G 13 b) (G 12 b) P σ))), .ref 7]) (I' := I) (J' := J) (G' := G) rfl ?_
    refine aw_eqS (st := [.int (nI (A + B - α - β)), .int (nI (A * B - (α * β))), .ref 7]) (by rw [show (((sumS (sil (G 24)) σ P) * ((nI 10) - (G 12 a))) * ((sumS (sil (G 24)) σ P) * ((nI 10) - (G 12 b)))) - ((wor (G 24) (G 16) (G 13 a) (G 12 a) P σ) * (wor (G 24) (G 16) (G 13 b) (G 12 b) P σ)) = nI (A * B - (α * β)) from subN (mulN hA hB) (mulN hα hβ) (by omega), show ((((sumS (sil (G 24)) σ P) * ((nI 10) - (G 12 a))) + ((sumS (sil (G 24)) σ P) * ((nI 10) - (G 12 b)))) - (wor (G 24) (G 16) (G 13 a) (G 12 a) P σ)) - (wor (G 24) (G 16) (G 13 b) (G 12 b) P σ) = nI (A + B - α - β) from subN (subN (addN hA hB) hα (by omega)) hβ (by omega)]) ?_
    refine aw_cV (st := []) 7 [.int (nI (A * B - (α * β))), .int (nI (A + B - α - β))] oX0_setFraction k0_79 rfl rfl rfl rfl rfl rfl rfl rfl (oX0_reckonGame.dec rfl) (c_setFraction (by omega) (by omega) (by omega)) ?_
    refine aw_eqS (st := []) rfl ?_
    exact aw_vret rfl (oX0_reckonGame.dec rfl) (⟨rfl, by rw [gFr_n (by omega)]; rfl, rfl, rfl⟩)
  · refine aw_run oX0_reckonGame sxOk 3 (pc' := 95) (L' := [some (.ref 7), some (.int (nI σ)), some (.int (nI a)), some (.int (nI b)), some (.int (wor (G 24) (G 16) (G 13 a) (G 12 a) P σ)), some (.int (wor (G 24) (G 16) (G 13 b) (G 12 b) P σ)), some (.int ((sumS (sil (G 24)) σ P) * ((nI 10) - (G 12 a)))), some (.int ((sumS (sil (G 24)) σ P) * ((nI 10) - (G 12 b)))), some (.int (if wor (G 24) (G 16) (G 13 a) (G 12 a) P σ < wor (G 24) (G 16) (G 13 b) (G 12 b) P σ then wor (G 24) (G 16) (G 13 b) (G 12 b) P σ else wor (G 24) (G 16) (G 13 a) (G 12 a) P σ)), some (.int (if (if (sumS (sil (G 24)) σ P) * ((nI 10) - (G 12 a)) < wor (G 24) (G 16) (G 13 b) (G 12 b) P σ then wor (G 24) (G 16) (G 13 b) (G 12 b) P σ else (sumS (sil (G 24)) σ P) * ((nI 10) - (G 12 a))) < (if wor (G 24) (G 16) (G 13 a) (G 12 a) P σ < (sumS (sil (G 24)) σ P) * ((nI 10) - (G 12 b)) then (sumS (sil (G 24)) σ P) * ((nI 10) - (G 12 b)) else wor (G 24) (G 16) (G 13 a) (G 12 a) P σ) then (if (sumS (sil (G 24)) σ P) * ((nI 10) - (G 12 a)) < wor (G 24) (G 16) (G 13 b) (G 12 b) P σ then wor (G 24) (G 16) (G 13 b) (G 12 b) P σ else (sumS (sil (G 24)) σ P) * ((nI 10) - (G 12 a))) else (if wor (G 24) (G 16) (G 13 a) (G 12 a) P σ < (sumS (sil (G 24)) σ P) * ((nI 10) - (G 12 b)) then (sumS (sil (G 24)) σ P) * ((nI 10) - (G 12 b)) else wor (G 24) (G 16) (G 13 a) (G 12 a) P σ)))]) (st' := [.int (nI 1), .int (if wor (G 24) (G 16) (G 13 a) (G 12 a) P σ < wor (G 24) (G 16) (G 13 b) (G 12 b) P σ then wor (G 24) (G 16) (G 13 b) (G 12 b) P σ else wor (G 24) (G 16) (G 13 a) (G 12 a) P σ), .ref 7]) (I' := I) (J' := J) (G' := G) rfl ?_
    refine aw_eqS (st := [.int (nI 1), .int (nI (max α β)), .ref 7]) (by rw [show (if wor (G 24) (G 16) (G 13 a) (G 12 a) P σ < wor (G 24) (G 16) (G 13 b) (G 12 b) P σ then wor (G 24) (G 16) (G 13 b) (G 12 b) P σ else wor (G 24) (G 16) (G 13 a) (G 12 a) P σ) = nI (max α β) from maxN hα hβ (by omega) (by omega)]) ?_
    refine aw_cV (st := []) 7 [.int (nI (max α β)), .int (nI 1)] oX0_setFraction k0_79 rfl rfl rfl rfl rfl rfl rfl rfl (oX0_reckonGame.dec rfl) (c_setFraction (by omega) (by omega) (by omega)) ?_
    refine aw_eqS (st := []) rfl ?_
    refine aw_run oX0_reckonGame sxOk 1 (pc' := 127) (L' := [some (.ref 7), some (.int (nI σ)), some (.int (nI a)), some (.int (nI b)), some (.int (wor (G 24) (G 16) (G 13 a) (G 12 a) P σ)), some (.int (wor (G 24) (G 16) (G 13 b) (G 12 b) P σ)), some (.int ((sumS (sil (G 24)) σ P) * ((nI 10) - (G 12 a)))), some (.int ((sumS (sil (G 24)) σ P) * ((nI 10) - (G 12 b)))), some (.int (if wor (G 24) (G 16) (G 13 a) (G 12 a) P σ < wor (G 24) (G 16) (G 13 b) (G 12 b) P σ then wor (G 24) (G 16) (G 13 b) (G 12 b) P σ else wor (G 24) (G 16) (G 13 a) (G 12 a) P σ)), some (.int (if (if (sumS (sil (G 24)) σ P) * ((nI 10) - (G 12 a)) < wor (G 24) (G 16) (G 13 b) (G 12 b) P σ then wor (G 24) (G 16) (G 13 b) (G 12 b) P σ else (sumS (sil (G 24)) σ P) * ((nI 10) - (G 12 a))) < (if wor (G 24) (G 16) (G 13 a) (G 12 a) P σ < (sumS (sil (G 24)) σ P) * ((nI 10) - (G 12 b)) then (sumS (sil (G 24)) σ P) * ((nI 10) - (G 12 b)) else wor (G 24) (G 16) (G 13 a) (G 12 a) P σ) then (if (sumS (sil (G 24)) σ P) * ((nI 10) - (G 12 a)) < wor (G 24) (G 16) (G 13 b) (G 12 b) P σ then wor (G 24) (G 16) (G 13 b) (G 12 b) P σ else (sumS (sil (G 24)) σ P) * ((nI 10) - (G 12 a))) else (if wor (G 24) (G 16) (G 13 a) (G 12 a) P σ < (sumS (sil (G 24)) σ P) * ((nI 10) - (G 12 b)) then (sumS (sil (G 24)) σ P) * ((nI 10) - (G 12 b)) else wor (G 24) (G 16) (G 13 a) (G 12 a) P σ)))]) (st' := []) (I' := up2 (up2 I 7 3 (nI ((max α β) / Nat.gcd (max α β) 1))) 7 4 (nI (1 / Nat.gcd (max α β) 1))) (J' := J) (G' := G) rfl ?_
    exact aw_vret rfl (oX0_reckonGame.dec rfl) (⟨rfl, by rw [gFr_s (by omega)]; rfl, rfl, rfl⟩)

set_option maxRecDepth 20000 in
theorem c_beginWays {I : II} {J : JJ} {G : II}  : AMet SX mX0_beginWays [.ref 7] I J G (fun r I' J' G' => r = none ∧ I' = I ∧ J' = J ∧ ∃ f, G' = va_up G 30 f ∧ ∀ j, j < 6 → f j = nI (w0 j)) := by
  refine amet_en oX0_beginWays rfl rfl (L := [some (.ref 7), none]) rfl ?_
  have loop : ∀ (n s : Nat) (x : Int32) (f : Nat → Int32), (s + n = 6) → (x = nI s) → (∀ j, j < s → f j = nI 0) → AW SX mX0_beginWays 2 [some (.ref 7), some (.int x)] [] I J (va_up G 30 f) (fun r I' J' G' => r = none ∧ I' = I ∧ J' = J ∧ ∃ f, G' = va_up G 30 f ∧ ∀ j, j < 6 → f j = nI (w0 j)) := by
    intro n
    induction n with
    | zero =>
      intro s x f hsn hx hf
      refine aw_run oX0_beginWays sxOk 2 (pc' := 4) (L' := [some (.ref 7), some (.int x)]) (st' := [.int (nI 5), .int x]) (I' := I) (J' := J) (G' := va_up G 30 f) rfl ?_
      refine aw_gtN hx rfl (by omega) (by omega) (oX0_beginWays.dec rfl) (tgt := 20) rfl (fun h4 => ?_) (fun h4 => absurd h4 (by omega))
      refine aw_run oX0_beginWays sxOk 4 (pc' := 26) (L' := [some (.ref 7), some (.int x)]) (st' := [.int (nI 1), .int (nI 0), .ref 30]) (I' := I) (J' := J) (G' := va_up G 30 f) rfl ?_
      refine aw_isN 0 sxOk rfl rfl (by omega) (oX0_beginWays.dec rfl) ?_
      refine aw_eqG (G' := va_up G 30 (upd f 0 (nI 1))) (bx_uu _ _ _ _) ?_
      exact aw_vret rfl (oX0_beginWays.dec rfl) (⟨rfl, rfl, rfl, _, rfl, fun j hj => by unfold upd w0; split; rfl; exact hf j (by omega)⟩)
    | succ n ih =>
      intro s x f hsn hx hf
      refine aw_run oX0_beginWays sxOk 2 (pc' := 4) (L' := [some (.ref 7), some (.int x)]) (st' := [.int (nI 5), .int x]) (I' := I) (J' := J) (G' := va_up G 30 f) rfl ?_
      refine aw_gtN hx rfl (by omega) (by omega) (oX0_beginWays.dec rfl) (tgt := 20) rfl (fun h4 => absurd h4 (by omega)) (fun h4 => ?_)
      refine aw_run oX0_beginWays sxOk 4 (pc' := 13) (L' := [some (.ref 7), some (.int x)]) (st' := [.int (nI 0), .int x, .ref 30]) (I' := I) (J' := J) (G' := va_up G 30 f) rfl ?_
      refine aw_isN s sxOk rfl hx (by omega) (oX0_beginWays.dec rfl) ?_
      refine aw_eqG (G' := va_up G 30 (upd f s (nI 0))) (bx_uu _ _ _ _) ?_
      refine aw_run oX0_beginWays sxOk 2 (pc' := 2) (L' := [some (.ref 7), some (.int (x + (nI 1)))]) (st' := []) (I' := I) (J' := J) (G' := va_up G 30 (upd f s (nI 0))) rfl ?_
      exact ih (s + 1) _ _ (by omega) (addN hx rfl) (fun j hj => by unfold upd; split; rfl; exact hf j (by omega))
  refine aw_run oX0_beginWays sxOk 2 (pc' := 2) (L' := [some (.ref 7), some (.int (nI 0))]) (st' := []) (I' := I) (J' := J) (G' := G) rfl ?_
  refine aw_eqG (upG_id G 30).symm ?_
  exact loop 6 0 _ _ (by omega) rfl (fun j hj => absurd hj (by omega))
set_option maxRecDepth 20000 in
theorem c_addToWays {I : II} {J : JJ} {G : II} {τ : Nat} (hτ : τ ≤ 10) {v : Nat → Nat} (hv : ∀ j, j < 6 → G 30 j = nI (v j)) : AMet SX mX0_addToWays [.ref 7, .int (nI τ)] I J G (fun r I' J' G' => r = none ∧ I' = I ∧ J' = J ∧ ∃ f, G' = va_up G 30 f ∧ ∀ j, j < 6 → f j = nI ((addW τ v) j)) := by
  refine amet_en oX0_addToWays rfl rfl (L := [some (.ref 7), some (.int (nI τ)), none]) rfl ?_
  have loop : ∀ (s : Nat) (x : Int32) (f : Nat → Int32), (x = nI s) → (s ≤ 5) → (∀ j, j ≤ s → f j = nI (v j)) → (∀ j, s < j → j < 6 → f j = nI (addW τ v j)) → AW SX mX0_addToWays 2 [some (.ref 7), some (.int (nI τ)), some (.int x)] [] I J (va_up G 30 f) (fun r I' J' G' => r = none ∧ I' = I ∧ J' = J ∧ ∃ f, G' = va_up G 30 f ∧ ∀ j, j < 6 → f j = nI ((addW τ v) j)) := by
    intro s
    induction s with
    | zero =>
      intro x f hx hs hlo hhi
      refine aw_run oX0_addToWays sxOk 1 (pc' := 3) (L' := [some (.ref 7), some (.int (nI τ)), some (.int x)]) (st' := [.int x]) (I' := I) (J' := J) (G' := va_up G 30 f) rfl ?_
      refine aw_0leN hx (by omega) (oX0_addToWays.dec rfl) (tgt := 40) rfl (fun h3 => ?_) (fun h3 => absurd h3 (by omega))
      refine aw_run oX0_addToWays sxOk 4 (pc' := 46) (L' := [some (.ref 7), some (.int (nI τ)), some (.int x)]) (st' := [.int (nI 0), .ref 30, .int (nI 0), .ref 30]) (I' := I) (J' := J) (G' := va_up G 30 f) rfl ?_
      refine aw_iaN 0 sxOk rfl rfl (by omega) (oX0_addToWays.dec rfl) ?_
      refine aw_eqS (st := [.int (f 0), .int (nI 0), .ref 30]) rfl ?_
      refine aw_run oX0_addToWays sxOk 2 (pc' := 49) (L' := [some (.ref 7), some (.int (nI τ)), some (.int x)]) (st' := [.int ((f 0) * (nI τ)), .int (nI 0), .ref 30]) (I' := I) (J' := J) (G' := va_up G 30 f) rfl ?_
      refine aw_isN 0 sxOk rfl rfl (by omega) (oX0_addToWays.dec rfl) ?_
      refine aw_eqG (G' := va_up G 30 (upd f 0 ((f 0) * (nI τ)))) (bx_uu _ _ _ _) ?_
      exact aw_vret rfl (oX0_addToWays.dec rfl) (⟨rfl, rfl, rfl, _, rfl, fun j hj => by unfold upd; split; (rename_i h; subst h; exact mulN (hlo 0 (by omega)) rfl); exact hhi j (by omega) hj⟩)
    | succ s ih =>
      intro x f hx hs hlo hhi
      refine aw_run oX0_addToWays sxOk 1 (pc' := 3) (L' := [some (.ref 7), some (.int (nI τ)), some (.int x)]) (st' := [.int x]) (I' := I) (J' := J) (G' := va_up G 30 f) rfl ?_
      refine aw_0leN hx (by omega) (oX0_addToWays.dec rfl) (tgt := 40) rfl (fun h3 => absurd h3 (by omega)) (fun h3 => ?_)
      refine aw_run oX0_addToWays sxOk 6 (pc' := 16) (L' := [some (.ref 7), some (.int (nI τ)), some (.int x)]) (st' := [.int x, .ref 30, .int x, .ref 30]) (I' := I) (J' := J) (G' := va_up G 30 f) rfl ?_
      refine aw_iaN (s + 1) sxOk rfl hx (by omega) (oX0_addToWays.dec rfl) ?_
      refine aw_eqS (st := [.int (f (s + 1)), .int x, .ref 30]) rfl ?_
      refine aw_run oX0_addToWays sxOk 7 (pc' := 26) (L' := [some (.ref 7), some (.int (nI τ)), some (.int x)]) (st' := [.int (x - (nI 1)), .ref 30, .int ((f (s + 1)) * (nI τ)), .int x, .ref 30]) (I' := I) (J' := J) (G' := va_up G 30 f) rfl ?_
      refine aw_iaN (s + 1 - 1) sxOk rfl (subN hx rfl (by omega)) (by omega) (oX0_addToWays.dec rfl) ?_
      refine aw_eqS (st := [.int (f (s + 1 - 1)), .int ((f (s + 1)) * (nI τ)), .int x, .ref 30]) rfl ?_
      refine aw_run oX0_addToWays sxOk 5 (pc' := 33) (L' := [some (.ref 7), some (.int (nI τ)), some (.int x)]) (st' := [.int (((f (s + 1)) * (nI τ)) + ((f (s + 1 - 1)) * ((nI 10) - (nI τ)))), .int x, .ref 30]) (I' := I) (J' := J) (G' := va_up G 30 f) rfl ?_
      refine aw_isN (s + 1) sxOk rfl hx (by omega) (oX0_addToWays.dec rfl) ?_
      refine aw_eqG (G' := va_up G 30 (upd f (s + 1) (((f (s + 1)) * (nI τ)) + ((f (s + 1 - 1)) * ((nI 10) - (nI τ)))))) (bx_uu _ _ _ _) ?_
      refine aw_run oX0_addToWays sxOk 2 (pc' := 2) (L' := [some (.ref 7), some (.int (nI τ)), some (.int (x + (-nI 1)))]) (st' := []) (I' := I) (J' := J) (G' := va_up G 30 (upd f (s + 1) (((f (s + 1)) * (nI τ)) + ((f (s + 1 - 1)) * ((nI 10) - (nI τ)))))) rfl ?_
      exact ih _ _ (sub1N hx (by omega)) (by omega) (fun j hj => by unfold upd; rw [if_neg (by omega)]; exact hlo j (by omega)) (fun j h1 h2 => by unfold upd; split; (rename_i h; subst h; exact addN (mulN (hlo _ (by omega)) rfl) (mulN (hlo _ (by omega)) (subN rfl rfl (by omega)))); exact hhi j (by omega) h2)
  refine aw_run oX0_addToWays sxOk 2 (pc' := 2) (L' := [some (.ref 7), some (.int (nI τ)), some (.int (nI 5))]) (st' := []) (I' := I) (J' := J) (G' := G) rfl ?_
  refine aw_eqG (upG_id G 30).symm ?_
  exact loop 5 _ _ rfl (by omega) (fun j hj => hv j (by omega)) (fun j h1 h2 => absurd h2 (by omega))
end
section
set_option maxRecDepth 20000 in
theorem c_reckonOdds {I : II} {J : JJ} {G : II} {P : Nat} (hP : I 2 7 = nI P) (hP5 : P ≤ 5) {σ w k τ : Nat} (hσ : σ < 32) (hw : w < 12) (hk : k ≤ 5) (hτ : G 12 w = nI τ) (hτ10 : τ ≤ 10) (hsil : ∀ s, s < P → nI 0 ≤ sil (G 24) s) : AMet SX mX0_reckonOdds [.ref 7, .int (nI σ), .int (nI w), .int (nI k)] I J G (fun r I' J' G' => r = none ∧ I' = up2 (up2 I 7 3 (nI (frU (oFr σ (tak (G 24) (G 16) (G 13 w) P σ) P τ k)))) 7 4 (nI (frL (oFr σ (tak (G 24) (G 16) (G 13 w) P σ) P τ k))) ∧ J' = J ∧ ∃ f, G' = va_up G 30 f) := by
  refine amet_en oX0_reckonOdds rfl rfl (L := [some (.ref 7), some (.int (nI σ)), some (.int (nI w)), some (.int (nI k)), none, none, none, none, none]) rfl ?_
  have hc5 : cntB (oq σ (tak (G 24) (G 16) (G 13 w) P σ)) P ≤ 5 := Nat.le_trans (cntB_le _ _) hP5
  have hp10 : 10 ^ (cntB (oq σ (tak (G 24) (G 16) (G 13 w) P σ)) P) ≤ 100000 := Nat.pow_le_pow_right (n := 10) (by decide) hc5
  have hp1 : 0 < 10 ^ (cntB (oq σ (tak (G 24) (G 16) (G 13 w) P σ)) P) := Nat.pow_pos (by decide)
  have fin : ∀ (cs : Int32) (f : Nat → Int32), (cs = nI (10 ^ cntB (oq σ (tak (G 24) (G 16) (G 13 w) P σ)) P)) → (∀ j, j < 6 → f j = nI (itW τ (cntB (oq σ (tak (G 24) (G 16) (G 13 w) P σ)) P) j)) → ∀ (n m : Nat) (x g : Int32), (k + m + n = 6) → (x = nI (k + m)) → (g = nI (gs (itW τ (cntB (oq σ (tak (G 24) (G 16) (G 13 w) P σ)) P)) k m)) → AW SX mX0_reckonOdds 82 [some (.ref 7), some (.int (nI σ)), some (.int (nI w)), some (.int (nI k)), none, none, some (.int cs), some (.int g), some (.int x)] [] I J (va_up G 30 f) (fun r I' J' G' => r = none ∧ I' = up2 (up2 I 7 3 (nI (frU (oFr σ (tak (G 24) (G 16) (G 13 w) P σ) P τ k)))) 7 4 (nI (frL (oFr σ (tak (G 24) (G 16) (G 13 w) P σ) P τ k))) ∧ J' = J ∧ ∃ f, G' = va_up G 30 f) := by
    intro cs f hcs hf n
    induction n with
    | zero =>
      intro m x g hmn hx hg
      have hgl := gs_le (τ := τ) (k := k) (m := m) (show cntB (oq σ (tak (G 24) (G 16) (G 13 w) P σ)) P < 6 by omega) (by omega) (by omega)
      refine aw_run oX0_reckonOdds sxOk 2 (pc' := 85) (L' := [some (.ref 7), some (.int (nI σ)), some (.int (nI w)), some (.int (nI k)), none, none, some (.int cs), some (.int g), some (.int x)]) (st' := [.int (nI 5), .int x]) (I' := I) (J' := J) (G' := va_up G 30 f) rfl ?_
      refine aw_gtN hx rfl (by omega) (by omega) (oX0_reckonOdds.dec rfl) (tgt := 106) rfl (fun h85 => ?_) (fun h85 => absurd h85 (by omega))
      refine aw_run oX0_reckonOdds sxOk 3 (pc' := 111) (L' := [some (.ref 7), some (.int (nI σ)), some (.int (nI w)), some (.int (nI k)), none, none, some (.int cs), some (.int g), some (.int x)]) (st' := [.int cs, .int g, .ref 7]) (I' := I) (J' := J) (G' := va_up G 30 f) rfl ?_
      refine aw_eqS (st := [.int (nI (10 ^ cntB (oq σ (tak (G 24) (G 16) (G 13 w) P σ)) P)), .int (nI (gs (itW τ (cntB (oq σ (tak (G 24) (G 16) (G 13 w) P σ)) P)) k m)), .ref 7]) (by rw [show g = nI (gs (itW τ (cntB (oq σ (tak (G 24) (G 16) (G 13 w) P σ)) P)) k m) from hg, show cs = nI (10 ^ cntB (oq σ (tak (G 24) (G 16) (G 13 w) P σ)) P) from hcs]) ?_
      refine aw_cV (st := []) 7 [.int (nI (gs (itW τ (cntB (oq σ (tak (G 24) (G 16) (G 13 w) P σ)) P)) k m)), .int (nI (10 ^ cntB (oq σ (tak (G 24) (G 16) (G 13 w) P σ)) P))] oX0_setFraction k0_79 rfl rfl rfl rfl rfl rfl rfl rfl (oX0_reckonOdds.dec rfl) (c_setFraction (by omega) (by omega) (by omega)) ?_
      refine aw_eqS (st := []) rfl ?_
      exact aw_vret rfl (oX0_reckonOdds.dec rfl) (⟨rfl, by rw [show m = 6 - k by omega]; rfl, rfl, f, rfl⟩)
    | succ n ih =>
      intro m x g hmn hx hg
      refine aw_run oX0_reckonOdds sxOk 2 (pc' := 85) (L' := [some (.ref 7), some (.int (nI σ)), some (.int (nI w)), some (.int (nI k)), none, none, some (.int cs), some (.int g), some (.int x)]) (st' := [.int (nI 5), .int x]) (I' := I) (J' := J) (G' := va_up G 30 f) rfl ?_
      refine aw_gtN hx rfl (by omega) (by omega) (oX0_reckonOdds.dec rfl) (tgt := 106) rfl (fun h85 => absurd h85 (by omega)) (fun h85 => ?_)
      refine aw_run oX0_reckonOdds sxOk 4 (pc' := 96) (L' := [some (.ref 7), some (.int (nI σ)), some (.int (nI w)), some (.int (nI k)), none, none, some (.int cs), some (.int g), some (.int x)]) (st' := [.int x, .ref 30, .int g]) (I' := I) (J' := J) (G' := va_up G 30 f) rfl ?_
      refine aw_iaN (k + m) sxOk rfl hx (by omega) (oX0_reckonOdds.dec rfl) ?_
      refine aw_eqS (st := [.int (f (k + m)), .int g]) rfl ?_
      refine aw_run oX0_reckonOdds sxOk 4 (pc' := 82) (L' := [some (.ref 7), some (.int (nI σ)), some (.int (nI w)), some (.int (nI k)), none, none, some (.int cs), some (.int (g + (f (k + m)))), some (.int (x + (nI 1)))]) (st' := []) (I' := I) (J' := J) (G' := va_up G 30 f) rfl ?_
      exact ih (m + 1) _ _ (by omega) (show _ = nI (k + m + 1) from addN hx rfl) (addN hg (hf (k + m) (by omega)))
  have loop : ∀ (n s : Nat) (x : Int32) (cs : Int32) (f : Nat → Int32), (s + n = P) → (x = nI s) → (cs = nI (10 ^ cntB (oq σ (tak (G 24) (G 16) (G 13 w) P σ)) s)) → (∀ j, j < 6 → f j = nI (itW τ (cntB (oq σ (tak (G 24) (G 16) (G 13 w) P σ)) s) j)) → AW SX mX0_reckonOdds 29 [some (.ref 7), some (.int (nI σ)), some (.int (nI w)), some (.int (nI k)), some (.int (G 12 w)), some (.int (encO (tak (G 24) (G 16) (G 13 w) P σ))), some (.int cs), some (.int x), none] [] I J (va_up G 30 f) (fun r I' J' G' => r = none ∧ I' = up2 (up2 I 7 3 (nI (frU (oFr σ (tak (G 24) (G 16) (G 13 w) P σ) P τ k)))) 7 4 (nI (frL (oFr σ (tak (G 24) (G 16) (G 13 w) P σ) P τ k))) ∧ J' = J ∧ ∃ f, G' = va_up G 30 f) := by
    intro n
    induction n with
    | zero =>
      intro s x cs f hsn hx hcs hf
      refine aw_run oX0_reckonOdds sxOk 4 (pc' := 38) (L' := [some (.ref 7), some (.int (nI σ)), some (.int (nI w)), some (.int (nI k)), some (.int (G 12 w)), some (.int (encO (tak (G 24) (G 16) (G 13 w) P σ))), some (.int cs), some (.int x), none]) (st' := [.int (I 2 7), .int x]) (I' := I) (J' := J) (G' := va_up G 30 f) rfl ?_
      refine aw_geN hx hP (by omega) (by omega) (oX0_reckonOdds.dec rfl) (tgt := 76) rfl (fun h38 => ?_) (fun h38 => absurd h38 (by omega))
      refine aw_run oX0_reckonOdds sxOk 4 (pc' := 82) (L' := [some (.ref 7), some (.int (nI σ)), some (.int (nI w)), some (.int (nI k)), some (.int (G 12 w)), some (.int (encO (tak (G 24) (G 16) (G 13 w) P σ))), some (.int cs), some (.int (nI 0)), some (.int (nI k))]) (st' := []) (I' := I) (J' := J) (G' := va_up G 30 f) rfl ?_
      refine aw_forget1 4 (L' := [some (.ref 7), some (.int (nI σ)), some (.int (nI w)), some (.int (nI k)), none, some (.int (encO (tak (G 24) (G 16) (G 13 w) P σ))), some (.int cs), some (.int (nI 0)), some (.int (nI k))]) rfl ?_
      refine aw_forget1 5 (L' := [some (.ref 7), some (.int (nI σ)), some (.int (nI w)), some (.int (nI k)), none, none, some (.int cs), some (.int (nI 0)), some (.int (nI k))]) rfl ?_
      obtain rfl : s = P := by omega
      exact fin _ _ hcs hf (6 - k) 0 _ _ (by omega) rfl rfl
    | succ n ih =>
      intro s x cs f hsn hx hcs hf
      refine aw_run oX0_reckonOdds sxOk 4 (pc' := 38) (L' := [some (.ref 7), some (.int (nI σ)), some (.int (nI w)), some (.int (nI k)), some (.int (G 12 w)), some (.int (encO (tak (G 24) (G 16) (G 13 w) P σ))), some (.int cs), some (.int x), none]) (st' := [.int (I 2 7), .int x]) (I' := I) (J' := J) (G' := va_up G 30 f) rfl ?_
      refine aw_geN hx hP (by omega) (by omega) (oX0_reckonOdds.dec rfl) (tgt := 76) rfl (fun h38 => absurd h38 (by omega)) (fun h38 => ?_)
      refine aw_run oX0_reckonOdds sxOk 2 (pc' := 44) (L' := [some (.ref 7), some (.int (nI σ)), some (.int (nI w)), some (.int (nI k)), some (.int (G 12 w)), some (.int (encO (tak (G 24) (G 16) (G 13 w) P σ))), some (.int cs), some (.int x), none]) (st' := [.int (nI σ), .int x]) (I' := I) (J' := J) (G' := va_up G 30 f) rfl ?_
      refine aw_eqS (st := [.int (nI σ), .int (nI s)]) (by rw [show x = nI s from hx]) ?_
      refine aw_cS (st := []) [.int (nI s), .int (nI σ)] oX6_isIn k0_45 rfl rfl rfl rfl rfl (oX0_reckonOdds.dec rfl) (c_isIn (by omega) (by omega)) ?_
      refine aw_eqS (st := [.int (nI (bitN σ s))]) rfl ?_
      refine aw_0eqN rfl (bitN_b _ _) (oX0_reckonOdds.dec rfl) (tgt := 70) rfl (fun h47 => ?_) (fun h47 => ?_)
      · refine aw_run oX0_reckonOdds sxOk 2 (pc' := 29) (L' := [some (.ref 7), some (.int (nI σ)), some (.int (nI w)), some (.int (nI k)), some (.int (G 12 w)), some (.int (encO (tak (G 24) (G 16) (G 13 w) P σ))), some (.int cs), some (.int (x + (nI 1))), none]) (st' := []) (I' := I) (J' := J) (G' := va_up G 30 f) rfl ?_
        exact ih (s + 1) _ _ _ (by omega) (addN hx rfl) (by rw [cntB_f (by unfold oq; rw [bitN_0 h47]; simp)]; exact hcs) (fun j hj => by rw [cntB_f (by unfold oq; rw [bitN_0 h47]; simp)]; exact hf j hj)
      · refine aw_run oX0_reckonOdds sxOk 2 (pc' := 54) (L' := [some (.ref 7), some (.int (nI σ)), some (.int (nI w)), some (.int (nI k)), some (.int (G 12 w)), some (.int (encO (tak (G 24) (G 16) (G 13 w) P σ))), some (.int cs), some (.int x), none]) (st' := [.int (encO (tak (G 24) (G 16) (G 13 w) P σ)), .int x]) (I' := I) (J' := J) (G' := va_up G 30 f) rfl ?_
        refine aw_icmp_eq (oX0_reckonOdds.dec rfl) (tgt := 70) rfl (fun h54 => ?_) (fun h54 => ?_)
        · refine aw_run oX0_reckonOdds sxOk 2 (pc' := 29) (L' := [some (.ref 7), some (.int (nI σ)), some (.int (nI w)), some (.int (nI k)), some (.int (G 12 w)), some (.int (encO (tak (G 24) (G 16) (G 13 w) P σ))), some (.int cs), some (.int (x + (nI 1))), none]) (st' := []) (I' := I) (J' := J) (G' := va_up G 30 f) rfl ?_
          exact ih (s + 1) _ _ _ (by omega) (addN hx rfl) (by rw [cntB_f (by unfold oq; rw [(encO_s (by omega) (fun r hr => (tak_lt hr).1) (by omega)).mp (hx.symm.trans h54)]; simp)]; exact hcs) (fun j hj => by rw [cntB_f (by unfold oq; rw [(encO_s (by omega) (fun r hr => (tak_lt hr).1) (by omega)).mp (hx.symm.trans h54)]; simp)]; exact hf j hj)
        · refine aw_run oX0_reckonOdds sxOk 2 (pc' := 60) (L' := [some (.ref 7), some (.int (nI σ)), some (.int (nI w)), some (.int (nI k)), some (.int (G 12 w)), some (.int (encO (tak (G 24) (G 16) (G 13 w) P σ))), some (.int cs), some (.int x), none]) (st' := [.int (G 12 w), .ref 7]) (I' := I) (J' := J) (G' := va_up G 30 f) rfl ?_
          refine aw_eqS (st := [.int (nI τ), .ref 7]) (by rw [show G 12 w = nI τ from hτ]) ?_
          refine aw_cVP (st := []) 7 [.int (nI τ)] oX0_addToWays k0_86 rfl rfl rfl rfl rfl rfl rfl rfl (oX0_reckonOdds.dec rfl) (c_addToWays (v := itW τ (cntB (oq σ (tak (G 24) (G 16) (G 13 w) P σ)) s)) (by omega) hf) (fun r60 I60 J60 G60 hq60 => ?_)
          obtain ⟨hr, hI, hJ, f2, hG, hf2⟩ := hq60
          obtain rfl := hr.symm; obtain rfl := hI.symm; obtain rfl := hJ.symm; obtain rfl := hG.symm
          refine aw_eqG (G' := va_up G 30 f2) (bx_uu _ _ _ _) ?_
          refine aw_eqS (st := []) rfl ?_
          refine aw_run oX0_reckonOdds sxOk 6 (pc' := 29) (L' := [some (.ref 7), some (.int (nI σ)), some (.int (nI w)), some (.int (nI k)), some (.int (G 12 w)), some (.int (encO (tak (G 24) (G 16) (G 13 w) P σ))), some (.int (cs * (nI 10))), some (.int (x + (nI 1))), none]) (st' := []) (I' := I) (J' := J) (G' := va_up G 30 f2) rfl ?_
          have hqt : oq σ (tak (G 24) (G 16) (G 13 w) P σ) s = true := by
            unfold oq
            rw [bitN_n0 h47, Bool.true_and, decide_eq_true_eq]
            exact fun e => h54 (hx.trans ((encO_s (by omega) (fun r hr => (tak_lt hr).1) (by omega)).mpr e))
          exact ih (s + 1) _ _ _ (by omega) (addN hx rfl) (by rw [cntB_t hqt, Nat.pow_succ]; exact mulN hcs rfl) (by rw [cntB_t hqt]; exact hf2)
  refine aw_run oX0_reckonOdds sxOk 4 (pc' := 8) (L' := [some (.ref 7), some (.int (nI σ)), some (.int (nI w)), some (.int (nI k)), none, none, none, none, none]) (st' := [.int (nI w), .ref 12]) (I' := I) (J' := J) (G' := G) rfl ?_
  refine aw_iaN w sxOk rfl rfl (by omega) (oX0_reckonOdds.dec rfl) ?_
  refine aw_run oX0_reckonOdds sxOk 4 (pc' := 14) (L' := [some (.ref 7), some (.int (nI σ)), some (.int (nI w)), some (.int (nI k)), some (.int (G 12 w)), none, none, none, none]) (st' := [.int (nI w), .int (nI σ), .ref 7]) (I' := I) (J' := J) (G' := G) rfl ?_
  refine aw_cV (st := []) 7 [.int (nI σ), .int (nI w)] oX0_takenOf k0_58 rfl rfl rfl rfl rfl rfl rfl rfl (oX0_reckonOdds.dec rfl) (c_takenOf hP (by omega) (by omega) (by omega) hsil) ?_
  refine aw_eqS (st := [.int (encO (tak (G 24) (G 16) (G 13 w) P σ))]) rfl ?_
  refine aw_run oX0_reckonOdds sxOk 4 (pc' := 23) (L' := [some (.ref 7), some (.int (nI σ)), some (.int (nI w)), some (.int (nI k)), some (.int (G 12 w)), some (.int (encO (tak (G 24) (G 16) (G 13 w) P σ))), some (.int (nI 1)), none, none]) (st' := [.ref 7]) (I' := I) (J' := J) (G' := G) rfl ?_
  refine aw_cVP (st := []) 7 [] oX0_beginWays k0_83 rfl rfl rfl rfl rfl rfl rfl rfl (oX0_reckonOdds.dec rfl) c_beginWays (fun r23 I23 J23 G23 hq23 => ?_)
  obtain ⟨hr, hI, hJ, f0, hG, hf0⟩ := hq23
  obtain rfl := hr.symm; obtain rfl := hI.symm; obtain rfl := hJ.symm; obtain rfl := hG.symm
  refine aw_eqS (st := []) rfl ?_
  refine aw_run oX0_reckonOdds sxOk 2 (pc' := 29) (L' := [some (.ref 7), some (.int (nI σ)), some (.int (nI w)), some (.int (nI k)), some (.int (G 12 w)), some (.int (encO (tak (G 24) (G 16) (G 13 w) P σ))), some (.int (nI 1)), some (.int (nI 0)), none]) (st' := []) (I' := I) (J' := J) (G' := va_up G 30 f0) rfl ?_
  exact loop P 0 _ _ _ (by omega) rfl rfl hf0
end
section
def remP (f p : Nat → Int32) (K : Nat) : Nat → Int32 := if K = 10 then va_cpy f (va_cpy p p 18 0 162) 0 162 18 else va_cpy f p 0 (K * 18) 18
def remK (K : Nat) : Nat := if K = 10 then 10 else K + 1
theorem remK_le {K : Nat} (h : K ≤ 10) : remK K ≤ 10 := by unfold remK; split <;> omega
def begR (l h : Nat → Int32) (P : Nat) (j : Nat) : Int32 := if 8 ≤ j ∧ j < 8 + P then l (j - 8) else if 13 ≤ j ∧ j < 13 + P then h (j - 13) else nI 0
/-- the draw -/
def dN (z s t : Nat) : Nat := (7919 * z + 6151 * s + 12289 * t + 1) * (7919 * z + 6151 * s + 12289 * t + 1) % 65521 / 8 % 10
theorem dq_eq (z s t : Nat) (hz : z < 2 ^ 31) (hs : s < 2 ^ 31) (ht : t < 2 ^ 31) : (((7919 : Int64) * (nI z).toInt64) + ((6151 : Int64) * (nI s).toInt64)) + ((12289 : Int64) * (nI t).toInt64) + Int64.ofNat 1 = lN (7919 * z + 6151 * s + 12289 * t + 1) := by
  rw [nI_l hz, nI_l hs, nI_l ht]
  show lN 7919 * lN z + lN 6151 * lN s + lN 12289 * lN t + lN 1 = _
  rw [lN_mul, lN_mul, lN_mul, lN_add, lN_add, lN_add]
theorem dq_lt {z s t : Nat} (hz : z ≤ 9999) (hs : s < 5) (ht : t ≤ 12) : (7919 * z + 6151 * s + 12289 * t + 1) * (7919 * z + 6151 * s + 12289 * t + 1) < 2 ^ 62 := by
  have h : 7919 * z + 6151 * s + 12289 * t + 1 ≤ 80000000 := by omega
  have h2 := Nat.mul_le_mul h h
  have h3 : (80000000 : Nat) * 80000000 < 2 ^ 62 := by decide
  omega
/-- one ship sails -/
def sail1 (f : Nat → Int32) (shr sto : Int32) (tk : Bool) (d s : Nat) : Nat → Int32 := if tk = true then upd f (3 + s) (nI 2) else if nI d < sto then upd f (3 + s) (nI 3) else upd (upd (upd f (3 + s) (nI 1)) 1 (upd f (3 + s) (nI 1) 1 + sil (upd f (3 + s) (nI 1)) s)) 2 (upd (upd f (3 + s) (nI 1)) 1 (upd f (3 + s) (nI 1) 1 + sil (upd f (3 + s) (nI 1)) s) 2 + shr * upd (upd f (3 + s) (nI 1)) 1 (upd f (3 + s) (nI 1) 1 + sil (upd f (3 + s) (nI 1)) s) (8 + s) / nI 10)
def home1 (sto : Int32) (tk : Bool) (d : Nat) : Bool := !tk && !decide (nI d < sto)
theorem begR_l {l h : Nat → Int32} {P j : Nat} (h1 : 8 ≤ j) (h2 : j < 8 + P) : begR l h P j = l (j - 8) := if_pos ⟨h1, h2⟩
theorem begR_h {l h : Nat → Int32} {P j : Nat} (h0 : P ≤ 5) (h1 : 13 ≤ j) (h2 : j < 13 + P) : begR l h P j = h (j - 13) := by
  unfold begR
  rw [if_neg (show ¬ (8 ≤ j ∧ j < 8 + P) by omega), if_pos ⟨h1, h2⟩]
theorem begR_0 {l h : Nat → Int32} {P j : Nat} (h1 : ¬ (8 ≤ j ∧ j < 8 + P)) (h2 : ¬ (13 ≤ j ∧ j < 13 + P)) : begR l h P j = nI 0 := by
  unfold begR
  rw [if_neg h1, if_neg h2]
theorem begR_s {l h f : Nat → Int32} {s j : Nat} (hs : s < 5) (hf : f j = begR l h s j) : upd (upd (upd f (3 + s) (nI 0)) (8 + s) (l s)) (13 + s) (h s) j = begR l h (s + 1) j := by
  by_cases e1 : j = 13 + s
  · rw [begR_h (by omega) (by omega) (by omega), e1, pk_us, show 13 + s - 13 = s by omega]
  · rw [pk_un e1]
    by_cases e2 : j = 8 + s
    · rw [begR_l (by omega) (by omega), e2, pk_us, show 8 + s - 8 = s by omega]
    · rw [pk_un e2]
      by_cases e3 : j = 3 + s
      · rw [begR_0 (by omega) (by omega), e3, pk_us]
      · rw [pk_un e3, hf]
        by_cases q1 : 8 ≤ j ∧ j < 8 + s
        · rw [begR_l q1.1 q1.2, begR_l (by omega) (by omega)]
        · by_cases q2 : 13 ≤ j ∧ j < 13 + s
          · rw [begR_h (by omega) q2.1 q2.2, begR_h (by omega) (by omega) (by omega)]
          · rw [begR_0 q1 q2, begR_0 (by omega) (by omega)]
theorem notIn_gt {w : Int32} {n : Nat} (h : notIn w (n + 1)) (hn : n + 1 < 2 ^ 31) (h0 : ¬ w < 0) : nI n < w := by
  have h1 := notIn_ge h hn h0
  obtain ⟨j, hj, rfl⟩ := nI_of h0
  have h2 := (nI_leI hn hj).mp h1
  exact (nI_ltI (by omega) hj).mpr (by omega)
/-- all below n -/
def allB (q : Nat → Bool) : Nat → Bool
  | 0 => true
  | n + 1 => allB q n && q n
theorem allB_iff {q : Nat → Bool} {n : Nat} : allB q n = true ↔ ∀ j, j < n → q j = true := by
  induction n with
  | zero => exact ⟨fun _ j h => absurd h (by omega), fun _ => rfl⟩
  | succ n ih =>
    unfold allB
    rw [Bool.and_eq_true, ih]
    refine ⟨fun h j hj => ?_, fun h => ⟨fun j hj => h j (by omega), h n (by omega)⟩⟩
    rcases Nat.lt_or_ge j n with h1 | h1
    · exact h.1 j h1
    · rw [show j = n by omega]; exact h.2
/-- who may sail: bits, in port, ready -/
def sq (f rdy : Nat → Int32) (σ t s : Nat) : Bool := !σ.testBit s || (decide (f (3 + s) = nI 0) && decide (rdy s ≤ nI t))
theorem draw_x (z s t : Nat) (hz : z ≤ 9999) (hs : s < 5) (ht : t ≤ 12) (q : Int64) (hq : q = lN (7919 * z + 6151 * s + 12289 * t + 1)) :
    ((q * q - q * q / 65521 * 65521) / 8 - (q * q - q * q / 65521 * 65521) / 8 / 10 * 10).toInt32 = nI (dN z s t) := by
  have hl := dq_lt hz hs ht
  subst hq
  rw [lN_mul, show (65521 : Int64) = lN 65521 from rfl, show (8 : Int64) = lN 8 from rfl, show (10 : Int64) = lN 10 from rfl]
  rw [pk_lRem (by omega) (by decide) (by decide), pk_lDiv (by omega) (by decide) (by decide), pk_lRem (by omega) (by decide) (by decide), lN_i]
  rfl
theorem allB_s {q : Nat → Bool} {n : Nat} (h : ∀ j, j < n → q j = true) (h1 : q n = true) : ∀ j, j < n + 1 → q j = true := fun j hj => by
  rcases Nat.lt_or_ge j n with h2 | h2
  · exact h j h2
  · rw [show j = n by omega]; exact h1
theorem allB_no {q : Nat → Bool} {n j : Nat} (hj : j < n) (h : q j = false) : allB q n = false := by
  cases ha : allB q n with
  | false => rfl
  | true => rw [allB_iff.mp ha j hj] at h; cases h
theorem up2_uu {α : Type} (f : Nat → Nat → α) (a b : Nat) (v w : α) : up2 (up2 f a b v) a b w = up2 f a b w := by
  funext x y
  simp only [up2]
  by_cases h1 : x = a
  · by_cases h2 : y = b
    · simp [h1, h2]
    · simp [h1, h2]
  · simp [h1]
theorem aw_eqJ {S : SH} {M : MI} {pc : Nat} {L : LV} {st : List Value} {I : II} {J J' : JJ} {G : II} {P : PP} (h : J = J') (k : AW S M pc L st I J' G P) : AW S M pc L st I J G P := h ▸ k
theorem notIn_tab {x : Int32} {n : Nat} (h : notIn x (n + 1)) (hn : n + 1 < 2 ^ 31) : x.toInt < 0 ∨ (n : Int) < x.toInt := by
  by_cases h0 : x < 0
  · exact Or.inl (Int32.lt_iff_toInt_lt.mp h0)
  · obtain ⟨j, hj, rfl⟩ := nI_of h0
    rw [nI_toInt hj]
    refine Or.inr ?_
    rcases Nat.lt_or_ge j (n + 1) with h1 | h1
    · exact absurd rfl (h j h1)
    · omega
theorem aw_0eqB {S : SH} {M : MI} {pc : Nat} {L : LV} {st : List Value} {I : II} {J : JJ} {G : II} {P : PP} {b : Bool} {off : Int} {tgt : Nat} (hd : decode (miB M) pc = .ok (.ifCond .eq off, 3)) (ht : (pc : Int) + off = (tgt : Int)) (kt : b = false → AW S M tgt L st I J G P) (kf : b = true → AW S M (pc + 3) L st I J G P) : AW S M pc L (.int (b1 b) :: st) I J G P := by
  cases b with
  | true => exact aw_if_eq hd ht (fun h => absurd h (by decide)) (fun _ => kf rfl)
  | false => exact aw_if_eq hd ht (fun _ => kt rfl) (fun h => absurd rfl h)
theorem aw_0neB {S : SH} {M : MI} {pc : Nat} {L : LV} {st : List Value} {I : II} {J : JJ} {G : II} {P : PP} {b : Bool} {off : Int} {tgt : Nat} (hd : decode (miB M) pc = .ok (.ifCond .ne off, 3)) (ht : (pc : Int) + off = (tgt : Int)) (kt : b = true → AW S M tgt L st I J G P) (kf : b = false → AW S M (pc + 3) L st I J G P) : AW S M pc L (.int (b1 b) :: st) I J G P := by
  cases b with
  | true => exact aw_if_ne hd ht (fun _ => kt rfl) (fun h => absurd h (by decide))
  | false => exact aw_if_ne hd ht (fun h => absurd rfl h) (fun _ => kf rfl)
def sailR (f : Nat → Int32) (shr sto : Int32) (σ : Nat) (tk : Option Nat) (z t : Nat) : Nat → Nat → Int32
  | 0 => f
  | n + 1 => if σ.testBit n = true then sail1 (sailR f shr sto σ tk z t n) shr sto (decide (tk = some n)) (dN z n t) n else sailR f shr sto σ tk z t n
def hq (sto : Int32) (σ : Nat) (tk : Option Nat) (z t n : Nat) : Bool := σ.testBit n && home1 sto (decide (tk = some n)) (dN z n t)
theorem sail1_0 {f : Nat → Int32} {shr sto : Int32} {tk : Bool} {d s : Nat} : sail1 f shr sto tk d s 0 = f 0 := by
  unfold sail1
  split
  · exact pk_un (by omega)
  · split
    · exact pk_un (by omega)
    · rw [pk_un (by omega), pk_un (by omega), pk_un (by omega)]
def andA (q : Nat → Bool) (a0 : Nat) : Nat → Nat
  | 0 => a0
  | n + 1 => if q n = true then andA q a0 n &&& n else andA q a0 n
def orS (q : Nat → Bool) : Nat → Nat
  | 0 => 0
  | n + 1 => if q n = true then orS q n ||| n else orS q n
theorem andA_t {q : Nat → Bool} {a0 n : Nat} (h : q n = true) : andA q a0 (n + 1) = andA q a0 n &&& n := if_pos h
theorem andA_f {q : Nat → Bool} {a0 n : Nat} (h : ¬ q n = true) : andA q a0 (n + 1) = andA q a0 n := if_neg h
theorem orS_t {q : Nat → Bool} {n : Nat} (h : q n = true) : orS q (n + 1) = orS q n ||| n := if_pos h
theorem orS_f {q : Nat → Bool} {n : Nat} (h : ¬ q n = true) : orS q (n + 1) = orS q n := if_neg h
theorem cntB_add (q : Nat → Bool) (n : Nat) : cntB q (n + 1) = cntB q n + (q n).toNat := by
  show cntB q n + _ = _
  cases q n <;> rfl
theorem nb_add (a : Nat) (b : Bool) : nI a + b1 b = nI (a + b.toNat) := by rw [b1_nat, nI_add]
theorem upG_24 (G : II) (R : Nat → Int32) (_ : Nat) : va_up (va_up G 25 R) 24 (G 24) = va_up G 25 R := by
  funext q
  unfold va_up
  by_cases h : q = 24
  · subst h; simp
  · simp [h]
theorem notIn_self {s n : Nat} (h : n ≤ s) (hs : s < 2 ^ 31) : notIn (nI s) n := fun j hj e => by
  have := (nI_eq hs (by omega)).mp e
  omega
theorem sailR_t {f : Nat → Int32} {shr sto : Int32} {σ : Nat} {tk : Option Nat} {z t n : Nat} (h : σ.testBit n = true) : sailR f shr sto σ tk z t (n + 1) = sail1 (sailR f shr sto σ tk z t n) shr sto (decide (tk = some n)) (dN z n t) n := if_pos h
theorem sailR_f {f : Nat → Int32} {shr sto : Int32} {σ : Nat} {tk : Option Nat} {z t n : Nat} (h : σ.testBit n = false) : sailR f shr sto σ tk z t (n + 1) = sailR f shr sto σ tk z t n := if_neg (by rw [h]; decide)
end
section
set_option maxRecDepth 20000 in
theorem c_remember {I : II} {J : JJ} {G : II} {K : Nat} (hK : I 4 2 = nI K) (hK10 : K ≤ 10) : AMet SX mX2_remember [.ref 4] I J G (PE none (up2 I 4 2 (nI (remK K))) J (va_up G 25 (remP (G 24) (G 25) K))) := by
  refine amet_en oX2_remember rfl rfl (L := [some (.ref 4)]) rfl ?_
  by_cases h10 : K = 10
  · refine aw_run oX2_remember sxOk 3 (pc' := 6) (L' := [some (.ref 4)]) (st' := [.int (nI 10), .int (I 4 2)]) (I' := I) (J' := J) (G' := G) rfl ?_
    refine aw_ltN hK rfl (by omega) (by omega) (oX2_remember.dec rfl) (tgt := 32) rfl (fun h6 => absurd h6 (by omega)) (fun h6 => ?_)
    refine aw_run oX2_remember sxOk 7 (pc' := 23) (L' := [some (.ref 4)]) (st' := [.int (nI 162), .int (nI 0), .ref 25, .int (nI 18), .ref 25]) (I' := I) (J' := J) (G' := G) rfl ?_
    refine aw_copy (k0 := 25) (k1 := 25) (sp := nI 18) (dp := nI 0) (n := nI 162) n2_37 (by decide) rfl rfl (by decide) (by decide) (by decide) (by decide) (by decide) (Nat.le_of_ble_eq_true rfl) (oX2_remember.dec rfl) ?_
    refine aw_eqG (G' := va_up G 25 (va_cpy (G 25) (G 25) (nI 18).toNatClampNeg (nI 0).toNatClampNeg (nI 162).toNatClampNeg)) (rfl) ?_
    refine aw_eqG (G' := va_up G 25 (va_cpy (G 25) (G 25) 18 0 162)) (rfl) ?_
    refine aw_run oX2_remember sxOk 13 (pc' := 50) (L' := [some (.ref 4)]) (st' := [.int (nI 18), .int ((nI 9) * (nI 18)), .ref 25, .int (nI 0), .ref 24]) (I' := up2 I 4 2 (nI 9)) (J' := J) (G' := va_up G 25 (va_cpy (G 25) (G 25) 18 0 162)) rfl ?_
    refine aw_copy (k0 := 24) (k1 := 25) (sp := nI 0) (dp := (nI 9) * (nI 18)) (n := nI 18) n2_37 (by decide) rfl rfl (by decide) (by decide) (by decide) (by decide) (by decide) (Nat.le_of_ble_eq_true rfl) (oX2_remember.dec rfl) ?_
    refine aw_eqG (G' := va_up G 25 (va_cpy (G 24) (va_cpy (G 25) (G 25) 18 0 162) (nI 0).toNatClampNeg ((nI 9) * (nI 18)).toNatClampNeg (nI 18).toNatClampNeg)) (bx_uu _ _ _ _) ?_
    refine aw_eqG (G' := va_up G 25 (va_cpy (G 24) (va_cpy (G 25) (G 25) 18 0 162) 0 (9 * 18) 18)) (by rw [show ((nI 9) * (nI 18)).toNatClampNeg = 9 * 18 from clN (mulN rfl rfl) (by omega)]; try rfl) ?_
    refine aw_run oX2_remember sxOk 6 (pc' := 63) (L' := [some (.ref 4)]) (st' := []) (I' := up2 (up2 I 4 2 (nI 9)) 4 2 ((nI 9) + (nI 1))) (J' := J) (G' := va_up G 25 (va_cpy (G 24) (va_cpy (G 25) (G 25) 18 0 162) 0 (9 * 18) 18)) rfl ?_
    refine aw_eqI (I' := up2 I 4 2 ((nI 9) + (nI 1))) (by funext q z; simp only [up2]; repeat' split; all_goals first | rfl | (exfalso; omega) | simp_all) ?_
    exact aw_vret rfl (oX2_remember.dec rfl) (⟨rfl, by rw [show remK K = 10 from if_pos h10]; rfl, rfl, by rw [show remP (G 24) (G 25) K = _ from if_pos h10]⟩)
  · refine aw_run oX2_remember sxOk 3 (pc' := 6) (L' := [some (.ref 4)]) (st' := [.int (nI 10), .int (I 4 2)]) (I' := I) (J' := J) (G' := G) rfl ?_
    refine aw_ltN hK rfl (by omega) (by omega) (oX2_remember.dec rfl) (tgt := 32) rfl (fun h6 => ?_) (fun h6 => absurd h6 (by omega))
    refine aw_run oX2_remember sxOk 10 (pc' := 50) (L' := [some (.ref 4)]) (st' := [.int (nI 18), .int ((I 4 2) * (nI 18)), .ref 25, .int (nI 0), .ref 24]) (I' := I) (J' := J) (G' := G) rfl ?_
    refine aw_copy (k0 := 24) (k1 := 25) (sp := nI 0) (dp := (I 4 2) * (nI 18)) (n := nI 18) n2_37 (by decide) rfl rfl (by decide) (by rw [mulN hK rfl]; exact nI_pos (by omega)) (by decide) (by decide) (by rw [clN (mulN hK rfl) (by omega)]; show K * 18 + 18 ≤ 180; omega) (Nat.le_of_ble_eq_true rfl) (oX2_remember.dec rfl) ?_
    refine aw_eqG (G' := va_up G 25 (va_cpy (G 24) (G 25) (nI 0).toNatClampNeg ((I 4 2) * (nI 18)).toNatClampNeg (nI 18).toNatClampNeg)) (rfl) ?_
    refine aw_eqG (G' := va_up G 25 (va_cpy (G 24) (G 25) 0 (K * 18) 18)) (by rw [show ((I 4 2) * (nI 18)).toNatClampNeg = K * 18 from clN (mulN hK rfl) (by omega)]; try rfl) ?_
    refine aw_run oX2_remember sxOk 6 (pc' := 63) (L' := [some (.ref 4)]) (st' := []) (I' := up2 I 4 2 ((I 4 2) + (nI 1))) (J' := J) (G' := va_up G 25 (va_cpy (G 24) (G 25) 0 (K * 18) 18)) rfl ?_
    exact aw_vret rfl (oX2_remember.dec rfl) (⟨rfl, by rw [show remK K = K + 1 from if_neg h10, show I 4 2 + nI 1 = nI (K + 1) from addN hK rfl], rfl, by rw [show remP (G 24) (G 25) K = _ from if_neg h10]⟩)
set_option maxRecDepth 20000 in
theorem c_goBack {I : II} {J : JJ} {G : II} {K : Nat} (hK : I 4 2 = nI K) (hK10 : K ≤ 10) (h1 : 1 ≤ K) : AMet SX mX2_goBack [.ref 4] I J G (PE none (up2 I 4 2 (nI (K - 1))) J (va_up G 24 (va_cpy (G 25) (G 24) ((K - 1) * 18) 0 18))) := by
  refine amet_en oX2_goBack rfl rfl (L := [some (.ref 4)]) rfl ?_
  refine aw_run oX2_goBack sxOk 2 (pc' := 4) (L' := [some (.ref 4)]) (st' := [.int (I 4 2)]) (I' := I) (J' := J) (G' := G) rfl ?_
  refine aw_0leN hK (by omega) (oX2_goBack.dec rfl) (tgt := 38) rfl (fun h4 => absurd h4 (by omega)) (fun h4 => ?_)
  refine aw_run oX2_goBack sxOk 16 (pc' := 35) (L' := [some (.ref 4)]) (st' := [.int (nI 18), .int (nI 0), .ref 24, .int (((I 4 2) - (nI 1)) * (nI 18)), .ref 25]) (I' := up2 I 4 2 ((I 4 2) - (nI 1))) (J' := J) (G' := G) rfl ?_
  refine aw_copy (k0 := 25) (k1 := 24) (sp := ((I 4 2) - (nI 1)) * (nI 18)) (dp := nI 0) (n := nI 18) n2_37 (by decide) rfl rfl (by rw [mulN (subN hK rfl (by omega)) rfl]; exact nI_pos (by omega)) (by decide) (by decide) (by rw [clN (mulN (subN hK rfl (by omega)) rfl) (by omega)]; show (K - 1) * 18 + 18 ≤ 180; omega) (by decide) (Nat.le_of_ble_eq_true rfl) (oX2_goBack.dec rfl) ?_
  refine aw_eqG (G' := va_up G 24 (va_cpy (G 25) (G 24) (((I 4 2) - (nI 1)) * (nI 18)).toNatClampNeg (nI 0).toNatClampNeg (nI 18).toNatClampNeg)) (rfl) ?_
  refine aw_eqG (G' := va_up G 24 (va_cpy (G 25) (G 24) ((K - 1) * 18) 0 18)) (by rw [show (((I 4 2) - (nI 1)) * (nI 18)).toNatClampNeg = (K - 1) * 18 from clN (mulN (subN hK rfl (by omega)) rfl) (by omega)]; try rfl) ?_
  exact aw_vret rfl (oX2_goBack.dec rfl) (⟨rfl, by rw [show I 4 2 - nI 1 = nI (K - 1) from subN hK rfl (by omega)], rfl, rfl⟩)
set_option maxRecDepth 20000 in
theorem c_copyLog_54 {I : II} {J : JJ} {G : II}  : AMet SX mX2_copyFrom [.ref 5, .ref 4] I J G (PE none (up2 I 5 2 (I 4 2)) J (va_up (va_up G 26 (va_cpy (G 24) (G 26) 0 0 18)) 27 (va_cpy (G 25) (G 27) 0 0 180))) := by
  refine amet_en oX2_copyFrom rfl rfl (L := [some (.ref 5), some (.ref 4)]) rfl ?_
  refine aw_run oX2_copyFrom sxOk 7 (pc' := 12) (L' := [some (.ref 5), some (.ref 4)]) (st' := [.int (nI 18), .int (nI 0), .ref 26, .int (nI 0), .ref 24]) (I' := I) (J' := J) (G' := G) rfl ?_
  refine aw_copy (k0 := 24) (k1 := 26) (sp := nI 0) (dp := nI 0) (n := nI 18) n2_37 (by decide) rfl rfl (by decide) (by decide) (by decide) (by decide) (by decide) (Nat.le_of_ble_eq_true rfl) (oX2_copyFrom.dec rfl) ?_
  refine aw_eqG (G' := va_up G 26 (va_cpy (G 24) (G 26) (nI 0).toNatClampNeg (nI 0).toNatClampNeg (nI 18).toNatClampNeg)) (rfl) ?_
  refine aw_eqG (G' := va_up G 26 (va_cpy (G 24) (G 26) 0 0 18)) (rfl) ?_
  refine aw_run oX2_copyFrom sxOk 7 (pc' := 28) (L' := [some (.ref 5), some (.ref 4)]) (st' := [.int (nI 180), .int (nI 0), .ref 27, .int (nI 0), .ref 25]) (I' := I) (J' := J) (G' := va_up G 26 (va_cpy (G 24) (G 26) 0 0 18)) rfl ?_
  refine aw_copy (k0 := 25) (k1 := 27) (sp := nI 0) (dp := nI 0) (n := nI 180) n2_37 (by decide) rfl rfl (by decide) (by decide) (by decide) (by decide) (by decide) (Nat.le_of_ble_eq_true rfl) (oX2_copyFrom.dec rfl) ?_
  refine aw_eqG (G' := va_up (va_up G 26 (va_cpy (G 24) (G 26) 0 0 18)) 27 (va_cpy (G 25) (G 27) (nI 0).toNatClampNeg (nI 0).toNatClampNeg (nI 180).toNatClampNeg)) (rfl) ?_
  refine aw_eqG (G' := va_up (va_up G 26 (va_cpy (G 24) (G 26) 0 0 18)) 27 (va_cpy (G 25) (G 27) 0 0 180)) (rfl) ?_
  refine aw_run oX2_copyFrom sxOk 4 (pc' := 39) (L' := [some (.ref 5), some (.ref 4)]) (st' := []) (I' := up2 I 5 2 (I 4 2)) (J' := J) (G' := va_up (va_up G 26 (va_cpy (G 24) (G 26) 0 0 18)) 27 (va_cpy (G 25) (G 27) 0 0 180)) rfl ?_
  exact aw_vret rfl (oX2_copyFrom.dec rfl) pe_rfl
set_option maxRecDepth 20000 in
theorem c_copyLog_64 {I : II} {J : JJ} {G : II}  : AMet SX mX2_copyFrom [.ref 6, .ref 4] I J G (PE none (up2 I 6 2 (I 4 2)) J (va_up (va_up G 28 (va_cpy (G 24) (G 28) 0 0 18)) 29 (va_cpy (G 25) (G 29) 0 0 180))) := by
  refine amet_en oX2_copyFrom rfl rfl (L := [some (.ref 6), some (.ref 4)]) rfl ?_
  refine aw_run oX2_copyFrom sxOk 7 (pc' := 12) (L' := [some (.ref 6), some (.ref 4)]) (st' := [.int (nI 18), .int (nI 0), .ref 28, .int (nI 0), .ref 24]) (I' := I) (J' := J) (G' := G) rfl ?_
  refine aw_copy (k0 := 24) (k1 := 28) (sp := nI 0) (dp := nI 0) (n := nI 18) n2_37 (by decide) rfl rfl (by decide) (by decide) (by decide) (by decide) (by decide) (Nat.le_of_ble_eq_true rfl) (oX2_copyFrom.dec rfl) ?_
  refine aw_eqG (G' := va_up G 28 (va_cpy (G 24) (G 28) (nI 0).toNatClampNeg (nI 0).toNatClampNeg (nI 18).toNatClampNeg)) (rfl) ?_
  refine aw_eqG (G' := va_up G 28 (va_cpy (G 24) (G 28) 0 0 18)) (rfl) ?_
  refine aw_run oX2_copyFrom sxOk 7 (pc' := 28) (L' := [some (.ref 6), some (.ref 4)]) (st' := [.int (nI 180), .int (nI 0), .ref 29, .int (nI 0), .ref 25]) (I' := I) (J' := J) (G' := va_up G 28 (va_cpy (G 24) (G 28) 0 0 18)) rfl ?_
  refine aw_copy (k0 := 25) (k1 := 29) (sp := nI 0) (dp := nI 0) (n := nI 180) n2_37 (by decide) rfl rfl (by decide) (by decide) (by decide) (by decide) (by decide) (Nat.le_of_ble_eq_true rfl) (oX2_copyFrom.dec rfl) ?_
  refine aw_eqG (G' := va_up (va_up G 28 (va_cpy (G 24) (G 28) 0 0 18)) 29 (va_cpy (G 25) (G 29) (nI 0).toNatClampNeg (nI 0).toNatClampNeg (nI 180).toNatClampNeg)) (rfl) ?_
  refine aw_eqG (G' := va_up (va_up G 28 (va_cpy (G 24) (G 28) 0 0 18)) 29 (va_cpy (G 25) (G 29) 0 0 180)) (rfl) ?_
  refine aw_run oX2_copyFrom sxOk 4 (pc' := 39) (L' := [some (.ref 6), some (.ref 4)]) (st' := []) (I' := up2 I 6 2 (I 4 2)) (J' := J) (G' := va_up (va_up G 28 (va_cpy (G 24) (G 28) 0 0 18)) 29 (va_cpy (G 25) (G 29) 0 0 180)) rfl ?_
  exact aw_vret rfl (oX2_copyFrom.dec rfl) pe_rfl
set_option maxRecDepth 20000 in
theorem c_copyLog_45 {I : II} {J : JJ} {G : II}  : AMet SX mX2_copyFrom [.ref 4, .ref 5] I J G (PE none (up2 I 4 2 (I 5 2)) J (va_up (va_up G 24 (va_cpy (G 26) (G 24) 0 0 18)) 25 (va_cpy (G 27) (G 25) 0 0 180))) := by
  refine amet_en oX2_copyFrom rfl rfl (L := [some (.ref 4), some (.ref 5)]) rfl ?_
  refine aw_run oX2_copyFrom sxOk 7 (pc' := 12) (L' := [some (.ref 4), some (.ref 5)]) (st' := [.int (nI 18), .int (nI 0), .ref 24, .int (nI 0), .ref 26]) (I' := I) (J' := J) (G' := G) rfl ?_
  refine aw_copy (k0 := 26) (k1 := 24) (sp := nI 0) (dp := nI 0) (n := nI 18) n2_37 (by decide) rfl rfl (by decide) (by decide) (by decide) (by decide) (by decide) (Nat.le_of_ble_eq_true rfl) (oX2_copyFrom.dec rfl) ?_
  refine aw_eqG (G' := va_up G 24 (va_cpy (G 26) (G 24) (nI 0).toNatClampNeg (nI 0).toNatClampNeg (nI 18).toNatClampNeg)) (rfl) ?_
  refine aw_eqG (G' := va_up G 24 (va_cpy (G 26) (G 24) 0 0 18)) (rfl) ?_
  refine aw_run oX2_copyFrom sxOk 7 (pc' := 28) (L' := [some (.ref 4), some (.ref 5)]) (st' := [.int (nI 180), .int (nI 0), .ref 25, .int (nI 0), .ref 27]) (I' := I) (J' := J) (G' := va_up G 24 (va_cpy (G 26) (G 24) 0 0 18)) rfl ?_
  refine aw_copy (k0 := 27) (k1 := 25) (sp := nI 0) (dp := nI 0) (n := nI 180) n2_37 (by decide) rfl rfl (by decide) (by decide) (by decide) (by decide) (by decide) (Nat.le_of_ble_eq_true rfl) (oX2_copyFrom.dec rfl) ?_
  refine aw_eqG (G' := va_up (va_up G 24 (va_cpy (G 26) (G 24) 0 0 18)) 25 (va_cpy (G 27) (G 25) (nI 0).toNatClampNeg (nI 0).toNatClampNeg (nI 180).toNatClampNeg)) (rfl) ?_
  refine aw_eqG (G' := va_up (va_up G 24 (va_cpy (G 26) (G 24) 0 0 18)) 25 (va_cpy (G 27) (G 25) 0 0 180)) (rfl) ?_
  refine aw_run oX2_copyFrom sxOk 4 (pc' := 39) (L' := [some (.ref 4), some (.ref 5)]) (st' := []) (I' := up2 I 4 2 (I 5 2)) (J' := J) (G' := va_up (va_up G 24 (va_cpy (G 26) (G 24) 0 0 18)) 25 (va_cpy (G 27) (G 25) 0 0 180)) rfl ?_
  exact aw_vret rfl (oX2_copyFrom.dec rfl) pe_rfl
set_option maxRecDepth 20000 in
theorem c_copyLog_46 {I : II} {J : JJ} {G : II}  : AMet SX mX2_copyFrom [.ref 4, .ref 6] I J G (PE none (up2 I 4 2 (I 6 2)) J (va_up (va_up G 24 (va_cpy (G 28) (G 24) 0 0 18)) 25 (va_cpy (G 29) (G 25) 0 0 180))) := by
  refine amet_en oX2_copyFrom rfl rfl (L := [some (.ref 4), some (.ref 6)]) rfl ?_
  refine aw_run oX2_copyFrom sxOk 7 (pc' := 12) (L' := [some (.ref 4), some (.ref 6)]) (st' := [.int (nI 18), .int (nI 0), .ref 24, .int (nI 0), .ref 28]) (I' := I) (J' := J) (G' := G) rfl ?_
  refine aw_copy (k0 := 28) (k1 := 24) (sp := nI 0) (dp := nI 0) (n := nI 18) n2_37 (by decide) rfl rfl (by decide) (by decide) (by decide) (by decide) (by decide) (Nat.le_of_ble_eq_true rfl) (oX2_copyFrom.dec rfl) ?_
  refine aw_eqG (G' := va_up G 24 (va_cpy (G 28) (G 24) (nI 0).toNatClampNeg (nI 0).toNatClampNeg (nI 18).toNatClampNeg)) (rfl) ?_
  refine aw_eqG (G' := va_up G 24 (va_cpy (G 28) (G 24) 0 0 18)) (rfl) ?_
  refine aw_run oX2_copyFrom sxOk 7 (pc' := 28) (L' := [some (.ref 4), some (.ref 6)]) (st' := [.int (nI 180), .int (nI 0), .ref 25, .int (nI 0), .ref 29]) (I' := I) (J' := J) (G' := va_up G 24 (va_cpy (G 28) (G 24) 0 0 18)) rfl ?_
  refine aw_copy (k0 := 29) (k1 := 25) (sp := nI 0) (dp := nI 0) (n := nI 180) n2_37 (by decide) rfl rfl (by decide) (by decide) (by decide) (by decide) (by decide) (Nat.le_of_ble_eq_true rfl) (oX2_copyFrom.dec rfl) ?_
  refine aw_eqG (G' := va_up (va_up G 24 (va_cpy (G 28) (G 24) 0 0 18)) 25 (va_cpy (G 29) (G 25) (nI 0).toNatClampNeg (nI 0).toNatClampNeg (nI 180).toNatClampNeg)) (rfl) ?_
  refine aw_eqG (G' := va_up (va_up G 24 (va_cpy (G 28) (G 24) 0 0 18)) 25 (va_cpy (G 29) (G 25) 0 0 180)) (rfl) ?_
  refine aw_run oX2_copyFrom sxOk 4 (pc' := 39) (L' := [some (.ref 4), some (.ref 6)]) (st' := []) (I' := up2 I 4 2 (I 6 2)) (J' := J) (G' := va_up (va_up G 24 (va_cpy (G 28) (G 24) 0 0 18)) 25 (va_cpy (G 29) (G 25) 0 0 180)) rfl ?_
  exact aw_vret rfl (oX2_copyFrom.dec rfl) pe_rfl
set_option maxRecDepth 20000 in
theorem c_beginWith {I : II} {J : JJ} {G : II} {P : Nat} (hP : I 2 7 = nI P) (hP5 : P ≤ 5) : AMet SX mX2_beginWith [.ref 4, .ref 2] I J G (fun r I' J' G' => r = none ∧ I' = up2 I 4 2 (nI 0) ∧ J' = J ∧ ∃ f, G' = va_up G 24 f ∧ ∀ j, j < 18 → f j = begR (G 14) (G 15) P j) := by
  refine amet_en oX2_beginWith rfl rfl (L := [some (.ref 4), some (.ref 2), none]) rfl ?_
  have loop2 : ∀ (n s : Nat) (x : Int32) (f : Nat → Int32), (s + n = P) → (x = nI s) → (∀ j, j < 18 → f j = begR (G 14) (G 15) s j) → AW SX mX2_beginWith 28 [some (.ref 4), some (.ref 2), some (.int x)] [] (up2 I 4 2 (nI 0)) J (va_up G 24 f) (fun r I' J' G' => r = none ∧ I' = up2 I 4 2 (nI 0) ∧ J' = J ∧ ∃ f, G' = va_up G 24 f ∧ ∀ j, j < 18 → f j = begR (G 14) (G 15) P j) := by
    intro n
    induction n with
    | zero =>
      intro s x f hsn hx hf
      refine aw_run oX2_beginWith sxOk 3 (pc' := 33) (L' := [some (.ref 4), some (.ref 2), some (.int x)]) (st' := [.int (I 2 7), .int x]) (I' := up2 I 4 2 (nI 0)) (J' := J) (G' := va_up G 24 f) rfl ?_
      refine aw_geN hx hP (by omega) (by omega) (oX2_beginWith.dec rfl) (tgt := 68) rfl (fun h33 => ?_) (fun h33 => absurd h33 (by omega))
      exact aw_vret rfl (oX2_beginWith.dec rfl) (⟨rfl, rfl, rfl, f, rfl, by rw [← show s = P by omega]; exact hf⟩)
    | succ n ih =>
      intro s x f hsn hx hf
      refine aw_run oX2_beginWith sxOk 3 (pc' := 33) (L' := [some (.ref 4), some (.ref 2), some (.int x)]) (st' := [.int (I 2 7), .int x]) (I' := up2 I 4 2 (nI 0)) (J' := J) (G' := va_up G 24 f) rfl ?_
      refine aw_geN hx hP (by omega) (by omega) (oX2_beginWith.dec rfl) (tgt := 68) rfl (fun h33 => absurd h33 (by omega)) (fun h33 => ?_)
      refine aw_run oX2_beginWith sxOk 6 (pc' := 44) (L' := [some (.ref 4), some (.ref 2), some (.int x)]) (st' := [.int (nI 0), .int ((nI 3) + x), .ref 24]) (I' := up2 I 4 2 (nI 0)) (J' := J) (G' := va_up G 24 f) rfl ?_
      refine aw_isN (3 + s) sxOk rfl (addN rfl hx) (by omega) (oX2_beginWith.dec rfl) ?_
      refine aw_eqG (G' := va_up G 24 (upd f (3 + s) (nI 0))) (bx_uu _ _ _ _) ?_
      refine aw_run oX2_beginWith sxOk 5 (pc' := 52) (L' := [some (.ref 4), some (.ref 2), some (.int x)]) (st' := [.int x, .ref 14, .int x, .ref 4]) (I' := up2 I 4 2 (nI 0)) (J' := J) (G' := va_up G 24 (upd f (3 + s) (nI 0))) rfl ?_
      refine aw_iaN s sxOk rfl hx (by omega) (oX2_beginWith.dec rfl) ?_
      refine aw_eqS (st := [.int (G 14 s), .int x, .ref 4]) rfl ?_
      refine aw_run oX2_beginWith sxOk 3 (pc' := 58) (L' := [some (.ref 4), some (.ref 2), some (.int x)]) (st' := [.int x, .ref 15, .int (G 14 s), .int x, .ref 4]) (I' := up2 I 4 2 (nI 0)) (J' := J) (G' := va_up G 24 (upd f (3 + s) (nI 0))) rfl ?_
      refine aw_iaN s sxOk rfl hx (by omega) (oX2_beginWith.dec rfl) ?_
      refine aw_eqS (st := [.int (G 15 s), .int (G 14 s), .int x, .ref 4]) rfl ?_
      refine aw_eqS (st := [.int (G 15 s), .int (G 14 s), .int (nI s), .ref 4]) (by rw [show x = nI s from hx]) ?_
      refine aw_cV (st := []) 4 [.int (nI s), .int (G 14 s), .int (G 15 s)] oX2_setBars k2_33 rfl rfl rfl rfl rfl rfl rfl rfl (oX2_beginWith.dec rfl) (c_setBars (by omega)) ?_
      refine aw_eqG (G' := va_up G 24 (upd (upd (upd f (3 + s) (nI 0)) (8 + s) (G 14 s)) (13 + s) (G 15 s))) (bx_uu _ _ _ _) ?_
      refine aw_eqS (st := []) rfl ?_
      refine aw_run oX2_beginWith sxOk 2 (pc' := 28) (L' := [some (.ref 4), some (.ref 2), some (.int (x + (nI 1)))]) (st' := []) (I' := up2 I 4 2 (nI 0)) (J' := J) (G' := va_up G 24 (upd (upd (upd f (3 + s) (nI 0)) (8 + s) (G 14 s)) (13 + s) (G 15 s))) rfl ?_
      exact ih (s + 1) _ _ (by omega) (addN hx rfl) (fun j hj => begR_s (by omega) (hf j hj))
  have loop1 : ∀ (n s : Nat) (x : Int32) (f : Nat → Int32), (s + n = 18) → (x = nI s) → (∀ j, j < s → f j = nI 0) → AW SX mX2_beginWith 7 [some (.ref 4), some (.ref 2), some (.int x)] [] (up2 I 4 2 (nI 0)) J (va_up G 24 f) (fun r I' J' G' => r = none ∧ I' = up2 I 4 2 (nI 0) ∧ J' = J ∧ ∃ f, G' = va_up G 24 f ∧ ∀ j, j < 18 → f j = begR (G 14) (G 15) P j) := by
    intro n
    induction n with
    | zero =>
      intro s x f hsn hx hf
      refine aw_run oX2_beginWith sxOk 2 (pc' := 10) (L' := [some (.ref 4), some (.ref 2), some (.int x)]) (st' := [.int (nI 18), .int x]) (I' := up2 I 4 2 (nI 0)) (J' := J) (G' := va_up G 24 f) rfl ?_
      refine aw_geN hx rfl (by omega) (by omega) (oX2_beginWith.dec rfl) (tgt := 26) rfl (fun h10 => ?_) (fun h10 => absurd h10 (by omega))
      refine aw_run oX2_beginWith sxOk 2 (pc' := 28) (L' := [some (.ref 4), some (.ref 2), some (.int (nI 0))]) (st' := []) (I' := up2 I 4 2 (nI 0)) (J' := J) (G' := va_up G 24 f) rfl ?_
      exact loop2 P 0 _ _ (by omega) rfl (fun j hj => by unfold begR; rw [if_neg (by omega), if_neg (by omega)]; exact hf j (by omega))
    | succ n ih =>
      intro s x f hsn hx hf
      refine aw_run oX2_beginWith sxOk 2 (pc' := 10) (L' := [some (.ref 4), some (.ref 2), some (.int x)]) (st' := [.int (nI 18), .int x]) (I' := up2 I 4 2 (nI 0)) (J' := J) (G' := va_up G 24 f) rfl ?_
      refine aw_geN hx rfl (by omega) (by omega) (oX2_beginWith.dec rfl) (tgt := 26) rfl (fun h10 => absurd h10 (by omega)) (fun h10 => ?_)
      refine aw_run oX2_beginWith sxOk 4 (pc' := 19) (L' := [some (.ref 4), some (.ref 2), some (.int x)]) (st' := [.int (nI 0), .int x, .ref 24]) (I' := up2 I 4 2 (nI 0)) (J' := J) (G' := va_up G 24 f) rfl ?_
      refine aw_isN s sxOk rfl hx (by omega) (oX2_beginWith.dec rfl) ?_
      refine aw_eqG (G' := va_up G 24 (upd f s (nI 0))) (bx_uu _ _ _ _) ?_
      refine aw_run oX2_beginWith sxOk 2 (pc' := 7) (L' := [some (.ref 4), some (.ref 2), some (.int (x + (nI 1)))]) (st' := []) (I' := up2 I 4 2 (nI 0)) (J' := J) (G' := va_up G 24 (upd f s (nI 0))) rfl ?_
      exact ih (s + 1) _ _ (by omega) (addN hx rfl) (fun j hj => by simp only [upd]; split; rfl; exact hf j (by omega))
  refine aw_run oX2_beginWith sxOk 5 (pc' := 7) (L' := [some (.ref 4), some (.ref 2), some (.int (nI 0))]) (st' := []) (I' := up2 I 4 2 (nI 0)) (J' := J) (G' := G) rfl ?_
  refine aw_eqG (upG_id G 24).symm ?_
  exact loop1 18 0 _ _ (by omega) rfl (fun j hj => absurd hj (by omega))
set_option maxRecDepth 20000 in
theorem c_forgetAll {I : II} {J : JJ} {G : II}  : AMet SX mX4_forgetAll [.ref 3] I J G (PE none (up2 (up2 (up2 (up2 I 3 6 (nI 0)) 3 7 (nI 0)) 3 8 (nI 2)) 3 9 (nI 0)) J G) := by
  refine amet_en oX4_forgetAll rfl rfl (L := [some (.ref 3)]) rfl ?_
  refine aw_run oX4_forgetAll sxOk 12 (pc' := 20) (L' := [some (.ref 3)]) (st' := []) (I' := up2 (up2 (up2 (up2 I 3 6 (nI 0)) 3 7 (nI 0)) 3 8 (nI 2)) 3 9 (nI 0)) (J' := J) (G' := G) rfl ?_
  exact aw_vret rfl (oX4_forgetAll.dec rfl) pe_rfl
set_option maxRecDepth 20000 in
theorem c_addWeek {I : II} {J : JJ} {G : II} {Wd0 : Nat} {a b : Int32} (hW : I 3 6 = nI Wd0) (hW12 : Wd0 < 12) : AMet SX mX4_addWeek [.ref 3, .int a, .int b] I J G (PE none (up2 I 3 6 (nI (Wd0 + 1))) J (va_up (va_up G 18 (upd (G 18) Wd0 a)) 19 (upd (G 19) Wd0 b))) := by
  refine amet_en oX4_addWeek rfl rfl (L := [some (.ref 3), some (.int a), some (.int b)]) rfl ?_
  refine aw_run oX4_addWeek sxOk 3 (pc' := 6) (L' := [some (.ref 3), some (.int a), some (.int b)]) (st' := [.int (nI 12), .int (I 3 6)]) (I' := I) (J' := J) (G' := G) rfl ?_
  refine aw_ltN hW rfl (by omega) (by omega) (oX4_addWeek.dec rfl) (tgt := 10) rfl (fun h6 => ?_) (fun h6 => absurd h6 (by omega))
  refine aw_run oX4_addWeek sxOk 5 (pc' := 19) (L' := [some (.ref 3), some (.int a), some (.int b)]) (st' := [.int a, .int (I 3 6), .ref 18]) (I' := I) (J' := J) (G' := G) rfl ?_
  refine aw_isN Wd0 sxOk rfl hW (by omega) (oX4_addWeek.dec rfl) ?_
  refine aw_eqG (G' := va_up G 18 (upd (G 18) Wd0 a)) (rfl) ?_
  refine aw_run oX4_addWeek sxOk 5 (pc' := 29) (L' := [some (.ref 3), some (.int a), some (.int b)]) (st' := [.int b, .int (I 3 6), .ref 19]) (I' := I) (J' := J) (G' := va_up G 18 (upd (G 18) Wd0 a)) rfl ?_
  refine aw_isN Wd0 sxOk rfl hW (by omega) (oX4_addWeek.dec rfl) ?_
  refine aw_eqG (G' := va_up (va_up G 18 (upd (G 18) Wd0 a)) 19 (upd (G 19) Wd0 b)) (rfl) ?_
  refine aw_run oX4_addWeek sxOk 6 (pc' := 40) (L' := [some (.ref 3), some (.int a), some (.int b)]) (st' := []) (I' := up2 I 3 6 ((I 3 6) + (nI 1))) (J' := J) (G' := va_up (va_up G 18 (upd (G 18) Wd0 a)) 19 (upd (G 19) Wd0 b)) rfl ?_
  exact aw_vret rfl (oX4_addWeek.dec rfl) (⟨rfl, by rw [show I 3 6 + nI 1 = nI (Wd0 + 1) from addN hW rfl], rfl, rfl⟩)
set_option maxRecDepth 20000 in
theorem c_addShip {I : II} {J : JJ} {G : II} {Pd : Nat} {a b c d : Int32} (hPd : I 3 7 = nI Pd) (hP5 : Pd < 5) : AMet SX mX4_addShip [.ref 3, .int a, .int b, .int c, .int d] I J G (PE none (up2 I 3 7 (nI (Pd + 1))) J (va_up (va_up (va_up (va_up G 20 (upd (G 20) Pd a)) 21 (upd (G 21) Pd b)) 22 (upd (G 22) Pd c)) 23 (upd (G 23) Pd d))) := by
  refine amet_en oX4_addShip rfl rfl (L := [some (.ref 3), some (.int a), some (.int b), some (.int c), some (.int d)]) rfl ?_
  refine aw_run oX4_addShip sxOk 3 (pc' := 5) (L' := [some (.ref 3), some (.int a), some (.int b), some (.int c), some (.int d)]) (st' := [.int (nI 5), .int (I 3 7)]) (I' := I) (J' := J) (G' := G) rfl ?_
  refine aw_ltN hPd rfl (by omega) (by omega) (oX4_addShip.dec rfl) (tgt := 9) rfl (fun h5 => ?_) (fun h5 => absurd h5 (by omega))
  refine aw_run oX4_addShip sxOk 5 (pc' := 18) (L' := [some (.ref 3), some (.int a), some (.int b), some (.int c), some (.int d)]) (st' := [.int a, .int (I 3 7), .ref 20]) (I' := I) (J' := J) (G' := G) rfl ?_
  refine aw_isN Pd sxOk rfl hPd (by omega) (oX4_addShip.dec rfl) ?_
  refine aw_eqG (G' := va_up G 20 (upd (G 20) Pd a)) (rfl) ?_
  refine aw_run oX4_addShip sxOk 5 (pc' := 28) (L' := [some (.ref 3), some (.int a), some (.int b), some (.int c), some (.int d)]) (st' := [.int b, .int (I 3 7), .ref 21]) (I' := I) (J' := J) (G' := va_up G 20 (upd (G 20) Pd a)) rfl ?_
  refine aw_isN Pd sxOk rfl hPd (by omega) (oX4_addShip.dec rfl) ?_
  refine aw_eqG (G' := va_up (va_up G 20 (upd (G 20) Pd a)) 21 (upd (G 21) Pd b)) (rfl) ?_
  refine aw_run oX4_addShip sxOk 5 (pc' := 38) (L' := [some (.ref 3), some (.int a), some (.int b), some (.int c), some (.int d)]) (st' := [.int c, .int (I 3 7), .ref 22]) (I' := I) (J' := J) (G' := va_up (va_up G 20 (upd (G 20) Pd a)) 21 (upd (G 21) Pd b)) rfl ?_
  refine aw_isN Pd sxOk rfl hPd (by omega) (oX4_addShip.dec rfl) ?_
  refine aw_eqG (G' := va_up (va_up (va_up G 20 (upd (G 20) Pd a)) 21 (upd (G 21) Pd b)) 22 (upd (G 22) Pd c)) (rfl) ?_
  refine aw_run oX4_addShip sxOk 5 (pc' := 49) (L' := [some (.ref 3), some (.int a), some (.int b), some (.int c), some (.int d)]) (st' := [.int d, .int (I 3 7), .ref 23]) (I' := I) (J' := J) (G' := va_up (va_up (va_up G 20 (upd (G 20) Pd a)) 21 (upd (G 21) Pd b)) 22 (upd (G 22) Pd c)) rfl ?_
  refine aw_isN Pd sxOk rfl hPd (by omega) (oX4_addShip.dec rfl) ?_
  refine aw_eqG (G' := va_up (va_up (va_up (va_up G 20 (upd (G 20) Pd a)) 21 (upd (G 21) Pd b)) 22 (upd (G 22) Pd c)) 23 (upd (G 23) Pd d)) (rfl) ?_
  refine aw_run oX4_addShip sxOk 6 (pc' := 60) (L' := [some (.ref 3), some (.int a), some (.int b), some (.int c), some (.int d)]) (st' := []) (I' := up2 I 3 7 ((I 3 7) + (nI 1))) (J' := J) (G' := va_up (va_up (va_up (va_up G 20 (upd (G 20) Pd a)) 21 (upd (G 21) Pd b)) 22 (upd (G 22) Pd c)) 23 (upd (G 23) Pd d)) rfl ?_
  exact aw_vret rfl (oX4_addShip.dec rfl) (⟨rfl, by rw [show I 3 7 + nI 1 = nI (Pd + 1) from addN hPd rfl], rfl, rfl⟩)
set_option maxRecDepth 20000 in
theorem c_setShare {I : II} {J : JJ} {G : II} {a : Int32} : AMet SX mX4_setShare [.ref 3, .int a] I J G (PE none (up2 (up2 I 3 8 a) 3 9 (nI 1)) J G) := by
  refine amet_en oX4_setShare rfl rfl (L := [some (.ref 3), some (.int a)]) rfl ?_
  refine aw_run oX4_setShare sxOk 6 (pc' := 10) (L' := [some (.ref 3), some (.int a)]) (st' := []) (I' := up2 (up2 I 3 8 a) 3 9 (nI 1)) (J' := J) (G' := G) rfl ?_
  exact aw_vret rfl (oX4_setShare.dec rfl) pe_rfl
set_option maxRecDepth 20000 in
theorem c_copySeason {I : II} {J : JJ} {G : II} (hT : I 3 9 = nI 0 ∨ I 3 9 = nI 1) : AMet SX mX4_copyFrom [.ref 2, .ref 3] I J G (PE none (up2 (up2 (up2 (up2 I 2 6 (I 3 6)) 2 7 (I 3 7)) 2 8 (I 3 8)) 2 9 (I 3 9)) J (va_up (va_up (va_up (va_up (va_up (va_up G 12 (va_cpy (G 18) (G 12) 0 0 12)) 13 (va_cpy (G 19) (G 13) 0 0 12)) 14 (va_cpy (G 20) (G 14) 0 0 5)) 15 (va_cpy (G 21) (G 15) 0 0 5)) 16 (va_cpy (G 22) (G 16) 0 0 5)) 17 (va_cpy (G 23) (G 17) 0 0 5))) := by
  refine amet_en oX4_copyFrom rfl rfl (L := [some (.ref 2), some (.ref 3)]) rfl ?_
  rcases hT with hT | hT
  · refine aw_run oX4_copyFrom sxOk 7 (pc' := 12) (L' := [some (.ref 2), some (.ref 3)]) (st' := [.int (nI 12), .int (nI 0), .ref 12, .int (nI 0), .ref 18]) (I' := I) (J' := J) (G' := G) rfl ?_
    refine aw_copy (k0 := 18) (k1 := 12) (sp := nI 0) (dp := nI 0) (n := nI 12) n4_44 (by decide) rfl rfl (by decide) (by decide) (by decide) (by decide) (by decide) (Nat.le_of_ble_eq_true rfl) (oX4_copyFrom.dec rfl) ?_
    refine aw_eqG (G' := va_up G 12 (va_cpy (G 18) (G 12) (nI 0).toNatClampNeg (nI 0).toNatClampNeg (nI 12).toNatClampNeg)) (rfl) ?_
    refine aw_eqG (G' := va_up G 12 (va_cpy (G 18) (G 12) 0 0 12)) (rfl) ?_
    refine aw_run oX4_copyFrom sxOk 7 (pc' := 27) (L' := [some (.ref 2), some (.ref 3)]) (st' := [.int (nI 12), .int (nI 0), .ref 13, .int (nI 0), .ref 19]) (I' := I) (J' := J) (G' := va_up G 12 (va_cpy (G 18) (G 12) 0 0 12)) rfl ?_
    refine aw_copy (k0 := 19) (k1 := 13) (sp := nI 0) (dp := nI 0) (n := nI 12) n4_44 (by decide) rfl rfl (by decide) (by decide) (by decide) (by decide) (by decide) (Nat.le_of_ble_eq_true rfl) (oX4_copyFrom.dec rfl) ?_
    refine aw_eqG (G' := va_up (va_up G 12 (va_cpy (G 18) (G 12) 0 0 12)) 13 (va_cpy (G 19) (G 13) (nI 0).toNatClampNeg (nI 0).toNatClampNeg (nI 12).toNatClampNeg)) (rfl) ?_
    refine aw_eqG (G' := va_up (va_up G 12 (va_cpy (G 18) (G 12) 0 0 12)) 13 (va_cpy (G 19) (G 13) 0 0 12)) (rfl) ?_
    refine aw_run oX4_copyFrom sxOk 7 (pc' := 41) (L' := [some (.ref 2), some (.ref 3)]) (st' := [.int (nI 5), .int (nI 0), .ref 14, .int (nI 0), .ref 20]) (I' := I) (J' := J) (G' := va_up (va_up G 12 (va_cpy (G 18) (G 12) 0 0 12)) 13 (va_cpy (G 19) (G 13) 0 0 12)) rfl ?_
    refine aw_copy (k0 := 20) (k1 := 14) (sp := nI 0) (dp := nI 0) (n := nI 5) n4_44 (by decide) rfl rfl (by decide) (by decide) (by decide) (by decide) (by decide) (Nat.le_of_ble_eq_true rfl) (oX4_copyFrom.dec rfl) ?_
    refine aw_eqG (G' := va_up (va_up (va_up G 12 (va_cpy (G 18) (G 12) 0 0 12)) 13 (va_cpy (G 19) (G 13) 0 0 12)) 14 (va_cpy (G 20) (G 14) (nI 0).toNatClampNeg (nI 0).toNatClampNeg (nI 5).toNatClampNeg)) (rfl) ?_
    refine aw_eqG (G' := va_up (va_up (va_up G 12 (va_cpy (G 18) (G 12) 0 0 12)) 13 (va_cpy (G 19) (G 13) 0 0 12)) 14 (va_cpy (G 20) (G 14) 0 0 5)) (rfl) ?_
    refine aw_run oX4_copyFrom sxOk 7 (pc' := 55) (L' := [some (.ref 2), some (.ref 3)]) (st' := [.int (nI 5), .int (nI 0), .ref 15, .int (nI 0), .ref 21]) (I' := I) (J' := J) (G' := va_up (va_up (va_up G 12 (va_cpy (G 18) (G 12) 0 0 12)) 13 (va_cpy (G 19) (G 13) 0 0 12)) 14 (va_cpy (G 20) (G 14) 0 0 5)) rfl ?_
    refine aw_copy (k0 := 21) (k1 := 15) (sp := nI 0) (dp := nI 0) (n := nI 5) n4_44 (by decide) rfl rfl (by decide) (by decide) (by decide) (by decide) (by decide) (Nat.le_of_ble_eq_true rfl) (oX4_copyFrom.dec rfl) ?_
    refine aw_eqG (G' := va_up (va_up (va_up (va_up G 12 (va_cpy (G 18) (G 12) 0 0 12)) 13 (va_cpy (G 19) (G 13) 0 0 12)) 14 (va_cpy (G 20) (G 14) 0 0 5)) 15 (va_cpy (G 21) (G 15) (nI 0).toNatClampNeg (nI 0).toNatClampNeg (nI 5).toNatClampNeg)) (rfl) ?_
    refine aw_eqG (G' := va_up (va_up (va_up (va_up G 12 (va_cpy (G 18) (G 12) 0 0 12)) 13 (va_cpy (G 19) (G 13) 0 0 12)) 14 (va_cpy (G 20) (G 14) 0 0 5)) 15 (va_cpy (G 21) (G 15) 0 0 5)) (rfl) ?_
    refine aw_run oX4_copyFrom sxOk 7 (pc' := 69) (L' := [some (.ref 2), some (.ref 3)]) (st' := [.int (nI 5), .int (nI 0), .ref 16, .int (nI 0), .ref 22]) (I' := I) (J' := J) (G' := va_up (va_up (va_up (va_up G 12 (va_cpy (G 18) (G 12) 0 0 12)) 13 (va_cpy (G 19) (G 13) 0 0 12)) 14 (va_cpy (G 20) (G 14) 0 0 5)) 15 (va_cpy (G 21) (G 15) 0 0 5)) rfl ?_
    refine aw_copy (k0 := 22) (k1 := 16) (sp := nI 0) (dp := nI 0) (n := nI 5) n4_44 (by decide) rfl rfl (by decide) (by decide) (by decide) (by decide) (by decide) (Nat.le_of_ble_eq_true rfl) (oX4_copyFrom.dec rfl) ?_
    refine aw_eqG (G' := va_up (va_up (va_up (va_up (va_up G 12 (va_cpy (G 18) (G 12) 0 0 12)) 13 (va_cpy (G 19) (G 13) 0 0 12)) 14 (va_cpy (G 20) (G 14) 0 0 5)) 15 (va_cpy (G 21) (G 15) 0 0 5)) 16 (va_cpy (G 22) (G 16) (nI 0).toNatClampNeg (nI 0).toNatClampNeg (nI 5).toNatClampNeg)) (rfl) ?_
    refine aw_eqG (G' := va_up (va_up (va_up (va_up (va_up G 12 (va_cpy (G 18) (G 12) 0 0 12)) 13 (va_cpy (G 19) (G 13) 0 0 12)) 14 (va_cpy (G 20) (G 14) 0 0 5)) 15 (va_cpy (G 21) (G 15) 0 0 5)) 16 (va_cpy (G 22) (G 16) 0 0 5)) (rfl) ?_
    refine aw_run oX4_copyFrom sxOk 7 (pc' := 83) (L' := [some (.ref 2), some (.ref 3)]) (st' := [.int (nI 5), .int (nI 0), .ref 17, .int (nI 0), .ref 23]) (I' := I) (J' := J) (G' := va_up (va_up (va_up (va_up (va_up G 12 (va_cpy (G 18) (G 12) 0 0 12)) 13 (va_cpy (G 19) (G 13) 0 0 12)) 14 (va_cpy (G 20) (G 14) 0 0 5)) 15 (va_cpy (G 21) (G 15) 0 0 5)) 16 (va_cpy (G 22) (G 16) 0 0 5)) rfl ?_
    refine aw_copy (k0 := 23) (k1 := 17) (sp := nI 0) (dp := nI 0) (n := nI 5) n4_44 (by decide) rfl rfl (by decide) (by decide) (by decide) (by decide) (by decide) (Nat.le_of_ble_eq_true rfl) (oX4_copyFrom.dec rfl) ?_
    refine aw_eqG (G' := va_up (va_up (va_up (va_up (va_up (va_up G 12 (va_cpy (G 18) (G 12) 0 0 12)) 13 (va_cpy (G 19) (G 13) 0 0 12)) 14 (va_cpy (G 20) (G 14) 0 0 5)) 15 (va_cpy (G 21) (G 15) 0 0 5)) 16 (va_cpy (G 22) (G 16) 0 0 5)) 17 (va_cpy (G 23) (G 17) (nI 0).toNatClampNeg (nI 0).toNatClampNeg (nI 5).toNatClampNeg)) (rfl) ?_
    refine aw_eqG (G' := va_up (va_up (va_up (va_up (va_up (va_up G 12 (va_cpy (G 18) (G 12) 0 0 12)) 13 (va_cpy (G 19) (G 13) 0 0 12)) 14 (va_cpy (G 20) (G 14) 0 0 5)) 15 (va_cpy (G 21) (G 15) 0 0 5)) 16 (va_cpy (G 22) (G 16) 0 0 5)) 17 (va_cpy (G 23) (G 17) 0 0 5)) (rfl) ?_
    refine aw_run oX4_copyFrom sxOk 15 (pc' := 115) (L' := [some (.ref 2), some (.ref 3)]) (st' := [.int (I 3 9), .ref 2]) (I' := up2 (up2 (up2 I 2 6 (I 3 6)) 2 7 (I 3 7)) 2 8 (I 3 8)) (J' := J) (G' := va_up (va_up (va_up (va_up (va_up (va_up G 12 (va_cpy (G 18) (G 12) 0 0 12)) 13 (va_cpy (G 19) (G 13) 0 0 12)) 14 (va_cpy (G 20) (G 14) 0 0 5)) 15 (va_cpy (G 21) (G 15) 0 0 5)) 16 (va_cpy (G 22) (G 16) 0 0 5)) 17 (va_cpy (G 23) (G 17) 0 0 5)) rfl ?_
    refine aw_eqS (st := [.int (nI 0), .ref 2]) (by rw [hT]) ?_
    refine aw_run oX4_copyFrom sxOk 1 (pc' := 118) (L' := [some (.ref 2), some (.ref 3)]) (st' := []) (I' := up2 (up2 (up2 (up2 I 2 6 (I 3 6)) 2 7 (I 3 7)) 2 8 (I 3 8)) 2 9 (nI 0)) (J' := J) (G' := va_up (va_up (va_up (va_up (va_up (va_up G 12 (va_cpy (G 18) (G 12) 0 0 12)) 13 (va_cpy (G 19) (G 13) 0 0 12)) 14 (va_cpy (G 20) (G 14) 0 0 5)) 15 (va_cpy (G 21) (G 15) 0 0 5)) 16 (va_cpy (G 22) (G 16) 0 0 5)) 17 (va_cpy (G 23) (G 17) 0 0 5)) rfl ?_
    exact aw_vret rfl (oX4_copyFrom.dec rfl) (⟨rfl, by rw [hT], rfl, rfl⟩)
  · refine aw_run oX4_copyFrom sxOk 7 (pc' := 12) (L' := [some (.ref 2), some (.ref 3)]) (st' := [.int (nI 12), .int (nI 0), .ref 12, .int (nI 0), .ref 18]) (I' := I) (J' := J) (G' := G) rfl ?_
    refine aw_copy (k0 := 18) (k1 := 12) (sp := nI 0) (dp := nI 0) (n := nI 12) n4_44 (by decide) rfl rfl (by decide) (by decide) (by decide) (by decide) (by decide) (Nat.le_of_ble_eq_true rfl) (oX4_copyFrom.dec rfl) ?_
    refine aw_eqG (G' := va_up G 12 (va_cpy (G 18) (G 12) (nI 0).toNatClampNeg (nI 0).toNatClampNeg (nI 12).toNatClampNeg)) (rfl) ?_
    refine aw_eqG (G' := va_up G 12 (va_cpy (G 18) (G 12) 0 0 12)) (rfl) ?_
    refine aw_run oX4_copyFrom sxOk 7 (pc' := 27) (L' := [some (.ref 2), some (.ref 3)]) (st' := [.int (nI 12), .int (nI 0), .ref 13, .int (nI 0), .ref 19]) (I' := I) (J' := J) (G' := va_up G 12 (va_cpy (G 18) (G 12) 0 0 12)) rfl ?_
    refine aw_copy (k0 := 19) (k1 := 13) (sp := nI 0) (dp := nI 0) (n := nI 12) n4_44 (by decide) rfl rfl (by decide) (by decide) (by decide) (by decide) (by decide) (Nat.le_of_ble_eq_true rfl) (oX4_copyFrom.dec rfl) ?_
    refine aw_eqG (G' := va_up (va_up G 12 (va_cpy (G 18) (G 12) 0 0 12)) 13 (va_cpy (G 19) (G 13) (nI 0).toNatClampNeg (nI 0).toNatClampNeg (nI 12).toNatClampNeg)) (rfl) ?_
    refine aw_eqG (G' := va_up (va_up G 12 (va_cpy (G 18) (G 12) 0 0 12)) 13 (va_cpy (G 19) (G 13) 0 0 12)) (rfl) ?_
    refine aw_run oX4_copyFrom sxOk 7 (pc' := 41) (L' := [some (.ref 2), some (.ref 3)]) (st' := [.int (nI 5), .int (nI 0), .ref 14, .int (nI 0), .ref 20]) (I' := I) (J' := J) (G' := va_up (va_up G 12 (va_cpy (G 18) (G 12) 0 0 12)) 13 (va_cpy (G 19) (G 13) 0 0 12)) rfl ?_
    refine aw_copy (k0 := 20) (k1 := 14) (sp := nI 0) (dp := nI 0) (n := nI 5) n4_44 (by decide) rfl rfl (by decide) (by decide) (by decide) (by decide) (by decide) (Nat.le_of_ble_eq_true rfl) (oX4_copyFrom.dec rfl) ?_
    refine aw_eqG (G' := va_up (va_up (va_up G 12 (va_cpy (G 18) (G 12) 0 0 12)) 13 (va_cpy (G 19) (G 13) 0 0 12)) 14 (va_cpy (G 20) (G 14) (nI 0).toNatClampNeg (nI 0).toNatClampNeg (nI 5).toNatClampNeg)) (rfl) ?_
    refine aw_eqG (G' := va_up (va_up (va_up G 12 (va_cpy (G 18) (G 12) 0 0 12)) 13 (va_cpy (G 19) (G 13) 0 0 12)) 14 (va_cpy (G 20) (G 14) 0 0 5)) (rfl) ?_
    refine aw_run oX4_copyFrom sxOk 7 (pc' := 55) (L' := [some (.ref 2), some (.ref 3)]) (st' := [.int (nI 5), .int (nI 0), .ref 15, .int (nI 0), .ref 21]) (I' := I) (J' := J) (G' := va_up (va_up (va_up G 12 (va_cpy (G 18) (G 12) 0 0 12)) 13 (va_cpy (G 19) (G 13) 0 0 12)) 14 (va_cpy (G 20) (G 14) 0 0 5)) rfl ?_
    refine aw_copy (k0 := 21) (k1 := 15) (sp := nI 0) (dp := nI 0) (n := nI 5) n4_44 (by decide) rfl rfl (by decide) (by decide) (by decide) (by decide) (by decide) (Nat.le_of_ble_eq_true rfl) (oX4_copyFrom.dec rfl) ?_
    refine aw_eqG (G' := va_up (va_up (va_up (va_up G 12 (va_cpy (G 18) (G 12) 0 0 12)) 13 (va_cpy (G 19) (G 13) 0 0 12)) 14 (va_cpy (G 20) (G 14) 0 0 5)) 15 (va_cpy (G 21) (G 15) (nI 0).toNatClampNeg (nI 0).toNatClampNeg (nI 5).toNatClampNeg)) (rfl) ?_
    refine aw_eqG (G' := va_up (va_up (va_up (va_up G 12 (va_cpy (G 18) (G 12) 0 0 12)) 13 (va_cpy (G 19) (G 13) 0 0 12)) 14 (va_cpy (G 20) (G 14) 0 0 5)) 15 (va_cpy (G 21) (G 15) 0 0 5)) (rfl) ?_
    refine aw_run oX4_copyFrom sxOk 7 (pc' := 69) (L' := [some (.ref 2), some (.ref 3)]) (st' := [.int (nI 5), .int (nI 0), .ref 16, .int (nI 0), .ref 22]) (I' := I) (J' := J) (G' := va_up (va_up (va_up (va_up G 12 (va_cpy (G 18) (G 12) 0 0 12)) 13 (va_cpy (G 19) (G 13) 0 0 12)) 14 (va_cpy (G 20) (G 14) 0 0 5)) 15 (va_cpy (G 21) (G 15) 0 0 5)) rfl ?_
    refine aw_copy (k0 := 22) (k1 := 16) (sp := nI 0) (dp := nI 0) (n := nI 5) n4_44 (by decide) rfl rfl (by decide) (by decide) (by decide) (by decide) (by decide) (Nat.le_of_ble_eq_true rfl) (oX4_copyFrom.dec rfl) ?_
    refine aw_eqG (G' := va_up (va_up (va_up (va_up (va_up G 12 (va_cpy (G 18) (G 12) 0 0 12)) 13 (va_cpy (G 19) (G 13) 0 0 12)) 14 (va_cpy (G 20) (G 14) 0 0 5)) 15 (va_cpy (G 21) (G 15) 0 0 5)) 16 (va_cpy (G 22) (G 16) (nI 0).toNatClampNeg (nI 0).toNatClampNeg (nI 5).toNatClampNeg)) (rfl) ?_
    refine aw_eqG (G' := va_up (va_up (va_up (va_up (va_up G 12 (va_cpy (G 18) (G 12) 0 0 12)) 13 (va_cpy (G 19) (G 13) 0 0 12)) 14 (va_cpy (G 20) (G 14) 0 0 5)) 15 (va_cpy (G 21) (G 15) 0 0 5)) 16 (va_cpy (G 22) (G 16) 0 0 5)) (rfl) ?_
    refine aw_run oX4_copyFrom sxOk 7 (pc' := 83) (L' := [some (.ref 2), some (.ref 3)]) (st' := [.int (nI 5), .int (nI 0), .ref 17, .int (nI 0), .ref 23]) (I' := I) (J' := J) (G' := va_up (va_up (va_up (va_up (va_up G 12 (va_cpy (G 18) (G 12) 0 0 12)) 13 (va_cpy (G 19) (G 13) 0 0 12)) 14 (va_cpy (G 20) (G 14) 0 0 5)) 15 (va_cpy (G 21) (G 15) 0 0 5)) 16 (va_cpy (G 22) (G 16) 0 0 5)) rfl ?_
    refine aw_copy (k0 := 23) (k1 := 17) (sp := nI 0) (dp := nI 0) (n := nI 5) n4_44 (by decide) rfl rfl (by decide) (by decide) (by decide) (by decide) (by decide) (Nat.le_of_ble_eq_true rfl) (oX4_copyFrom.dec rfl) ?_
    refine aw_eqG (G' := va_up (va_up (va_up (va_up (va_up (va_up G 12 (va_cpy (G 18) (G 12) 0 0 12)) 13 (va_cpy (G 19) (G 13) 0 0 12)) 14 (va_cpy (G 20) (G 14) 0 0 5)) 15 (va_cpy (G 21) (G 15) 0 0 5)) 16 (va_cpy (G 22) (G 16) 0 0 5)) 17 (va_cpy (G 23) (G 17) (nI 0).toNatClampNeg (nI 0).toNatClampNeg (nI 5).toNatClampNeg)) (rfl) ?_
    refine aw_eqG (G' := va_up (va_up (va_up (va_up (va_up (va_up G 12 (va_cpy (G 18) (G 12) 0 0 12)) 13 (va_cpy (G 19) (G 13) 0 0 12)) 14 (va_cpy (G 20) (G 14) 0 0 5)) 15 (va_cpy (G 21) (G 15) 0 0 5)) 16 (va_cpy (G 22) (G 16) 0 0 5)) 17 (va_cpy (G 23) (G 17) 0 0 5)) (rfl) ?_
    refine aw_run oX4_copyFrom sxOk 15 (pc' := 115) (L' := [some (.ref 2), some (.ref 3)]) (st' := [.int (I 3 9), .ref 2]) (I' := up2 (up2 (up2 I 2 6 (I 3 6)) 2 7 (I 3 7)) 2 8 (I 3 8)) (J' := J) (G' := va_up (va_up (va_up (va_up (va_up (va_up G 12 (va_cpy (G 18) (G 12) 0 0 12)) 13 (va_cpy (G 19) (G 13) 0 0 12)) 14 (va_cpy (G 20) (G 14) 0 0 5)) 15 (va_cpy (G 21) (G 15) 0 0 5)) 16 (va_cpy (G 22) (G 16) 0 0 5)) 17 (va_cpy (G 23) (G 17) 0 0 5)) rfl ?_
    refine aw_eqS (st := [.int (nI 1), .ref 2]) (by rw [hT]) ?_
    refine aw_run oX4_copyFrom sxOk 1 (pc' := 118) (L' := [some (.ref 2), some (.ref 3)]) (st' := []) (I' := up2 (up2 (up2 (up2 I 2 6 (I 3 6)) 2 7 (I 3 7)) 2 8 (I 3 8)) 2 9 (nI 1)) (J' := J) (G' := va_up (va_up (va_up (va_up (va_up (va_up G 12 (va_cpy (G 18) (G 12) 0 0 12)) 13 (va_cpy (G 19) (G 13) 0 0 12)) 14 (va_cpy (G 20) (G 14) 0 0 5)) 15 (va_cpy (G 21) (G 15) 0 0 5)) 16 (va_cpy (G 22) (G 16) 0 0 5)) 17 (va_cpy (G 23) (G 17) 0 0 5)) rfl ?_
    exact aw_vret rfl (oX4_copyFrom.dec rfl) (⟨rfl, by rw [hT], rfl, rfl⟩)
end
section
set_option maxRecDepth 20000 in
theorem c_isOver {I : II} {J : JJ} {G : II} {Wk : Nat} (hW : I 2 6 = nI Wk) (hWk : Wk ≤ 12) {t : Nat} (ht : G 24 0 = nI t) (ht12 : t ≤ 12) : AMet SX mX6_isOver [.ref 0] I J G (PE (some (.int (b1 (decide (Wk ≤ t))))) I J G) := by
  refine amet_en oX6_isOver rfl rfl (L := [some (.ref 0)]) rfl ?_
  refine aw_run oX6_isOver sxOk 2 (pc' := 4) (L' := [some (.ref 0)]) (st' := [.ref 4]) (I' := I) (J' := J) (G' := G) rfl ?_
  refine aw_cV (st := []) 4 [] oX2_theWeek k6_126 rfl rfl rfl rfl rfl rfl rfl rfl (oX6_isOver.dec rfl) c_theWeek ?_
  refine aw_eqS (st := [.int (G 24 0)]) rfl ?_
  refine aw_run oX6_isOver sxOk 3 (pc' := 14) (L' := [some (.ref 0)]) (st' := [.int (I 2 6), .int (G 24 0)]) (I' := I) (J' := J) (G' := G) rfl ?_
  refine aw_ltN ht hW (by omega) (by omega) (oX6_isOver.dec rfl) (tgt := 21) rfl (fun h14 => ?_) (fun h14 => ?_)
  · refine aw_run oX6_isOver sxOk 1 (pc' := 22) (L' := [some (.ref 0)]) (st' := [.int (nI 0)]) (I' := I) (J' := J) (G' := G) rfl ?_
    exact aw_zret rfl (by first | exact Or.inl rfl | exact Or.inr rfl) (oX6_isOver.dec rfl) (pe_i (b1_f (by omega)))
  · refine aw_run oX6_isOver sxOk 2 (pc' := 22) (L' := [some (.ref 0)]) (st' := [.int (nI 1)]) (I' := I) (J' := J) (G' := G) rfl ?_
    exact aw_zret rfl (by first | exact Or.inl rfl | exact Or.inr rfl) (oX6_isOver.dec rfl) (pe_i (b1_t (by omega)))
set_option maxRecDepth 20000 in
theorem c_drawOf {I : II} {J : JJ} {G : II} {s t z : Nat} (hs : s < 5) (ht : t ≤ 12) (hz : z ≤ 9999) : AMet SX mX6_drawOf [.int (nI s), .int (nI t), .int (nI z)] I J G (PE (some (.int (nI (dN z s t)))) I J G) := by
  refine amet_en oX6_drawOf rfl rfl (L := [some (.int (nI s)), some (.int (nI t)), some (.int (nI z)), none, none]) rfl ?_
  refine aw_run oX6_drawOf sxOk 21 (pc' := 29) (L' := [some (.int (nI s)), some (.int (nI t)), some (.int (nI z)), some (.long (((((7919 : Int64) * ((nI z).toInt64)) + ((6151 : Int64) * ((nI s).toInt64))) + ((12289 : Int64) * ((nI t).toInt64))) + (Int64.ofNat 1))), none]) (st' := [.long (65521 : Int64), .long ((((((7919 : Int64) * ((nI z).toInt64)) + ((6151 : Int64) * ((nI s).toInt64))) + ((12289 : Int64) * ((nI t).toInt64))) + (Int64.ofNat 1)) * (((((7919 : Int64) * ((nI z).toInt64)) + ((6151 : Int64) * ((nI s).toInt64))) + ((12289 : Int64) * ((nI t).toInt64))) + (Int64.ofNat 1)))]) (I' := I) (J' := J) (G' := G) rfl ?_
  refine aw_lrem (by decide) (oX6_drawOf.dec rfl) ?_
  refine aw_run oX6_drawOf sxOk 1 (pc' := 33) (L' := [some (.int (nI s)), some (.int (nI t)), some (.int (nI z)), some (.long (((((7919 : Int64) * ((nI z).toInt64)) + ((6151 : Int64) * ((nI s).toInt64))) + ((12289 : Int64) * ((nI t).toInt64))) + (Int64.ofNat 1))), none]) (st' := [.long (8 : Int64), .long (((((((7919 : Int64) * ((nI z).toInt64)) + ((6151 : Int64) * ((nI s).toInt64))) + ((12289 : Int64) * ((nI t).toInt64))) + (Int64.ofNat 1)) * (((((7919 : Int64) * ((nI z).toInt64)) + ((6151 : Int64) * ((nI s).toInt64))) + ((12289 : Int64) * ((nI t).toInt64))) + (Int64.ofNat 1))) - ((((((7919 : Int64) * ((nI z).toInt64)) + ((6151 : Int64) * ((nI s).toInt64))) + ((12289 : Int64) * ((nI t).toInt64))) + (Int64.ofNat 1)) * (((((7919 : Int64) * ((nI z).toInt64)) + ((6151 : Int64) * ((nI s).toInt64))) + ((12289 : Int64) * ((nI t).toInt64))) + (Int64.ofNat 1))) / (65521 : Int64) * (65521 : Int64))]) (I' := I) (J' := J) (G' := G) rfl ?_
  refine aw_ldiv (by decide) (oX6_drawOf.dec rfl) ?_
  refine aw_run oX6_drawOf sxOk 1 (pc' := 37) (L' := [some (.int (nI s)), some (.int (nI t)), some (.int (nI z)), some (.long (((((7919 : Int64) * ((nI z).toInt64)) + ((6151 : Int64) * ((nI s).toInt64))) + ((12289 : Int64) * ((nI t).toInt64))) + (Int64.ofNat 1))), none]) (st' := [.long (10 : Int64), .long ((((((((7919 : Int64) * ((nI z).toInt64)) + ((6151 : Int64) * ((nI s).toInt64))) + ((12289 : Int64) * ((nI t).toInt64))) + (Int64.ofNat 1)) * (((((7919 : Int64) * ((nI z).toInt64)) + ((6151 : Int64) * ((nI s).toInt64))) + ((12289 : Int64) * ((nI t).toInt64))) + (Int64.ofNat 1))) - ((((((7919 : Int64) * ((nI z).toInt64)) + ((6151 : Int64) * ((nI s).toInt64))) + ((12289 : Int64) * ((nI t).toInt64))) + (Int64.ofNat 1)) * (((((7919 : Int64) * ((nI z).toInt64)) + ((6151 : Int64) * ((nI s).toInt64))) + ((12289 : Int64) * ((nI t).toInt64))) + (Int64.ofNat 1))) / (65521 : Int64) * (65521 : Int64)) / (8 : Int64))]) (I' := I) (J' := J) (G' := G) rfl ?_
  refine aw_lrem (by decide) (oX6_drawOf.dec rfl) ?_
  refine aw_run oX6_drawOf sxOk 1 (pc' := 39) (L' := [some (.int (nI s)), some (.int (nI t)), some (.int (nI z)), some (.long (((((7919 : Int64) * ((nI z).toInt64)) + ((6151 : Int64) * ((nI s).toInt64))) + ((12289 : Int64) * ((nI t).toInt64))) + (Int64.ofNat 1))), none]) (st' := [.int ((((((((((7919 : Int64) * ((nI z).toInt64)) + ((6151 : Int64) * ((nI s).toInt64))) + ((12289 : Int64) * ((nI t).toInt64))) + (Int64.ofNat 1)) * (((((7919 : Int64) * ((nI z).toInt64)) + ((6151 : Int64) * ((nI s).toInt64))) + ((12289 : Int64) * ((nI t).toInt64))) + (Int64.ofNat 1))) - ((((((7919 : Int64) * ((nI z).toInt64)) + ((6151 : Int64) * ((nI s).toInt64))) + ((12289 : Int64) * ((nI t).toInt64))) + (Int64.ofNat 1)) * (((((7919 : Int64) * ((nI z).toInt64)) + ((6151 : Int64) * ((nI s).toInt64))) + ((12289 : Int64) * ((nI t).toInt64))) + (Int64.ofNat 1))) / (65521 : Int64) * (65521 : Int64)) / (8 : Int64)) - ((((((((7919 : Int64) * ((nI z).toInt64)) + ((6151 : Int64) * ((nI s).toInt64))) + ((12289 : Int64) * ((nI t).toInt64))) + (Int64.ofNat 1)) * (((((7919 : Int64) * ((nI z).toInt64)) + ((6151 : Int64) * ((nI s).toInt64))) + ((12289 : Int64) * ((nI t).toInt64))) + (Int64.ofNat 1))) - ((((((7919 : Int64) * ((nI z).toInt64)) + ((6151 : Int64) * ((nI s).toInt64))) + ((12289 : Int64) * ((nI t).toInt64))) + (Int64.ofNat 1)) * (((((7919 : Int64) * ((nI z).toInt64)) + ((6151 : Int64) * ((nI s).toInt64))) + ((12289 : Int64) * ((nI t).toInt64))) + (Int64.ofNat 1))) / (65521 : Int64) * (65521 : Int64)) / (8 : Int64)) / (10 : Int64) * (10 : Int64)).toInt32)]) (I' := I) (J' := J) (G' := G) rfl ?_
  exact aw_iret rfl (oX6_drawOf.dec rfl) (pe_i (draw_x z s t (by omega) (by omega) (by omega) _ (dq_eq z s t (by omega) (by omega) (by omega))))
set_option maxRecDepth 20000 in
theorem c_sailOne_t {I : II} {J : JJ} {G : II} {s t z : Nat} (hs : s < 5) (ht : G 24 0 = nI t) (ht12 : t < 12) (hz : z ≤ 9999) : AMet SX mX6_sailOne [.ref 0, .int (nI s), .int (nI 1), .int (nI z)] I J G (PE (some (.int (nI 0))) I J (va_up G 24 (sail1 (G 24) (I 2 8) (G 12 t) true (dN z s t) s))) := by
  refine amet_en oX6_sailOne rfl rfl (L := [some (.ref 0), some (.int (nI s)), some (.int (nI 1)), some (.int (nI z)), none]) rfl ?_
  refine aw_run oX6_sailOne sxOk 2 (pc' := 4) (L' := [some (.ref 0), some (.int (nI s)), some (.int (nI 1)), some (.int (nI z)), none]) (st' := [.ref 4]) (I' := I) (J' := J) (G' := G) rfl ?_
  refine aw_cV (st := []) 4 [] oX2_theWeek k6_126 rfl rfl rfl rfl rfl rfl rfl rfl (oX6_sailOne.dec rfl) c_theWeek ?_
  refine aw_eqS (st := [.int (G 24 0)]) rfl ?_
  refine aw_run oX6_sailOne sxOk 2 (pc' := 10) (L' := [some (.ref 0), some (.int (nI s)), some (.int (nI 1)), some (.int (nI z)), some (.int (G 24 0))]) (st' := [.int (nI 1)]) (I' := I) (J' := J) (G' := G) rfl ?_
  refine aw_0eqN rfl (by omega) (oX6_sailOne.dec rfl) (tgt := 27) rfl (fun h10 => absurd h10 (by omega)) (fun h10 => ?_)
  refine aw_run oX6_sailOne sxOk 7 (pc' := 24) (L' := [some (.ref 0), some (.int (nI s)), some (.int (nI 1)), some (.int (nI z)), some (.int (G 24 0))]) (st' := [.int (nI 2), .int ((nI 3) + (nI s)), .ref 24]) (I' := I) (J' := J) (G' := G) rfl ?_
  refine aw_isN (3 + s) sxOk rfl (addN rfl rfl) (by omega) (oX6_sailOne.dec rfl) ?_
  refine aw_eqG (G' := va_up G 24 (upd (G 24) (3 + s) (nI 2))) (rfl) ?_
  refine aw_run oX6_sailOne sxOk 1 (pc' := 26) (L' := [some (.ref 0), some (.int (nI s)), some (.int (nI 1)), some (.int (nI z)), some (.int (G 24 0))]) (st' := [.int (nI 0)]) (I' := I) (J' := J) (G' := va_up G 24 (upd (G 24) (3 + s) (nI 2))) rfl ?_
  exact aw_iret rfl (oX6_sailOne.dec rfl) (⟨rfl, rfl, rfl, rfl⟩)
set_option maxRecDepth 20000 in
theorem c_sailOne_f {I : II} {J : JJ} {G : II} {s t z : Nat} (hs : s < 5) (ht : G 24 0 = nI t) (ht12 : t < 12) (hz : z ≤ 9999) : AMet SX mX6_sailOne [.ref 0, .int (nI s), .int (nI 0), .int (nI z)] I J G (PE (some (.int (b1 (home1 (G 12 t) false (dN z s t))))) I J (va_up G 24 (sail1 (G 24) (I 2 8) (G 12 t) false (dN z s t) s))) := by
  refine amet_en oX6_sailOne rfl rfl (L := [some (.ref 0), some (.int (nI s)), some (.int (nI 0)), some (.int (nI z)), none]) rfl ?_
  refine aw_run oX6_sailOne sxOk 2 (pc' := 4) (L' := [some (.ref 0), some (.int (nI s)), some (.int (nI 0)), some (.int (nI z)), none]) (st' := [.ref 4]) (I' := I) (J' := J) (G' := G) rfl ?_
  refine aw_cV (st := []) 4 [] oX2_theWeek k6_126 rfl rfl rfl rfl rfl rfl rfl rfl (oX6_sailOne.dec rfl) c_theWeek ?_
  refine aw_eqS (st := [.int (G 24 0)]) rfl ?_
  refine aw_run oX6_sailOne sxOk 2 (pc' := 10) (L' := [some (.ref 0), some (.int (nI s)), some (.int (nI 0)), some (.int (nI z)), some (.int (G 24 0))]) (st' := [.int (nI 0)]) (I' := I) (J' := J) (G' := G) rfl ?_
  refine aw_0eqN rfl (by omega) (oX6_sailOne.dec rfl) (tgt := 27) rfl (fun h10 => ?_) (fun h10 => absurd h10 (by omega))
  refine aw_run oX6_sailOne sxOk 3 (pc' := 31) (L' := [some (.ref 0), some (.int (nI s)), some (.int (nI 0)), some (.int (nI z)), some (.int (G 24 0))]) (st' := [.int (nI z), .int (G 24 0), .int (nI s)]) (I' := I) (J' := J) (G' := G) rfl ?_
  refine aw_eqS (st := [.int (nI z), .int (nI t), .int (nI s)]) (by rw [show G 24 0 = nI t from ht]) ?_
  refine aw_cS (st := []) [.int (nI s), .int (nI t), .int (nI z)] oX6_drawOf k6_229 rfl rfl rfl rfl rfl (oX6_sailOne.dec rfl) (c_drawOf (by omega) (by omega) (by omega)) ?_
  refine aw_eqS (st := [.int (nI (dN z s t))]) rfl ?_
  refine aw_run oX6_sailOne sxOk 4 (pc' := 43) (L' := [some (.ref 0), some (.int (nI s)), some (.int (nI 0)), some (.int (nI z)), some (.int (G 24 0))]) (st' := [.int (G 24 0), .ref 12, .int (nI (dN z s t))]) (I' := I) (J' := J) (G' := G) rfl ?_
  refine aw_iaN t sxOk rfl ht (by omega) (oX6_sailOne.dec rfl) ?_
  refine aw_icmp_ge (oX6_sailOne.dec rfl) (tgt := 61) rfl (fun h44 => ?_) (fun h44 => ?_)
  · refine aw_run oX6_sailOne sxOk 7 (pc' := 72) (L' := [some (.ref 0), some (.int (nI s)), some (.int (nI 0)), some (.int (nI z)), some (.int (G 24 0))]) (st' := [.int (nI 1), .int ((nI 3) + (nI s)), .ref 24]) (I' := I) (J' := J) (G' := G) rfl ?_
    refine aw_isN (3 + s) sxOk rfl (addN rfl rfl) (by omega) (oX6_sailOne.dec rfl) ?_
    refine aw_eqG (G' := va_up G 24 (upd (G 24) (3 + s) (nI 1))) (rfl) ?_
    refine aw_run oX6_sailOne sxOk 5 (pc' := 82) (L' := [some (.ref 0), some (.int (nI s)), some (.int (nI 0)), some (.int (nI z)), some (.int (G 24 0))]) (st' := [.int (nI 1), .ref 24, .int (nI 1), .ref 24]) (I' := I) (J' := J) (G' := va_up G 24 (upd (G 24) (3 + s) (nI 1))) rfl ?_
    refine aw_iaN 1 sxOk rfl rfl (by omega) (oX6_sailOne.dec rfl) ?_
    refine aw_eqS (st := [.int ((upd (G 24) (3 + s) (nI 1)) 1), .int (nI 1), .ref 24]) rfl ?_
    refine aw_run oX6_sailOne sxOk 3 (pc' := 88) (L' := [some (.ref 0), some (.int (nI s)), some (.int (nI 0)), some (.int (nI z)), some (.int (G 24 0))]) (st' := [.int (nI s), .ref 4, .int ((upd (G 24) (3 + s) (nI 1)) 1), .int (nI 1), .ref 24]) (I' := I) (J' := J) (G' := va_up G 24 (upd (G 24) (3 + s) (nI 1))) rfl ?_
    refine aw_cV (st := [.int ((upd (G 24) (3 + s) (nI 1)) 1), .int (nI 1), .ref 24]) 4 [.int (nI s)] oX2_silverOf k6_158 rfl rfl rfl rfl rfl rfl rfl rfl (oX6_sailOne.dec rfl) (c_silverOf (by omega)) ?_
    refine aw_eqS (st := [.int (sil (upd (G 24) (3 + s) (nI 1)) s), .int ((upd (G 24) (3 + s) (nI 1)) 1), .int (nI 1), .ref 24]) rfl ?_
    refine aw_run oX6_sailOne sxOk 1 (pc' := 92) (L' := [some (.ref 0), some (.int (nI s)), some (.int (nI 0)), some (.int (nI z)), some (.int (G 24 0))]) (st' := [.int (((upd (G 24) (3 + s) (nI 1)) 1) + (sil (upd (G 24) (3 + s) (nI 1)) s)), .int (nI 1), .ref 24]) (I' := I) (J' := J) (G' := va_up G 24 (upd (G 24) (3 + s) (nI 1))) rfl ?_
    refine aw_isN 1 sxOk rfl rfl (by omega) (oX6_sailOne.dec rfl) ?_
    refine aw_eqG (G' := va_up G 24 (upd (upd (G 24) (3 + s) (nI 1)) 1 (((upd (G 24) (3 + s) (nI 1)) 1) + (sil (upd (G 24) (3 + s) (nI 1)) s)))) (bx_uu _ _ _ _) ?_
    refine aw_run oX6_sailOne sxOk 5 (pc' := 102) (L' := [some (.ref 0), some (.int (nI s)), some (.int (nI 0)), some (.int (nI z)), some (.int (G 24 0))]) (st' := [.int (nI 2), .ref 24, .int (nI 2), .ref 24]) (I' := I) (J' := J) (G' := va_up G 24 (upd (upd (G 24) (3 + s) (nI 1)) 1 (((upd (G 24) (3 + s) (nI 1)) 1) + (sil (upd (G 24) (3 + s) (nI 1)) s)))) rfl ?_
    refine aw_iaN 2 sxOk rfl rfl (by omega) (oX6_sailOne.dec rfl) ?_
    refine aw_eqS (st := [.int ((upd (upd (G 24) (3 + s) (nI 1)) 1 (((upd (G 24) (3 + s) (nI 1)) 1) + (sil (upd (G 24) (3 + s) (nI 1)) s))) 2), .int (nI 2), .ref 24]) rfl ?_
    refine aw_run oX6_sailOne sxOk 6 (pc' := 115) (L' := [some (.ref 0), some (.int (nI s)), some (.int (nI 0)), some (.int (nI z)), some (.int (G 24 0))]) (st' := [.int (nI s), .ref 4, .int (I 2 8), .int ((upd (upd (G 24) (3 + s) (nI 1)) 1 (((upd (G 24) (3 + s) (nI 1)) 1) + (sil (upd (G 24) (3 + s) (nI 1)) s))) 2), .int (nI 2), .ref 24]) (I' := I) (J' := J) (G' := va_up G 24 (upd (upd (G 24) (3 + s) (nI 1)) 1 (((upd (G 24) (3 + s) (nI 1)) 1) + (sil (upd (G 24) (3 + s) (nI 1)) s)))) rfl ?_
    refine aw_cV (st := [.int (I 2 8), .int ((upd (upd (G 24) (3 + s) (nI 1)) 1 (((upd (G 24) (3 + s) (nI 1)) 1) + (sil (upd (G 24) (3 + s) (nI 1)) s))) 2), .int (nI 2), .ref 24]) 4 [.int (nI s)] oX2_listedOf k6_100 rfl rfl rfl rfl rfl rfl rfl rfl (oX6_sailOne.dec rfl) (c_listedOf (by omega)) ?_
    refine aw_eqS (st := [.int ((upd (upd (G 24) (3 + s) (nI 1)) 1 (((upd (G 24) (3 + s) (nI 1)) 1) + (sil (upd (G 24) (3 + s) (nI 1)) s))) (8 + s)), .int (I 2 8), .int ((upd (upd (G 24) (3 + s) (nI 1)) 1 (((upd (G 24) (3 + s) (nI 1)) 1) + (sil (upd (G 24) (3 + s) (nI 1)) s))) 2), .int (nI 2), .ref 24]) rfl ?_
    refine aw_run oX6_sailOne sxOk 2 (pc' := 121) (L' := [some (.ref 0), some (.int (nI s)), some (.int (nI 0)), some (.int (nI z)), some (.int (G 24 0))]) (st' := [.int (nI 10), .int ((I 2 8) * ((upd (upd (G 24) (3 + s) (nI 1)) 1 (((upd (G 24) (3 + s) (nI 1)) 1) + (sil (upd (G 24) (3 + s) (nI 1)) s))) (8 + s))), .int ((upd (upd (G 24) (3 + s) (nI 1)) 1 (((upd (G 24) (3 + s) (nI 1)) 1) + (sil (upd (G 24) (3 + s) (nI 1)) s))) 2), .int (nI 2), .ref 24]) (I' := I) (J' := J) (G' := va_up G 24 (upd (upd (G 24) (3 + s) (nI 1)) 1 (((upd (G 24) (3 + s) (nI 1)) 1) + (sil (upd (G 24) (3 + s) (nI 1)) s)))) rfl ?_
    refine aw_idiv (by decide) (oX6_sailOne.dec rfl) ?_
    refine aw_run oX6_sailOne sxOk 1 (pc' := 123) (L' := [some (.ref 0), some (.int (nI s)), some (.int (nI 0)), some (.int (nI z)), some (.int (G 24 0))]) (st' := [.int (((upd (upd (G 24) (3 + s) (nI 1)) 1 (((upd (G 24) (3 + s) (nI 1)) 1) + (sil (upd (G 24) (3 + s) (nI 1)) s))) 2) + (((I 2 8) * ((upd (upd (G 24) (3 + s) (nI 1)) 1 (((upd (G 24) (3 + s) (nI 1)) 1) + (sil (upd (G 24) (3 + s) (nI 1)) s))) (8 + s))) / (nI 10))), .int (nI 2), .ref 24]) (I' := I) (J' := J) (G' := va_up G 24 (upd (upd (G 24) (3 + s) (nI 1)) 1 (((upd (G 24) (3 + s) (nI 1)) 1) + (sil (upd (G 24) (3 + s) (nI 1)) s)))) rfl ?_
    refine aw_isN 2 sxOk rfl rfl (by omega) (oX6_sailOne.dec rfl) ?_
    refine aw_eqG (G' := va_up G 24 (upd (upd (upd (G 24) (3 + s) (nI 1)) 1 (((upd (G 24) (3 + s) (nI 1)) 1) + (sil (upd (G 24) (3 + s) (nI 1)) s))) 2 (((upd (upd (G 24) (3 + s) (nI 1)) 1 (((upd (G 24) (3 + s) (nI 1)) 1) + (sil (upd (G 24) (3 + s) (nI 1)) s))) 2) + (((I 2 8) * ((upd (upd (G 24) (3 + s) (nI 1)) 1 (((upd (G 24) (3 + s) (nI 1)) 1) + (sil (upd (G 24) (3 + s) (nI 1)) s))) (8 + s))) / (nI 10))))) (bx_uu _ _ _ _) ?_
    refine aw_run oX6_sailOne sxOk 1 (pc' := 125) (L' := [some (.ref 0), some (.int (nI s)), some (.int (nI 0)), some (.int (nI z)), some (.int (G 24 0))]) (st' := [.int (nI 1)]) (I' := I) (J' := J) (G' := va_up G 24 (upd (upd (upd (G 24) (3 + s) (nI 1)) 1 (((upd (G 24) (3 + s) (nI 1)) 1) + (sil (upd (G 24) (3 + s) (nI 1)) s))) 2 (((upd (upd (G 24) (3 + s) (nI 1)) 1 (((upd (G 24) (3 + s) (nI 1)) 1) + (sil (upd (G 24) (3 + s) (nI 1)) s))) 2) + (((I 2 8) * ((upd (upd (G 24) (3 + s) (nI 1)) 1 (((upd (G 24) (3 + s) (nI 1)) 1) + (sil (upd (G 24) (3 + s) (nI 1)) s))) (8 + s))) / (nI 10))))) rfl ?_
    exact aw_iret rfl (oX6_sailOne.dec rfl) (⟨by rw [show home1 (G 12 t) false (dN z s t) = true by unfold home1; rw [decide_eq_false (Int32.not_lt.mpr h44)]; rfl]; rfl, rfl, rfl, by rw [show sail1 (G 24) (I 2 8) (G 12 t) false (dN z s t) s = _ from (if_neg (by decide)).trans (if_neg (Int32.not_lt.mpr h44))]⟩)
  · refine aw_run oX6_sailOne sxOk 7 (pc' := 58) (L' := [some (.ref 0), some (.int (nI s)), some (.int (nI 0)), some (.int (nI z)), some (.int (G 24 0))]) (st' := [.int (nI 3), .int ((nI 3) + (nI s)), .ref 24]) (I' := I) (J' := J) (G' := G) rfl ?_
    refine aw_isN (3 + s) sxOk rfl (addN rfl rfl) (by omega) (oX6_sailOne.dec rfl) ?_
    refine aw_eqG (G' := va_up G 24 (upd (G 24) (3 + s) (nI 3))) (rfl) ?_
    refine aw_run oX6_sailOne sxOk 1 (pc' := 60) (L' := [some (.ref 0), some (.int (nI s)), some (.int (nI 0)), some (.int (nI z)), some (.int (G 24 0))]) (st' := [.int (nI 0)]) (I' := I) (J' := J) (G' := va_up G 24 (upd (G 24) (3 + s) (nI 3))) rfl ?_
    exact aw_iret rfl (oX6_sailOne.dec rfl) (⟨by rw [show home1 (G 12 t) false (dN z s t) = false by unfold home1; rw [decide_eq_true (Int32.not_le.mp h44)]; rfl]; rfl, rfl, rfl, by rw [show sail1 (G 24) (I 2 8) (G 12 t) false (dN z s t) s = _ from (if_neg (by decide)).trans (if_pos (Int32.not_le.mp h44))]⟩)
set_option maxRecDepth 20000 in
theorem c_canSail {I : II} {J : JJ} {G : II} {P : Nat} (hP : I 2 7 = nI P) (hP5 : P ≤ 5) {σ t : Nat} (hσ : σ < 32) (ht : G 24 0 = nI t) : AMet SX mX6_canSail [.ref 0, .int (nI σ)] I J G (PE (some (.int (b1 (allB (sq (G 24) (G 17) σ t) P)))) I J G) := by
  refine amet_en oX6_canSail rfl rfl (L := [some (.ref 0), some (.int (nI σ)), none]) rfl ?_
  have loop : ∀ (n s : Nat) (x : Int32), (s + n = P) → (x = nI s) → (∀ j, j < s → sq (G 24) (G 17) σ t j = true) → AW SX mX6_canSail 2 [some (.ref 0), some (.int (nI σ)), some (.int x)] [] I J G (PE (some (.int (b1 (allB (sq (G 24) (G 17) σ t) P)))) I J G) := by
    intro n
    induction n with
    | zero =>
      intro s x hsn hx hq
      refine aw_run oX6_canSail sxOk 4 (pc' := 10) (L' := [some (.ref 0), some (.int (nI σ)), some (.int x)]) (st' := [.int (I 2 7), .int x]) (I' := I) (J' := J) (G' := G) rfl ?_
      refine aw_geN hx hP (by omega) (by omega) (oX6_canSail.dec rfl) (tgt := 59) rfl (fun h10 => ?_) (fun h10 => absurd h10 (by omega))
      refine aw_run oX6_canSail sxOk 1 (pc' := 60) (L' := [some (.ref 0), some (.int (nI σ)), some (.int x)]) (st' := [.int (nI 1)]) (I' := I) (J' := J) (G' := G) rfl ?_
      exact aw_zret rfl (by first | exact Or.inl rfl | exact Or.inr rfl) (oX6_canSail.dec rfl) (pe_i (by rw [allB_iff.mpr (by rw [← show s = P by omega]; exact hq)]; rfl))
    | succ n ih =>
      intro s x hsn hx hq
      refine aw_run oX6_canSail sxOk 4 (pc' := 10) (L' := [some (.ref 0), some (.int (nI σ)), some (.int x)]) (st' := [.int (I 2 7), .int x]) (I' := I) (J' := J) (G' := G) rfl ?_
      refine aw_geN hx hP (by omega) (by omega) (oX6_canSail.dec rfl) (tgt := 59) rfl (fun h10 => absurd h10 (by omega)) (fun h10 => ?_)
      refine aw_run oX6_canSail sxOk 2 (pc' := 15) (L' := [some (.ref 0), some (.int (nI σ)), some (.int x)]) (st' := [.int (nI σ), .int x]) (I' := I) (J' := J) (G' := G) rfl ?_
      refine aw_eqS (st := [.int (nI σ), .int (nI s)]) (by rw [show x = nI s from hx]) ?_
      refine aw_cS (st := []) [.int (nI s), .int (nI σ)] oX6_isIn k6_143 rfl rfl rfl rfl rfl (oX6_canSail.dec rfl) (c_isIn (by omega) (by omega)) ?_
      refine aw_eqS (st := [.int (nI (bitN σ s))]) rfl ?_
      refine aw_0eqN rfl (bitN_b _ _) (oX6_canSail.dec rfl) (tgt := 53) rfl (fun h18 => ?_) (fun h18 => ?_)
      · refine aw_run oX6_canSail sxOk 2 (pc' := 2) (L' := [some (.ref 0), some (.int (nI σ)), some (.int (x + (nI 1)))]) (st' := []) (I' := I) (J' := J) (G' := G) rfl ?_
        exact ih (s + 1) _ (by omega) (addN hx rfl) (allB_s hq (by unfold sq; rw [bitN_0 h18]; rfl))
      · refine aw_run oX6_canSail sxOk 3 (pc' := 26) (L' := [some (.ref 0), some (.int (nI σ)), some (.int x)]) (st' := [.int x, .ref 4]) (I' := I) (J' := J) (G' := G) rfl ?_
        refine aw_eqS (st := [.int (nI s), .ref 4]) (by rw [show x = nI s from hx]) ?_
        refine aw_cV (st := []) 4 [.int (nI s)] oX2_isInPort k6_151 rfl rfl rfl rfl rfl rfl rfl rfl (oX6_canSail.dec rfl) (c_isInPort (by omega)) ?_
        refine aw_eqS (st := [.int (b1 (decide (G 24 (3 + s) = nI 0)))]) rfl ?_
        refine aw_0eqD (oX6_canSail.dec rfl) (tgt := 51) rfl (fun h29 => ?_) (fun h29 => ?_)
        · refine aw_run oX6_canSail sxOk 1 (pc' := 52) (L' := [some (.ref 0), some (.int (nI σ)), some (.int x)]) (st' := [.int (nI 0)]) (I' := I) (J' := J) (G' := G) rfl ?_
          exact aw_zret rfl (by first | exact Or.inl rfl | exact Or.inr rfl) (oX6_canSail.dec rfl) (pe_i (by rw [allB_no (j := s) (by omega) (by unfold sq; rw [bitN_n0 h18, decide_eq_false h29]; rfl)]; rfl))
        · refine aw_run oX6_canSail sxOk 2 (pc' := 36) (L' := [some (.ref 0), some (.int (nI σ)), some (.int x)]) (st' := [.ref 4]) (I' := I) (J' := J) (G' := G) rfl ?_
          refine aw_cV (st := []) 4 [] oX2_theWeek k6_126 rfl rfl rfl rfl rfl rfl rfl rfl (oX6_canSail.dec rfl) c_theWeek ?_
          refine aw_eqS (st := [.int (G 24 0)]) rfl ?_
          refine aw_run oX6_canSail sxOk 4 (pc' := 47) (L' := [some (.ref 0), some (.int (nI σ)), some (.int x)]) (st' := [.int x, .ref 17, .int (G 24 0)]) (I' := I) (J' := J) (G' := G) rfl ?_
          refine aw_iaN s sxOk rfl hx (by omega) (oX6_canSail.dec rfl) ?_
          refine aw_icmp_ge (oX6_canSail.dec rfl) (tgt := 53) rfl (fun h48 => ?_) (fun h48 => ?_)
          · refine aw_run oX6_canSail sxOk 2 (pc' := 2) (L' := [some (.ref 0), some (.int (nI σ)), some (.int (x + (nI 1)))]) (st' := []) (I' := I) (J' := J) (G' := G) rfl ?_
            exact ih (s + 1) _ (by omega) (addN hx rfl) (allB_s hq (by unfold sq; rw [decide_eq_true h29, decide_eq_true (by rw [← ht]; exact h48)]; simp))
          · refine aw_run oX6_canSail sxOk 1 (pc' := 52) (L' := [some (.ref 0), some (.int (nI σ)), some (.int x)]) (st' := [.int (nI 0)]) (I' := I) (J' := J) (G' := G) rfl ?_
            exact aw_zret rfl (by first | exact Or.inl rfl | exact Or.inr rfl) (oX6_canSail.dec rfl) (pe_i (by rw [allB_no (j := s) (by omega) (by unfold sq; rw [bitN_n0 h18, decide_eq_false (p := G 17 s ≤ nI t) (by rw [← ht]; exact h48)]; simp)]; rfl))
  refine aw_run oX6_canSail sxOk 2 (pc' := 2) (L' := [some (.ref 0), some (.int (nI σ)), some (.int (nI 0))]) (st' := []) (I' := I) (J' := J) (G' := G) rfl ?_
  exact loop P 0 _ (by omega) rfl (fun j hj => absurd hj (by omega))
set_option maxRecDepth 20000 in
theorem c_isNoHalf_0 {I : II} {J : JJ} {G : II}  : AMet SX mX6_isNoHalf [.int (nI 0)] I J G (PE (some (.int (nI 0))) I J G) := by
  refine amet_en oX6_isNoHalf rfl rfl (L := [some (.int (nI 0))]) rfl ?_
  refine aw_run oX6_isNoHalf sxOk 1 (pc' := 1) (L' := [some (.int (nI 0))]) (st' := [.int (nI 0)]) (I' := I) (J' := J) (G' := G) rfl ?_
  refine aw_0eqN rfl (by omega) (oX6_isNoHalf.dec rfl) (tgt := 13) rfl (fun h1 => ?_) (fun h1 => absurd h1 (by omega))
  refine aw_run oX6_isNoHalf sxOk 1 (pc' := 14) (L' := [some (.int (nI 0))]) (st' := [.int (nI 0)]) (I' := I) (J' := J) (G' := G) rfl ?_
  exact aw_zret rfl (by first | exact Or.inl rfl | exact Or.inr rfl) (oX6_isNoHalf.dec rfl) pe_rfl
set_option maxRecDepth 20000 in
theorem c_isImage_0 {I : II} {J : JJ} {G : II}  : AMet SX mX6_isImage [.int (nI 0)] I J G (PE (some (.int (nI 1))) I J G) := by
  refine amet_en oX6_isImage rfl rfl (L := [some (.int (nI 0))]) rfl ?_
  refine aw_run oX6_isImage sxOk 1 (pc' := 1) (L' := [some (.int (nI 0))]) (st' := [.int (nI 0)]) (I' := I) (J' := J) (G' := G) rfl ?_
  refine aw_0eqN rfl (by omega) (oX6_isImage.dec rfl) (tgt := 9) rfl (fun h1 => ?_) (fun h1 => absurd h1 (by omega))
  refine aw_run oX6_isImage sxOk 2 (pc' := 14) (L' := [some (.int (nI 0))]) (st' := [.int (nI 1)]) (I' := I) (J' := J) (G' := G) rfl ?_
  exact aw_zret rfl (by first | exact Or.inl rfl | exact Or.inr rfl) (oX6_isImage.dec rfl) pe_rfl
set_option maxRecDepth 20000 in
theorem c_imageOf_0 {I : II} {J : JJ} {G : II}  : AMet SX mX6_imageOf [.ref 0, .int (nI 0)] I J G (PE (some (.ref 5)) I J G) := by
  refine amet_en oX6_imageOf rfl rfl (L := [some (.ref 0), some (.int (nI 0))]) rfl ?_
  refine aw_run oX6_imageOf sxOk 1 (pc' := 1) (L' := [some (.ref 0), some (.int (nI 0))]) (st' := [.int (nI 0)]) (I' := I) (J' := J) (G' := G) rfl ?_
  refine aw_0neN rfl (by omega) (oX6_imageOf.dec rfl) (tgt := 11) rfl (fun h1 => absurd h1 (by omega)) (fun h1 => ?_)
  refine aw_run oX6_imageOf sxOk 3 (pc' := 15) (L' := [some (.ref 0), some (.int (nI 0))]) (st' := [.ref 5]) (I' := I) (J' := J) (G' := G) rfl ?_
  exact aw_aret rfl (by first | exact Or.inl ⟨_, rfl⟩ | exact Or.inr ⟨_, rfl⟩) (oX6_imageOf.dec rfl) pe_rfl
set_option maxRecDepth 20000 in
theorem c_isNoHalf_1 {I : II} {J : JJ} {G : II}  : AMet SX mX6_isNoHalf [.int (nI 1)] I J G (PE (some (.int (nI 0))) I J G) := by
  refine amet_en oX6_isNoHalf rfl rfl (L := [some (.int (nI 1))]) rfl ?_
  refine aw_run oX6_isNoHalf sxOk 1 (pc' := 1) (L' := [some (.int (nI 1))]) (st' := [.int (nI 1)]) (I' := I) (J' := J) (G' := G) rfl ?_
  refine aw_0eqN rfl (by omega) (oX6_isNoHalf.dec rfl) (tgt := 13) rfl (fun h1 => absurd h1 (by omega)) (fun h1 => ?_)
  refine aw_run oX6_isNoHalf sxOk 2 (pc' := 6) (L' := [some (.int (nI 1))]) (st' := [.int (nI 1), .int (nI 1)]) (I' := I) (J' := J) (G' := G) rfl ?_
  refine aw_eqN rfl rfl (by omega) (by omega) (oX6_isNoHalf.dec rfl) (tgt := 13) rfl (fun h6 => ?_) (fun h6 => absurd h6 (by omega))
  refine aw_run oX6_isNoHalf sxOk 1 (pc' := 14) (L' := [some (.int (nI 1))]) (st' := [.int (nI 0)]) (I' := I) (J' := J) (G' := G) rfl ?_
  exact aw_zret rfl (by first | exact Or.inl rfl | exact Or.inr rfl) (oX6_isNoHalf.dec rfl) pe_rfl
set_option maxRecDepth 20000 in
theorem c_isImage_1 {I : II} {J : JJ} {G : II}  : AMet SX mX6_isImage [.int (nI 1)] I J G (PE (some (.int (nI 1))) I J G) := by
  refine amet_en oX6_isImage rfl rfl (L := [some (.int (nI 1))]) rfl ?_
  refine aw_run oX6_isImage sxOk 1 (pc' := 1) (L' := [some (.int (nI 1))]) (st' := [.int (nI 1)]) (I' := I) (J' := J) (G' := G) rfl ?_
  refine aw_0eqN rfl (by omega) (oX6_isImage.dec rfl) (tgt := 9) rfl (fun h1 => absurd h1 (by omega)) (fun h1 => ?_)
  refine aw_run oX6_isImage sxOk 2 (pc' := 6) (L' := [some (.int (nI 1))]) (st' := [.int (nI 1), .int (nI 1)]) (I' := I) (J' := J) (G' := G) rfl ?_
  refine aw_neN rfl rfl (by omega) (by omega) (oX6_isImage.dec rfl) (tgt := 13) rfl (fun h6 => absurd h6 (by omega)) (fun h6 => ?_)
  refine aw_run oX6_isImage sxOk 2 (pc' := 14) (L' := [some (.int (nI 1))]) (st' := [.int (nI 1)]) (I' := I) (J' := J) (G' := G) rfl ?_
  exact aw_zret rfl (by first | exact Or.inl rfl | exact Or.inr rfl) (oX6_isImage.dec rfl) pe_rfl
set_option maxRecDepth 20000 in
theorem c_imageOf_1 {I : II} {J : JJ} {G : II}  : AMet SX mX6_imageOf [.ref 0, .int (nI 1)] I J G (PE (some (.ref 6)) I J G) := by
  refine amet_en oX6_imageOf rfl rfl (L := [some (.ref 0), some (.int (nI 1))]) rfl ?_
  refine aw_run oX6_imageOf sxOk 1 (pc' := 1) (L' := [some (.ref 0), some (.int (nI 1))]) (st' := [.int (nI 1)]) (I' := I) (J' := J) (G' := G) rfl ?_
  refine aw_0neN rfl (by omega) (oX6_imageOf.dec rfl) (tgt := 11) rfl (fun h1 => ?_) (fun h1 => absurd h1 (by omega))
  refine aw_run oX6_imageOf sxOk 2 (pc' := 15) (L' := [some (.ref 0), some (.int (nI 1))]) (st' := [.ref 6]) (I' := I) (J' := J) (G' := G) rfl ?_
  exact aw_aret rfl (by first | exact Or.inl ⟨_, rfl⟩ | exact Or.inr ⟨_, rfl⟩) (oX6_imageOf.dec rfl) pe_rfl
set_option maxRecDepth 20000 in
theorem c_isNoHalf_f {I : II} {J : JJ} {G : II} {x : Int32} (hx : notIn x 2) : AMet SX mX6_isNoHalf [.int x] I J G (PE (some (.int (nI 1))) I J G) := by
  refine amet_en oX6_isNoHalf rfl rfl (L := [some (.int x)]) rfl ?_
  refine aw_run oX6_isNoHalf sxOk 1 (pc' := 1) (L' := [some (.int x)]) (st' := [.int x]) (I' := I) (J' := J) (G' := G) rfl ?_
  refine aw_if_eq (oX6_isNoHalf.dec rfl) (tgt := 13) rfl (fun h1 => absurd h1 (hx 0 (by decide))) (fun h1 => ?_)
  refine aw_run oX6_isNoHalf sxOk 2 (pc' := 6) (L' := [some (.int x)]) (st' := [.int (nI 1), .int x]) (I' := I) (J' := J) (G' := G) rfl ?_
  refine aw_icmp_eq (oX6_isNoHalf.dec rfl) (tgt := 13) rfl (fun h6 => absurd h6 (hx 1 (by decide))) (fun h6 => ?_)
  refine aw_run oX6_isNoHalf sxOk 2 (pc' := 14) (L' := [some (.int x)]) (st' := [.int (nI 1)]) (I' := I) (J' := J) (G' := G) rfl ?_
  exact aw_zret rfl (by first | exact Or.inl rfl | exact Or.inr rfl) (oX6_isNoHalf.dec rfl) pe_rfl
set_option maxRecDepth 20000 in
theorem c_isImage_f {I : II} {J : JJ} {G : II} {x : Int32} (hx : notIn x 2) : AMet SX mX6_isImage [.int x] I J G (PE (some (.int (nI 0))) I J G) := by
  refine amet_en oX6_isImage rfl rfl (L := [some (.int x)]) rfl ?_
  refine aw_run oX6_isImage sxOk 1 (pc' := 1) (L' := [some (.int x)]) (st' := [.int x]) (I' := I) (J' := J) (G' := G) rfl ?_
  refine aw_if_eq (oX6_isImage.dec rfl) (tgt := 9) rfl (fun h1 => absurd h1 (hx 0 (by decide))) (fun h1 => ?_)
  refine aw_run oX6_isImage sxOk 2 (pc' := 6) (L' := [some (.int x)]) (st' := [.int (nI 1), .int x]) (I' := I) (J' := J) (G' := G) rfl ?_
  refine aw_icmp_ne (oX6_isImage.dec rfl) (tgt := 13) rfl (fun h6 => ?_) (fun h6 => absurd h6 (hx 1 (by decide)))
  refine aw_run oX6_isImage sxOk 1 (pc' := 14) (L' := [some (.int x)]) (st' := [.int (nI 0)]) (I' := I) (J' := J) (G' := G) rfl ?_
  exact aw_zret rfl (by first | exact Or.inl rfl | exact Or.inr rfl) (oX6_isImage.dec rfl) pe_rfl
set_option maxRecDepth 20000 in
theorem c_markShip {I : II} {J : JJ} {G : II} {s : Nat} (hs : s < 5) : AMet SX mX1_markShip [.ref 9, .int (nI s)] I J G (PE (some (.int (G 24 (8 + s)))) I (up2 J 9 2 ((J 9 2) + (Int64.ofNat 1))) G) := by
  refine amet_en oX1_markShip rfl rfl (L := [some (.ref 9), some (.int (nI s))]) rfl ?_
  refine aw_run oX1_markShip sxOk 9 (pc' := 15) (L' := [some (.ref 9), some (.int (nI s))]) (st' := [.int (nI s), .ref 4]) (I' := I) (J' := up2 J 9 2 ((J 9 2) + (Int64.ofNat 1))) (G' := G) rfl ?_
  refine aw_cV (st := []) 4 [.int (nI s)] oX2_listedOf k1_43 rfl rfl rfl rfl rfl rfl rfl rfl (oX1_markShip.dec rfl) (c_listedOf (by omega)) ?_
  refine aw_eqS (st := [.int (G 24 (8 + s))]) rfl ?_
  exact aw_iret rfl (oX1_markShip.dec rfl) pe_rfl
set_option maxRecDepth 20000 in
theorem c_markDecoy {I : II} {J : JJ} {G : II} {s : Nat} (hs : s < 5) : AMet SX mX1_markDecoy [.ref 9, .int (nI s)] I J G (PE (some (.int ((G 24 (8 + s)) + (G 16 s)))) I (up2 J 9 2 ((((J 9 2) + (10 : Int64))) + (Int64.ofNat 1))) G) := by
  refine amet_en oX1_markDecoy rfl rfl (L := [some (.ref 9), some (.int (nI s))]) rfl ?_
  refine aw_run oX1_markDecoy sxOk 8 (pc' := 14) (L' := [some (.ref 9), some (.int (nI s))]) (st' := [.int (nI s), .ref 9]) (I' := I) (J' := up2 J 9 2 ((J 9 2) + (10 : Int64))) (G' := G) rfl ?_
  refine aw_cV (st := []) 9 [.int (nI s)] oX1_markShip k1_19 rfl rfl rfl rfl rfl rfl rfl rfl (oX1_markDecoy.dec rfl) (c_markShip (by omega)) ?_
  refine aw_eqJ (J' := up2 J 9 2 ((((J 9 2) + (10 : Int64))) + (Int64.ofNat 1))) (up2_uu _ _ _ _ _) ?_
  refine aw_eqS (st := [.int (G 24 (8 + s))]) rfl ?_
  refine aw_run oX1_markDecoy sxOk 4 (pc' := 25) (L' := [some (.ref 9), some (.int (nI s))]) (st' := [.int (nI s), .ref 16, .int (G 24 (8 + s))]) (I' := I) (J' := up2 J 9 2 ((((J 9 2) + (10 : Int64))) + (Int64.ofNat 1))) (G' := G) rfl ?_
  refine aw_iaN s sxOk rfl rfl (by omega) (oX1_markDecoy.dec rfl) ?_
  refine aw_run oX1_markDecoy sxOk 1 (pc' := 27) (L' := [some (.ref 9), some (.int (nI s))]) (st' := [.int ((G 24 (8 + s)) + (G 16 s))]) (I' := I) (J' := up2 J 9 2 ((((J 9 2) + (10 : Int64))) + (Int64.ofNat 1))) (G' := G) rfl ?_
  exact aw_iret rfl (oX1_markDecoy.dec rfl) pe_rfl
set_option maxRecDepth 20000 in
theorem c_markSlow {I : II} {J : JJ} {G : II} {s : Nat} (hs : s < 5) : AMet SX mX1_markSlow [.ref 9, .int (nI s)] I J G (PE (some (.int ((G 24 (8 + s)) - (G 17 s)))) I (up2 J 9 2 ((((J 9 2) + (100 : Int64))) + (Int64.ofNat 1))) G) := by
  refine amet_en oX1_markSlow rfl rfl (L := [some (.ref 9), some (.int (nI s))]) rfl ?_
  refine aw_run oX1_markSlow sxOk 8 (pc' := 14) (L' := [some (.ref 9), some (.int (nI s))]) (st' := [.int (nI s), .ref 9]) (I' := I) (J' := up2 J 9 2 ((J 9 2) + (100 : Int64))) (G' := G) rfl ?_
  refine aw_cV (st := []) 9 [.int (nI s)] oX1_markShip k1_19 rfl rfl rfl rfl rfl rfl rfl rfl (oX1_markSlow.dec rfl) (c_markShip (by omega)) ?_
  refine aw_eqJ (J' := up2 J 9 2 ((((J 9 2) + (100 : Int64))) + (Int64.ofNat 1))) (up2_uu _ _ _ _ _) ?_
  refine aw_eqS (st := [.int (G 24 (8 + s))]) rfl ?_
  refine aw_run oX1_markSlow sxOk 4 (pc' := 25) (L' := [some (.ref 9), some (.int (nI s))]) (st' := [.int (nI s), .ref 17, .int (G 24 (8 + s))]) (I' := I) (J' := up2 J 9 2 ((((J 9 2) + (100 : Int64))) + (Int64.ofNat 1))) (G' := G) rfl ?_
  refine aw_iaN s sxOk rfl rfl (by omega) (oX1_markSlow.dec rfl) ?_
  refine aw_run oX1_markSlow sxOk 1 (pc' := 27) (L' := [some (.ref 9), some (.int (nI s))]) (st' := [.int ((G 24 (8 + s)) - (G 17 s))]) (I' := I) (J' := up2 J 9 2 ((((J 9 2) + (100 : Int64))) + (Int64.ofNat 1))) (G' := G) rfl ?_
  exact aw_iret rfl (oX1_markSlow.dec rfl) pe_rfl
set_option maxRecDepth 20000 in
theorem c_markChest {I : II} {J : JJ} {G : II} {s : Nat} (hs : s < 5) : AMet SX mX1_markChest [.ref 9, .int (nI s)] I J G (PE (some (.int (((G 24 (8 + s)) + (G 16 s)) * (nI 2)))) I (up2 J 9 2 ((((((J 9 2) + (1000 : Int64))) + (10 : Int64))) + (Int64.ofNat 1))) G) := by
  refine amet_en oX1_markChest rfl rfl (L := [some (.ref 9), some (.int (nI s))]) rfl ?_
  refine aw_run oX1_markChest sxOk 8 (pc' := 14) (L' := [some (.ref 9), some (.int (nI s))]) (st' := [.int (nI s), .ref 9]) (I' := I) (J' := up2 J 9 2 ((J 9 2) + (1000 : Int64))) (G' := G) rfl ?_
  refine aw_cV (st := []) 9 [.int (nI s)] oX1_markDecoy k1_23 rfl rfl rfl rfl rfl rfl rfl rfl (oX1_markChest.dec rfl) (c_markDecoy (by omega)) ?_
  refine aw_eqJ (J' := up2 J 9 2 ((((((J 9 2) + (1000 : Int64))) + (10 : Int64))) + (Int64.ofNat 1))) (up2_uu _ _ _ _ _) ?_
  refine aw_eqS (st := [.int ((G 24 (8 + s)) + (G 16 s))]) rfl ?_
  refine aw_run oX1_markChest sxOk 2 (pc' := 19) (L' := [some (.ref 9), some (.int (nI s))]) (st' := [.int (((G 24 (8 + s)) + (G 16 s)) * (nI 2))]) (I' := I) (J' := up2 J 9 2 ((((((J 9 2) + (1000 : Int64))) + (10 : Int64))) + (Int64.ofNat 1))) (G' := G) rfl ?_
  exact aw_iret rfl (oX1_markChest.dec rfl) pe_rfl
set_option maxRecDepth 20000 in
theorem c_markLetter {I : II} {J : JJ} {G : II} {s : Nat} (hs : s < 5) : AMet SX mX1_markLetter [.ref 9, .int (nI s)] I J G (PE (some (.int (((G 24 (8 + s)) - (G 17 s)) + (nI s)))) I (up2 J 9 2 ((((((J 9 2) + (10000 : Int64))) + (100 : Int64))) + (Int64.ofNat 1))) G) := by
  refine amet_en oX1_markLetter rfl rfl (L := [some (.ref 9), some (.int (nI s))]) rfl ?_
  refine aw_run oX1_markLetter sxOk 8 (pc' := 14) (L' := [some (.ref 9), some (.int (nI s))]) (st' := [.int (nI s), .ref 9]) (I' := I) (J' := up2 J 9 2 ((J 9 2) + (10000 : Int64))) (G' := G) rfl ?_
  refine aw_cV (st := []) 9 [.int (nI s)] oX1_markSlow k1_26 rfl rfl rfl rfl rfl rfl rfl rfl (oX1_markLetter.dec rfl) (c_markSlow (by omega)) ?_
  refine aw_eqJ (J' := up2 J 9 2 ((((((J 9 2) + (10000 : Int64))) + (100 : Int64))) + (Int64.ofNat 1))) (up2_uu _ _ _ _ _) ?_
  refine aw_eqS (st := [.int ((G 24 (8 + s)) - (G 17 s))]) rfl ?_
  refine aw_run oX1_markLetter sxOk 2 (pc' := 19) (L' := [some (.ref 9), some (.int (nI s))]) (st' := [.int (((G 24 (8 + s)) - (G 17 s)) + (nI s))]) (I' := I) (J' := up2 J 9 2 ((((((J 9 2) + (10000 : Int64))) + (100 : Int64))) + (Int64.ofNat 1))) (G' := G) rfl ?_
  exact aw_iret rfl (oX1_markLetter.dec rfl) pe_rfl
set_option maxRecDepth 20000 in
theorem c_markPilot {I : II} {J : JJ} {G : II} {s : Nat} (hs : s < 5) : AMet SX mX1_markPilot [.ref 9, .int (nI s)] I J G (PE (some (.int ((G 24 (8 + s)) + (G 24 0)))) I (up2 J 9 2 ((((J 9 2) + (100000 : Int64))) + (Int64.ofNat 1))) G) := by
  refine amet_en oX1_markPilot rfl rfl (L := [some (.ref 9), some (.int (nI s))]) rfl ?_
  refine aw_run oX1_markPilot sxOk 8 (pc' := 14) (L' := [some (.ref 9), some (.int (nI s))]) (st' := [.int (nI s), .ref 9]) (I' := I) (J' := up2 J 9 2 ((J 9 2) + (100000 : Int64))) (G' := G) rfl ?_
  refine aw_cV (st := []) 9 [.int (nI s)] oX1_markShip k1_19 rfl rfl rfl rfl rfl rfl rfl rfl (oX1_markPilot.dec rfl) (c_markShip (by omega)) ?_
  refine aw_eqJ (J' := up2 J 9 2 ((((J 9 2) + (100000 : Int64))) + (Int64.ofNat 1))) (up2_uu _ _ _ _ _) ?_
  refine aw_eqS (st := [.int (G 24 (8 + s))]) rfl ?_
  refine aw_run oX1_markPilot sxOk 2 (pc' := 21) (L' := [some (.ref 9), some (.int (nI s))]) (st' := [.ref 4, .int (G 24 (8 + s))]) (I' := I) (J' := up2 J 9 2 ((((J 9 2) + (100000 : Int64))) + (Int64.ofNat 1))) (G' := G) rfl ?_
  refine aw_cV (st := [.int (G 24 (8 + s))]) 4 [] oX2_theWeek k1_67 rfl rfl rfl rfl rfl rfl rfl rfl (oX1_markPilot.dec rfl) c_theWeek ?_
  refine aw_eqS (st := [.int (G 24 0), .int (G 24 (8 + s))]) rfl ?_
  refine aw_run oX1_markPilot sxOk 1 (pc' := 25) (L' := [some (.ref 9), some (.int (nI s))]) (st' := [.int ((G 24 (8 + s)) + (G 24 0))]) (I' := I) (J' := up2 J 9 2 ((((J 9 2) + (100000 : Int64))) + (Int64.ofNat 1))) (G' := G) rfl ?_
  exact aw_iret rfl (oX1_markPilot.dec rfl) pe_rfl
set_option maxRecDepth 20000 in
theorem c_markAs_0 {I : II} {J : JJ} {G : II} {s : Nat} (hs : s < 5) : AMet SX mX1_markAs [.ref 9, .int (nI 0), .int (nI s)] I J G (PE (some (.int (G 24 (8 + s)))) I (up2 J 9 2 (((J 9 2)) + (Int64.ofNat 1))) G) := by
  refine amet_en oX1_markAs rfl rfl (L := [some (.ref 9), some (.int (nI 0)), some (.int (nI s))]) rfl ?_
  refine aw_run oX1_markAs sxOk 1 (pc' := 1) (L' := [some (.ref 9), some (.int (nI 0)), some (.int (nI s))]) (st' := [.int (nI 0)]) (I' := I) (J' := J) (G' := G) rfl ?_
  refine aw_tableIn (x := nI 0) (oX1_markAs.dec rfl) (by decide) (by decide) (off := 39) (by decide) (tgt := 40) rfl ?_
  refine aw_run oX1_markAs sxOk 2 (pc' := 42) (L' := [some (.ref 9), some (.int (nI 0)), some (.int (nI s))]) (st' := [.int (nI s), .ref 9]) (I' := I) (J' := J) (G' := G) rfl ?_
  refine aw_cV (st := []) 9 [.int (nI s)] oX1_markShip k1_19 rfl rfl rfl rfl rfl rfl rfl rfl (oX1_markAs.dec rfl) (c_markShip (by omega)) ?_
  refine aw_eqS (st := [.int (G 24 (8 + s))]) rfl ?_
  exact aw_iret rfl (oX1_markAs.dec rfl) pe_rfl
set_option maxRecDepth 20000 in
theorem c_markAs_1 {I : II} {J : JJ} {G : II} {s : Nat} (hs : s < 5) : AMet SX mX1_markAs [.ref 9, .int (nI 1), .int (nI s)] I J G (PE (some (.int ((G 24 (8 + s)) + (G 16 s)))) I (up2 J 9 2 (((((J 9 2)) + (10 : Int64))) + (Int64.ofNat 1))) G) := by
  refine amet_en oX1_markAs rfl rfl (L := [some (.ref 9), some (.int (nI 1)), some (.int (nI s))]) rfl ?_
  refine aw_run oX1_markAs sxOk 1 (pc' := 1) (L' := [some (.ref 9), some (.int (nI 1)), some (.int (nI s))]) (st' := [.int (nI 1)]) (I' := I) (J' := J) (G' := G) rfl ?_
  refine aw_tableIn (x := nI 1) (oX1_markAs.dec rfl) (by decide) (by decide) (off := 45) (by decide) (tgt := 46) rfl ?_
  refine aw_run oX1_markAs sxOk 2 (pc' := 48) (L' := [some (.ref 9), some (.int (nI 1)), some (.int (nI s))]) (st' := [.int (nI s), .ref 9]) (I' := I) (J' := J) (G' := G) rfl ?_
  refine aw_cV (st := []) 9 [.int (nI s)] oX1_markDecoy k1_23 rfl rfl rfl rfl rfl rfl rfl rfl (oX1_markAs.dec rfl) (c_markDecoy (by omega)) ?_
  refine aw_eqS (st := [.int ((G 24 (8 + s)) + (G 16 s))]) rfl ?_
  exact aw_iret rfl (oX1_markAs.dec rfl) pe_rfl
set_option maxRecDepth 20000 in
theorem c_markAs_2 {I : II} {J : JJ} {G : II} {s : Nat} (hs : s < 5) : AMet SX mX1_markAs [.ref 9, .int (nI 2), .int (nI s)] I J G (PE (some (.int ((G 24 (8 + s)) - (G 17 s)))) I (up2 J 9 2 (((((J 9 2)) + (100 : Int64))) + (Int64.ofNat 1))) G) := by
  refine amet_en oX1_markAs rfl rfl (L := [some (.ref 9), some (.int (nI 2)), some (.int (nI s))]) rfl ?_
  refine aw_run oX1_markAs sxOk 1 (pc' := 1) (L' := [some (.ref 9), some (.int (nI 2)), some (.int (nI s))]) (st' := [.int (nI 2)]) (I' := I) (J' := J) (G' := G) rfl ?_
  refine aw_tableIn (x := nI 2) (oX1_markAs.dec rfl) (by decide) (by decide) (off := 51) (by decide) (tgt := 52) rfl ?_
  refine aw_run oX1_markAs sxOk 2 (pc' := 54) (L' := [some (.ref 9), some (.int (nI 2)), some (.int (nI s))]) (st' := [.int (nI s), .ref 9]) (I' := I) (J' := J) (G' := G) rfl ?_
  refine aw_cV (st := []) 9 [.int (nI s)] oX1_markSlow k1_26 rfl rfl rfl rfl rfl rfl rfl rfl (oX1_markAs.dec rfl) (c_markSlow (by omega)) ?_
  refine aw_eqS (st := [.int ((G 24 (8 + s)) - (G 17 s))]) rfl ?_
  exact aw_iret rfl (oX1_markAs.dec rfl) pe_rfl
set_option maxRecDepth 20000 in
theorem c_markAs_3 {I : II} {J : JJ} {G : II} {s : Nat} (hs : s < 5) : AMet SX mX1_markAs [.ref 9, .int (nI 3), .int (nI s)] I J G (PE (some (.int (((G 24 (8 + s)) + (G 16 s)) * (nI 2)))) I (up2 J 9 2 (((((((J 9 2)) + (1000 : Int64))) + (10 : Int64))) + (Int64.ofNat 1))) G) := by
  refine amet_en oX1_markAs rfl rfl (L := [some (.ref 9), some (.int (nI 3)), some (.int (nI s))]) rfl ?_
  refine aw_run oX1_markAs sxOk 1 (pc' := 1) (L' := [some (.ref 9), some (.int (nI 3)), some (.int (nI s))]) (st' := [.int (nI 3)]) (I' := I) (J' := J) (G' := G) rfl ?_
  refine aw_tableIn (x := nI 3) (oX1_markAs.dec rfl) (by decide) (by decide) (off := 57) (by decide) (tgt := 58) rfl ?_
  refine aw_run oX1_markAs sxOk 2 (pc' := 60) (L' := [some (.ref 9), some (.int (nI 3)), some (.int (nI s))]) (st' := [.int (nI s), .ref 9]) (I' := I) (J' := J) (G' := G) rfl ?_
  refine aw_cV (st := []) 9 [.int (nI s)] oX1_markChest k1_29 rfl rfl rfl rfl rfl rfl rfl rfl (oX1_markAs.dec rfl) (c_markChest (by omega)) ?_
  refine aw_eqS (st := [.int (((G 24 (8 + s)) + (G 16 s)) * (nI 2))]) rfl ?_
  exact aw_iret rfl (oX1_markAs.dec rfl) pe_rfl
set_option maxRecDepth 20000 in
theorem c_markAs_4 {I : II} {J : JJ} {G : II} {s : Nat} (hs : s < 5) : AMet SX mX1_markAs [.ref 9, .int (nI 4), .int (nI s)] I J G (PE (some (.int (((G 24 (8 + s)) - (G 17 s)) + (nI s)))) I (up2 J 9 2 (((((((J 9 2)) + (10000 : Int64))) + (100 : Int64))) + (Int64.ofNat 1))) G) := by
  refine amet_en oX1_markAs rfl rfl (L := [some (.ref 9), some (.int (nI 4)), some (.int (nI s))]) rfl ?_
  refine aw_run oX1_markAs sxOk 1 (pc' := 1) (L' := [some (.ref 9), some (.int (nI 4)), some (.int (nI s))]) (st' := [.int (nI 4)]) (I' := I) (J' := J) (G' := G) rfl ?_
  refine aw_tableIn (x := nI 4) (oX1_markAs.dec rfl) (by decide) (by decide) (off := 63) (by decide) (tgt := 64) rfl ?_
  refine aw_run oX1_markAs sxOk 2 (pc' := 66) (L' := [some (.ref 9), some (.int (nI 4)), some (.int (nI s))]) (st' := [.int (nI s), .ref 9]) (I' := I) (J' := J) (G' := G) rfl ?_
  refine aw_cV (st := []) 9 [.int (nI s)] oX1_markLetter k1_32 rfl rfl rfl rfl rfl rfl rfl rfl (oX1_markAs.dec rfl) (c_markLetter (by omega)) ?_
  refine aw_eqS (st := [.int (((G 24 (8 + s)) - (G 17 s)) + (nI s))]) rfl ?_
  exact aw_iret rfl (oX1_markAs.dec rfl) pe_rfl
set_option maxRecDepth 20000 in
theorem c_markAs_5 {I : II} {J : JJ} {G : II} {s : Nat} (hs : s < 5) : AMet SX mX1_markAs [.ref 9, .int (nI 5), .int (nI s)] I J G (PE (some (.int ((G 24 (8 + s)) + (G 24 0)))) I (up2 J 9 2 (((((J 9 2)) + (100000 : Int64))) + (Int64.ofNat 1))) G) := by
  refine amet_en oX1_markAs rfl rfl (L := [some (.ref 9), some (.int (nI 5)), some (.int (nI s))]) rfl ?_
  refine aw_run oX1_markAs sxOk 1 (pc' := 1) (L' := [some (.ref 9), some (.int (nI 5)), some (.int (nI s))]) (st' := [.int (nI 5)]) (I' := I) (J' := J) (G' := G) rfl ?_
  refine aw_tableIn (x := nI 5) (oX1_markAs.dec rfl) (by decide) (by decide) (off := 69) (by decide) (tgt := 70) rfl ?_
  refine aw_run oX1_markAs sxOk 2 (pc' := 72) (L' := [some (.ref 9), some (.int (nI 5)), some (.int (nI s))]) (st' := [.int (nI s), .ref 9]) (I' := I) (J' := J) (G' := G) rfl ?_
  refine aw_cV (st := []) 9 [.int (nI s)] oX1_markPilot k1_35 rfl rfl rfl rfl rfl rfl rfl rfl (oX1_markAs.dec rfl) (c_markPilot (by omega)) ?_
  refine aw_eqS (st := [.int ((G 24 (8 + s)) + (G 24 0))]) rfl ?_
  exact aw_iret rfl (oX1_markAs.dec rfl) pe_rfl
end
section
set_option maxRecDepth 20000 in
theorem c_type_bad {I : II} {J : JJ} {G : II} {x : Int32} (hx : notIn x 256) : AMet SX mX6_type [.ref 0, .int x] I J G (PE (some (.int (-nI 1))) I J G) := by
  refine amet_en oX6_type rfl rfl (L := [some (.ref 0), some (.int x)]) rfl ?_
  refine aw_run oX6_type sxOk 1 (pc' := 1) (L' := [some (.ref 0), some (.int x)]) (st' := [.int x]) (I' := I) (J' := J) (G' := G) rfl ?_
  refine aw_if_lt (oX6_type.dec rfl) (tgt := 11) rfl (fun h1 => ?_) (fun h1 => ?_)
  · refine aw_run oX6_type sxOk 1 (pc' := 12) (L' := [some (.ref 0), some (.int x)]) (st' := [.int (-nI 1)]) (I' := I) (J' := J) (G' := G) rfl ?_
    exact aw_iret rfl (oX6_type.dec rfl) pe_rfl
  · refine aw_run oX6_type sxOk 2 (pc' := 8) (L' := [some (.ref 0), some (.int x)]) (st' := [.int (nI 255), .int x]) (I' := I) (J' := J) (G' := G) rfl ?_
    refine aw_icmp_le (oX6_type.dec rfl) (tgt := 13) rfl (fun h8 => absurd h8 (Int32.not_le.mpr (notIn_gt hx (by decide) h1))) (fun h8 => ?_)
    refine aw_run oX6_type sxOk 1 (pc' := 12) (L' := [some (.ref 0), some (.int x)]) (st' := [.int (-nI 1)]) (I' := I) (J' := J) (G' := G) rfl ?_
    exact aw_iret rfl (oX6_type.dec rfl) pe_rfl
set_option maxRecDepth 20000 in
theorem c_type_full {I : II} {J : JJ} {G : II} {n : Nat} (hn : I 1 1 = nI n) (hn180 : n ≤ 180) {c : Nat} (hc : c < 256) (h180 : n = 180) : AMet SX mX6_type [.ref 0, .int (nI c)] I J G (PE (some (.int (-nI 3))) I J G) := by
  refine amet_en oX6_type rfl rfl (L := [some (.ref 0), some (.int (nI c))]) rfl ?_
  refine aw_run oX6_type sxOk 1 (pc' := 1) (L' := [some (.ref 0), some (.int (nI c))]) (st' := [.int (nI c)]) (I' := I) (J' := J) (G' := G) rfl ?_
  refine aw_0ltN rfl (by omega) (oX6_type.dec rfl) (tgt := 11) rfl ?_
  refine aw_run oX6_type sxOk 2 (pc' := 8) (L' := [some (.ref 0), some (.int (nI c))]) (st' := [.int (nI 255), .int (nI c)]) (I' := I) (J' := J) (G' := G) rfl ?_
  refine aw_leN rfl rfl (by omega) (by omega) (oX6_type.dec rfl) (tgt := 13) rfl (fun h8 => ?_) (fun h8 => absurd h8 (by omega))
  refine aw_run oX6_type sxOk 4 (pc' := 23) (L' := [some (.ref 0), some (.int (nI c))]) (st' := [.int (nI 180), .int (I 1 1)]) (I' := I) (J' := J) (G' := G) rfl ?_
  refine aw_ltN hn rfl (by omega) (by omega) (oX6_type.dec rfl) (tgt := 29) rfl (fun h23 => absurd h23 (by omega)) (fun h23 => ?_)
  refine aw_run oX6_type sxOk 1 (pc' := 28) (L' := [some (.ref 0), some (.int (nI c))]) (st' := [.int (-nI 3)]) (I' := I) (J' := J) (G' := G) rfl ?_
  exact aw_iret rfl (oX6_type.dec rfl) pe_rfl
set_option maxRecDepth 20000 in
theorem c_type_ok {I : II} {J : JJ} {G : II} {n : Nat} (hn : I 1 1 = nI n) (hn180 : n ≤ 180) {c : Nat} (hc : c < 256) (h180 : n < 180) : AMet SX mX6_type [.ref 0, .int (nI c)] I J G (PE (some (.int ((I 1 1) + (nI 1)))) (up2 I 1 1 ((I 1 1) + (nI 1))) J (va_up G 10 (upd (G 10) n (nI c)))) := by
  refine amet_en oX6_type rfl rfl (L := [some (.ref 0), some (.int (nI c))]) rfl ?_
  refine aw_run oX6_type sxOk 1 (pc' := 1) (L' := [some (.ref 0), some (.int (nI c))]) (st' := [.int (nI c)]) (I' := I) (J' := J) (G' := G) rfl ?_
  refine aw_0ltN rfl (by omega) (oX6_type.dec rfl) (tgt := 11) rfl ?_
  refine aw_run oX6_type sxOk 2 (pc' := 8) (L' := [some (.ref 0), some (.int (nI c))]) (st' := [.int (nI 255), .int (nI c)]) (I' := I) (J' := J) (G' := G) rfl ?_
  refine aw_leN rfl rfl (by omega) (by omega) (oX6_type.dec rfl) (tgt := 13) rfl (fun h8 => ?_) (fun h8 => absurd h8 (by omega))
  refine aw_run oX6_type sxOk 4 (pc' := 23) (L' := [some (.ref 0), some (.int (nI c))]) (st' := [.int (nI 180), .int (I 1 1)]) (I' := I) (J' := J) (G' := G) rfl ?_
  refine aw_ltN hn rfl (by omega) (by omega) (oX6_type.dec rfl) (tgt := 29) rfl (fun h23 => ?_) (fun h23 => absurd h23 (by omega))
  refine aw_run oX6_type sxOk 7 (pc' := 44) (L' := [some (.ref 0), some (.int (nI c))]) (st' := [.int (nI c), .int (I 1 1), .ref 10]) (I' := I) (J' := J) (G' := G) rfl ?_
  refine aw_isN n sxOk rfl hn (by omega) (oX6_type.dec rfl) ?_
  refine aw_eqG (G' := va_up G 10 (upd (G 10) n (nI c))) (rfl) ?_
  refine aw_run oX6_type sxOk 10 (pc' := 65) (L' := [some (.ref 0), some (.int (nI c))]) (st' := [.int ((I 1 1) + (nI 1))]) (I' := up2 I 1 1 ((I 1 1) + (nI 1))) (J' := J) (G' := va_up G 10 (upd (G 10) n (nI c))) rfl ?_
  exact aw_iret rfl (oX6_type.dec rfl) pe_rfl
set_option maxRecDepth 20000 in
theorem c_clear {I : II} {J : JJ} {G : II}  : AMet SX mX6_clear [.ref 0] I J G (PE (some (.int (I 1 1))) (up2 I 1 1 (nI 0)) J G) := by
  refine amet_en oX6_clear rfl rfl (L := [some (.ref 0), none]) rfl ?_
  refine aw_run oX6_clear sxOk 9 (pc' := 17) (L' := [some (.ref 0), some (.int (I 1 1))]) (st' := [.int (I 1 1)]) (I' := up2 I 1 1 (nI 0)) (J' := J) (G' := G) rfl ?_
  exact aw_iret rfl (oX6_clear.dec rfl) pe_rfl
set_option maxRecDepth 20000 in
theorem c_week_bad {I : II} {J : JJ} {G : II} {Wk : Nat} (hW : I 2 6 = nI Wk) (hWk : Wk ≤ 12) {x y : Int32} (hx : notIn x Wk) : AMet SX mX6_week [.ref 0, .int x, .int y] I J G (PE (some (.int (-nI 1))) I J G) := by
  refine amet_en oX6_week rfl rfl (L := [some (.ref 0), some (.int x), some (.int y)]) rfl ?_
  refine aw_run oX6_week sxOk 3 (pc' := 5) (L' := [some (.ref 0), some (.int x), some (.int y)]) (st' := [.int x, .ref 2]) (I' := I) (J' := J) (G' := G) rfl ?_
  refine aw_cV (st := []) 2 [.int x] oX4_hasWeek k6_87 rfl rfl rfl rfl rfl rfl rfl rfl (oX6_week.dec rfl) (c_hasWeek_f hW (by omega) (by assumption)) ?_
  refine aw_eqS (st := [.int (nI 0)]) rfl ?_
  refine aw_0neN rfl (by omega) (oX6_week.dec rfl) (tgt := 13) rfl (fun h8 => absurd h8 (by omega)) (fun h8 => ?_)
  refine aw_run oX6_week sxOk 1 (pc' := 12) (L' := [some (.ref 0), some (.int x), some (.int y)]) (st' := [.int (-nI 1)]) (I' := I) (J' := J) (G' := G) rfl ?_
  exact aw_iret rfl (oX6_week.dec rfl) pe_rfl
set_option maxRecDepth 20000 in
theorem c_week_bad2 {I : II} {J : JJ} {G : II} {Wk : Nat} (hW : I 2 6 = nI Wk) (hWk : Wk ≤ 12) {j : Nat} {x : Int32} (hj : j < Wk) (hx : notIn x 2) : AMet SX mX6_week [.ref 0, .int (nI j), .int x] I J G (PE (some (.int (-nI 1))) I J G) := by
  refine amet_en oX6_week rfl rfl (L := [some (.ref 0), some (.int (nI j)), some (.int x)]) rfl ?_
  refine aw_run oX6_week sxOk 3 (pc' := 5) (L' := [some (.ref 0), some (.int (nI j)), some (.int x)]) (st' := [.int (nI j), .ref 2]) (I' := I) (J' := J) (G' := G) rfl ?_
  refine aw_cV (st := []) 2 [.int (nI j)] oX4_hasWeek k6_87 rfl rfl rfl rfl rfl rfl rfl rfl (oX6_week.dec rfl) (c_hasWeek_t hW (by omega) (by omega)) ?_
  refine aw_eqS (st := [.int (nI 1)]) rfl ?_
  refine aw_0neN rfl (by omega) (oX6_week.dec rfl) (tgt := 13) rfl (fun h8 => ?_) (fun h8 => absurd h8 (by omega))
  refine aw_run oX6_week sxOk 1 (pc' := 14) (L' := [some (.ref 0), some (.int (nI j)), some (.int x)]) (st' := [.int x]) (I' := I) (J' := J) (G' := G) rfl ?_
  refine aw_lookup (x := x) (oX6_week.dec rfl) (by decide) (off := 46) (by have h9 := notIn_tab hx (by decide); show (if (0 : Int) = x.toInt then (26 : Int) else if (1 : Int) = x.toInt then 36 else 46) = 46; rw [if_neg (by omega), if_neg (by omega)]) (tgt := 60) rfl ?_
  refine aw_run oX6_week sxOk 1 (pc' := 61) (L' := [some (.ref 0), some (.int (nI j)), some (.int x)]) (st' := [.int (-nI 1)]) (I' := I) (J' := J) (G' := G) rfl ?_
  exact aw_iret rfl (oX6_week.dec rfl) pe_rfl
set_option maxRecDepth 20000 in
theorem c_week_0 {I : II} {J : JJ} {G : II} {Wk : Nat} (hW : I 2 6 = nI Wk) (hWk : Wk ≤ 12) {j : Nat} (hj : j < Wk) : AMet SX mX6_week [.ref 0, .int (nI j), .int (nI 0)] I J G (PE (some (.int (G 12 j))) I J G) := by
  refine amet_en oX6_week rfl rfl (L := [some (.ref 0), some (.int (nI j)), some (.int (nI 0))]) rfl ?_
  refine aw_run oX6_week sxOk 3 (pc' := 5) (L' := [some (.ref 0), some (.int (nI j)), some (.int (nI 0))]) (st' := [.int (nI j), .ref 2]) (I' := I) (J' := J) (G' := G) rfl ?_
  refine aw_cV (st := []) 2 [.int (nI j)] oX4_hasWeek k6_87 rfl rfl rfl rfl rfl rfl rfl rfl (oX6_week.dec rfl) (c_hasWeek_t hW (by omega) (by omega)) ?_
  refine aw_eqS (st := [.int (nI 1)]) rfl ?_
  refine aw_0neN rfl (by omega) (oX6_week.dec rfl) (tgt := 13) rfl (fun h8 => ?_) (fun h8 => absurd h8 (by omega))
  refine aw_run oX6_week sxOk 1 (pc' := 14) (L' := [some (.ref 0), some (.int (nI j)), some (.int (nI 0))]) (st' := [.int (nI 0)]) (I' := I) (J' := J) (G' := G) rfl ?_
  refine aw_lookup (x := nI 0) (oX6_week.dec rfl) (by decide) (off := 26) (by decide) (tgt := 40) rfl ?_
  refine aw_run oX6_week sxOk 4 (pc' := 48) (L' := [some (.ref 0), some (.int (nI j)), some (.int (nI 0))]) (st' := [.int (nI j), .ref 12]) (I' := I) (J' := J) (G' := G) rfl ?_
  refine aw_iaN j sxOk rfl rfl (by omega) (oX6_week.dec rfl) ?_
  exact aw_iret rfl (oX6_week.dec rfl) pe_rfl
set_option maxRecDepth 20000 in
theorem c_week_1 {I : II} {J : JJ} {G : II} {Wk : Nat} (hW : I 2 6 = nI Wk) (hWk : Wk ≤ 12) {j : Nat} (hj : j < Wk) : AMet SX mX6_week [.ref 0, .int (nI j), .int (nI 1)] I J G (PE (some (.int (G 13 j))) I J G) := by
  refine amet_en oX6_week rfl rfl (L := [some (.ref 0), some (.int (nI j)), some (.int (nI 1))]) rfl ?_
  refine aw_run oX6_week sxOk 3 (pc' := 5) (L' := [some (.ref 0), some (.int (nI j)), some (.int (nI 1))]) (st' := [.int (nI j), .ref 2]) (I' := I) (J' := J) (G' := G) rfl ?_
  refine aw_cV (st := []) 2 [.int (nI j)] oX4_hasWeek k6_87 rfl rfl rfl rfl rfl rfl rfl rfl (oX6_week.dec rfl) (c_hasWeek_t hW (by omega) (by omega)) ?_
  refine aw_eqS (st := [.int (nI 1)]) rfl ?_
  refine aw_0neN rfl (by omega) (oX6_week.dec rfl) (tgt := 13) rfl (fun h8 => ?_) (fun h8 => absurd h8 (by omega))
  refine aw_run oX6_week sxOk 1 (pc' := 14) (L' := [some (.ref 0), some (.int (nI j)), some (.int (nI 1))]) (st' := [.int (nI 1)]) (I' := I) (J' := J) (G' := G) rfl ?_
  refine aw_lookup (x := nI 1) (oX6_week.dec rfl) (by decide) (off := 36) (by decide) (tgt := 50) rfl ?_
  refine aw_run oX6_week sxOk 4 (pc' := 58) (L' := [some (.ref 0), some (.int (nI j)), some (.int (nI 1))]) (st' := [.int (nI j), .ref 13]) (I' := I) (J' := J) (G' := G) rfl ?_
  refine aw_iaN j sxOk rfl rfl (by omega) (oX6_week.dec rfl) ?_
  exact aw_iret rfl (oX6_week.dec rfl) pe_rfl
set_option maxRecDepth 20000 in
theorem c_ship_bad {I : II} {J : JJ} {G : II} {P : Nat} (hP : I 2 7 = nI P) (hP5 : P ≤ 5) {x y : Int32} (hx : notIn x P) : AMet SX mX6_ship [.ref 0, .int x, .int y] I J G (PE (some (.int (-nI 1))) I J G) := by
  refine amet_en oX6_ship rfl rfl (L := [some (.ref 0), some (.int x), some (.int y)]) rfl ?_
  refine aw_run oX6_ship sxOk 3 (pc' := 5) (L' := [some (.ref 0), some (.int x), some (.int y)]) (st' := [.int x, .ref 2]) (I' := I) (J' := J) (G' := G) rfl ?_
  refine aw_cV (st := []) 2 [.int x] oX4_hasShip k6_97 rfl rfl rfl rfl rfl rfl rfl rfl (oX6_ship.dec rfl) (c_hasShip_f hP (by omega) (by assumption)) ?_
  refine aw_eqS (st := [.int (nI 0)]) rfl ?_
  refine aw_0neN rfl (by omega) (oX6_ship.dec rfl) (tgt := 13) rfl (fun h8 => absurd h8 (by omega)) (fun h8 => ?_)
  refine aw_run oX6_ship sxOk 1 (pc' := 12) (L' := [some (.ref 0), some (.int x), some (.int y)]) (st' := [.int (-nI 1)]) (I' := I) (J' := J) (G' := G) rfl ?_
  exact aw_iret rfl (oX6_ship.dec rfl) pe_rfl
set_option maxRecDepth 20000 in
theorem c_ship_bad2 {I : II} {J : JJ} {G : II} {P : Nat} (hP : I 2 7 = nI P) (hP5 : P ≤ 5) {j : Nat} {x : Int32} (hj : j < P) (hx : notIn x 5) : AMet SX mX6_ship [.ref 0, .int (nI j), .int x] I J G (PE (some (.int (-nI 1))) I J G) := by
  refine amet_en oX6_ship rfl rfl (L := [some (.ref 0), some (.int (nI j)), some (.int x)]) rfl ?_
  refine aw_run oX6_ship sxOk 3 (pc' := 5) (L' := [some (.ref 0), some (.int (nI j)), some (.int x)]) (st' := [.int (nI j), .ref 2]) (I' := I) (J' := J) (G' := G) rfl ?_
  refine aw_cV (st := []) 2 [.int (nI j)] oX4_hasShip k6_97 rfl rfl rfl rfl rfl rfl rfl rfl (oX6_ship.dec rfl) (c_hasShip_t hP (by omega) (by omega)) ?_
  refine aw_eqS (st := [.int (nI 1)]) rfl ?_
  refine aw_0neN rfl (by omega) (oX6_ship.dec rfl) (tgt := 13) rfl (fun h8 => ?_) (fun h8 => absurd h8 (by omega))
  refine aw_run oX6_ship sxOk 1 (pc' := 14) (L' := [some (.ref 0), some (.int (nI j)), some (.int x)]) (st' := [.int x]) (I' := I) (J' := J) (G' := G) rfl ?_
  refine aw_tableOut (x := x) (oX6_ship.dec rfl) (notIn_tab hx (by decide)) (tgt := 95) rfl ?_
  refine aw_run oX6_ship sxOk 1 (pc' := 96) (L' := [some (.ref 0), some (.int (nI j)), some (.int x)]) (st' := [.int (-nI 1)]) (I' := I) (J' := J) (G' := G) rfl ?_
  exact aw_iret rfl (oX6_ship.dec rfl) pe_rfl
set_option maxRecDepth 20000 in
theorem c_ship_0 {I : II} {J : JJ} {G : II} {P : Nat} (hP : I 2 7 = nI P) (hP5 : P ≤ 5) {j : Nat} (hj : j < P) : AMet SX mX6_ship [.ref 0, .int (nI j), .int (nI 0)] I J G (PE (some (.int (G 24 (8 + j)))) I J G) := by
  refine amet_en oX6_ship rfl rfl (L := [some (.ref 0), some (.int (nI j)), some (.int (nI 0))]) rfl ?_
  refine aw_run oX6_ship sxOk 3 (pc' := 5) (L' := [some (.ref 0), some (.int (nI j)), some (.int (nI 0))]) (st' := [.int (nI j), .ref 2]) (I' := I) (J' := J) (G' := G) rfl ?_
  refine aw_cV (st := []) 2 [.int (nI j)] oX4_hasShip k6_97 rfl rfl rfl rfl rfl rfl rfl rfl (oX6_ship.dec rfl) (c_hasShip_t hP (by omega) (by omega)) ?_
  refine aw_eqS (st := [.int (nI 1)]) rfl ?_
  refine aw_0neN rfl (by omega) (oX6_ship.dec rfl) (tgt := 13) rfl (fun h8 => ?_) (fun h8 => absurd h8 (by omega))
  refine aw_run oX6_ship sxOk 1 (pc' := 14) (L' := [some (.ref 0), some (.int (nI j)), some (.int (nI 0))]) (st' := [.int (nI 0)]) (I' := I) (J' := J) (G' := G) rfl ?_
  refine aw_tableIn (x := nI 0) (oX6_ship.dec rfl) (by decide) (by decide) (off := 34) (by decide) (tgt := 48) rfl ?_
  refine aw_run oX6_ship sxOk 3 (pc' := 53) (L' := [some (.ref 0), some (.int (nI j)), some (.int (nI 0))]) (st' := [.int (nI j), .ref 4]) (I' := I) (J' := J) (G' := G) rfl ?_
  refine aw_cV (st := []) 4 [.int (nI j)] oX2_listedOf k6_100 rfl rfl rfl rfl rfl rfl rfl rfl (oX6_ship.dec rfl) (c_listedOf (by omega)) ?_
  refine aw_eqS (st := [.int (G 24 (8 + j))]) rfl ?_
  exact aw_iret rfl (oX6_ship.dec rfl) pe_rfl
set_option maxRecDepth 20000 in
theorem c_ship_1 {I : II} {J : JJ} {G : II} {P : Nat} (hP : I 2 7 = nI P) (hP5 : P ≤ 5) {j : Nat} (hj : j < P) : AMet SX mX6_ship [.ref 0, .int (nI j), .int (nI 1)] I J G (PE (some (.int (G 24 (13 + j)))) I J G) := by
  refine amet_en oX6_ship rfl rfl (L := [some (.ref 0), some (.int (nI j)), some (.int (nI 1))]) rfl ?_
  refine aw_run oX6_ship sxOk 3 (pc' := 5) (L' := [some (.ref 0), some (.int (nI j)), some (.int (nI 1))]) (st' := [.int (nI j), .ref 2]) (I' := I) (J' := J) (G' := G) rfl ?_
  refine aw_cV (st := []) 2 [.int (nI j)] oX4_hasShip k6_97 rfl rfl rfl rfl rfl rfl rfl rfl (oX6_ship.dec rfl) (c_hasShip_t hP (by omega) (by omega)) ?_
  refine aw_eqS (st := [.int (nI 1)]) rfl ?_
  refine aw_0neN rfl (by omega) (oX6_ship.dec rfl) (tgt := 13) rfl (fun h8 => ?_) (fun h8 => absurd h8 (by omega))
  refine aw_run oX6_ship sxOk 1 (pc' := 14) (L' := [some (.ref 0), some (.int (nI j)), some (.int (nI 1))]) (st' := [.int (nI 1)]) (I' := I) (J' := J) (G' := G) rfl ?_
  refine aw_tableIn (x := nI 1) (oX6_ship.dec rfl) (by decide) (by decide) (off := 43) (by decide) (tgt := 57) rfl ?_
  refine aw_run oX6_ship sxOk 3 (pc' := 62) (L' := [some (.ref 0), some (.int (nI j)), some (.int (nI 1))]) (st' := [.int (nI j), .ref 4]) (I' := I) (J' := J) (G' := G) rfl ?_
  refine aw_cV (st := []) 4 [.int (nI j)] oX2_hiddenOf k6_104 rfl rfl rfl rfl rfl rfl rfl rfl (oX6_ship.dec rfl) (c_hiddenOf (by omega)) ?_
  refine aw_eqS (st := [.int (G 24 (13 + j))]) rfl ?_
  exact aw_iret rfl (oX6_ship.dec rfl) pe_rfl
set_option maxRecDepth 20000 in
theorem c_ship_2 {I : II} {J : JJ} {G : II} {P : Nat} (hP : I 2 7 = nI P) (hP5 : P ≤ 5) {j : Nat} (hj : j < P) : AMet SX mX6_ship [.ref 0, .int (nI j), .int (nI 2)] I J G (PE (some (.int (G 16 j))) I J G) := by
  refine amet_en oX6_ship rfl rfl (L := [some (.ref 0), some (.int (nI j)), some (.int (nI 2))]) rfl ?_
  refine aw_run oX6_ship sxOk 3 (pc' := 5) (L' := [some (.ref 0), some (.int (nI j)), some (.int (nI 2))]) (st' := [.int (nI j), .ref 2]) (I' := I) (J' := J) (G' := G) rfl ?_
  refine aw_cV (st := []) 2 [.int (nI j)] oX4_hasShip k6_97 rfl rfl rfl rfl rfl rfl rfl rfl (oX6_ship.dec rfl) (c_hasShip_t hP (by omega) (by omega)) ?_
  refine aw_eqS (st := [.int (nI 1)]) rfl ?_
  refine aw_0neN rfl (by omega) (oX6_ship.dec rfl) (tgt := 13) rfl (fun h8 => ?_) (fun h8 => absurd h8 (by omega))
  refine aw_run oX6_ship sxOk 1 (pc' := 14) (L' := [some (.ref 0), some (.int (nI j)), some (.int (nI 2))]) (st' := [.int (nI 2)]) (I' := I) (J' := J) (G' := G) rfl ?_
  refine aw_tableIn (x := nI 2) (oX6_ship.dec rfl) (by decide) (by decide) (off := 52) (by decide) (tgt := 66) rfl ?_
  refine aw_run oX6_ship sxOk 4 (pc' := 74) (L' := [some (.ref 0), some (.int (nI j)), some (.int (nI 2))]) (st' := [.int (nI j), .ref 16]) (I' := I) (J' := J) (G' := G) rfl ?_
  refine aw_iaN j sxOk rfl rfl (by omega) (oX6_ship.dec rfl) ?_
  exact aw_iret rfl (oX6_ship.dec rfl) pe_rfl
set_option maxRecDepth 20000 in
theorem c_ship_3 {I : II} {J : JJ} {G : II} {P : Nat} (hP : I 2 7 = nI P) (hP5 : P ≤ 5) {j : Nat} (hj : j < P) : AMet SX mX6_ship [.ref 0, .int (nI j), .int (nI 3)] I J G (PE (some (.int (G 17 j))) I J G) := by
  refine amet_en oX6_ship rfl rfl (L := [some (.ref 0), some (.int (nI j)), some (.int (nI 3))]) rfl ?_
  refine aw_run oX6_ship sxOk 3 (pc' := 5) (L' := [some (.ref 0), some (.int (nI j)), some (.int (nI 3))]) (st' := [.int (nI j), .ref 2]) (I' := I) (J' := J) (G' := G) rfl ?_
  refine aw_cV (st := []) 2 [.int (nI j)] oX4_hasShip k6_97 rfl rfl rfl rfl rfl rfl rfl rfl (oX6_ship.dec rfl) (c_hasShip_t hP (by omega) (by omega)) ?_
  refine aw_eqS (st := [.int (nI 1)]) rfl ?_
  refine aw_0neN rfl (by omega) (oX6_ship.dec rfl) (tgt := 13) rfl (fun h8 => ?_) (fun h8 => absurd h8 (by omega))
  refine aw_run oX6_ship sxOk 1 (pc' := 14) (L' := [some (.ref 0), some (.int (nI j)), some (.int (nI 3))]) (st' := [.int (nI 3)]) (I' := I) (J' := J) (G' := G) rfl ?_
  refine aw_tableIn (x := nI 3) (oX6_ship.dec rfl) (by decide) (by decide) (off := 62) (by decide) (tgt := 76) rfl ?_
  refine aw_run oX6_ship sxOk 4 (pc' := 84) (L' := [some (.ref 0), some (.int (nI j)), some (.int (nI 3))]) (st' := [.int (nI j), .ref 17]) (I' := I) (J' := J) (G' := G) rfl ?_
  refine aw_iaN j sxOk rfl rfl (by omega) (oX6_ship.dec rfl) ?_
  exact aw_iret rfl (oX6_ship.dec rfl) pe_rfl
set_option maxRecDepth 20000 in
theorem c_ship_4 {I : II} {J : JJ} {G : II} {P : Nat} (hP : I 2 7 = nI P) (hP5 : P ≤ 5) {j : Nat} (hj : j < P) : AMet SX mX6_ship [.ref 0, .int (nI j), .int (nI 4)] I J G (PE (some (.int (G 24 (3 + j)))) I J G) := by
  refine amet_en oX6_ship rfl rfl (L := [some (.ref 0), some (.int (nI j)), some (.int (nI 4))]) rfl ?_
  refine aw_run oX6_ship sxOk 3 (pc' := 5) (L' := [some (.ref 0), some (.int (nI j)), some (.int (nI 4))]) (st' := [.int (nI j), .ref 2]) (I' := I) (J' := J) (G' := G) rfl ?_
  refine aw_cV (st := []) 2 [.int (nI j)] oX4_hasShip k6_97 rfl rfl rfl rfl rfl rfl rfl rfl (oX6_ship.dec rfl) (c_hasShip_t hP (by omega) (by omega)) ?_
  refine aw_eqS (st := [.int (nI 1)]) rfl ?_
  refine aw_0neN rfl (by omega) (oX6_ship.dec rfl) (tgt := 13) rfl (fun h8 => ?_) (fun h8 => absurd h8 (by omega))
  refine aw_run oX6_ship sxOk 1 (pc' := 14) (L' := [some (.ref 0), some (.int (nI j)), some (.int (nI 4))]) (st' := [.int (nI 4)]) (I' := I) (J' := J) (G' := G) rfl ?_
  refine aw_tableIn (x := nI 4) (oX6_ship.dec rfl) (by decide) (by decide) (off := 72) (by decide) (tgt := 86) rfl ?_
  refine aw_run oX6_ship sxOk 3 (pc' := 91) (L' := [some (.ref 0), some (.int (nI j)), some (.int (nI 4))]) (st' := [.int (nI j), .ref 4]) (I' := I) (J' := J) (G' := G) rfl ?_
  refine aw_cV (st := []) 4 [.int (nI j)] oX2_placeOf k6_113 rfl rfl rfl rfl rfl rfl rfl rfl (oX6_ship.dec rfl) (c_placeOf (by omega)) ?_
  refine aw_eqS (st := [.int (G 24 (3 + j))]) rfl ?_
  exact aw_iret rfl (oX6_ship.dec rfl) pe_rfl
set_option maxRecDepth 20000 in
theorem c_waits_over {I : II} {J : JJ} {G : II} {Wk : Nat} (hW : I 2 6 = nI Wk) (hWk : Wk ≤ 12) {t : Nat} (ht : G 24 0 = nI t) (ht12 : t ≤ 12) (ho : Wk ≤ t) : AMet SX mX6_waits [.ref 0] I J G (PE (some (.int (-nI 2))) I J G) := by
  refine amet_en oX6_waits rfl rfl (L := [some (.ref 0)]) rfl ?_
  refine aw_run oX6_waits sxOk 1 (pc' := 1) (L' := [some (.ref 0)]) (st' := [.ref 0]) (I' := I) (J' := J) (G' := G) rfl ?_
  refine aw_cV (st := []) 0 [] oX6_isOver k6_116 rfl rfl rfl rfl rfl rfl rfl rfl (oX6_waits.dec rfl) (c_isOver hW hWk ht (by omega)) ?_
  refine aw_eqS (st := [.int (b1 (decide (Wk ≤ t)))]) rfl ?_
  refine aw_0eqD (oX6_waits.dec rfl) (tgt := 10) rfl (fun h4 => absurd h4 (by omega)) (fun h4 => ?_)
  refine aw_run oX6_waits sxOk 1 (pc' := 9) (L' := [some (.ref 0)]) (st' := [.int (-nI 2)]) (I' := I) (J' := J) (G' := G) rfl ?_
  exact aw_iret rfl (oX6_waits.dec rfl) pe_rfl
set_option maxRecDepth 20000 in
theorem c_waits_ok {I : II} {J : JJ} {G : II} {Wk : Nat} (hW : I 2 6 = nI Wk) (hWk : Wk ≤ 12) {t : Nat} (ht : G 24 0 = nI t) (ht12 : t ≤ 12) {K : Nat} (hK : I 4 2 = nI K) (hK10 : K ≤ 10) (ho : t < Wk) : AMet SX mX6_waits [.ref 0] I J G (PE (some (.int ((upd (G 24) 0 ((G 24 0) + (nI 1))) 0))) (up2 I 4 2 (nI (remK K))) J (va_up (va_up G 25 (remP (G 24) (G 25) K)) 24 (upd (G 24) 0 ((G 24 0) + (nI 1))))) := by
  refine amet_en oX6_waits rfl rfl (L := [some (.ref 0)]) rfl ?_
  refine aw_run oX6_waits sxOk 1 (pc' := 1) (L' := [some (.ref 0)]) (st' := [.ref 0]) (I' := I) (J' := J) (G' := G) rfl ?_
  refine aw_cV (st := []) 0 [] oX6_isOver k6_116 rfl rfl rfl rfl rfl rfl rfl rfl (oX6_waits.dec rfl) (c_isOver hW hWk ht (by omega)) ?_
  refine aw_eqS (st := [.int (b1 (decide (Wk ≤ t)))]) rfl ?_
  refine aw_0eqD (oX6_waits.dec rfl) (tgt := 10) rfl (fun h4 => ?_) (fun h4 => absurd h4 (by omega))
  refine aw_run oX6_waits sxOk 2 (pc' := 14) (L' := [some (.ref 0)]) (st' := [.ref 4]) (I' := I) (J' := J) (G' := G) rfl ?_
  refine aw_cV (st := []) 4 [] oX2_remember k6_120 rfl rfl rfl rfl rfl rfl rfl rfl (oX6_waits.dec rfl) (c_remember hK (by omega)) ?_
  refine aw_eqG (G' := va_up G 25 (remP (G 24) (G 25) K)) (rfl) ?_
  refine aw_eqS (st := []) rfl ?_
  refine aw_run oX6_waits sxOk 5 (pc' := 26) (L' := [some (.ref 0)]) (st' := [.int (nI 0), .ref 24, .int (nI 0), .ref 24]) (I' := up2 I 4 2 (nI (remK K))) (J' := J) (G' := va_up G 25 (remP (G 24) (G 25) K)) rfl ?_
  refine aw_iaN 0 sxOk rfl rfl (by omega) (oX6_waits.dec rfl) ?_
  refine aw_eqS (st := [.int (G 24 0), .int (nI 0), .ref 24]) rfl ?_
  refine aw_run oX6_waits sxOk 2 (pc' := 29) (L' := [some (.ref 0)]) (st' := [.int ((G 24 0) + (nI 1)), .int (nI 0), .ref 24]) (I' := up2 I 4 2 (nI (remK K))) (J' := J) (G' := va_up G 25 (remP (G 24) (G 25) K)) rfl ?_
  refine aw_isN 0 sxOk rfl rfl (by omega) (oX6_waits.dec rfl) ?_
  refine aw_eqG (G' := va_up (va_up G 25 (remP (G 24) (G 25) K)) 24 (upd (G 24) 0 ((G 24 0) + (nI 1)))) (rfl) ?_
  refine aw_run oX6_waits sxOk 2 (pc' := 34) (L' := [some (.ref 0)]) (st' := [.ref 4]) (I' := up2 I 4 2 (nI (remK K))) (J' := J) (G' := va_up (va_up G 25 (remP (G 24) (G 25) K)) 24 (upd (G 24) 0 ((G 24 0) + (nI 1)))) rfl ?_
  refine aw_cV (st := []) 4 [] oX2_theWeek k6_126 rfl rfl rfl rfl rfl rfl rfl rfl (oX6_waits.dec rfl) c_theWeek ?_
  refine aw_eqS (st := [.int ((upd (G 24) 0 ((G 24 0) + (nI 1))) 0)]) rfl ?_
  exact aw_iret rfl (oX6_waits.dec rfl) pe_rfl
set_option maxRecDepth 20000 in
theorem c_lists_bad {I : II} {J : JJ} {G : II} {P : Nat} (hP : I 2 7 = nI P) (hP5 : P ≤ 5) {x y : Int32} (hx : notIn x P) : AMet SX mX6_lists [.ref 0, .int x, .int y] I J G (PE (some (.int (-nI 1))) I J G) := by
  refine amet_en oX6_lists rfl rfl (L := [some (.ref 0), some (.int x), some (.int y)]) rfl ?_
  refine aw_run oX6_lists sxOk 3 (pc' := 5) (L' := [some (.ref 0), some (.int x), some (.int y)]) (st' := [.int x, .ref 2]) (I' := I) (J' := J) (G' := G) rfl ?_
  refine aw_cV (st := []) 2 [.int x] oX4_hasShip k6_97 rfl rfl rfl rfl rfl rfl rfl rfl (oX6_lists.dec rfl) (c_hasShip_f hP (by omega) (by assumption)) ?_
  refine aw_eqS (st := [.int (nI 0)]) rfl ?_
  refine aw_0eqN rfl (by omega) (oX6_lists.dec rfl) (tgt := 22) rfl (fun h8 => ?_) (fun h8 => absurd h8 (by omega))
  refine aw_run oX6_lists sxOk 1 (pc' := 23) (L' := [some (.ref 0), some (.int x), some (.int y)]) (st' := [.int (-nI 1)]) (I' := I) (J' := J) (G' := G) rfl ?_
  exact aw_iret rfl (oX6_lists.dec rfl) pe_rfl
set_option maxRecDepth 20000 in
theorem c_lists_bad0 {I : II} {J : JJ} {G : II} {P : Nat} (hP : I 2 7 = nI P) (hP5 : P ≤ 5) {s : Nat} (hs : s < P) : AMet SX mX6_lists [.ref 0, .int (nI s), .int (nI 0)] I J G (PE (some (.int (-nI 1))) I J G) := by
  refine amet_en oX6_lists rfl rfl (L := [some (.ref 0), some (.int (nI s)), some (.int (nI 0))]) rfl ?_
  refine aw_run oX6_lists sxOk 3 (pc' := 5) (L' := [some (.ref 0), some (.int (nI s)), some (.int (nI 0))]) (st' := [.int (nI s), .ref 2]) (I' := I) (J' := J) (G' := G) rfl ?_
  refine aw_cV (st := []) 2 [.int (nI s)] oX4_hasShip k6_97 rfl rfl rfl rfl rfl rfl rfl rfl (oX6_lists.dec rfl) (c_hasShip_t hP (by omega) (by omega)) ?_
  refine aw_eqS (st := [.int (nI 1)]) rfl ?_
  refine aw_0eqN rfl (by omega) (oX6_lists.dec rfl) (tgt := 22) rfl (fun h8 => absurd h8 (by omega)) (fun h8 => ?_)
  refine aw_run oX6_lists sxOk 2 (pc' := 13) (L' := [some (.ref 0), some (.int (nI s)), some (.int (nI 0))]) (st' := [.int (nI 1), .int (nI 0)]) (I' := I) (J' := J) (G' := G) rfl ?_
  refine aw_ltN rfl rfl (by omega) (by omega) (oX6_lists.dec rfl) (tgt := 22) rfl (fun h13 => ?_) (fun h13 => absurd h13 (by omega))
  refine aw_run oX6_lists sxOk 1 (pc' := 23) (L' := [some (.ref 0), some (.int (nI s)), some (.int (nI 0))]) (st' := [.int (-nI 1)]) (I' := I) (J' := J) (G' := G) rfl ?_
  exact aw_iret rfl (oX6_lists.dec rfl) pe_rfl
set_option maxRecDepth 20000 in
theorem c_lists_bad2 {I : II} {J : JJ} {G : II} {P : Nat} (hP : I 2 7 = nI P) (hP5 : P ≤ 5) {s : Nat} {x : Int32} (hs : s < P) (hx : notIn x 61) : AMet SX mX6_lists [.ref 0, .int (nI s), .int x] I J G (PE (some (.int (-nI 1))) I J G) := by
  refine amet_en oX6_lists rfl rfl (L := [some (.ref 0), some (.int (nI s)), some (.int x)]) rfl ?_
  refine aw_run oX6_lists sxOk 3 (pc' := 5) (L' := [some (.ref 0), some (.int (nI s)), some (.int x)]) (st' := [.int (nI s), .ref 2]) (I' := I) (J' := J) (G' := G) rfl ?_
  refine aw_cV (st := []) 2 [.int (nI s)] oX4_hasShip k6_97 rfl rfl rfl rfl rfl rfl rfl rfl (oX6_lists.dec rfl) (c_hasShip_t hP (by omega) (by omega)) ?_
  refine aw_eqS (st := [.int (nI 1)]) rfl ?_
  refine aw_0eqN rfl (by omega) (oX6_lists.dec rfl) (tgt := 22) rfl (fun h8 => absurd h8 (by omega)) (fun h8 => ?_)
  refine aw_run oX6_lists sxOk 2 (pc' := 13) (L' := [some (.ref 0), some (.int (nI s)), some (.int x)]) (st' := [.int (nI 1), .int x]) (I' := I) (J' := J) (G' := G) rfl ?_
  refine aw_icmp_lt (oX6_lists.dec rfl) (tgt := 22) rfl (fun h13 => ?_) (fun h13 => ?_)
  · refine aw_run oX6_lists sxOk 1 (pc' := 23) (L' := [some (.ref 0), some (.int (nI s)), some (.int x)]) (st' := [.int (-nI 1)]) (I' := I) (J' := J) (G' := G) rfl ?_
    exact aw_iret rfl (oX6_lists.dec rfl) pe_rfl
  · refine aw_run oX6_lists sxOk 2 (pc' := 19) (L' := [some (.ref 0), some (.int (nI s)), some (.int x)]) (st' := [.int (nI 60), .int x]) (I' := I) (J' := J) (G' := G) rfl ?_
    refine aw_icmp_le (oX6_lists.dec rfl) (tgt := 24) rfl (fun h19 => absurd h19 (Int32.not_le.mpr (notIn_gt hx (by decide) (fun h => h13 (Int32.lt_trans h (by decide)))))) (fun h19 => ?_)
    refine aw_run oX6_lists sxOk 1 (pc' := 23) (L' := [some (.ref 0), some (.int (nI s)), some (.int x)]) (st' := [.int (-nI 1)]) (I' := I) (J' := J) (G' := G) rfl ?_
    exact aw_iret rfl (oX6_lists.dec rfl) pe_rfl
set_option maxRecDepth 20000 in
theorem c_lists_port {I : II} {J : JJ} {G : II} {P : Nat} (hP : I 2 7 = nI P) (hP5 : P ≤ 5) {s k : Nat} (hs : s < P) (hk1 : 1 ≤ k) (hk : k ≤ 60) (hp : ¬ G 24 (3 + s) = nI 0) : AMet SX mX6_lists [.ref 0, .int (nI s), .int (nI k)] I J G (PE (some (.int (-nI 2))) I J G) := by
  refine amet_en oX6_lists rfl rfl (L := [some (.ref 0), some (.int (nI s)), some (.int (nI k))]) rfl ?_
  refine aw_run oX6_lists sxOk 3 (pc' := 5) (L' := [some (.ref 0), some (.int (nI s)), some (.int (nI k))]) (st' := [.int (nI s), .ref 2]) (I' := I) (J' := J) (G' := G) rfl ?_
  refine aw_cV (st := []) 2 [.int (nI s)] oX4_hasShip k6_97 rfl rfl rfl rfl rfl rfl rfl rfl (oX6_lists.dec rfl) (c_hasShip_t hP (by omega) (by omega)) ?_
  refine aw_eqS (st := [.int (nI 1)]) rfl ?_
  refine aw_0eqN rfl (by omega) (oX6_lists.dec rfl) (tgt := 22) rfl (fun h8 => absurd h8 (by omega)) (fun h8 => ?_)
  refine aw_run oX6_lists sxOk 2 (pc' := 13) (L' := [some (.ref 0), some (.int (nI s)), some (.int (nI k))]) (st' := [.int (nI 1), .int (nI k)]) (I' := I) (J' := J) (G' := G) rfl ?_
  refine aw_ltN rfl rfl (by omega) (by omega) (oX6_lists.dec rfl) (tgt := 22) rfl (fun h13 => absurd h13 (by omega)) (fun h13 => ?_)
  refine aw_run oX6_lists sxOk 2 (pc' := 19) (L' := [some (.ref 0), some (.int (nI s)), some (.int (nI k))]) (st' := [.int (nI 60), .int (nI k)]) (I' := I) (J' := J) (G' := G) rfl ?_
  refine aw_leN rfl rfl (by omega) (by omega) (oX6_lists.dec rfl) (tgt := 24) rfl (fun h19 => ?_) (fun h19 => absurd h19 (by omega))
  refine aw_run oX6_lists sxOk 3 (pc' := 29) (L' := [some (.ref 0), some (.int (nI s)), some (.int (nI k))]) (st' := [.int (nI s), .ref 4]) (I' := I) (J' := J) (G' := G) rfl ?_
  refine aw_cV (st := []) 4 [.int (nI s)] oX2_isInPort k6_151 rfl rfl rfl rfl rfl rfl rfl rfl (oX6_lists.dec rfl) (c_isInPort (by omega)) ?_
  refine aw_eqS (st := [.int (b1 (decide (G 24 (3 + s) = nI 0)))]) rfl ?_
  refine aw_0eqD (oX6_lists.dec rfl) (tgt := 62) rfl (fun h32 => ?_) (fun h32 => by first | exact absurd h32 (by assumption) | exact absurd (by assumption) h32 | (exfalso; revert h32; decide) | simp_all)
  refine aw_run oX6_lists sxOk 1 (pc' := 64) (L' := [some (.ref 0), some (.int (nI s)), some (.int (nI k))]) (st' := [.int (-nI 2)]) (I' := I) (J' := J) (G' := G) rfl ?_
  exact aw_iret rfl (oX6_lists.dec rfl) pe_rfl
set_option maxRecDepth 20000 in
theorem c_lists_few {I : II} {J : JJ} {G : II} {P : Nat} (hP : I 2 7 = nI P) (hP5 : P ≤ 5) {s k : Nat} (hs : s < P) (hk1 : 1 ≤ k) (hk : k ≤ 60) (hp : G 24 (3 + s) = nI 0) {l h : Nat} (hl : G 24 (8 + s) = nI l) (hh : G 24 (13 + s) = nI h) (hl60 : l ≤ 60) (hh60 : h ≤ 60) (hf : h < k) : AMet SX mX6_lists [.ref 0, .int (nI s), .int (nI k)] I J G (PE (some (.int (-nI 2))) I J G) := by
  refine amet_en oX6_lists rfl rfl (L := [some (.ref 0), some (.int (nI s)), some (.int (nI k))]) rfl ?_
  refine aw_run oX6_lists sxOk 3 (pc' := 5) (L' := [some (.ref 0), some (.int (nI s)), some (.int (nI k))]) (st' := [.int (nI s), .ref 2]) (I' := I) (J' := J) (G' := G) rfl ?_
  refine aw_cV (st := []) 2 [.int (nI s)] oX4_hasShip k6_97 rfl rfl rfl rfl rfl rfl rfl rfl (oX6_lists.dec rfl) (c_hasShip_t hP (by omega) (by omega)) ?_
  refine aw_eqS (st := [.int (nI 1)]) rfl ?_
  refine aw_0eqN rfl (by omega) (oX6_lists.dec rfl) (tgt := 22) rfl (fun h8 => absurd h8 (by omega)) (fun h8 => ?_)
  refine aw_run oX6_lists sxOk 2 (pc' := 13) (L' := [some (.ref 0), some (.int (nI s)), some (.int (nI k))]) (st' := [.int (nI 1), .int (nI k)]) (I' := I) (J' := J) (G' := G) rfl ?_
  refine aw_ltN rfl rfl (by omega) (by omega) (oX6_lists.dec rfl) (tgt := 22) rfl (fun h13 => absurd h13 (by omega)) (fun h13 => ?_)
  refine aw_run oX6_lists sxOk 2 (pc' := 19) (L' := [some (.ref 0), some (.int (nI s)), some (.int (nI k))]) (st' := [.int (nI 60), .int (nI k)]) (I' := I) (J' := J) (G' := G) rfl ?_
  refine aw_leN rfl rfl (by omega) (by omega) (oX6_lists.dec rfl) (tgt := 24) rfl (fun h19 => ?_) (fun h19 => absurd h19 (by omega))
  refine aw_run oX6_lists sxOk 3 (pc' := 29) (L' := [some (.ref 0), some (.int (nI s)), some (.int (nI k))]) (st' := [.int (nI s), .ref 4]) (I' := I) (J' := J) (G' := G) rfl ?_
  refine aw_cV (st := []) 4 [.int (nI s)] oX2_isInPort k6_151 rfl rfl rfl rfl rfl rfl rfl rfl (oX6_lists.dec rfl) (c_isInPort (by omega)) ?_
  refine aw_eqS (st := [.int (b1 (decide (G 24 (3 + s) = nI 0)))]) rfl ?_
  refine aw_0eqD (oX6_lists.dec rfl) (tgt := 62) rfl (fun h32 => by first | exact absurd h32 (by assumption) | exact absurd (by assumption) h32 | (exfalso; revert h32; decide) | simp_all) (fun h32 => ?_)
  refine aw_run oX6_lists sxOk 3 (pc' := 40) (L' := [some (.ref 0), some (.int (nI s)), some (.int (nI k))]) (st' := [.int (nI s), .ref 4]) (I' := I) (J' := J) (G' := G) rfl ?_
  refine aw_cV (st := []) 4 [.int (nI s)] oX2_hiddenOf k6_104 rfl rfl rfl rfl rfl rfl rfl rfl (oX6_lists.dec rfl) (c_hiddenOf (by omega)) ?_
  refine aw_eqS (st := [.int (G 24 (13 + s))]) rfl ?_
  refine aw_run oX6_lists sxOk 1 (pc' := 44) (L' := [some (.ref 0), some (.int (nI s)), some (.int (nI k))]) (st' := [.int (nI k), .int (G 24 (13 + s))]) (I' := I) (J' := J) (G' := G) rfl ?_
  refine aw_ltN hh rfl (by omega) (by omega) (oX6_lists.dec rfl) (tgt := 62) rfl (fun h44 => ?_) (fun h44 => absurd h44 (by omega))
  refine aw_run oX6_lists sxOk 1 (pc' := 64) (L' := [some (.ref 0), some (.int (nI s)), some (.int (nI k))]) (st' := [.int (-nI 2)]) (I' := I) (J' := J) (G' := G) rfl ?_
  exact aw_iret rfl (oX6_lists.dec rfl) pe_rfl
set_option maxRecDepth 20000 in
theorem c_lists_many {I : II} {J : JJ} {G : II} {P : Nat} (hP : I 2 7 = nI P) (hP5 : P ≤ 5) {s k : Nat} (hs : s < P) (hk1 : 1 ≤ k) (hk : k ≤ 60) (hp : G 24 (3 + s) = nI 0) {l h : Nat} (hl : G 24 (8 + s) = nI l) (hh : G 24 (13 + s) = nI h) (hl60 : l ≤ 60) (hh60 : h ≤ 60) (hf : k ≤ h) (hm : 60 < l + k) : AMet SX mX6_lists [.ref 0, .int (nI s), .int (nI k)] I J G (PE (some (.int (-nI 2))) I J G) := by
  refine amet_en oX6_lists rfl rfl (L := [some (.ref 0), some (.int (nI s)), some (.int (nI k))]) rfl ?_
  refine aw_run oX6_lists sxOk 3 (pc' := 5) (L' := [some (.ref 0), some (.int (nI s)), some (.int (nI k))]) (st' := [.int (nI s), .ref 2]) (I' := I) (J' := J) (G' := G) rfl ?_
  refine aw_cV (st := []) 2 [.int (nI s)] oX4_hasShip k6_97 rfl rfl rfl rfl rfl rfl rfl rfl (oX6_lists.dec rfl) (c_hasShip_t hP (by omega) (by omega)) ?_
  refine aw_eqS (st := [.int (nI 1)]) rfl ?_
  refine aw_0eqN rfl (by omega) (oX6_lists.dec rfl) (tgt := 22) rfl (fun h8 => absurd h8 (by omega)) (fun h8 => ?_)
  refine aw_run oX6_lists sxOk 2 (pc' := 13) (L' := [some (.ref 0), some (.int (nI s)), some (.int (nI k))]) (st' := [.int (nI 1), .int (nI k)]) (I' := I) (J' := J) (G' := G) rfl ?_
  refine aw_ltN rfl rfl (by omega) (by omega) (oX6_lists.dec rfl) (tgt := 22) rfl (fun h13 => absurd h13 (by omega)) (fun h13 => ?_)
  refine aw_run oX6_lists sxOk 2 (pc' := 19) (L' := [some (.ref 0), some (.int (nI s)), some (.int (nI k))]) (st' := [.int (nI 60), .int (nI k)]) (I' := I) (J' := J) (G' := G) rfl ?_
  refine aw_leN rfl rfl (by omega) (by omega) (oX6_lists.dec rfl) (tgt := 24) rfl (fun h19 => ?_) (fun h19 => absurd h19 (by omega))
  refine aw_run oX6_lists sxOk 3 (pc' := 29) (L' := [some (.ref 0), some (.int (nI s)), some (.int (nI k))]) (st' := [.int (nI s), .ref 4]) (I' := I) (J' := J) (G' := G) rfl ?_
  refine aw_cV (st := []) 4 [.int (nI s)] oX2_isInPort k6_151 rfl rfl rfl rfl rfl rfl rfl rfl (oX6_lists.dec rfl) (c_isInPort (by omega)) ?_
  refine aw_eqS (st := [.int (b1 (decide (G 24 (3 + s) = nI 0)))]) rfl ?_
  refine aw_0eqD (oX6_lists.dec rfl) (tgt := 62) rfl (fun h32 => by first | exact absurd h32 (by assumption) | exact absurd (by assumption) h32 | (exfalso; revert h32; decide) | simp_all) (fun h32 => ?_)
  refine aw_run oX6_lists sxOk 3 (pc' := 40) (L' := [some (.ref 0), some (.int (nI s)), some (.int (nI k))]) (st' := [.int (nI s), .ref 4]) (I' := I) (J' := J) (G' := G) rfl ?_
  refine aw_cV (st := []) 4 [.int (nI s)] oX2_hiddenOf k6_104 rfl rfl rfl rfl rfl rfl rfl rfl (oX6_lists.dec rfl) (c_hiddenOf (by omega)) ?_
  refine aw_eqS (st := [.int (G 24 (13 + s))]) rfl ?_
  refine aw_run oX6_lists sxOk 1 (pc' := 44) (L' := [some (.ref 0), some (.int (nI s)), some (.int (nI k))]) (st' := [.int (nI k), .int (G 24 (13 + s))]) (I' := I) (J' := J) (G' := G) rfl ?_
  refine aw_ltN hh rfl (by omega) (by omega) (oX6_lists.dec rfl) (tgt := 62) rfl (fun h44 => absurd h44 (by omega)) (fun h44 => ?_)
  refine aw_run oX6_lists sxOk 3 (pc' := 52) (L' := [some (.ref 0), some (.int (nI s)), some (.int (nI k))]) (st' := [.int (nI s), .ref 4]) (I' := I) (J' := J) (G' := G) rfl ?_
  refine aw_cV (st := []) 4 [.int (nI s)] oX2_listedOf k6_100 rfl rfl rfl rfl rfl rfl rfl rfl (oX6_lists.dec rfl) (c_listedOf (by omega)) ?_
  refine aw_eqS (st := [.int (G 24 (8 + s))]) rfl ?_
  refine aw_run oX6_lists sxOk 3 (pc' := 59) (L' := [some (.ref 0), some (.int (nI s)), some (.int (nI k))]) (st' := [.int (nI 60), .int ((G 24 (8 + s)) + (nI k))]) (I' := I) (J' := J) (G' := G) rfl ?_
  refine aw_leN (addN hl rfl) rfl (by omega) (by omega) (oX6_lists.dec rfl) (tgt := 65) rfl (fun h59 => absurd h59 (by omega)) (fun h59 => ?_)
  refine aw_run oX6_lists sxOk 1 (pc' := 64) (L' := [some (.ref 0), some (.int (nI s)), some (.int (nI k))]) (st' := [.int (-nI 2)]) (I' := I) (J' := J) (G' := G) rfl ?_
  exact aw_iret rfl (oX6_lists.dec rfl) pe_rfl
set_option maxRecDepth 20000 in
theorem c_lists_ok {I : II} {J : JJ} {G : II} {P : Nat} (hP : I 2 7 = nI P) (hP5 : P ≤ 5) {s k : Nat} (hs : s < P) (hk1 : 1 ≤ k) (hk : k ≤ 60) {K : Nat} (hK : I 4 2 = nI K) (hK10 : K ≤ 10) (hp : G 24 (3 + s) = nI 0) {l h : Nat} (hl : G 24 (8 + s) = nI l) (hh : G 24 (13 + s) = nI h) (hl60 : l ≤ 60) (hh60 : h ≤ 60) (hf : k ≤ h) (hm : l + k ≤ 60) : AMet SX mX6_lists [.ref 0, .int (nI s), .int (nI k)] I J G (PE (some (.int ((upd (upd (G 24) (8 + s) (nI (l + k))) (13 + s) (nI (h - k))) (8 + s)))) (up2 I 4 2 (nI (remK K))) J (va_up (va_up G 25 (remP (G 24) (G 25) K)) 24 (upd (upd (G 24) (8 + s) (nI (l + k))) (13 + s) (nI (h - k))))) := by
  refine amet_en oX6_lists rfl rfl (L := [some (.ref 0), some (.int (nI s)), some (.int (nI k))]) rfl ?_
  refine aw_run oX6_lists sxOk 3 (pc' := 5) (L' := [some (.ref 0), some (.int (nI s)), some (.int (nI k))]) (st' := [.int (nI s), .ref 2]) (I' := I) (J' := J) (G' := G) rfl ?_
  refine aw_cV (st := []) 2 [.int (nI s)] oX4_hasShip k6_97 rfl rfl rfl rfl rfl rfl rfl rfl (oX6_lists.dec rfl) (c_hasShip_t hP (by omega) (by omega)) ?_
  refine aw_eqS (st := [.int (nI 1)]) rfl ?_
  refine aw_0eqN rfl (by omega) (oX6_lists.dec rfl) (tgt := 22) rfl (fun h8 => absurd h8 (by omega)) (fun h8 => ?_)
  refine aw_run oX6_lists sxOk 2 (pc' := 13) (L' := [some (.ref 0), some (.int (nI s)), some (.int (nI k))]) (st' := [.int (nI 1), .int (nI k)]) (I' := I) (J' := J) (G' := G) rfl ?_
  refine aw_ltN rfl rfl (by omega) (by omega) (oX6_lists.dec rfl) (tgt := 22) rfl (fun h13 => absurd h13 (by omega)) (fun h13 => ?_)
  refine aw_run oX6_lists sxOk 2 (pc' := 19) (L' := [some (.ref 0), some (.int (nI s)), some (.int (nI k))]) (st' := [.int (nI 60), .int (nI k)]) (I' := I) (J' := J) (G' := G) rfl ?_
  refine aw_leN rfl rfl (by omega) (by omega) (oX6_lists.dec rfl) (tgt := 24) rfl (fun h19 => ?_) (fun h19 => absurd h19 (by omega))
  refine aw_run oX6_lists sxOk 3 (pc' := 29) (L' := [some (.ref 0), some (.int (nI s)), some (.int (nI k))]) (st' := [.int (nI s), .ref 4]) (I' := I) (J' := J) (G' := G) rfl ?_
  refine aw_cV (st := []) 4 [.int (nI s)] oX2_isInPort k6_151 rfl rfl rfl rfl rfl rfl rfl rfl (oX6_lists.dec rfl) (c_isInPort (by omega)) ?_
  refine aw_eqS (st := [.int (b1 (decide (G 24 (3 + s) = nI 0)))]) rfl ?_
  refine aw_0eqD (oX6_lists.dec rfl) (tgt := 62) rfl (fun h32 => by first | exact absurd h32 (by assumption) | exact absurd (by assumption) h32 | (exfalso; revert h32; decide) | simp_all) (fun h32 => ?_)
  refine aw_run oX6_lists sxOk 3 (pc' := 40) (L' := [some (.ref 0), some (.int (nI s)), some (.int (nI k))]) (st' := [.int (nI s), .ref 4]) (I' := I) (J' := J) (G' := G) rfl ?_
  refine aw_cV (st := []) 4 [.int (nI s)] oX2_hiddenOf k6_104 rfl rfl rfl rfl rfl rfl rfl rfl (oX6_lists.dec rfl) (c_hiddenOf (by omega)) ?_
  refine aw_eqS (st := [.int (G 24 (13 + s))]) rfl ?_
  refine aw_run oX6_lists sxOk 1 (pc' := 44) (L' := [some (.ref 0), some (.int (nI s)), some (.int (nI k))]) (st' := [.int (nI k), .int (G 24 (13 + s))]) (I' := I) (J' := J) (G' := G) rfl ?_
  refine aw_ltN hh rfl (by omega) (by omega) (oX6_lists.dec rfl) (tgt := 62) rfl (fun h44 => absurd h44 (by omega)) (fun h44 => ?_)
  refine aw_run oX6_lists sxOk 3 (pc' := 52) (L' := [some (.ref 0), some (.int (nI s)), some (.int (nI k))]) (st' := [.int (nI s), .ref 4]) (I' := I) (J' := J) (G' := G) rfl ?_
  refine aw_cV (st := []) 4 [.int (nI s)] oX2_listedOf k6_100 rfl rfl rfl rfl rfl rfl rfl rfl (oX6_lists.dec rfl) (c_listedOf (by omega)) ?_
  refine aw_eqS (st := [.int (G 24 (8 + s))]) rfl ?_
  refine aw_run oX6_lists sxOk 3 (pc' := 59) (L' := [some (.ref 0), some (.int (nI s)), some (.int (nI k))]) (st' := [.int (nI 60), .int ((G 24 (8 + s)) + (nI k))]) (I' := I) (J' := J) (G' := G) rfl ?_
  refine aw_leN (addN hl rfl) rfl (by omega) (by omega) (oX6_lists.dec rfl) (tgt := 65) rfl (fun h59 => ?_) (fun h59 => absurd h59 (by omega))
  refine aw_run oX6_lists sxOk 2 (pc' := 69) (L' := [some (.ref 0), some (.int (nI s)), some (.int (nI k))]) (st' := [.ref 4]) (I' := I) (J' := J) (G' := G) rfl ?_
  refine aw_cV (st := []) 4 [] oX2_remember k6_120 rfl rfl rfl rfl rfl rfl rfl rfl (oX6_lists.dec rfl) (c_remember hK (by omega)) ?_
  refine aw_eqG (G' := va_up G 25 (remP (G 24) (G 25) K)) (rfl) ?_
  refine aw_eqS (st := []) rfl ?_
  refine aw_run oX6_lists sxOk 6 (pc' := 82) (L' := [some (.ref 0), some (.int (nI s)), some (.int (nI k))]) (st' := [.int (nI s), .ref 4, .int (nI s), .ref 4]) (I' := up2 I 4 2 (nI (remK K))) (J' := J) (G' := va_up G 25 (remP (G 24) (G 25) K)) rfl ?_
  refine aw_cV (st := [.int (nI s), .ref 4]) 4 [.int (nI s)] oX2_listedOf k6_100 rfl rfl rfl rfl rfl rfl rfl rfl (oX6_lists.dec rfl) (c_listedOf (by omega)) ?_
  refine aw_eqS (st := [.int (G 24 (8 + s)), .int (nI s), .ref 4]) rfl ?_
  refine aw_run oX6_lists sxOk 5 (pc' := 92) (L' := [some (.ref 0), some (.int (nI s)), some (.int (nI k))]) (st' := [.int (nI s), .ref 4, .int ((G 24 (8 + s)) + (nI k)), .int (nI s), .ref 4]) (I' := up2 I 4 2 (nI (remK K))) (J' := J) (G' := va_up G 25 (remP (G 24) (G 25) K)) rfl ?_
  refine aw_cV (st := [.int ((G 24 (8 + s)) + (nI k)), .int (nI s), .ref 4]) 4 [.int (nI s)] oX2_hiddenOf k6_104 rfl rfl rfl rfl rfl rfl rfl rfl (oX6_lists.dec rfl) (c_hiddenOf (by omega)) ?_
  refine aw_eqS (st := [.int (G 24 (13 + s)), .int ((G 24 (8 + s)) + (nI k)), .int (nI s), .ref 4]) rfl ?_
  refine aw_run oX6_lists sxOk 2 (pc' := 97) (L' := [some (.ref 0), some (.int (nI s)), some (.int (nI k))]) (st' := [.int ((G 24 (13 + s)) - (nI k)), .int ((G 24 (8 + s)) + (nI k)), .int (nI s), .ref 4]) (I' := up2 I 4 2 (nI (remK K))) (J' := J) (G' := va_up G 25 (remP (G 24) (G 25) K)) rfl ?_
  refine aw_eqS (st := [.int (nI (h - k)), .int (nI (l + k)), .int (nI s), .ref 4]) (by rw [show (G 24 (8 + s)) + (nI k) = nI (l + k) from addN hl rfl, show (G 24 (13 + s)) - (nI k) = nI (h - k) from subN hh rfl (by omega)]) ?_
  refine aw_cV (st := []) 4 [.int (nI s), .int (nI (l + k)), .int (nI (h - k))] oX2_setBars k6_154 rfl rfl rfl rfl rfl rfl rfl rfl (oX6_lists.dec rfl) (c_setBars (by omega)) ?_
  refine aw_eqG (G' := va_up (va_up G 25 (remP (G 24) (G 25) K)) 24 (upd (upd (G 24) (8 + s) (nI (l + k))) (13 + s) (nI (h - k)))) (rfl) ?_
  refine aw_eqS (st := []) rfl ?_
  refine aw_run oX6_lists sxOk 3 (pc' := 105) (L' := [some (.ref 0), some (.int (nI s)), some (.int (nI k))]) (st' := [.int (nI s), .ref 4]) (I' := up2 I 4 2 (nI (remK K))) (J' := J) (G' := va_up (va_up G 25 (remP (G 24) (G 25) K)) 24 (upd (upd (G 24) (8 + s) (nI (l + k))) (13 + s) (nI (h - k)))) rfl ?_
  refine aw_cV (st := []) 4 [.int (nI s)] oX2_listedOf k6_100 rfl rfl rfl rfl rfl rfl rfl rfl (oX6_lists.dec rfl) (c_listedOf (by omega)) ?_
  refine aw_eqS (st := [.int ((upd (upd (G 24) (8 + s) (nI (l + k))) (13 + s) (nI (h - k))) (8 + s))]) rfl ?_
  exact aw_iret rfl (oX6_lists.dec rfl) pe_rfl
set_option maxRecDepth 20000 in
theorem c_hides_bad {I : II} {J : JJ} {G : II} {P : Nat} (hP : I 2 7 = nI P) (hP5 : P ≤ 5) {x y : Int32} (hx : notIn x P) : AMet SX mX6_hides [.ref 0, .int x, .int y] I J G (PE (some (.int (-nI 1))) I J G) := by
  refine amet_en oX6_hides rfl rfl (L := [some (.ref 0), some (.int x), some (.int y)]) rfl ?_
  refine aw_run oX6_hides sxOk 3 (pc' := 5) (L' := [some (.ref 0), some (.int x), some (.int y)]) (st' := [.int x, .ref 2]) (I' := I) (J' := J) (G' := G) rfl ?_
  refine aw_cV (st := []) 2 [.int x] oX4_hasShip k6_97 rfl rfl rfl rfl rfl rfl rfl rfl (oX6_hides.dec rfl) (c_hasShip_f hP (by omega) (by assumption)) ?_
  refine aw_eqS (st := [.int (nI 0)]) rfl ?_
  refine aw_0eqN rfl (by omega) (oX6_hides.dec rfl) (tgt := 22) rfl (fun h8 => ?_) (fun h8 => absurd h8 (by omega))
  refine aw_run oX6_hides sxOk 1 (pc' := 23) (L' := [some (.ref 0), some (.int x), some (.int y)]) (st' := [.int (-nI 1)]) (I' := I) (J' := J) (G' := G) rfl ?_
  exact aw_iret rfl (oX6_hides.dec rfl) pe_rfl
set_option maxRecDepth 20000 in
theorem c_hides_bad0 {I : II} {J : JJ} {G : II} {P : Nat} (hP : I 2 7 = nI P) (hP5 : P ≤ 5) {s : Nat} (hs : s < P) : AMet SX mX6_hides [.ref 0, .int (nI s), .int (nI 0)] I J G (PE (some (.int (-nI 1))) I J G) := by
  refine amet_en oX6_hides rfl rfl (L := [some (.ref 0), some (.int (nI s)), some (.int (nI 0))]) rfl ?_
  refine aw_run oX6_hides sxOk 3 (pc' := 5) (L' := [some (.ref 0), some (.int (nI s)), some (.int (nI 0))]) (st' := [.int (nI s), .ref 2]) (I' := I) (J' := J) (G' := G) rfl ?_
  refine aw_cV (st := []) 2 [.int (nI s)] oX4_hasShip k6_97 rfl rfl rfl rfl rfl rfl rfl rfl (oX6_hides.dec rfl) (c_hasShip_t hP (by omega) (by omega)) ?_
  refine aw_eqS (st := [.int (nI 1)]) rfl ?_
  refine aw_0eqN rfl (by omega) (oX6_hides.dec rfl) (tgt := 22) rfl (fun h8 => absurd h8 (by omega)) (fun h8 => ?_)
  refine aw_run oX6_hides sxOk 2 (pc' := 13) (L' := [some (.ref 0), some (.int (nI s)), some (.int (nI 0))]) (st' := [.int (nI 1), .int (nI 0)]) (I' := I) (J' := J) (G' := G) rfl ?_
  refine aw_ltN rfl rfl (by omega) (by omega) (oX6_hides.dec rfl) (tgt := 22) rfl (fun h13 => ?_) (fun h13 => absurd h13 (by omega))
  refine aw_run oX6_hides sxOk 1 (pc' := 23) (L' := [some (.ref 0), some (.int (nI s)), some (.int (nI 0))]) (st' := [.int (-nI 1)]) (I' := I) (J' := J) (G' := G) rfl ?_
  exact aw_iret rfl (oX6_hides.dec rfl) pe_rfl
set_option maxRecDepth 20000 in
theorem c_hides_bad2 {I : II} {J : JJ} {G : II} {P : Nat} (hP : I 2 7 = nI P) (hP5 : P ≤ 5) {s : Nat} {x : Int32} (hs : s < P) (hx : notIn x 61) : AMet SX mX6_hides [.ref 0, .int (nI s), .int x] I J G (PE (some (.int (-nI 1))) I J G) := by
  refine amet_en oX6_hides rfl rfl (L := [some (.ref 0), some (.int (nI s)), some (.int x)]) rfl ?_
  refine aw_run oX6_hides sxOk 3 (pc' := 5) (L' := [some (.ref 0), some (.int (nI s)), some (.int x)]) (st' := [.int (nI s), .ref 2]) (I' := I) (J' := J) (G' := G) rfl ?_
  refine aw_cV (st := []) 2 [.int (nI s)] oX4_hasShip k6_97 rfl rfl rfl rfl rfl rfl rfl rfl (oX6_hides.dec rfl) (c_hasShip_t hP (by omega) (by omega)) ?_
  refine aw_eqS (st := [.int (nI 1)]) rfl ?_
  refine aw_0eqN rfl (by omega) (oX6_hides.dec rfl) (tgt := 22) rfl (fun h8 => absurd h8 (by omega)) (fun h8 => ?_)
  refine aw_run oX6_hides sxOk 2 (pc' := 13) (L' := [some (.ref 0), some (.int (nI s)), some (.int x)]) (st' := [.int (nI 1), .int x]) (I' := I) (J' := J) (G' := G) rfl ?_
  refine aw_icmp_lt (oX6_hides.dec rfl) (tgt := 22) rfl (fun h13 => ?_) (fun h13 => ?_)
  · refine aw_run oX6_hides sxOk 1 (pc' := 23) (L' := [some (.ref 0), some (.int (nI s)), some (.int x)]) (st' := [.int (-nI 1)]) (I' := I) (J' := J) (G' := G) rfl ?_
    exact aw_iret rfl (oX6_hides.dec rfl) pe_rfl
  · refine aw_run oX6_hides sxOk 2 (pc' := 19) (L' := [some (.ref 0), some (.int (nI s)), some (.int x)]) (st' := [.int (nI 60), .int x]) (I' := I) (J' := J) (G' := G) rfl ?_
    refine aw_icmp_le (oX6_hides.dec rfl) (tgt := 24) rfl (fun h19 => absurd h19 (Int32.not_le.mpr (notIn_gt hx (by decide) (fun h => h13 (Int32.lt_trans h (by decide)))))) (fun h19 => ?_)
    refine aw_run oX6_hides sxOk 1 (pc' := 23) (L' := [some (.ref 0), some (.int (nI s)), some (.int x)]) (st' := [.int (-nI 1)]) (I' := I) (J' := J) (G' := G) rfl ?_
    exact aw_iret rfl (oX6_hides.dec rfl) pe_rfl
set_option maxRecDepth 20000 in
theorem c_hides_port {I : II} {J : JJ} {G : II} {P : Nat} (hP : I 2 7 = nI P) (hP5 : P ≤ 5) {s k : Nat} (hs : s < P) (hk1 : 1 ≤ k) (hk : k ≤ 60) (hp : ¬ G 24 (3 + s) = nI 0) : AMet SX mX6_hides [.ref 0, .int (nI s), .int (nI k)] I J G (PE (some (.int (-nI 2))) I J G) := by
  refine amet_en oX6_hides rfl rfl (L := [some (.ref 0), some (.int (nI s)), some (.int (nI k))]) rfl ?_
  refine aw_run oX6_hides sxOk 3 (pc' := 5) (L' := [some (.ref 0), some (.int (nI s)), some (.int (nI k))]) (st' := [.int (nI s), .ref 2]) (I' := I) (J' := J) (G' := G) rfl ?_
  refine aw_cV (st := []) 2 [.int (nI s)] oX4_hasShip k6_97 rfl rfl rfl rfl rfl rfl rfl rfl (oX6_hides.dec rfl) (c_hasShip_t hP (by omega) (by omega)) ?_
  refine aw_eqS (st := [.int (nI 1)]) rfl ?_
  refine aw_0eqN rfl (by omega) (oX6_hides.dec rfl) (tgt := 22) rfl (fun h8 => absurd h8 (by omega)) (fun h8 => ?_)
  refine aw_run oX6_hides sxOk 2 (pc' := 13) (L' := [some (.ref 0), some (.int (nI s)), some (.int (nI k))]) (st' := [.int (nI 1), .int (nI k)]) (I' := I) (J' := J) (G' := G) rfl ?_
  refine aw_ltN rfl rfl (by omega) (by omega) (oX6_hides.dec rfl) (tgt := 22) rfl (fun h13 => absurd h13 (by omega)) (fun h13 => ?_)
  refine aw_run oX6_hides sxOk 2 (pc' := 19) (L' := [some (.ref 0), some (.int (nI s)), some (.int (nI k))]) (st' := [.int (nI 60), .int (nI k)]) (I' := I) (J' := J) (G' := G) rfl ?_
  refine aw_leN rfl rfl (by omega) (by omega) (oX6_hides.dec rfl) (tgt := 24) rfl (fun h19 => ?_) (fun h19 => absurd h19 (by omega))
  refine aw_run oX6_hides sxOk 3 (pc' := 29) (L' := [some (.ref 0), some (.int (nI s)), some (.int (nI k))]) (st' := [.int (nI s), .ref 4]) (I' := I) (J' := J) (G' := G) rfl ?_
  refine aw_cV (st := []) 4 [.int (nI s)] oX2_isInPort k6_151 rfl rfl rfl rfl rfl rfl rfl rfl (oX6_hides.dec rfl) (c_isInPort (by omega)) ?_
  refine aw_eqS (st := [.int (b1 (decide (G 24 (3 + s) = nI 0)))]) rfl ?_
  refine aw_0eqD (oX6_hides.dec rfl) (tgt := 62) rfl (fun h32 => ?_) (fun h32 => by first | exact absurd h32 (by assumption) | exact absurd (by assumption) h32 | (exfalso; revert h32; decide) | simp_all)
  refine aw_run oX6_hides sxOk 1 (pc' := 64) (L' := [some (.ref 0), some (.int (nI s)), some (.int (nI k))]) (st' := [.int (-nI 2)]) (I' := I) (J' := J) (G' := G) rfl ?_
  exact aw_iret rfl (oX6_hides.dec rfl) pe_rfl
set_option maxRecDepth 20000 in
theorem c_hides_few {I : II} {J : JJ} {G : II} {P : Nat} (hP : I 2 7 = nI P) (hP5 : P ≤ 5) {s k : Nat} (hs : s < P) (hk1 : 1 ≤ k) (hk : k ≤ 60) (hp : G 24 (3 + s) = nI 0) {l h : Nat} (hl : G 24 (8 + s) = nI l) (hh : G 24 (13 + s) = nI h) (hl60 : l ≤ 60) (hh60 : h ≤ 60) (hf : l < k) : AMet SX mX6_hides [.ref 0, .int (nI s), .int (nI k)] I J G (PE (some (.int (-nI 2))) I J G) := by
  refine amet_en oX6_hides rfl rfl (L := [some (.ref 0), some (.int (nI s)), some (.int (nI k))]) rfl ?_
  refine aw_run oX6_hides sxOk 3 (pc' := 5) (L' := [some (.ref 0), some (.int (nI s)), some (.int (nI k))]) (st' := [.int (nI s), .ref 2]) (I' := I) (J' := J) (G' := G) rfl ?_
  refine aw_cV (st := []) 2 [.int (nI s)] oX4_hasShip k6_97 rfl rfl rfl rfl rfl rfl rfl rfl (oX6_hides.dec rfl) (c_hasShip_t hP (by omega) (by omega)) ?_
  refine aw_eqS (st := [.int (nI 1)]) rfl ?_
  refine aw_0eqN rfl (by omega) (oX6_hides.dec rfl) (tgt := 22) rfl (fun h8 => absurd h8 (by omega)) (fun h8 => ?_)
  refine aw_run oX6_hides sxOk 2 (pc' := 13) (L' := [some (.ref 0), some (.int (nI s)), some (.int (nI k))]) (st' := [.int (nI 1), .int (nI k)]) (I' := I) (J' := J) (G' := G) rfl ?_
  refine aw_ltN rfl rfl (by omega) (by omega) (oX6_hides.dec rfl) (tgt := 22) rfl (fun h13 => absurd h13 (by omega)) (fun h13 => ?_)
  refine aw_run oX6_hides sxOk 2 (pc' := 19) (L' := [some (.ref 0), some (.int (nI s)), some (.int (nI k))]) (st' := [.int (nI 60), .int (nI k)]) (I' := I) (J' := J) (G' := G) rfl ?_
  refine aw_leN rfl rfl (by omega) (by omega) (oX6_hides.dec rfl) (tgt := 24) rfl (fun h19 => ?_) (fun h19 => absurd h19 (by omega))
  refine aw_run oX6_hides sxOk 3 (pc' := 29) (L' := [some (.ref 0), some (.int (nI s)), some (.int (nI k))]) (st' := [.int (nI s), .ref 4]) (I' := I) (J' := J) (G' := G) rfl ?_
  refine aw_cV (st := []) 4 [.int (nI s)] oX2_isInPort k6_151 rfl rfl rfl rfl rfl rfl rfl rfl (oX6_hides.dec rfl) (c_isInPort (by omega)) ?_
  refine aw_eqS (st := [.int (b1 (decide (G 24 (3 + s) = nI 0)))]) rfl ?_
  refine aw_0eqD (oX6_hides.dec rfl) (tgt := 62) rfl (fun h32 => by first | exact absurd h32 (by assumption) | exact absurd (by assumption) h32 | (exfalso; revert h32; decide) | simp_all) (fun h32 => ?_)
  refine aw_run oX6_hides sxOk 3 (pc' := 40) (L' := [some (.ref 0), some (.int (nI s)), some (.int (nI k))]) (st' := [.int (nI s), .ref 4]) (I' := I) (J' := J) (G' := G) rfl ?_
  refine aw_cV (st := []) 4 [.int (nI s)] oX2_listedOf k6_100 rfl rfl rfl rfl rfl rfl rfl rfl (oX6_hides.dec rfl) (c_listedOf (by omega)) ?_
  refine aw_eqS (st := [.int (G 24 (8 + s))]) rfl ?_
  refine aw_run oX6_hides sxOk 1 (pc' := 44) (L' := [some (.ref 0), some (.int (nI s)), some (.int (nI k))]) (st' := [.int (nI k), .int (G 24 (8 + s))]) (I' := I) (J' := J) (G' := G) rfl ?_
  refine aw_ltN hl rfl (by omega) (by omega) (oX6_hides.dec rfl) (tgt := 62) rfl (fun h44 => ?_) (fun h44 => absurd h44 (by omega))
  refine aw_run oX6_hides sxOk 1 (pc' := 64) (L' := [some (.ref 0), some (.int (nI s)), some (.int (nI k))]) (st' := [.int (-nI 2)]) (I' := I) (J' := J) (G' := G) rfl ?_
  exact aw_iret rfl (oX6_hides.dec rfl) pe_rfl
set_option maxRecDepth 20000 in
theorem c_hides_many {I : II} {J : JJ} {G : II} {P : Nat} (hP : I 2 7 = nI P) (hP5 : P ≤ 5) {s k : Nat} (hs : s < P) (hk1 : 1 ≤ k) (hk : k ≤ 60) (hp : G 24 (3 + s) = nI 0) {l h : Nat} (hl : G 24 (8 + s) = nI l) (hh : G 24 (13 + s) = nI h) (hl60 : l ≤ 60) (hh60 : h ≤ 60) (hf : k ≤ l) (hm : 60 < h + k) : AMet SX mX6_hides [.ref 0, .int (nI s), .int (nI k)] I J G (PE (some (.int (-nI 2))) I J G) := by
  refine amet_en oX6_hides rfl rfl (L := [some (.ref 0), some (.int (nI s)), some (.int (nI k))]) rfl ?_
  refine aw_run oX6_hides sxOk 3 (pc' := 5) (L' := [some (.ref 0), some (.int (nI s)), some (.int (nI k))]) (st' := [.int (nI s), .ref 2]) (I' := I) (J' := J) (G' := G) rfl ?_
  refine aw_cV (st := []) 2 [.int (nI s)] oX4_hasShip k6_97 rfl rfl rfl rfl rfl rfl rfl rfl (oX6_hides.dec rfl) (c_hasShip_t hP (by omega) (by omega)) ?_
  refine aw_eqS (st := [.int (nI 1)]) rfl ?_
  refine aw_0eqN rfl (by omega) (oX6_hides.dec rfl) (tgt := 22) rfl (fun h8 => absurd h8 (by omega)) (fun h8 => ?_)
  refine aw_run oX6_hides sxOk 2 (pc' := 13) (L' := [some (.ref 0), some (.int (nI s)), some (.int (nI k))]) (st' := [.int (nI 1), .int (nI k)]) (I' := I) (J' := J) (G' := G) rfl ?_
  refine aw_ltN rfl rfl (by omega) (by omega) (oX6_hides.dec rfl) (tgt := 22) rfl (fun h13 => absurd h13 (by omega)) (fun h13 => ?_)
  refine aw_run oX6_hides sxOk 2 (pc' := 19) (L' := [some (.ref 0), some (.int (nI s)), some (.int (nI k))]) (st' := [.int (nI 60), .int (nI k)]) (I' := I) (J' := J) (G' := G) rfl ?_
  refine aw_leN rfl rfl (by omega) (by omega) (oX6_hides.dec rfl) (tgt := 24) rfl (fun h19 => ?_) (fun h19 => absurd h19 (by omega))
  refine aw_run oX6_hides sxOk 3 (pc' := 29) (L' := [some (.ref 0), some (.int (nI s)), some (.int (nI k))]) (st' := [.int (nI s), .ref 4]) (I' := I) (J' := J) (G' := G) rfl ?_
  refine aw_cV (st := []) 4 [.int (nI s)] oX2_isInPort k6_151 rfl rfl rfl rfl rfl rfl rfl rfl (oX6_hides.dec rfl) (c_isInPort (by omega)) ?_
  refine aw_eqS (st := [.int (b1 (decide (G 24 (3 + s) = nI 0)))]) rfl ?_
  refine aw_0eqD (oX6_hides.dec rfl) (tgt := 62) rfl (fun h32 => by first | exact absurd h32 (by assumption) | exact absurd (by assumption) h32 | (exfalso; revert h32; decide) | simp_all) (fun h32 => ?_)
  refine aw_run oX6_hides sxOk 3 (pc' := 40) (L' := [some (.ref 0), some (.int (nI s)), some (.int (nI k))]) (st' := [.int (nI s), .ref 4]) (I' := I) (J' := J) (G' := G) rfl ?_
  refine aw_cV (st := []) 4 [.int (nI s)] oX2_listedOf k6_100 rfl rfl rfl rfl rfl rfl rfl rfl (oX6_hides.dec rfl) (c_listedOf (by omega)) ?_
  refine aw_eqS (st := [.int (G 24 (8 + s))]) rfl ?_
  refine aw_run oX6_hides sxOk 1 (pc' := 44) (L' := [some (.ref 0), some (.int (nI s)), some (.int (nI k))]) (st' := [.int (nI k), .int (G 24 (8 + s))]) (I' := I) (J' := J) (G' := G) rfl ?_
  refine aw_ltN hl rfl (by omega) (by omega) (oX6_hides.dec rfl) (tgt := 62) rfl (fun h44 => absurd h44 (by omega)) (fun h44 => ?_)
  refine aw_run oX6_hides sxOk 3 (pc' := 52) (L' := [some (.ref 0), some (.int (nI s)), some (.int (nI k))]) (st' := [.int (nI s), .ref 4]) (I' := I) (J' := J) (G' := G) rfl ?_
  refine aw_cV (st := []) 4 [.int (nI s)] oX2_hiddenOf k6_104 rfl rfl rfl rfl rfl rfl rfl rfl (oX6_hides.dec rfl) (c_hiddenOf (by omega)) ?_
  refine aw_eqS (st := [.int (G 24 (13 + s))]) rfl ?_
  refine aw_run oX6_hides sxOk 3 (pc' := 59) (L' := [some (.ref 0), some (.int (nI s)), some (.int (nI k))]) (st' := [.int (nI 60), .int ((G 24 (13 + s)) + (nI k))]) (I' := I) (J' := J) (G' := G) rfl ?_
  refine aw_leN (addN hh rfl) rfl (by omega) (by omega) (oX6_hides.dec rfl) (tgt := 65) rfl (fun h59 => absurd h59 (by omega)) (fun h59 => ?_)
  refine aw_run oX6_hides sxOk 1 (pc' := 64) (L' := [some (.ref 0), some (.int (nI s)), some (.int (nI k))]) (st' := [.int (-nI 2)]) (I' := I) (J' := J) (G' := G) rfl ?_
  exact aw_iret rfl (oX6_hides.dec rfl) pe_rfl
set_option maxRecDepth 20000 in
theorem c_hides_ok {I : II} {J : JJ} {G : II} {P : Nat} (hP : I 2 7 = nI P) (hP5 : P ≤ 5) {s k : Nat} (hs : s < P) (hk1 : 1 ≤ k) (hk : k ≤ 60) {K : Nat} (hK : I 4 2 = nI K) (hK10 : K ≤ 10) (hp : G 24 (3 + s) = nI 0) {l h : Nat} (hl : G 24 (8 + s) = nI l) (hh : G 24 (13 + s) = nI h) (hl60 : l ≤ 60) (hh60 : h ≤ 60) (hf : k ≤ l) (hm : h + k ≤ 60) : AMet SX mX6_hides [.ref 0, .int (nI s), .int (nI k)] I J G (PE (some (.int ((upd (upd (G 24) (8 + s) (nI (l - k))) (13 + s) (nI (h + k))) (13 + s)))) (up2 I 4 2 (nI (remK K))) J (va_up (va_up G 25 (remP (G 24) (G 25) K)) 24 (upd (upd (G 24) (8 + s) (nI (l - k))) (13 + s) (nI (h + k))))) := by
  refine amet_en oX6_hides rfl rfl (L := [some (.ref 0), some (.int (nI s)), some (.int (nI k))]) rfl ?_
  refine aw_run oX6_hides sxOk 3 (pc' := 5) (L' := [some (.ref 0), some (.int (nI s)), some (.int (nI k))]) (st' := [.int (nI s), .ref 2]) (I' := I) (J' := J) (G' := G) rfl ?_
  refine aw_cV (st := []) 2 [.int (nI s)] oX4_hasShip k6_97 rfl rfl rfl rfl rfl rfl rfl rfl (oX6_hides.dec rfl) (c_hasShip_t hP (by omega) (by omega)) ?_
  refine aw_eqS (st := [.int (nI 1)]) rfl ?_
  refine aw_0eqN rfl (by omega) (oX6_hides.dec rfl) (tgt := 22) rfl (fun h8 => absurd h8 (by omega)) (fun h8 => ?_)
  refine aw_run oX6_hides sxOk 2 (pc' := 13) (L' := [some (.ref 0), some (.int (nI s)), some (.int (nI k))]) (st' := [.int (nI 1), .int (nI k)]) (I' := I) (J' := J) (G' := G) rfl ?_
  refine aw_ltN rfl rfl (by omega) (by omega) (oX6_hides.dec rfl) (tgt := 22) rfl (fun h13 => absurd h13 (by omega)) (fun h13 => ?_)
  refine aw_run oX6_hides sxOk 2 (pc' := 19) (L' := [some (.ref 0), some (.int (nI s)), some (.int (nI k))]) (st' := [.int (nI 60), .int (nI k)]) (I' := I) (J' := J) (G' := G) rfl ?_
  refine aw_leN rfl rfl (by omega) (by omega) (oX6_hides.dec rfl) (tgt := 24) rfl (fun h19 => ?_) (fun h19 => absurd h19 (by omega))
  refine aw_run oX6_hides sxOk 3 (pc' := 29) (L' := [some (.ref 0), some (.int (nI s)), some (.int (nI k))]) (st' := [.int (nI s), .ref 4]) (I' := I) (J' := J) (G' := G) rfl ?_
  refine aw_cV (st := []) 4 [.int (nI s)] oX2_isInPort k6_151 rfl rfl rfl rfl rfl rfl rfl rfl (oX6_hides.dec rfl) (c_isInPort (by omega)) ?_
  refine aw_eqS (st := [.int (b1 (decide (G 24 (3 + s) = nI 0)))]) rfl ?_
  refine aw_0eqD (oX6_hides.dec rfl) (tgt := 62) rfl (fun h32 => by first | exact absurd h32 (by assumption) | exact absurd (by assumption) h32 | (exfalso; revert h32; decide) | simp_all) (fun h32 => ?_)
  refine aw_run oX6_hides sxOk 3 (pc' := 40) (L' := [some (.ref 0), some (.int (nI s)), some (.int (nI k))]) (st' := [.int (nI s), .ref 4]) (I' := I) (J' := J) (G' := G) rfl ?_
  refine aw_cV (st := []) 4 [.int (nI s)] oX2_listedOf k6_100 rfl rfl rfl rfl rfl rfl rfl rfl (oX6_hides.dec rfl) (c_listedOf (by omega)) ?_
  refine aw_eqS (st := [.int (G 24 (8 + s))]) rfl ?_
  refine aw_run oX6_hides sxOk 1 (pc' := 44) (L' := [some (.ref 0), some (.int (nI s)), some (.int (nI k))]) (st' := [.int (nI k), .int (G 24 (8 + s))]) (I' := I) (J' := J) (G' := G) rfl ?_
  refine aw_ltN hl rfl (by omega) (by omega) (oX6_hides.dec rfl) (tgt := 62) rfl (fun h44 => absurd h44 (by omega)) (fun h44 => ?_)
  refine aw_run oX6_hides sxOk 3 (pc' := 52) (L' := [some (.ref 0), some (.int (nI s)), some (.int (nI k))]) (st' := [.int (nI s), .ref 4]) (I' := I) (J' := J) (G' := G) rfl ?_
  refine aw_cV (st := []) 4 [.int (nI s)] oX2_hiddenOf k6_104 rfl rfl rfl rfl rfl rfl rfl rfl (oX6_hides.dec rfl) (c_hiddenOf (by omega)) ?_
  refine aw_eqS (st := [.int (G 24 (13 + s))]) rfl ?_
  refine aw_run oX6_hides sxOk 3 (pc' := 59) (L' := [some (.ref 0), some (.int (nI s)), some (.int (nI k))]) (st' := [.int (nI 60), .int ((G 24 (13 + s)) + (nI k))]) (I' := I) (J' := J) (G' := G) rfl ?_
  refine aw_leN (addN hh rfl) rfl (by omega) (by omega) (oX6_hides.dec rfl) (tgt := 65) rfl (fun h59 => ?_) (fun h59 => absurd h59 (by omega))
  refine aw_run oX6_hides sxOk 2 (pc' := 69) (L' := [some (.ref 0), some (.int (nI s)), some (.int (nI k))]) (st' := [.ref 4]) (I' := I) (J' := J) (G' := G) rfl ?_
  refine aw_cV (st := []) 4 [] oX2_remember k6_120 rfl rfl rfl rfl rfl rfl rfl rfl (oX6_hides.dec rfl) (c_remember hK (by omega)) ?_
  refine aw_eqG (G' := va_up G 25 (remP (G 24) (G 25) K)) (rfl) ?_
  refine aw_eqS (st := []) rfl ?_
  refine aw_run oX6_hides sxOk 6 (pc' := 82) (L' := [some (.ref 0), some (.int (nI s)), some (.int (nI k))]) (st' := [.int (nI s), .ref 4, .int (nI s), .ref 4]) (I' := up2 I 4 2 (nI (remK K))) (J' := J) (G' := va_up G 25 (remP (G 24) (G 25) K)) rfl ?_
  refine aw_cV (st := [.int (nI s), .ref 4]) 4 [.int (nI s)] oX2_listedOf k6_100 rfl rfl rfl rfl rfl rfl rfl rfl (oX6_hides.dec rfl) (c_listedOf (by omega)) ?_
  refine aw_eqS (st := [.int (G 24 (8 + s)), .int (nI s), .ref 4]) rfl ?_
  refine aw_run oX6_hides sxOk 5 (pc' := 92) (L' := [some (.ref 0), some (.int (nI s)), some (.int (nI k))]) (st' := [.int (nI s), .ref 4, .int ((G 24 (8 + s)) - (nI k)), .int (nI s), .ref 4]) (I' := up2 I 4 2 (nI (remK K))) (J' := J) (G' := va_up G 25 (remP (G 24) (G 25) K)) rfl ?_
  refine aw_cV (st := [.int ((G 24 (8 + s)) - (nI k)), .int (nI s), .ref 4]) 4 [.int (nI s)] oX2_hiddenOf k6_104 rfl rfl rfl rfl rfl rfl rfl rfl (oX6_hides.dec rfl) (c_hiddenOf (by omega)) ?_
  refine aw_eqS (st := [.int (G 24 (13 + s)), .int ((G 24 (8 + s)) - (nI k)), .int (nI s), .ref 4]) rfl ?_
  refine aw_run oX6_hides sxOk 2 (pc' := 97) (L' := [some (.ref 0), some (.int (nI s)), some (.int (nI k))]) (st' := [.int ((G 24 (13 + s)) + (nI k)), .int ((G 24 (8 + s)) - (nI k)), .int (nI s), .ref 4]) (I' := up2 I 4 2 (nI (remK K))) (J' := J) (G' := va_up G 25 (remP (G 24) (G 25) K)) rfl ?_
  refine aw_eqS (st := [.int (nI (h + k)), .int (nI (l - k)), .int (nI s), .ref 4]) (by rw [show (G 24 (8 + s)) - (nI k) = nI (l - k) from subN hl rfl (by omega), show (G 24 (13 + s)) + (nI k) = nI (h + k) from addN hh rfl]) ?_
  refine aw_cV (st := []) 4 [.int (nI s), .int (nI (l - k)), .int (nI (h + k))] oX2_setBars k6_154 rfl rfl rfl rfl rfl rfl rfl rfl (oX6_hides.dec rfl) (c_setBars (by omega)) ?_
  refine aw_eqG (G' := va_up (va_up G 25 (remP (G 24) (G 25) K)) 24 (upd (upd (G 24) (8 + s) (nI (l - k))) (13 + s) (nI (h + k)))) (rfl) ?_
  refine aw_eqS (st := []) rfl ?_
  refine aw_run oX6_hides sxOk 3 (pc' := 105) (L' := [some (.ref 0), some (.int (nI s)), some (.int (nI k))]) (st' := [.int (nI s), .ref 4]) (I' := up2 I 4 2 (nI (remK K))) (J' := J) (G' := va_up (va_up G 25 (remP (G 24) (G 25) K)) 24 (upd (upd (G 24) (8 + s) (nI (l - k))) (13 + s) (nI (h + k)))) rfl ?_
  refine aw_cV (st := []) 4 [.int (nI s)] oX2_hiddenOf k6_104 rfl rfl rfl rfl rfl rfl rfl rfl (oX6_hides.dec rfl) (c_hiddenOf (by omega)) ?_
  refine aw_eqS (st := [.int ((upd (upd (G 24) (8 + s) (nI (l - k))) (13 + s) (nI (h + k))) (13 + s))]) rfl ?_
  exact aw_iret rfl (oX6_hides.dec rfl) pe_rfl
set_option maxRecDepth 20000 in
theorem c_throws_bad {I : II} {J : JJ} {G : II} {P : Nat} (hP : I 2 7 = nI P) (hP5 : P ≤ 5) {x y : Int32} (hx : notIn x P) : AMet SX mX6_throwsOff [.ref 0, .int x, .int y] I J G (PE (some (.int (-nI 1))) I J G) := by
  refine amet_en oX6_throwsOff rfl rfl (L := [some (.ref 0), some (.int x), some (.int y), none]) rfl ?_
  refine aw_run oX6_throwsOff sxOk 3 (pc' := 5) (L' := [some (.ref 0), some (.int x), some (.int y), none]) (st' := [.int x, .ref 2]) (I' := I) (J' := J) (G' := G) rfl ?_
  refine aw_cV (st := []) 2 [.int x] oX4_hasShip k6_97 rfl rfl rfl rfl rfl rfl rfl rfl (oX6_throwsOff.dec rfl) (c_hasShip_f hP (by omega) (by assumption)) ?_
  refine aw_eqS (st := [.int (nI 0)]) rfl ?_
  refine aw_0eqN rfl (by omega) (oX6_throwsOff.dec rfl) (tgt := 22) rfl (fun h8 => ?_) (fun h8 => absurd h8 (by omega))
  refine aw_run oX6_throwsOff sxOk 1 (pc' := 23) (L' := [some (.ref 0), some (.int x), some (.int y), none]) (st' := [.int (-nI 1)]) (I' := I) (J' := J) (G' := G) rfl ?_
  exact aw_iret rfl (oX6_throwsOff.dec rfl) pe_rfl
set_option maxRecDepth 20000 in
theorem c_throws_bad0 {I : II} {J : JJ} {G : II} {P : Nat} (hP : I 2 7 = nI P) (hP5 : P ≤ 5) {s : Nat} (hs : s < P) : AMet SX mX6_throwsOff [.ref 0, .int (nI s), .int (nI 0)] I J G (PE (some (.int (-nI 1))) I J G) := by
  refine amet_en oX6_throwsOff rfl rfl (L := [some (.ref 0), some (.int (nI s)), some (.int (nI 0)), none]) rfl ?_
  refine aw_run oX6_throwsOff sxOk 3 (pc' := 5) (L' := [some (.ref 0), some (.int (nI s)), some (.int (nI 0)), none]) (st' := [.int (nI s), .ref 2]) (I' := I) (J' := J) (G' := G) rfl ?_
  refine aw_cV (st := []) 2 [.int (nI s)] oX4_hasShip k6_97 rfl rfl rfl rfl rfl rfl rfl rfl (oX6_throwsOff.dec rfl) (c_hasShip_t hP (by omega) (by omega)) ?_
  refine aw_eqS (st := [.int (nI 1)]) rfl ?_
  refine aw_0eqN rfl (by omega) (oX6_throwsOff.dec rfl) (tgt := 22) rfl (fun h8 => absurd h8 (by omega)) (fun h8 => ?_)
  refine aw_run oX6_throwsOff sxOk 2 (pc' := 13) (L' := [some (.ref 0), some (.int (nI s)), some (.int (nI 0)), none]) (st' := [.int (nI 1), .int (nI 0)]) (I' := I) (J' := J) (G' := G) rfl ?_
  refine aw_ltN rfl rfl (by omega) (by omega) (oX6_throwsOff.dec rfl) (tgt := 22) rfl (fun h13 => ?_) (fun h13 => absurd h13 (by omega))
  refine aw_run oX6_throwsOff sxOk 1 (pc' := 23) (L' := [some (.ref 0), some (.int (nI s)), some (.int (nI 0)), none]) (st' := [.int (-nI 1)]) (I' := I) (J' := J) (G' := G) rfl ?_
  exact aw_iret rfl (oX6_throwsOff.dec rfl) pe_rfl
set_option maxRecDepth 20000 in
theorem c_throws_bad2 {I : II} {J : JJ} {G : II} {P : Nat} (hP : I 2 7 = nI P) (hP5 : P ≤ 5) {s : Nat} {x : Int32} (hs : s < P) (hx : notIn x 100) : AMet SX mX6_throwsOff [.ref 0, .int (nI s), .int x] I J G (PE (some (.int (-nI 1))) I J G) := by
  refine amet_en oX6_throwsOff rfl rfl (L := [some (.ref 0), some (.int (nI s)), some (.int x), none]) rfl ?_
  refine aw_run oX6_throwsOff sxOk 3 (pc' := 5) (L' := [some (.ref 0), some (.int (nI s)), some (.int x), none]) (st' := [.int (nI s), .ref 2]) (I' := I) (J' := J) (G' := G) rfl ?_
  refine aw_cV (st := []) 2 [.int (nI s)] oX4_hasShip k6_97 rfl rfl rfl rfl rfl rfl rfl rfl (oX6_throwsOff.dec rfl) (c_hasShip_t hP (by omega) (by omega)) ?_
  refine aw_eqS (st := [.int (nI 1)]) rfl ?_
  refine aw_0eqN rfl (by omega) (oX6_throwsOff.dec rfl) (tgt := 22) rfl (fun h8 => absurd h8 (by omega)) (fun h8 => ?_)
  refine aw_run oX6_throwsOff sxOk 2 (pc' := 13) (L' := [some (.ref 0), some (.int (nI s)), some (.int x), none]) (st' := [.int (nI 1), .int x]) (I' := I) (J' := J) (G' := G) rfl ?_
  refine aw_icmp_lt (oX6_throwsOff.dec rfl) (tgt := 22) rfl (fun h13 => ?_) (fun h13 => ?_)
  · refine aw_run oX6_throwsOff sxOk 1 (pc' := 23) (L' := [some (.ref 0), some (.int (nI s)), some (.int x), none]) (st' := [.int (-nI 1)]) (I' := I) (J' := J) (G' := G) rfl ?_
    exact aw_iret rfl (oX6_throwsOff.dec rfl) pe_rfl
  · refine aw_run oX6_throwsOff sxOk 2 (pc' := 19) (L' := [some (.ref 0), some (.int (nI s)), some (.int x), none]) (st' := [.int (nI 99), .int x]) (I' := I) (J' := J) (G' := G) rfl ?_
    refine aw_icmp_le (oX6_throwsOff.dec rfl) (tgt := 24) rfl (fun h19 => absurd h19 (Int32.not_le.mpr (notIn_gt hx (by decide) (fun h => h13 (Int32.lt_trans h (by decide)))))) (fun h19 => ?_)
    refine aw_run oX6_throwsOff sxOk 1 (pc' := 23) (L' := [some (.ref 0), some (.int (nI s)), some (.int x), none]) (st' := [.int (-nI 1)]) (I' := I) (J' := J) (G' := G) rfl ?_
    exact aw_iret rfl (oX6_throwsOff.dec rfl) pe_rfl
set_option maxRecDepth 20000 in
theorem c_throws_port {I : II} {J : JJ} {G : II} {P : Nat} (hP : I 2 7 = nI P) (hP5 : P ≤ 5) {s k : Nat} (hs : s < P) (hk1 : 1 ≤ k) (hk : k ≤ 99) (hp : ¬ G 24 (3 + s) = nI 0) : AMet SX mX6_throwsOff [.ref 0, .int (nI s), .int (nI k)] I J G (PE (some (.int (-nI 2))) I J G) := by
  refine amet_en oX6_throwsOff rfl rfl (L := [some (.ref 0), some (.int (nI s)), some (.int (nI k)), none]) rfl ?_
  refine aw_run oX6_throwsOff sxOk 3 (pc' := 5) (L' := [some (.ref 0), some (.int (nI s)), some (.int (nI k)), none]) (st' := [.int (nI s), .ref 2]) (I' := I) (J' := J) (G' := G) rfl ?_
  refine aw_cV (st := []) 2 [.int (nI s)] oX4_hasShip k6_97 rfl rfl rfl rfl rfl rfl rfl rfl (oX6_throwsOff.dec rfl) (c_hasShip_t hP (by omega) (by omega)) ?_
  refine aw_eqS (st := [.int (nI 1)]) rfl ?_
  refine aw_0eqN rfl (by omega) (oX6_throwsOff.dec rfl) (tgt := 22) rfl (fun h8 => absurd h8 (by omega)) (fun h8 => ?_)
  refine aw_run oX6_throwsOff sxOk 2 (pc' := 13) (L' := [some (.ref 0), some (.int (nI s)), some (.int (nI k)), none]) (st' := [.int (nI 1), .int (nI k)]) (I' := I) (J' := J) (G' := G) rfl ?_
  refine aw_ltN rfl rfl (by omega) (by omega) (oX6_throwsOff.dec rfl) (tgt := 22) rfl (fun h13 => absurd h13 (by omega)) (fun h13 => ?_)
  refine aw_run oX6_throwsOff sxOk 2 (pc' := 19) (L' := [some (.ref 0), some (.int (nI s)), some (.int (nI k)), none]) (st' := [.int (nI 99), .int (nI k)]) (I' := I) (J' := J) (G' := G) rfl ?_
  refine aw_leN rfl rfl (by omega) (by omega) (oX6_throwsOff.dec rfl) (tgt := 24) rfl (fun h19 => ?_) (fun h19 => absurd h19 (by omega))
  refine aw_run oX6_throwsOff sxOk 3 (pc' := 29) (L' := [some (.ref 0), some (.int (nI s)), some (.int (nI k)), none]) (st' := [.int (nI s), .ref 4]) (I' := I) (J' := J) (G' := G) rfl ?_
  refine aw_cV (st := []) 4 [.int (nI s)] oX2_isInPort k6_151 rfl rfl rfl rfl rfl rfl rfl rfl (oX6_throwsOff.dec rfl) (c_isInPort (by omega)) ?_
  refine aw_eqS (st := [.int (b1 (decide (G 24 (3 + s) = nI 0)))]) rfl ?_
  refine aw_0eqD (oX6_throwsOff.dec rfl) (tgt := 47) rfl (fun h32 => ?_) (fun h32 => by first | exact absurd h32 (by assumption) | exact absurd (by assumption) h32 | (exfalso; revert h32; decide) | simp_all)
  refine aw_run oX6_throwsOff sxOk 1 (pc' := 49) (L' := [some (.ref 0), some (.int (nI s)), some (.int (nI k)), none]) (st' := [.int (-nI 2)]) (I' := I) (J' := J) (G' := G) rfl ?_
  exact aw_iret rfl (oX6_throwsOff.dec rfl) pe_rfl
set_option maxRecDepth 20000 in
theorem c_throws_few {I : II} {J : JJ} {G : II} {P : Nat} (hP : I 2 7 = nI P) (hP5 : P ≤ 5) {s k : Nat} (hs : s < P) (hk1 : 1 ≤ k) (hk : k ≤ 99) (hp : G 24 (3 + s) = nI 0) {l h : Nat} (hl : G 24 (8 + s) = nI l) (hh : G 24 (13 + s) = nI h) (hl60 : l ≤ 60) (hh60 : h ≤ 60) (hf : l + h < k) : AMet SX mX6_throwsOff [.ref 0, .int (nI s), .int (nI k)] I J G (PE (some (.int (-nI 2))) I J G) := by
  refine amet_en oX6_throwsOff rfl rfl (L := [some (.ref 0), some (.int (nI s)), some (.int (nI k)), none]) rfl ?_
  refine aw_run oX6_throwsOff sxOk 3 (pc' := 5) (L' := [some (.ref 0), some (.int (nI s)), some (.int (nI k)), none]) (st' := [.int (nI s), .ref 2]) (I' := I) (J' := J) (G' := G) rfl ?_
  refine aw_cV (st := []) 2 [.int (nI s)] oX4_hasShip k6_97 rfl rfl rfl rfl rfl rfl rfl rfl (oX6_throwsOff.dec rfl) (c_hasShip_t hP (by omega) (by omega)) ?_
  refine aw_eqS (st := [.int (nI 1)]) rfl ?_
  refine aw_0eqN rfl (by omega) (oX6_throwsOff.dec rfl) (tgt := 22) rfl (fun h8 => absurd h8 (by omega)) (fun h8 => ?_)
  refine aw_run oX6_throwsOff sxOk 2 (pc' := 13) (L' := [some (.ref 0), some (.int (nI s)), some (.int (nI k)), none]) (st' := [.int (nI 1), .int (nI k)]) (I' := I) (J' := J) (G' := G) rfl ?_
  refine aw_ltN rfl rfl (by omega) (by omega) (oX6_throwsOff.dec rfl) (tgt := 22) rfl (fun h13 => absurd h13 (by omega)) (fun h13 => ?_)
  refine aw_run oX6_throwsOff sxOk 2 (pc' := 19) (L' := [some (.ref 0), some (.int (nI s)), some (.int (nI k)), none]) (st' := [.int (nI 99), .int (nI k)]) (I' := I) (J' := J) (G' := G) rfl ?_
  refine aw_leN rfl rfl (by omega) (by omega) (oX6_throwsOff.dec rfl) (tgt := 24) rfl (fun h19 => ?_) (fun h19 => absurd h19 (by omega))
  refine aw_run oX6_throwsOff sxOk 3 (pc' := 29) (L' := [some (.ref 0), some (.int (nI s)), some (.int (nI k)), none]) (st' := [.int (nI s), .ref 4]) (I' := I) (J' := J) (G' := G) rfl ?_
  refine aw_cV (st := []) 4 [.int (nI s)] oX2_isInPort k6_151 rfl rfl rfl rfl rfl rfl rfl rfl (oX6_throwsOff.dec rfl) (c_isInPort (by omega)) ?_
  refine aw_eqS (st := [.int (b1 (decide (G 24 (3 + s) = nI 0)))]) rfl ?_
  refine aw_0eqD (oX6_throwsOff.dec rfl) (tgt := 47) rfl (fun h32 => by first | exact absurd h32 (by assumption) | exact absurd (by assumption) h32 | (exfalso; revert h32; decide) | simp_all) (fun h32 => ?_)
  refine aw_run oX6_throwsOff sxOk 3 (pc' := 40) (L' := [some (.ref 0), some (.int (nI s)), some (.int (nI k)), none]) (st' := [.int (nI s), .ref 4]) (I' := I) (J' := J) (G' := G) rfl ?_
  refine aw_cV (st := []) 4 [.int (nI s)] oX2_silverOf k6_158 rfl rfl rfl rfl rfl rfl rfl rfl (oX6_throwsOff.dec rfl) (c_silverOf (by omega)) ?_
  refine aw_eqS (st := [.int (sil (G 24) s)]) rfl ?_
  refine aw_run oX6_throwsOff sxOk 1 (pc' := 44) (L' := [some (.ref 0), some (.int (nI s)), some (.int (nI k)), none]) (st' := [.int (nI k), .int (sil (G 24) s)]) (I' := I) (J' := J) (G' := G) rfl ?_
  refine aw_geN (addN hl hh) rfl (by omega) (by omega) (oX6_throwsOff.dec rfl) (tgt := 50) rfl (fun h44 => absurd h44 (by omega)) (fun h44 => ?_)
  refine aw_run oX6_throwsOff sxOk 1 (pc' := 49) (L' := [some (.ref 0), some (.int (nI s)), some (.int (nI k)), none]) (st' := [.int (-nI 2)]) (I' := I) (J' := J) (G' := G) rfl ?_
  exact aw_iret rfl (oX6_throwsOff.dec rfl) pe_rfl
set_option maxRecDepth 20000 in
theorem c_throws_ok {I : II} {J : JJ} {G : II} {P : Nat} (hP : I 2 7 = nI P) (hP5 : P ≤ 5) {s k : Nat} (hs : s < P) (hk1 : 1 ≤ k) (hk : k ≤ 99) {K : Nat} (hK : I 4 2 = nI K) (hK10 : K ≤ 10) (hp : G 24 (3 + s) = nI 0) {l h : Nat} (hl : G 24 (8 + s) = nI l) (hh : G 24 (13 + s) = nI h) (hl60 : l ≤ 60) (hh60 : h ≤ 60) (hf : k ≤ l + h) : AMet SX mX6_throwsOff [.ref 0, .int (nI s), .int (nI k)] I J G (PE (some (.int (sil (upd (upd (G 24) (8 + s) (nI (l - (k - (min k h))))) (13 + s) (nI (h - (min k h)))) s))) (up2 I 4 2 (nI (remK K))) J (va_up (va_up G 25 (remP (G 24) (G 25) K)) 24 (upd (upd (G 24) (8 + s) (nI (l - (k - (min k h))))) (13 + s) (nI (h - (min k h)))))) := by
  refine amet_en oX6_throwsOff rfl rfl (L := [some (.ref 0), some (.int (nI s)), some (.int (nI k)), none]) rfl ?_
  refine aw_run oX6_throwsOff sxOk 3 (pc' := 5) (L' := [some (.ref 0), some (.int (nI s)), some (.int (nI k)), none]) (st' := [.int (nI s), .ref 2]) (I' := I) (J' := J) (G' := G) rfl ?_
  refine aw_cV (st := []) 2 [.int (nI s)] oX4_hasShip k6_97 rfl rfl rfl rfl rfl rfl rfl rfl (oX6_throwsOff.dec rfl) (c_hasShip_t hP (by omega) (by omega)) ?_
  refine aw_eqS (st := [.int (nI 1)]) rfl ?_
  refine aw_0eqN rfl (by omega) (oX6_throwsOff.dec rfl) (tgt := 22) rfl (fun h8 => absurd h8 (by omega)) (fun h8 => ?_)
  refine aw_run oX6_throwsOff sxOk 2 (pc' := 13) (L' := [some (.ref 0), some (.int (nI s)), some (.int (nI k)), none]) (st' := [.int (nI 1), .int (nI k)]) (I' := I) (J' := J) (G' := G) rfl ?_
  refine aw_ltN rfl rfl (by omega) (by omega) (oX6_throwsOff.dec rfl) (tgt := 22) rfl (fun h13 => absurd h13 (by omega)) (fun h13 => ?_)
  refine aw_run oX6_throwsOff sxOk 2 (pc' := 19) (L' := [some (.ref 0), some (.int (nI s)), some (.int (nI k)), none]) (st' := [.int (nI 99), .int (nI k)]) (I' := I) (J' := J) (G' := G) rfl ?_
  refine aw_leN rfl rfl (by omega) (by omega) (oX6_throwsOff.dec rfl) (tgt := 24) rfl (fun h19 => ?_) (fun h19 => absurd h19 (by omega))
  refine aw_run oX6_throwsOff sxOk 3 (pc' := 29) (L' := [some (.ref 0), some (.int (nI s)), some (.int (nI k)), none]) (st' := [.int (nI s), .ref 4]) (I' := I) (J' := J) (G' := G) rfl ?_
  refine aw_cV (st := []) 4 [.int (nI s)] oX2_isInPort k6_151 rfl rfl rfl rfl rfl rfl rfl rfl (oX6_throwsOff.dec rfl) (c_isInPort (by omega)) ?_
  refine aw_eqS (st := [.int (b1 (decide (G 24 (3 + s) = nI 0)))]) rfl ?_
  refine aw_0eqD (oX6_throwsOff.dec rfl) (tgt := 47) rfl (fun h32 => by first | exact absurd h32 (by assumption) | exact absurd (by assumption) h32 | (exfalso; revert h32; decide) | simp_all) (fun h32 => ?_)
  refine aw_run oX6_throwsOff sxOk 3 (pc' := 40) (L' := [some (.ref 0), some (.int (nI s)), some (.int (nI k)), none]) (st' := [.int (nI s), .ref 4]) (I' := I) (J' := J) (G' := G) rfl ?_
  refine aw_cV (st := []) 4 [.int (nI s)] oX2_silverOf k6_158 rfl rfl rfl rfl rfl rfl rfl rfl (oX6_throwsOff.dec rfl) (c_silverOf (by omega)) ?_
  refine aw_eqS (st := [.int (sil (G 24) s)]) rfl ?_
  refine aw_run oX6_throwsOff sxOk 1 (pc' := 44) (L' := [some (.ref 0), some (.int (nI s)), some (.int (nI k)), none]) (st' := [.int (nI k), .int (sil (G 24) s)]) (I' := I) (J' := J) (G' := G) rfl ?_
  refine aw_geN (addN hl hh) rfl (by omega) (by omega) (oX6_throwsOff.dec rfl) (tgt := 50) rfl (fun h44 => ?_) (fun h44 => absurd h44 (by omega))
  refine aw_run oX6_throwsOff sxOk 2 (pc' := 54) (L' := [some (.ref 0), some (.int (nI s)), some (.int (nI k)), none]) (st' := [.ref 4]) (I' := I) (J' := J) (G' := G) rfl ?_
  refine aw_cV (st := []) 4 [] oX2_remember k6_120 rfl rfl rfl rfl rfl rfl rfl rfl (oX6_throwsOff.dec rfl) (c_remember hK (by omega)) ?_
  refine aw_eqG (G' := va_up G 25 (remP (G 24) (G 25) K)) (rfl) ?_
  refine aw_eqS (st := []) rfl ?_
  refine aw_run oX6_throwsOff sxOk 4 (pc' := 63) (L' := [some (.ref 0), some (.int (nI s)), some (.int (nI k)), none]) (st' := [.int (nI s), .ref 4, .int (nI k)]) (I' := up2 I 4 2 (nI (remK K))) (J' := J) (G' := va_up G 25 (remP (G 24) (G 25) K)) rfl ?_
  refine aw_cV (st := [.int (nI k)]) 4 [.int (nI s)] oX2_hiddenOf k6_104 rfl rfl rfl rfl rfl rfl rfl rfl (oX6_throwsOff.dec rfl) (c_hiddenOf (by omega)) ?_
  refine aw_eqS (st := [.int (G 24 (13 + s)), .int (nI k)]) rfl ?_
  refine aw_min n6_161 (by decide) (Nat.le_of_ble_eq_true rfl) (oX6_throwsOff.dec rfl) ?_
  refine aw_run oX6_throwsOff sxOk 7 (pc' := 80) (L' := [some (.ref 0), some (.int (nI s)), some (.int (nI k)), some (.int (if G 24 (13 + s) < nI k then G 24 (13 + s) else nI k))]) (st' := [.int (nI s), .ref 4, .int (nI s), .ref 4]) (I' := up2 I 4 2 (nI (remK K))) (J' := J) (G' := va_up G 25 (remP (G 24) (G 25) K)) rfl ?_
  refine aw_cV (st := [.int (nI s), .ref 4]) 4 [.int (nI s)] oX2_listedOf k6_100 rfl rfl rfl rfl rfl rfl rfl rfl (oX6_throwsOff.dec rfl) (c_listedOf (by omega)) ?_
  refine aw_eqS (st := [.int (G 24 (8 + s)), .int (nI s), .ref 4]) rfl ?_
  refine aw_run oX6_throwsOff sxOk 7 (pc' := 92) (L' := [some (.ref 0), some (.int (nI s)), some (.int (nI k)), some (.int (if G 24 (13 + s) < nI k then G 24 (13 + s) else nI k))]) (st' := [.int (nI s), .ref 4, .int ((G 24 (8 + s)) - ((nI k) - (if G 24 (13 + s) < nI k then G 24 (13 + s) else nI k))), .int (nI s), .ref 4]) (I' := up2 I 4 2 (nI (remK K))) (J' := J) (G' := va_up G 25 (remP (G 24) (G 25) K)) rfl ?_
  refine aw_cV (st := [.int ((G 24 (8 + s)) - ((nI k) - (if G 24 (13 + s) < nI k then G 24 (13 + s) else nI k))), .int (nI s), .ref 4]) 4 [.int (nI s)] oX2_hiddenOf k6_104 rfl rfl rfl rfl rfl rfl rfl rfl (oX6_throwsOff.dec rfl) (c_hiddenOf (by omega)) ?_
  refine aw_eqS (st := [.int (G 24 (13 + s)), .int ((G 24 (8 + s)) - ((nI k) - (if G 24 (13 + s) < nI k then G 24 (13 + s) else nI k))), .int (nI s), .ref 4]) rfl ?_
  refine aw_run oX6_throwsOff sxOk 2 (pc' := 97) (L' := [some (.ref 0), some (.int (nI s)), some (.int (nI k)), some (.int (if G 24 (13 + s) < nI k then G 24 (13 + s) else nI k))]) (st' := [.int ((G 24 (13 + s)) - (if G 24 (13 + s) < nI k then G 24 (13 + s) else nI k)), .int ((G 24 (8 + s)) - ((nI k) - (if G 24 (13 + s) < nI k then G 24 (13 + s) else nI k))), .int (nI s), .ref 4]) (I' := up2 I 4 2 (nI (remK K))) (J' := J) (G' := va_up G 25 (remP (G 24) (G 25) K)) rfl ?_
  refine aw_eqS (st := [.int (nI (h - (min k h))), .int (nI (l - (k - (min k h)))), .int (nI s), .ref 4]) (by rw [show (G 24 (8 + s)) - ((nI k) - (if G 24 (13 + s) < nI k then G 24 (13 + s) else nI k)) = nI (l - (k - (min k h))) from subN hl (subN rfl (minN rfl hh (by omega) (by omega)) (by omega)) (by omega), show (G 24 (13 + s)) - (if G 24 (13 + s) < nI k then G 24 (13 + s) else nI k) = nI (h - (min k h)) from subN hh (minN rfl hh (by omega) (by omega)) (by omega)]) ?_
  refine aw_cV (st := []) 4 [.int (nI s), .int (nI (l - (k - (min k h)))), .int (nI (h - (min k h)))] oX2_setBars k6_154 rfl rfl rfl rfl rfl rfl rfl rfl (oX6_throwsOff.dec rfl) (c_setBars (by omega)) ?_
  refine aw_eqG (G' := va_up (va_up G 25 (remP (G 24) (G 25) K)) 24 (upd (upd (G 24) (8 + s) (nI (l - (k - (min k h))))) (13 + s) (nI (h - (min k h))))) (rfl) ?_
  refine aw_eqS (st := []) rfl ?_
  refine aw_run oX6_throwsOff sxOk 3 (pc' := 105) (L' := [some (.ref 0), some (.int (nI s)), some (.int (nI k)), some (.int (if G 24 (13 + s) < nI k then G 24 (13 + s) else nI k))]) (st' := [.int (nI s), .ref 4]) (I' := up2 I 4 2 (nI (remK K))) (J' := J) (G' := va_up (va_up G 25 (remP (G 24) (G 25) K)) 24 (upd (upd (G 24) (8 + s) (nI (l - (k - (min k h))))) (13 + s) (nI (h - (min k h))))) rfl ?_
  refine aw_cV (st := []) 4 [.int (nI s)] oX2_silverOf k6_158 rfl rfl rfl rfl rfl rfl rfl rfl (oX6_throwsOff.dec rfl) (c_silverOf (by omega)) ?_
  refine aw_eqS (st := [.int (sil (upd (upd (G 24) (8 + s) (nI (l - (k - (min k h))))) (13 + s) (nI (h - (min k h)))) s)]) rfl ?_
  exact aw_iret rfl (oX6_throwsOff.dec rfl) pe_rfl
set_option maxRecDepth 20000 in
theorem c_raises_bad {I : II} {J : JJ} {G : II} {P : Nat} (hP : I 2 7 = nI P) (hP5 : P ≤ 5) {x : Int32} (hx : notIn x P) : AMet SX mX6_raises [.ref 0, .int x] I J G (PE (some (.int (-nI 1))) I J G) := by
  refine amet_en oX6_raises rfl rfl (L := [some (.ref 0), some (.int x), none]) rfl ?_
  refine aw_run oX6_raises sxOk 3 (pc' := 5) (L' := [some (.ref 0), some (.int x), none]) (st' := [.int x, .ref 2]) (I' := I) (J' := J) (G' := G) rfl ?_
  refine aw_cV (st := []) 2 [.int x] oX4_hasShip k6_97 rfl rfl rfl rfl rfl rfl rfl rfl (oX6_raises.dec rfl) (c_hasShip_f hP (by omega) (by assumption)) ?_
  refine aw_eqS (st := [.int (nI 0)]) rfl ?_
  refine aw_0neN rfl (by omega) (oX6_raises.dec rfl) (tgt := 13) rfl (fun h8 => absurd h8 (by omega)) (fun h8 => ?_)
  refine aw_run oX6_raises sxOk 1 (pc' := 12) (L' := [some (.ref 0), some (.int x), none]) (st' := [.int (-nI 1)]) (I' := I) (J' := J) (G' := G) rfl ?_
  exact aw_iret rfl (oX6_raises.dec rfl) pe_rfl
set_option maxRecDepth 20000 in
theorem c_raises_no {I : II} {J : JJ} {G : II} {P : Nat} (hP : I 2 7 = nI P) (hP5 : P ≤ 5) {s : Nat} (hs : s < P) (hp : ¬ G 24 (3 + s) = nI 3) : AMet SX mX6_raises [.ref 0, .int (nI s)] I J G (PE (some (.int (-nI 2))) I J G) := by
  refine amet_en oX6_raises rfl rfl (L := [some (.ref 0), some (.int (nI s)), none]) rfl ?_
  refine aw_run oX6_raises sxOk 3 (pc' := 5) (L' := [some (.ref 0), some (.int (nI s)), none]) (st' := [.int (nI s), .ref 2]) (I' := I) (J' := J) (G' := G) rfl ?_
  refine aw_cV (st := []) 2 [.int (nI s)] oX4_hasShip k6_97 rfl rfl rfl rfl rfl rfl rfl rfl (oX6_raises.dec rfl) (c_hasShip_t hP (by omega) (by omega)) ?_
  refine aw_eqS (st := [.int (nI 1)]) rfl ?_
  refine aw_0neN rfl (by omega) (oX6_raises.dec rfl) (tgt := 13) rfl (fun h8 => ?_) (fun h8 => absurd h8 (by omega))
  refine aw_run oX6_raises sxOk 3 (pc' := 18) (L' := [some (.ref 0), some (.int (nI s)), none]) (st' := [.int (nI s), .ref 4]) (I' := I) (J' := J) (G' := G) rfl ?_
  refine aw_cV (st := []) 4 [.int (nI s)] oX2_placeOf k6_113 rfl rfl rfl rfl rfl rfl rfl rfl (oX6_raises.dec rfl) (c_placeOf (by omega)) ?_
  refine aw_eqS (st := [.int (G 24 (3 + s))]) rfl ?_
  refine aw_run oX6_raises sxOk 1 (pc' := 22) (L' := [some (.ref 0), some (.int (nI s)), none]) (st' := [.int (nI 3), .int (G 24 (3 + s))]) (I' := I) (J' := J) (G' := G) rfl ?_
  refine aw_icmp_eq (oX6_raises.dec rfl) (tgt := 28) rfl (fun h22 => by first | exact absurd h22 (by assumption) | exact absurd (by assumption) h22 | (exfalso; revert h22; decide) | simp_all) (fun h22 => ?_)
  refine aw_run oX6_raises sxOk 1 (pc' := 27) (L' := [some (.ref 0), some (.int (nI s)), none]) (st' := [.int (-nI 2)]) (I' := I) (J' := J) (G' := G) rfl ?_
  exact aw_iret rfl (oX6_raises.dec rfl) pe_rfl
set_option maxRecDepth 20000 in
theorem c_raises_ok {I : II} {J : JJ} {G : II} {P : Nat} (hP : I 2 7 = nI P) (hP5 : P ≤ 5) {s : Nat} (hs : s < P) {K : Nat} (hK : I 4 2 = nI K) (hK10 : K ≤ 10) (hp : G 24 (3 + s) = nI 3) : AMet SX mX6_raises [.ref 0, .int (nI s)] I J G (PE (some (.int ((sil (G 24) s) / (nI 2)))) (up2 I 4 2 (nI (remK K))) J (va_up (va_up G 25 (remP (G 24) (G 25) K)) 24 (upd (upd (upd (upd (G 24) 1 ((G 24 1) + ((sil (G 24) s) / (nI 2)))) (3 + s) (nI 4)) (8 + s) (nI 0)) (13 + s) (nI 0)))) := by
  refine amet_en oX6_raises rfl rfl (L := [some (.ref 0), some (.int (nI s)), none]) rfl ?_
  refine aw_run oX6_raises sxOk 3 (pc' := 5) (L' := [some (.ref 0), some (.int (nI s)), none]) (st' := [.int (nI s), .ref 2]) (I' := I) (J' := J) (G' := G) rfl ?_
  refine aw_cV (st := []) 2 [.int (nI s)] oX4_hasShip k6_97 rfl rfl rfl rfl rfl rfl rfl rfl (oX6_raises.dec rfl) (c_hasShip_t hP (by omega) (by omega)) ?_
  refine aw_eqS (st := [.int (nI 1)]) rfl ?_
  refine aw_0neN rfl (by omega) (oX6_raises.dec rfl) (tgt := 13) rfl (fun h8 => ?_) (fun h8 => absurd h8 (by omega))
  refine aw_run oX6_raises sxOk 3 (pc' := 18) (L' := [some (.ref 0), some (.int (nI s)), none]) (st' := [.int (nI s), .ref 4]) (I' := I) (J' := J) (G' := G) rfl ?_
  refine aw_cV (st := []) 4 [.int (nI s)] oX2_placeOf k6_113 rfl rfl rfl rfl rfl rfl rfl rfl (oX6_raises.dec rfl) (c_placeOf (by omega)) ?_
  refine aw_eqS (st := [.int (G 24 (3 + s))]) rfl ?_
  refine aw_run oX6_raises sxOk 1 (pc' := 22) (L' := [some (.ref 0), some (.int (nI s)), none]) (st' := [.int (nI 3), .int (G 24 (3 + s))]) (I' := I) (J' := J) (G' := G) rfl ?_
  refine aw_icmp_eq (oX6_raises.dec rfl) (tgt := 28) rfl (fun h22 => ?_) (fun h22 => by first | exact absurd h22 (by assumption) | exact absurd (by assumption) h22 | (exfalso; revert h22; decide) | simp_all)
  refine aw_run oX6_raises sxOk 2 (pc' := 32) (L' := [some (.ref 0), some (.int (nI s)), none]) (st' := [.ref 4]) (I' := I) (J' := J) (G' := G) rfl ?_
  refine aw_cV (st := []) 4 [] oX2_remember k6_120 rfl rfl rfl rfl rfl rfl rfl rfl (oX6_raises.dec rfl) (c_remember hK (by omega)) ?_
  refine aw_eqG (G' := va_up G 25 (remP (G 24) (G 25) K)) (rfl) ?_
  refine aw_eqS (st := []) rfl ?_
  refine aw_run oX6_raises sxOk 3 (pc' := 40) (L' := [some (.ref 0), some (.int (nI s)), none]) (st' := [.int (nI s), .ref 4]) (I' := up2 I 4 2 (nI (remK K))) (J' := J) (G' := va_up G 25 (remP (G 24) (G 25) K)) rfl ?_
  refine aw_cV (st := []) 4 [.int (nI s)] oX2_silverOf k6_158 rfl rfl rfl rfl rfl rfl rfl rfl (oX6_raises.dec rfl) (c_silverOf (by omega)) ?_
  refine aw_eqS (st := [.int (sil (G 24) s)]) rfl ?_
  refine aw_run oX6_raises sxOk 1 (pc' := 44) (L' := [some (.ref 0), some (.int (nI s)), none]) (st' := [.int (nI 2), .int (sil (G 24) s)]) (I' := up2 I 4 2 (nI (remK K))) (J' := J) (G' := va_up G 25 (remP (G 24) (G 25) K)) rfl ?_
  refine aw_idiv (by decide) (oX6_raises.dec rfl) ?_
  refine aw_run oX6_raises sxOk 6 (pc' := 55) (L' := [some (.ref 0), some (.int (nI s)), some (.int ((sil (G 24) s) / (nI 2)))]) (st' := [.int (nI 1), .ref 24, .int (nI 1), .ref 24]) (I' := up2 I 4 2 (nI (remK K))) (J' := J) (G' := va_up G 25 (remP (G 24) (G 25) K)) rfl ?_
  refine aw_iaN 1 sxOk rfl rfl (by omega) (oX6_raises.dec rfl) ?_
  refine aw_eqS (st := [.int (G 24 1), .int (nI 1), .ref 24]) rfl ?_
  refine aw_run oX6_raises sxOk 2 (pc' := 58) (L' := [some (.ref 0), some (.int (nI s)), some (.int ((sil (G 24) s) / (nI 2)))]) (st' := [.int ((G 24 1) + ((sil (G 24) s) / (nI 2))), .int (nI 1), .ref 24]) (I' := up2 I 4 2 (nI (remK K))) (J' := J) (G' := va_up G 25 (remP (G 24) (G 25) K)) rfl ?_
  refine aw_isN 1 sxOk rfl rfl (by omega) (oX6_raises.dec rfl) ?_
  refine aw_eqG (G' := va_up (va_up G 25 (remP (G 24) (G 25) K)) 24 (upd (G 24) 1 ((G 24 1) + ((sil (G 24) s) / (nI 2))))) (rfl) ?_
  refine aw_run oX6_raises sxOk 7 (pc' := 70) (L' := [some (.ref 0), some (.int (nI s)), some (.int ((sil (G 24) s) / (nI 2)))]) (st' := [.int (nI 4), .int ((nI 3) + (nI s)), .ref 24]) (I' := up2 I 4 2 (nI (remK K))) (J' := J) (G' := va_up (va_up G 25 (remP (G 24) (G 25) K)) 24 (upd (G 24) 1 ((G 24 1) + ((sil (G 24) s) / (nI 2))))) rfl ?_
  refine aw_isN (3 + s) sxOk rfl (addN rfl rfl) (by omega) (oX6_raises.dec rfl) ?_
  refine aw_eqG (G' := va_up (va_up G 25 (remP (G 24) (G 25) K)) 24 (upd (upd (G 24) 1 ((G 24 1) + ((sil (G 24) s) / (nI 2)))) (3 + s) (nI 4))) (bx_uu _ _ _ _) ?_
  refine aw_run oX6_raises sxOk 5 (pc' := 78) (L' := [some (.ref 0), some (.int (nI s)), some (.int ((sil (G 24) s) / (nI 2)))]) (st' := [.int (nI 0), .int (nI 0), .int (nI s), .ref 4]) (I' := up2 I 4 2 (nI (remK K))) (J' := J) (G' := va_up (va_up G 25 (remP (G 24) (G 25) K)) 24 (upd (upd (G 24) 1 ((G 24 1) + ((sil (G 24) s) / (nI 2)))) (3 + s) (nI 4))) rfl ?_
  refine aw_cV (st := []) 4 [.int (nI s), .int (nI 0), .int (nI 0)] oX2_setBars k6_154 rfl rfl rfl rfl rfl rfl rfl rfl (oX6_raises.dec rfl) (c_setBars (by omega)) ?_
  refine aw_eqG (G' := va_up (va_up G 25 (remP (G 24) (G 25) K)) 24 (upd (upd (upd (upd (G 24) 1 ((G 24 1) + ((sil (G 24) s) / (nI 2)))) (3 + s) (nI 4)) (8 + s) (nI 0)) (13 + s) (nI 0))) (bx_uu _ _ _ _) ?_
  refine aw_eqS (st := []) rfl ?_
  refine aw_run oX6_raises sxOk 1 (pc' := 82) (L' := [some (.ref 0), some (.int (nI s)), some (.int ((sil (G 24) s) / (nI 2)))]) (st' := [.int ((sil (G 24) s) / (nI 2))]) (I' := up2 I 4 2 (nI (remK K))) (J' := J) (G' := va_up (va_up G 25 (remP (G 24) (G 25) K)) 24 (upd (upd (upd (upd (G 24) 1 ((G 24 1) + ((sil (G 24) s) / (nI 2)))) (3 + s) (nI 4)) (8 + s) (nI 0)) (13 + s) (nI 0))) rfl ?_
  exact aw_iret rfl (oX6_raises.dec rfl) pe_rfl
set_option maxRecDepth 20000 in
theorem c_undo_no {I : II} {J : JJ} {G : II} (hK : I 4 2 = nI 0) : AMet SX mX6_undo [.ref 0] I J G (PE (some (.int (-nI 2))) I J G) := by
  refine amet_en oX6_undo rfl rfl (L := [some (.ref 0)]) rfl ?_
  refine aw_run oX6_undo sxOk 3 (pc' := 7) (L' := [some (.ref 0)]) (st' := [.int (I 4 2)]) (I' := I) (J' := J) (G' := G) rfl ?_
  refine aw_0neN hK (by omega) (oX6_undo.dec rfl) (tgt := 13) rfl (fun h7 => absurd h7 (by omega)) (fun h7 => ?_)
  refine aw_run oX6_undo sxOk 1 (pc' := 12) (L' := [some (.ref 0)]) (st' := [.int (-nI 2)]) (I' := I) (J' := J) (G' := G) rfl ?_
  exact aw_iret rfl (oX6_undo.dec rfl) pe_rfl
set_option maxRecDepth 20000 in
theorem c_undo_ok {I : II} {J : JJ} {G : II} {K : Nat} (hK : I 4 2 = nI K) (hK10 : K ≤ 10) (h1 : 1 ≤ K) : AMet SX mX6_undo [.ref 0] I J G (PE (some (.int (nI (K - 1)))) (up2 I 4 2 (nI (K - 1))) J (va_up G 24 (va_cpy (G 25) (G 24) ((K - 1) * 18) 0 18))) := by
  refine amet_en oX6_undo rfl rfl (L := [some (.ref 0)]) rfl ?_
  refine aw_run oX6_undo sxOk 3 (pc' := 7) (L' := [some (.ref 0)]) (st' := [.int (I 4 2)]) (I' := I) (J' := J) (G' := G) rfl ?_
  refine aw_0neN hK (by omega) (oX6_undo.dec rfl) (tgt := 13) rfl (fun h7 => ?_) (fun h7 => absurd h7 (by omega))
  refine aw_run oX6_undo sxOk 2 (pc' := 17) (L' := [some (.ref 0)]) (st' := [.ref 4]) (I' := I) (J' := J) (G' := G) rfl ?_
  refine aw_cV (st := []) 4 [] oX2_goBack k6_169 rfl rfl rfl rfl rfl rfl rfl rfl (oX6_undo.dec rfl) (c_goBack hK (by omega) (by omega)) ?_
  refine aw_eqG (G' := va_up G 24 (va_cpy (G 25) (G 24) ((K - 1) * 18) 0 18)) (rfl) ?_
  refine aw_eqS (st := []) rfl ?_
  refine aw_run oX6_undo sxOk 3 (pc' := 27) (L' := [some (.ref 0)]) (st' := [.int (nI (K - 1))]) (I' := up2 I 4 2 (nI (K - 1))) (J' := J) (G' := va_up G 24 (va_cpy (G 25) (G 24) ((K - 1) * 18) 0 18)) rfl ?_
  exact aw_iret rfl (oX6_undo.dec rfl) pe_rfl
end
section
set_option maxRecDepth 20000 in
theorem c_now_0 {I : II} {J : JJ} {G : II} {P : Nat} (hP : I 2 7 = nI P) (hP5 : P ≤ 5) : AMet SX mX6_now [.ref 0, .int (nI 0)] I J G (PE (some (.int (G 24 0))) I J G) := by
  refine amet_en oX6_now rfl rfl (L := [some (.ref 0), some (.int (nI 0))]) rfl ?_
  refine aw_run oX6_now sxOk 1 (pc' := 1) (L' := [some (.ref 0), some (.int (nI 0))]) (st' := [.int (nI 0)]) (I' := I) (J' := J) (G' := G) rfl ?_
  refine aw_tableIn (x := nI 0) (oX6_now.dec rfl) (by decide) (by decide) (off := 39) (by decide) (tgt := 40) rfl ?_
  refine aw_run oX6_now sxOk 2 (pc' := 44) (L' := [some (.ref 0), some (.int (nI 0))]) (st' := [.ref 4]) (I' := I) (J' := J) (G' := G) rfl ?_
  refine aw_cV (st := []) 4 [] oX2_theWeek k6_126 rfl rfl rfl rfl rfl rfl rfl rfl (oX6_now.dec rfl) c_theWeek ?_
  refine aw_eqS (st := [.int (G 24 0)]) rfl ?_
  exact aw_iret rfl (oX6_now.dec rfl) pe_rfl
set_option maxRecDepth 20000 in
theorem c_now_1 {I : II} {J : JJ} {G : II} {P : Nat} (hP : I 2 7 = nI P) (hP5 : P ≤ 5) : AMet SX mX6_now [.ref 0, .int (nI 1)] I J G (PE (some (.int (nI (setN (fun s => decide (G 24 (3 + s) = nI 0)) P)))) I J G) := by
  refine amet_en oX6_now rfl rfl (L := [some (.ref 0), some (.int (nI 1))]) rfl ?_
  refine aw_run oX6_now sxOk 1 (pc' := 1) (L' := [some (.ref 0), some (.int (nI 1))]) (st' := [.int (nI 1)]) (I' := I) (J' := J) (G' := G) rfl ?_
  refine aw_tableIn (x := nI 1) (oX6_now.dec rfl) (by decide) (by decide) (off := 47) (by decide) (tgt := 48) rfl ?_
  refine aw_run oX6_now sxOk 2 (pc' := 52) (L' := [some (.ref 0), some (.int (nI 1))]) (st' := [.ref 7]) (I' := I) (J' := J) (G' := G) rfl ?_
  refine aw_cV (st := []) 7 [] oX0_inPort k6_172 rfl rfl rfl rfl rfl rfl rfl rfl (oX6_now.dec rfl) (c_inPort hP (by omega)) ?_
  refine aw_eqS (st := [.int (nI (setN (fun s => decide (G 24 (3 + s) = nI 0)) P))]) rfl ?_
  exact aw_iret rfl (oX6_now.dec rfl) pe_rfl
set_option maxRecDepth 20000 in
theorem c_now_2 {I : II} {J : JJ} {G : II} {P : Nat} (hP : I 2 7 = nI P) (hP5 : P ≤ 5) : AMet SX mX6_now [.ref 0, .int (nI 2)] I J G (PE (some (.int (G 24 1))) I J G) := by
  refine amet_en oX6_now rfl rfl (L := [some (.ref 0), some (.int (nI 2))]) rfl ?_
  refine aw_run oX6_now sxOk 1 (pc' := 1) (L' := [some (.ref 0), some (.int (nI 2))]) (st' := [.int (nI 2)]) (I' := I) (J' := J) (G' := G) rfl ?_
  refine aw_tableIn (x := nI 2) (oX6_now.dec rfl) (by decide) (by decide) (off := 55) (by decide) (tgt := 56) rfl ?_
  refine aw_run oX6_now sxOk 4 (pc' := 64) (L' := [some (.ref 0), some (.int (nI 2))]) (st' := [.int (nI 1), .ref 24]) (I' := I) (J' := J) (G' := G) rfl ?_
  refine aw_iaN 1 sxOk rfl rfl (by omega) (oX6_now.dec rfl) ?_
  exact aw_iret rfl (oX6_now.dec rfl) pe_rfl
set_option maxRecDepth 20000 in
theorem c_now_3 {I : II} {J : JJ} {G : II} {P : Nat} (hP : I 2 7 = nI P) (hP5 : P ≤ 5) : AMet SX mX6_now [.ref 0, .int (nI 3)] I J G (PE (some (.int (G 24 2))) I J G) := by
  refine amet_en oX6_now rfl rfl (L := [some (.ref 0), some (.int (nI 3))]) rfl ?_
  refine aw_run oX6_now sxOk 1 (pc' := 1) (L' := [some (.ref 0), some (.int (nI 3))]) (st' := [.int (nI 3)]) (I' := I) (J' := J) (G' := G) rfl ?_
  refine aw_tableIn (x := nI 3) (oX6_now.dec rfl) (by decide) (by decide) (off := 65) (by decide) (tgt := 66) rfl ?_
  refine aw_run oX6_now sxOk 4 (pc' := 74) (L' := [some (.ref 0), some (.int (nI 3))]) (st' := [.int (nI 2), .ref 24]) (I' := I) (J' := J) (G' := G) rfl ?_
  refine aw_iaN 2 sxOk rfl rfl (by omega) (oX6_now.dec rfl) ?_
  exact aw_iret rfl (oX6_now.dec rfl) pe_rfl
set_option maxRecDepth 20000 in
theorem c_now_5 {I : II} {J : JJ} {G : II} {P : Nat} (hP : I 2 7 = nI P) (hP5 : P ≤ 5) : AMet SX mX6_now [.ref 0, .int (nI 5)] I J G (PE (some (.int (sumC (sil (G 24)) (fun s => decide (G 24 (3 + s) = nI 3)) P))) I J G) := by
  refine amet_en oX6_now rfl rfl (L := [some (.ref 0), some (.int (nI 5))]) rfl ?_
  refine aw_run oX6_now sxOk 1 (pc' := 1) (L' := [some (.ref 0), some (.int (nI 5))]) (st' := [.int (nI 5)]) (I' := I) (J' := J) (G' := G) rfl ?_
  refine aw_tableIn (x := nI 5) (oX6_now.dec rfl) (by decide) (by decide) (off := 88) (by decide) (tgt := 89) rfl ?_
  refine aw_run oX6_now sxOk 2 (pc' := 93) (L' := [some (.ref 0), some (.int (nI 5))]) (st' := [.ref 7]) (I' := I) (J' := J) (G' := G) rfl ?_
  refine aw_cV (st := []) 7 [] oX0_silverOnTheReef k6_175 rfl rfl rfl rfl rfl rfl rfl rfl (oX6_now.dec rfl) (c_reef hP (by omega)) ?_
  refine aw_eqS (st := [.int (sumC (sil (G 24)) (fun s => decide (G 24 (3 + s) = nI 3)) P)]) rfl ?_
  exact aw_iret rfl (oX6_now.dec rfl) pe_rfl
set_option maxRecDepth 20000 in
theorem c_now_4t {I : II} {J : JJ} {G : II} {Wk : Nat} (hW : I 2 6 = nI Wk) (hWk : Wk ≤ 12) {t : Nat} (ht : G 24 0 = nI t) (ht12 : t ≤ 12) (ho : Wk ≤ t) : AMet SX mX6_now [.ref 0, .int (nI 4)] I J G (PE (some (.int (nI 1))) I J G) := by
  refine amet_en oX6_now rfl rfl (L := [some (.ref 0), some (.int (nI 4))]) rfl ?_
  refine aw_run oX6_now sxOk 1 (pc' := 1) (L' := [some (.ref 0), some (.int (nI 4))]) (st' := [.int (nI 4)]) (I' := I) (J' := J) (G' := G) rfl ?_
  refine aw_tableIn (x := nI 4) (oX6_now.dec rfl) (by decide) (by decide) (off := 75) (by decide) (tgt := 76) rfl ?_
  refine aw_run oX6_now sxOk 1 (pc' := 77) (L' := [some (.ref 0), some (.int (nI 4))]) (st' := [.ref 0]) (I' := I) (J' := J) (G' := G) rfl ?_
  refine aw_cV (st := []) 0 [] oX6_isOver k6_116 rfl rfl rfl rfl rfl rfl rfl rfl (oX6_now.dec rfl) (c_isOver hW hWk ht (by omega)) ?_
  refine aw_eqS (st := [.int (b1 (decide (Wk ≤ t)))]) rfl ?_
  refine aw_0eqD (oX6_now.dec rfl) (tgt := 87) rfl (fun h80 => absurd h80 (by omega)) (fun h80 => ?_)
  refine aw_run oX6_now sxOk 2 (pc' := 88) (L' := [some (.ref 0), some (.int (nI 4))]) (st' := [.int (nI 1)]) (I' := I) (J' := J) (G' := G) rfl ?_
  exact aw_iret rfl (oX6_now.dec rfl) pe_rfl
set_option maxRecDepth 20000 in
theorem c_now_4f {I : II} {J : JJ} {G : II} {Wk : Nat} (hW : I 2 6 = nI Wk) (hWk : Wk ≤ 12) {t : Nat} (ht : G 24 0 = nI t) (ht12 : t ≤ 12) (ho : t < Wk) : AMet SX mX6_now [.ref 0, .int (nI 4)] I J G (PE (some (.int (nI 0))) I J G) := by
  refine amet_en oX6_now rfl rfl (L := [some (.ref 0), some (.int (nI 4))]) rfl ?_
  refine aw_run oX6_now sxOk 1 (pc' := 1) (L' := [some (.ref 0), some (.int (nI 4))]) (st' := [.int (nI 4)]) (I' := I) (J' := J) (G' := G) rfl ?_
  refine aw_tableIn (x := nI 4) (oX6_now.dec rfl) (by decide) (by decide) (off := 75) (by decide) (tgt := 76) rfl ?_
  refine aw_run oX6_now sxOk 1 (pc' := 77) (L' := [some (.ref 0), some (.int (nI 4))]) (st' := [.ref 0]) (I' := I) (J' := J) (G' := G) rfl ?_
  refine aw_cV (st := []) 0 [] oX6_isOver k6_116 rfl rfl rfl rfl rfl rfl rfl rfl (oX6_now.dec rfl) (c_isOver hW hWk ht (by omega)) ?_
  refine aw_eqS (st := [.int (b1 (decide (Wk ≤ t)))]) rfl ?_
  refine aw_0eqD (oX6_now.dec rfl) (tgt := 87) rfl (fun h80 => ?_) (fun h80 => absurd h80 (by omega))
  refine aw_run oX6_now sxOk 1 (pc' := 88) (L' := [some (.ref 0), some (.int (nI 4))]) (st' := [.int (nI 0)]) (I' := I) (J' := J) (G' := G) rfl ?_
  exact aw_iret rfl (oX6_now.dec rfl) pe_rfl
set_option maxRecDepth 20000 in
theorem c_now_bad {I : II} {J : JJ} {G : II} {x : Int32} (hx : notIn x 6) : AMet SX mX6_now [.ref 0, .int x] I J G (PE (some (.int (-nI 1))) I J G) := by
  refine amet_en oX6_now rfl rfl (L := [some (.ref 0), some (.int x)]) rfl ?_
  refine aw_run oX6_now sxOk 1 (pc' := 1) (L' := [some (.ref 0), some (.int x)]) (st' := [.int x]) (I' := I) (J' := J) (G' := G) rfl ?_
  refine aw_tableOut (x := x) (oX6_now.dec rfl) (notIn_tab hx (by decide)) (tgt := 97) rfl ?_
  refine aw_run oX6_now sxOk 1 (pc' := 98) (L' := [some (.ref 0), some (.int x)]) (st' := [.int (-nI 1)]) (I' := I) (J' := J) (G' := G) rfl ?_
  exact aw_iret rfl (oX6_now.dec rfl) pe_rfl
set_option maxRecDepth 20000 in
theorem c_worth_bad {I : II} {J : JJ} {G : II} {P : Nat} (hP : I 2 7 = nI P) (hP5 : P ≤ 5) {x y : Int32} (hx : notIn x (2 ^ P)) : AMet SX mX6_worth [.ref 0, .int x, .int y] I J G (PE (some (.int (-nI 1))) I J G) := by
  have hp32 : 2 ^ P ≤ 32 := Nat.pow_le_pow_right (by decide) hP5
  refine amet_en oX6_worth rfl rfl (L := [some (.ref 0), some (.int x), some (.int y)]) rfl ?_
  refine aw_run oX6_worth sxOk 3 (pc' := 5) (L' := [some (.ref 0), some (.int x), some (.int y)]) (st' := [.int x, .ref 2]) (I' := I) (J' := J) (G' := G) rfl ?_
  refine aw_cV (st := []) 2 [.int x] oX4_hasSet k6_130 rfl rfl rfl rfl rfl rfl rfl rfl (oX6_worth.dec rfl) (c_hasSet_f hP (by omega) (by assumption)) ?_
  refine aw_eqS (st := [.int (nI 0)]) rfl ?_
  refine aw_0eqN rfl (by omega) (oX6_worth.dec rfl) (tgt := 22) rfl (fun h8 => ?_) (fun h8 => absurd h8 (by omega))
  refine aw_run oX6_worth sxOk 1 (pc' := 23) (L' := [some (.ref 0), some (.int x), some (.int y)]) (st' := [.int (-nI 1)]) (I' := I) (J' := J) (G' := G) rfl ?_
  exact aw_iret rfl (oX6_worth.dec rfl) pe_rfl
set_option maxRecDepth 20000 in
theorem c_worth_bad2 {I : II} {J : JJ} {G : II} {P : Nat} (hP : I 2 7 = nI P) (hP5 : P ≤ 5) {Wk : Nat} (hW : I 2 6 = nI Wk) (hWk : Wk ≤ 12) {σ : Nat} (hσ : σ < 2 ^ P) {x : Int32} (hx : notIn x Wk) : AMet SX mX6_worth [.ref 0, .int (nI σ), .int x] I J G (PE (some (.int (-nI 1))) I J G) := by
  have hp32 : 2 ^ P ≤ 32 := Nat.pow_le_pow_right (by decide) hP5
  refine amet_en oX6_worth rfl rfl (L := [some (.ref 0), some (.int (nI σ)), some (.int x)]) rfl ?_
  refine aw_run oX6_worth sxOk 3 (pc' := 5) (L' := [some (.ref 0), some (.int (nI σ)), some (.int x)]) (st' := [.int (nI σ), .ref 2]) (I' := I) (J' := J) (G' := G) rfl ?_
  refine aw_cV (st := []) 2 [.int (nI σ)] oX4_hasSet k6_130 rfl rfl rfl rfl rfl rfl rfl rfl (oX6_worth.dec rfl) (c_hasSet_t hP (by omega) (by omega)) ?_
  refine aw_eqS (st := [.int (nI 1)]) rfl ?_
  refine aw_0eqN rfl (by omega) (oX6_worth.dec rfl) (tgt := 22) rfl (fun h8 => absurd h8 (by omega)) (fun h8 => ?_)
  refine aw_run oX6_worth sxOk 3 (pc' := 16) (L' := [some (.ref 0), some (.int (nI σ)), some (.int x)]) (st' := [.int x, .ref 2]) (I' := I) (J' := J) (G' := G) rfl ?_
  refine aw_cV (st := []) 2 [.int x] oX4_hasWeek k6_87 rfl rfl rfl rfl rfl rfl rfl rfl (oX6_worth.dec rfl) (c_hasWeek_f hW (by omega) (by assumption)) ?_
  refine aw_eqS (st := [.int (nI 0)]) rfl ?_
  refine aw_0neN rfl (by omega) (oX6_worth.dec rfl) (tgt := 24) rfl (fun h19 => absurd h19 (by omega)) (fun h19 => ?_)
  refine aw_run oX6_worth sxOk 1 (pc' := 23) (L' := [some (.ref 0), some (.int (nI σ)), some (.int x)]) (st' := [.int (-nI 1)]) (I' := I) (J' := J) (G' := G) rfl ?_
  exact aw_iret rfl (oX6_worth.dec rfl) pe_rfl
set_option maxRecDepth 20000 in
theorem c_worth_ok {I : II} {J : JJ} {G : II} {P : Nat} (hP : I 2 7 = nI P) (hP5 : P ≤ 5) {Wk : Nat} (hW : I 2 6 = nI Wk) (hWk : Wk ≤ 12) {σ : Nat} (hσ : σ < 2 ^ P) {w : Nat} (hw : w < Wk) (hsil : ∀ s, s < P → nI 0 ≤ sil (G 24) s) : AMet SX mX6_worth [.ref 0, .int (nI σ), .int (nI w)] I J G (PE (some (.int (wor (G 24) (G 16) (G 13 w) (G 12 w) P σ))) I J G) := by
  have hp32 : 2 ^ P ≤ 32 := Nat.pow_le_pow_right (by decide) hP5
  refine amet_en oX6_worth rfl rfl (L := [some (.ref 0), some (.int (nI σ)), some (.int (nI w))]) rfl ?_
  refine aw_run oX6_worth sxOk 3 (pc' := 5) (L' := [some (.ref 0), some (.int (nI σ)), some (.int (nI w))]) (st' := [.int (nI σ), .ref 2]) (I' := I) (J' := J) (G' := G) rfl ?_
  refine aw_cV (st := []) 2 [.int (nI σ)] oX4_hasSet k6_130 rfl rfl rfl rfl rfl rfl rfl rfl (oX6_worth.dec rfl) (c_hasSet_t hP (by omega) (by omega)) ?_
  refine aw_eqS (st := [.int (nI 1)]) rfl ?_
  refine aw_0eqN rfl (by omega) (oX6_worth.dec rfl) (tgt := 22) rfl (fun h8 => absurd h8 (by omega)) (fun h8 => ?_)
  refine aw_run oX6_worth sxOk 3 (pc' := 16) (L' := [some (.ref 0), some (.int (nI σ)), some (.int (nI w))]) (st' := [.int (nI w), .ref 2]) (I' := I) (J' := J) (G' := G) rfl ?_
  refine aw_cV (st := []) 2 [.int (nI w)] oX4_hasWeek k6_87 rfl rfl rfl rfl rfl rfl rfl rfl (oX6_worth.dec rfl) (c_hasWeek_t hW (by omega) (by omega)) ?_
  refine aw_eqS (st := [.int (nI 1)]) rfl ?_
  refine aw_0neN rfl (by omega) (oX6_worth.dec rfl) (tgt := 24) rfl (fun h19 => ?_) (fun h19 => absurd h19 (by omega))
  refine aw_run oX6_worth sxOk 4 (pc' := 30) (L' := [some (.ref 0), some (.int (nI σ)), some (.int (nI w))]) (st' := [.int (nI w), .int (nI σ), .ref 7]) (I' := I) (J' := J) (G' := G) rfl ?_
  refine aw_cV (st := []) 7 [.int (nI σ), .int (nI w)] oX0_worthOf k6_178 rfl rfl rfl rfl rfl rfl rfl rfl (oX6_worth.dec rfl) (c_worthOf hP (by omega) (by omega) (by omega) hsil) ?_
  refine aw_eqS (st := [.int (wor (G 24) (G 16) (G 13 w) (G 12 w) P σ)]) rfl ?_
  exact aw_iret rfl (oX6_worth.dec rfl) pe_rfl
set_option maxRecDepth 20000 in
theorem c_game_bad1 {I : II} {J : JJ} {G : II} {P : Nat} (hP : I 2 7 = nI P) (hP5 : P ≤ 5) {x y u v : Int32} (hx : notIn x (2 ^ P)) : AMet SX mX6_game [.ref 0, .int x, .int y, .int u, .int v] I J G (PE (some (.int (-nI 1))) I J G) := by
  have hp32 : 2 ^ P ≤ 32 := Nat.pow_le_pow_right (by decide) hP5
  refine amet_en oX6_game rfl rfl (L := [some (.ref 0), some (.int x), some (.int y), some (.int u), some (.int v)]) rfl ?_
  refine aw_run oX6_game sxOk 3 (pc' := 5) (L' := [some (.ref 0), some (.int x), some (.int y), some (.int u), some (.int v)]) (st' := [.int x, .ref 2]) (I' := I) (J' := J) (G' := G) rfl ?_
  refine aw_cV (st := []) 2 [.int x] oX4_hasSet k6_130 rfl rfl rfl rfl rfl rfl rfl rfl (oX6_game.dec rfl) (c_hasSet_f hP (by omega) (by assumption)) ?_
  refine aw_eqS (st := [.int (nI 0)]) rfl ?_
  refine aw_0eqN rfl (by omega) (oX6_game.dec rfl) (tgt := 46) rfl (fun h8 => ?_) (fun h8 => absurd h8 (by omega))
  refine aw_run oX6_game sxOk 1 (pc' := 47) (L' := [some (.ref 0), some (.int x), some (.int y), some (.int u), some (.int v)]) (st' := [.int (-nI 1)]) (I' := I) (J' := J) (G' := G) rfl ?_
  exact aw_iret rfl (oX6_game.dec rfl) pe_rfl
set_option maxRecDepth 20000 in
theorem c_game_bad2 {I : II} {J : JJ} {G : II} {P : Nat} (hP : I 2 7 = nI P) (hP5 : P ≤ 5) {Wk : Nat} (hW : I 2 6 = nI Wk) (hWk : Wk ≤ 12) {σ : Nat} (hσ : σ < 2 ^ P) {x u v : Int32} (hx : notIn x Wk) : AMet SX mX6_game [.ref 0, .int (nI σ), .int x, .int u, .int v] I J G (PE (some (.int (-nI 1))) I J G) := by
  have hp32 : 2 ^ P ≤ 32 := Nat.pow_le_pow_right (by decide) hP5
  refine amet_en oX6_game rfl rfl (L := [some (.ref 0), some (.int (nI σ)), some (.int x), some (.int u), some (.int v)]) rfl ?_
  refine aw_run oX6_game sxOk 3 (pc' := 5) (L' := [some (.ref 0), some (.int (nI σ)), some (.int x), some (.int u), some (.int v)]) (st' := [.int (nI σ), .ref 2]) (I' := I) (J' := J) (G' := G) rfl ?_
  refine aw_cV (st := []) 2 [.int (nI σ)] oX4_hasSet k6_130 rfl rfl rfl rfl rfl rfl rfl rfl (oX6_game.dec rfl) (c_hasSet_t hP (by omega) (by omega)) ?_
  refine aw_eqS (st := [.int (nI 1)]) rfl ?_
  refine aw_0eqN rfl (by omega) (oX6_game.dec rfl) (tgt := 46) rfl (fun h8 => absurd h8 (by omega)) (fun h8 => ?_)
  refine aw_run oX6_game sxOk 3 (pc' := 16) (L' := [some (.ref 0), some (.int (nI σ)), some (.int x), some (.int u), some (.int v)]) (st' := [.int x, .ref 2]) (I' := I) (J' := J) (G' := G) rfl ?_
  refine aw_cV (st := []) 2 [.int x] oX4_hasWeek k6_87 rfl rfl rfl rfl rfl rfl rfl rfl (oX6_game.dec rfl) (c_hasWeek_f hW (by omega) (by assumption)) ?_
  refine aw_eqS (st := [.int (nI 0)]) rfl ?_
  refine aw_0eqN rfl (by omega) (oX6_game.dec rfl) (tgt := 46) rfl (fun h19 => ?_) (fun h19 => absurd h19 (by omega))
  refine aw_run oX6_game sxOk 1 (pc' := 47) (L' := [some (.ref 0), some (.int (nI σ)), some (.int x), some (.int u), some (.int v)]) (st' := [.int (-nI 1)]) (I' := I) (J' := J) (G' := G) rfl ?_
  exact aw_iret rfl (oX6_game.dec rfl) pe_rfl
set_option maxRecDepth 20000 in
theorem c_game_bad3 {I : II} {J : JJ} {G : II} {P : Nat} (hP : I 2 7 = nI P) (hP5 : P ≤ 5) {Wk : Nat} (hW : I 2 6 = nI Wk) (hWk : Wk ≤ 12) {σ : Nat} (hσ : σ < 2 ^ P) {a : Nat} {x v : Int32} (ha : a < Wk) (hx : notIn x Wk) : AMet SX mX6_game [.ref 0, .int (nI σ), .int (nI a), .int x, .int v] I J G (PE (some (.int (-nI 1))) I J G) := by
  have hp32 : 2 ^ P ≤ 32 := Nat.pow_le_pow_right (by decide) hP5
  refine amet_en oX6_game rfl rfl (L := [some (.ref 0), some (.int (nI σ)), some (.int (nI a)), some (.int x), some (.int v)]) rfl ?_
  refine aw_run oX6_game sxOk 3 (pc' := 5) (L' := [some (.ref 0), some (.int (nI σ)), some (.int (nI a)), some (.int x), some (.int v)]) (st' := [.int (nI σ), .ref 2]) (I' := I) (J' := J) (G' := G) rfl ?_
  refine aw_cV (st := []) 2 [.int (nI σ)] oX4_hasSet k6_130 rfl rfl rfl rfl rfl rfl rfl rfl (oX6_game.dec rfl) (c_hasSet_t hP (by omega) (by omega)) ?_
  refine aw_eqS (st := [.int (nI 1)]) rfl ?_
  refine aw_0eqN rfl (by omega) (oX6_game.dec rfl) (tgt := 46) rfl (fun h8 => absurd h8 (by omega)) (fun h8 => ?_)
  refine aw_run oX6_game sxOk 3 (pc' := 16) (L' := [some (.ref 0), some (.int (nI σ)), some (.int (nI a)), some (.int x), some (.int v)]) (st' := [.int (nI a), .ref 2]) (I' := I) (J' := J) (G' := G) rfl ?_
  refine aw_cV (st := []) 2 [.int (nI a)] oX4_hasWeek k6_87 rfl rfl rfl rfl rfl rfl rfl rfl (oX6_game.dec rfl) (c_hasWeek_t hW (by omega) (by omega)) ?_
  refine aw_eqS (st := [.int (nI 1)]) rfl ?_
  refine aw_0eqN rfl (by omega) (oX6_game.dec rfl) (tgt := 46) rfl (fun h19 => absurd h19 (by omega)) (fun h19 => ?_)
  refine aw_run oX6_game sxOk 3 (pc' := 27) (L' := [some (.ref 0), some (.int (nI σ)), some (.int (nI a)), some (.int x), some (.int v)]) (st' := [.int x, .ref 2]) (I' := I) (J' := J) (G' := G) rfl ?_
  refine aw_cV (st := []) 2 [.int x] oX4_hasWeek k6_87 rfl rfl rfl rfl rfl rfl rfl rfl (oX6_game.dec rfl) (c_hasWeek_f hW (by omega) (by assumption)) ?_
  refine aw_eqS (st := [.int (nI 0)]) rfl ?_
  refine aw_0eqN rfl (by omega) (oX6_game.dec rfl) (tgt := 46) rfl (fun h30 => ?_) (fun h30 => absurd h30 (by omega))
  refine aw_run oX6_game sxOk 1 (pc' := 47) (L' := [some (.ref 0), some (.int (nI σ)), some (.int (nI a)), some (.int x), some (.int v)]) (st' := [.int (-nI 1)]) (I' := I) (J' := J) (G' := G) rfl ?_
  exact aw_iret rfl (oX6_game.dec rfl) pe_rfl
set_option maxRecDepth 20000 in
theorem c_game_bad4 {I : II} {J : JJ} {G : II} {P : Nat} (hP : I 2 7 = nI P) (hP5 : P ≤ 5) {Wk : Nat} (hW : I 2 6 = nI Wk) (hWk : Wk ≤ 12) {σ : Nat} (hσ : σ < 2 ^ P) {a : Nat} {v : Int32} (ha : a < Wk) : AMet SX mX6_game [.ref 0, .int (nI σ), .int (nI a), .int (nI a), .int v] I J G (PE (some (.int (-nI 1))) I J G) := by
  have hp32 : 2 ^ P ≤ 32 := Nat.pow_le_pow_right (by decide) hP5
  refine amet_en oX6_game rfl rfl (L := [some (.ref 0), some (.int (nI σ)), some (.int (nI a)), some (.int (nI a)), some (.int v)]) rfl ?_
  refine aw_run oX6_game sxOk 3 (pc' := 5) (L' := [some (.ref 0), some (.int (nI σ)), some (.int (nI a)), some (.int (nI a)), some (.int v)]) (st' := [.int (nI σ), .ref 2]) (I' := I) (J' := J) (G' := G) rfl ?_
  refine aw_cV (st := []) 2 [.int (nI σ)] oX4_hasSet k6_130 rfl rfl rfl rfl rfl rfl rfl rfl (oX6_game.dec rfl) (c_hasSet_t hP (by omega) (by omega)) ?_
  refine aw_eqS (st := [.int (nI 1)]) rfl ?_
  refine aw_0eqN rfl (by omega) (oX6_game.dec rfl) (tgt := 46) rfl (fun h8 => absurd h8 (by omega)) (fun h8 => ?_)
  refine aw_run oX6_game sxOk 3 (pc' := 16) (L' := [some (.ref 0), some (.int (nI σ)), some (.int (nI a)), some (.int (nI a)), some (.int v)]) (st' := [.int (nI a), .ref 2]) (I' := I) (J' := J) (G' := G) rfl ?_
  refine aw_cV (st := []) 2 [.int (nI a)] oX4_hasWeek k6_87 rfl rfl rfl rfl rfl rfl rfl rfl (oX6_game.dec rfl) (c_hasWeek_t hW (by omega) (by omega)) ?_
  refine aw_eqS (st := [.int (nI 1)]) rfl ?_
  refine aw_0eqN rfl (by omega) (oX6_game.dec rfl) (tgt := 46) rfl (fun h19 => absurd h19 (by omega)) (fun h19 => ?_)
  refine aw_run oX6_game sxOk 3 (pc' := 27) (L' := [some (.ref 0), some (.int (nI σ)), some (.int (nI a)), some (.int (nI a)), some (.int v)]) (st' := [.int (nI a), .ref 2]) (I' := I) (J' := J) (G' := G) rfl ?_
  refine aw_cV (st := []) 2 [.int (nI a)] oX4_hasWeek k6_87 rfl rfl rfl rfl rfl rfl rfl rfl (oX6_game.dec rfl) (c_hasWeek_t hW (by omega) (by omega)) ?_
  refine aw_eqS (st := [.int (nI 1)]) rfl ?_
  refine aw_0eqN rfl (by omega) (oX6_game.dec rfl) (tgt := 46) rfl (fun h30 => absurd h30 (by omega)) (fun h30 => ?_)
  refine aw_run oX6_game sxOk 2 (pc' := 35) (L' := [some (.ref 0), some (.int (nI σ)), some (.int (nI a)), some (.int (nI a)), some (.int v)]) (st' := [.int (nI a), .int (nI a)]) (I' := I) (J' := J) (G' := G) rfl ?_
  refine aw_eqN rfl rfl (by omega) (by omega) (oX6_game.dec rfl) (tgt := 46) rfl (fun h35 => ?_) (fun h35 => absurd h35 (by omega))
  refine aw_run oX6_game sxOk 1 (pc' := 47) (L' := [some (.ref 0), some (.int (nI σ)), some (.int (nI a)), some (.int (nI a)), some (.int v)]) (st' := [.int (-nI 1)]) (I' := I) (J' := J) (G' := G) rfl ?_
  exact aw_iret rfl (oX6_game.dec rfl) pe_rfl
set_option maxRecDepth 20000 in
theorem c_game_bad5 {I : II} {J : JJ} {G : II} {P : Nat} (hP : I 2 7 = nI P) (hP5 : P ≤ 5) {Wk : Nat} (hW : I 2 6 = nI Wk) (hWk : Wk ≤ 12) {σ : Nat} (hσ : σ < 2 ^ P) {a b : Nat} {x : Int32} (ha : a < Wk) (hb : b < Wk) (hab : a ≠ b) (hx : notIn x 2) : AMet SX mX6_game [.ref 0, .int (nI σ), .int (nI a), .int (nI b), .int x] I J G (PE (some (.int (-nI 1))) I J G) := by
  have hp32 : 2 ^ P ≤ 32 := Nat.pow_le_pow_right (by decide) hP5
  refine amet_en oX6_game rfl rfl (L := [some (.ref 0), some (.int (nI σ)), some (.int (nI a)), some (.int (nI b)), some (.int x)]) rfl ?_
  refine aw_run oX6_game sxOk 3 (pc' := 5) (L' := [some (.ref 0), some (.int (nI σ)), some (.int (nI a)), some (.int (nI b)), some (.int x)]) (st' := [.int (nI σ), .ref 2]) (I' := I) (J' := J) (G' := G) rfl ?_
  refine aw_cV (st := []) 2 [.int (nI σ)] oX4_hasSet k6_130 rfl rfl rfl rfl rfl rfl rfl rfl (oX6_game.dec rfl) (c_hasSet_t hP (by omega) (by omega)) ?_
  refine aw_eqS (st := [.int (nI 1)]) rfl ?_
  refine aw_0eqN rfl (by omega) (oX6_game.dec rfl) (tgt := 46) rfl (fun h8 => absurd h8 (by omega)) (fun h8 => ?_)
  refine aw_run oX6_game sxOk 3 (pc' := 16) (L' := [some (.ref 0), some (.int (nI σ)), some (.int (nI a)), some (.int (nI b)), some (.int x)]) (st' := [.int (nI a), .ref 2]) (I' := I) (J' := J) (G' := G) rfl ?_
  refine aw_cV (st := []) 2 [.int (nI a)] oX4_hasWeek k6_87 rfl rfl rfl rfl rfl rfl rfl rfl (oX6_game.dec rfl) (c_hasWeek_t hW (by omega) (by omega)) ?_
  refine aw_eqS (st := [.int (nI 1)]) rfl ?_
  refine aw_0eqN rfl (by omega) (oX6_game.dec rfl) (tgt := 46) rfl (fun h19 => absurd h19 (by omega)) (fun h19 => ?_)
  refine aw_run oX6_game sxOk 3 (pc' := 27) (L' := [some (.ref 0), some (.int (nI σ)), some (.int (nI a)), some (.int (nI b)), some (.int x)]) (st' := [.int (nI b), .ref 2]) (I' := I) (J' := J) (G' := G) rfl ?_
  refine aw_cV (st := []) 2 [.int (nI b)] oX4_hasWeek k6_87 rfl rfl rfl rfl rfl rfl rfl rfl (oX6_game.dec rfl) (c_hasWeek_t hW (by omega) (by omega)) ?_
  refine aw_eqS (st := [.int (nI 1)]) rfl ?_
  refine aw_0eqN rfl (by omega) (oX6_game.dec rfl) (tgt := 46) rfl (fun h30 => absurd h30 (by omega)) (fun h30 => ?_)
  refine aw_run oX6_game sxOk 2 (pc' := 35) (L' := [some (.ref 0), some (.int (nI σ)), some (.int (nI a)), some (.int (nI b)), some (.int x)]) (st' := [.int (nI b), .int (nI a)]) (I' := I) (J' := J) (G' := G) rfl ?_
  refine aw_eqN rfl rfl (by omega) (by omega) (oX6_game.dec rfl) (tgt := 46) rfl (fun h35 => absurd h35 (by omega)) (fun h35 => ?_)
  refine aw_run oX6_game sxOk 1 (pc' := 40) (L' := [some (.ref 0), some (.int (nI σ)), some (.int (nI a)), some (.int (nI b)), some (.int x)]) (st' := [.int x]) (I' := I) (J' := J) (G' := G) rfl ?_
  refine aw_cS (st := []) [.int x] oX6_isNoHalf k6_187 rfl rfl rfl rfl rfl (oX6_game.dec rfl) (c_isNoHalf_f (by assumption)) ?_
  refine aw_eqS (st := [.int (nI 1)]) rfl ?_
  refine aw_0eqN rfl (by omega) (oX6_game.dec rfl) (tgt := 48) rfl (fun h43 => absurd h43 (by omega)) (fun h43 => ?_)
  refine aw_run oX6_game sxOk 1 (pc' := 47) (L' := [some (.ref 0), some (.int (nI σ)), some (.int (nI a)), some (.int (nI b)), some (.int x)]) (st' := [.int (-nI 1)]) (I' := I) (J' := J) (G' := G) rfl ?_
  exact aw_iret rfl (oX6_game.dec rfl) pe_rfl
set_option maxRecDepth 20000 in
theorem c_game_0 {I : II} {J : JJ} {G : II} {P : Nat} (hP : I 2 7 = nI P) (hP5 : P ≤ 5) {Wk : Nat} (hW : I 2 6 = nI Wk) (hWk : Wk ≤ 12) {σ : Nat} (hσ : σ < 2 ^ P) {a b : Nat} (ha : a < Wk) (hb : b < Wk) (hab : a ≠ b) (hsil : ∀ s, s < P → nI 0 ≤ sil (G 24) s) {α A β B : Nat} (hα : wor (G 24) (G 16) (G 13 a) (G 12 a) P σ = nI α) (hβ : wor (G 24) (G 16) (G 13 b) (G 12 b) P σ = nI β) (hA : (sumS (sil (G 24)) σ P) * (nI 10 - (G 12 a)) = nI A) (hB : (sumS (sil (G 24)) σ P) * (nI 10 - (G 12 b)) = nI B) (h1 : α ≤ A) (h2 : β ≤ B) (h3 : A ≤ 6000) (h4 : B ≤ 6000) : AMet SX mX6_game [.ref 0, .int (nI σ), .int (nI a), .int (nI b), .int (nI 0)] I J G (PE (some (.int (nI (frU (gFr α A β B))))) (up2 (up2 I 7 3 (nI (frU (gFr α A β B)))) 7 4 (nI (frL (gFr α A β B)))) J G) := by
  have hp32 : 2 ^ P ≤ 32 := Nat.pow_le_pow_right (by decide) hP5
  refine amet_en oX6_game rfl rfl (L := [some (.ref 0), some (.int (nI σ)), some (.int (nI a)), some (.int (nI b)), some (.int (nI 0))]) rfl ?_
  refine aw_run oX6_game sxOk 3 (pc' := 5) (L' := [some (.ref 0), some (.int (nI σ)), some (.int (nI a)), some (.int (nI b)), some (.int (nI 0))]) (st' := [.int (nI σ), .ref 2]) (I' := I) (J' := J) (G' := G) rfl ?_
  refine aw_cV (st := []) 2 [.int (nI σ)] oX4_hasSet k6_130 rfl rfl rfl rfl rfl rfl rfl rfl (oX6_game.dec rfl) (c_hasSet_t hP (by omega) (by omega)) ?_
  refine aw_eqS (st := [.int (nI 1)]) rfl ?_
  refine aw_0eqN rfl (by omega) (oX6_game.dec rfl) (tgt := 46) rfl (fun h8 => absurd h8 (by omega)) (fun h8 => ?_)
  refine aw_run oX6_game sxOk 3 (pc' := 16) (L' := [some (.ref 0), some (.int (nI σ)), some (.int (nI a)), some (.int (nI b)), some (.int (nI 0))]) (st' := [.int (nI a), .ref 2]) (I' := I) (J' := J) (G' := G) rfl ?_
  refine aw_cV (st := []) 2 [.int (nI a)] oX4_hasWeek k6_87 rfl rfl rfl rfl rfl rfl rfl rfl (oX6_game.dec rfl) (c_hasWeek_t hW (by omega) (by omega)) ?_
  refine aw_eqS (st := [.int (nI 1)]) rfl ?_
  refine aw_0eqN rfl (by omega) (oX6_game.dec rfl) (tgt := 46) rfl (fun h19 => absurd h19 (by omega)) (fun h19 => ?_)
  refine aw_run oX6_game sxOk 3 (pc' := 27) (L' := [some (.ref 0), some (.int (nI σ)), some (.int (nI a)), some (.int (nI b)), some (.int (nI 0))]) (st' := [.int (nI b), .ref 2]) (I' := I) (J' := J) (G' := G) rfl ?_
  refine aw_cV (st := []) 2 [.int (nI b)] oX4_hasWeek k6_87 rfl rfl rfl rfl rfl rfl rfl rfl (oX6_game.dec rfl) (c_hasWeek_t hW (by omega) (by omega)) ?_
  refine aw_eqS (st := [.int (nI 1)]) rfl ?_
  refine aw_0eqN rfl (by omega) (oX6_game.dec rfl) (tgt := 46) rfl (fun h30 => absurd h30 (by omega)) (fun h30 => ?_)
  refine aw_run oX6_game sxOk 2 (pc' := 35) (L' := [some (.ref 0), some (.int (nI σ)), some (.int (nI a)), some (.int (nI b)), some (.int (nI 0))]) (st' := [.int (nI b), .int (nI a)]) (I' := I) (J' := J) (G' := G) rfl ?_
  refine aw_eqN rfl rfl (by omega) (by omega) (oX6_game.dec rfl) (tgt := 46) rfl (fun h35 => absurd h35 (by omega)) (fun h35 => ?_)
  refine aw_run oX6_game sxOk 1 (pc' := 40) (L' := [some (.ref 0), some (.int (nI σ)), some (.int (nI a)), some (.int (nI b)), some (.int (nI 0))]) (st' := [.int (nI 0)]) (I' := I) (J' := J) (G' := G) rfl ?_
  refine aw_cS (st := []) [.int (nI 0)] oX6_isNoHalf k6_187 rfl rfl rfl rfl rfl (oX6_game.dec rfl) c_isNoHalf_0 ?_
  refine aw_eqS (st := [.int (nI 0)]) rfl ?_
  refine aw_0eqN rfl (by omega) (oX6_game.dec rfl) (tgt := 48) rfl (fun h43 => ?_) (fun h43 => absurd h43 (by omega))
  refine aw_run oX6_game sxOk 5 (pc' := 55) (L' := [some (.ref 0), some (.int (nI σ)), some (.int (nI a)), some (.int (nI b)), some (.int (nI 0))]) (st' := [.int (nI b), .int (nI a), .int (nI σ), .ref 7]) (I' := I) (J' := J) (G' := G) rfl ?_
  refine aw_cV (st := []) 7 [.int (nI σ), .int (nI a), .int (nI b)] oX0_reckonGame k6_190 rfl rfl rfl rfl rfl rfl rfl rfl (oX6_game.dec rfl) (c_reckonGame hP (by omega) (by omega) (by omega) (by omega) hsil hα hβ hA hB h1 h2 h3 h4) ?_
  refine aw_eqS (st := []) rfl ?_
  refine aw_run oX6_game sxOk 1 (pc' := 60) (L' := [some (.ref 0), some (.int (nI σ)), some (.int (nI a)), some (.int (nI b)), some (.int (nI 0))]) (st' := [.int (nI 0)]) (I' := up2 (up2 I 7 3 (nI (frU (gFr α A β B)))) 7 4 (nI (frL (gFr α A β B)))) (J' := J) (G' := G) rfl ?_
  refine aw_0neN rfl (by omega) (oX6_game.dec rfl) (tgt := 73) rfl (fun h60 => absurd h60 (by omega)) (fun h60 => ?_)
  refine aw_run oX6_game sxOk 4 (pc' := 80) (L' := [some (.ref 0), some (.int (nI σ)), some (.int (nI a)), some (.int (nI b)), some (.int (nI 0))]) (st' := [.int (nI (frU (gFr α A β B)))]) (I' := up2 (up2 I 7 3 (nI (frU (gFr α A β B)))) 7 4 (nI (frL (gFr α A β B)))) (J' := J) (G' := G) rfl ?_
  exact aw_iret rfl (oX6_game.dec rfl) pe_rfl
set_option maxRecDepth 20000 in
theorem c_game_1 {I : II} {J : JJ} {G : II} {P : Nat} (hP : I 2 7 = nI P) (hP5 : P ≤ 5) {Wk : Nat} (hW : I 2 6 = nI Wk) (hWk : Wk ≤ 12) {σ : Nat} (hσ : σ < 2 ^ P) {a b : Nat} (ha : a < Wk) (hb : b < Wk) (hab : a ≠ b) (hsil : ∀ s, s < P → nI 0 ≤ sil (G 24) s) {α A β B : Nat} (hα : wor (G 24) (G 16) (G 13 a) (G 12 a) P σ = nI α) (hβ : wor (G 24) (G 16) (G 13 b) (G 12 b) P σ = nI β) (hA : (sumS (sil (G 24)) σ P) * (nI 10 - (G 12 a)) = nI A) (hB : (sumS (sil (G 24)) σ P) * (nI 10 - (G 12 b)) = nI B) (h1 : α ≤ A) (h2 : β ≤ B) (h3 : A ≤ 6000) (h4 : B ≤ 6000) : AMet SX mX6_game [.ref 0, .int (nI σ), .int (nI a), .int (nI b), .int (nI 1)] I J G (PE (some (.int (nI (frL (gFr α A β B))))) (up2 (up2 I 7 3 (nI (frU (gFr α A β B)))) 7 4 (nI (frL (gFr α A β B)))) J G) := by
  have hp32 : 2 ^ P ≤ 32 := Nat.pow_le_pow_right (by decide) hP5
  refine amet_en oX6_game rfl rfl (L := [some (.ref 0), some (.int (nI σ)), some (.int (nI a)), some (.int (nI b)), some (.int (nI 1))]) rfl ?_
  refine aw_run oX6_game sxOk 3 (pc' := 5) (L' := [some (.ref 0), some (.int (nI σ)), some (.int (nI a)), some (.int (nI b)), some (.int (nI 1))]) (st' := [.int (nI σ), .ref 2]) (I' := I) (J' := J) (G' := G) rfl ?_
  refine aw_cV (st := []) 2 [.int (nI σ)] oX4_hasSet k6_130 rfl rfl rfl rfl rfl rfl rfl rfl (oX6_game.dec rfl) (c_hasSet_t hP (by omega) (by omega)) ?_
  refine aw_eqS (st := [.int (nI 1)]) rfl ?_
  refine aw_0eqN rfl (by omega) (oX6_game.dec rfl) (tgt := 46) rfl (fun h8 => absurd h8 (by omega)) (fun h8 => ?_)
  refine aw_run oX6_game sxOk 3 (pc' := 16) (L' := [some (.ref 0), some (.int (nI σ)), some (.int (nI a)), some (.int (nI b)), some (.int (nI 1))]) (st' := [.int (nI a), .ref 2]) (I' := I) (J' := J) (G' := G) rfl ?_
  refine aw_cV (st := []) 2 [.int (nI a)] oX4_hasWeek k6_87 rfl rfl rfl rfl rfl rfl rfl rfl (oX6_game.dec rfl) (c_hasWeek_t hW (by omega) (by omega)) ?_
  refine aw_eqS (st := [.int (nI 1)]) rfl ?_
  refine aw_0eqN rfl (by omega) (oX6_game.dec rfl) (tgt := 46) rfl (fun h19 => absurd h19 (by omega)) (fun h19 => ?_)
  refine aw_run oX6_game sxOk 3 (pc' := 27) (L' := [some (.ref 0), some (.int (nI σ)), some (.int (nI a)), some (.int (nI b)), some (.int (nI 1))]) (st' := [.int (nI b), .ref 2]) (I' := I) (J' := J) (G' := G) rfl ?_
  refine aw_cV (st := []) 2 [.int (nI b)] oX4_hasWeek k6_87 rfl rfl rfl rfl rfl rfl rfl rfl (oX6_game.dec rfl) (c_hasWeek_t hW (by omega) (by omega)) ?_
  refine aw_eqS (st := [.int (nI 1)]) rfl ?_
  refine aw_0eqN rfl (by omega) (oX6_game.dec rfl) (tgt := 46) rfl (fun h30 => absurd h30 (by omega)) (fun h30 => ?_)
  refine aw_run oX6_game sxOk 2 (pc' := 35) (L' := [some (.ref 0), some (.int (nI σ)), some (.int (nI a)), some (.int (nI b)), some (.int (nI 1))]) (st' := [.int (nI b), .int (nI a)]) (I' := I) (J' := J) (G' := G) rfl ?_
  refine aw_eqN rfl rfl (by omega) (by omega) (oX6_game.dec rfl) (tgt := 46) rfl (fun h35 => absurd h35 (by omega)) (fun h35 => ?_)
  refine aw_run oX6_game sxOk 1 (pc' := 40) (L' := [some (.ref 0), some (.int (nI σ)), some (.int (nI a)), some (.int (nI b)), some (.int (nI 1))]) (st' := [.int (nI 1)]) (I' := I) (J' := J) (G' := G) rfl ?_
  refine aw_cS (st := []) [.int (nI 1)] oX6_isNoHalf k6_187 rfl rfl rfl rfl rfl (oX6_game.dec rfl) c_isNoHalf_1 ?_
  refine aw_eqS (st := [.int (nI 0)]) rfl ?_
  refine aw_0eqN rfl (by omega) (oX6_game.dec rfl) (tgt := 48) rfl (fun h43 => ?_) (fun h43 => absurd h43 (by omega))
  refine aw_run oX6_game sxOk 5 (pc' := 55) (L' := [some (.ref 0), some (.int (nI σ)), some (.int (nI a)), some (.int (nI b)), some (.int (nI 1))]) (st' := [.int (nI b), .int (nI a), .int (nI σ), .ref 7]) (I' := I) (J' := J) (G' := G) rfl ?_
  refine aw_cV (st := []) 7 [.int (nI σ), .int (nI a), .int (nI b)] oX0_reckonGame k6_190 rfl rfl rfl rfl rfl rfl rfl rfl (oX6_game.dec rfl) (c_reckonGame hP (by omega) (by omega) (by omega) (by omega) hsil hα hβ hA hB h1 h2 h3 h4) ?_
  refine aw_eqS (st := []) rfl ?_
  refine aw_run oX6_game sxOk 1 (pc' := 60) (L' := [some (.ref 0), some (.int (nI σ)), some (.int (nI a)), some (.int (nI b)), some (.int (nI 1))]) (st' := [.int (nI 1)]) (I' := up2 (up2 I 7 3 (nI (frU (gFr α A β B)))) 7 4 (nI (frL (gFr α A β B)))) (J' := J) (G' := G) rfl ?_
  refine aw_0neN rfl (by omega) (oX6_game.dec rfl) (tgt := 73) rfl (fun h60 => ?_) (fun h60 => absurd h60 (by omega))
  refine aw_run oX6_game sxOk 3 (pc' := 80) (L' := [some (.ref 0), some (.int (nI σ)), some (.int (nI a)), some (.int (nI b)), some (.int (nI 1))]) (st' := [.int (nI (frL (gFr α A β B)))]) (I' := up2 (up2 I 7 3 (nI (frU (gFr α A β B)))) 7 4 (nI (frL (gFr α A β B)))) (J' := J) (G' := G) rfl ?_
  exact aw_iret rfl (oX6_game.dec rfl) pe_rfl
set_option maxRecDepth 20000 in
theorem c_odds_bad0 {I : II} {J : JJ} {G : II} {y u v : Int32} : AMet SX mX6_odds [.ref 0, .int (nI 0), .int y, .int u, .int v] I J G (PE (some (.int (-nI 1))) I J G) := by
  refine amet_en oX6_odds rfl rfl (L := [some (.ref 0), some (.int (nI 0)), some (.int y), some (.int u), some (.int v)]) rfl ?_
  refine aw_run oX6_odds sxOk 1 (pc' := 1) (L' := [some (.ref 0), some (.int (nI 0)), some (.int y), some (.int u), some (.int v)]) (st' := [.int (nI 0)]) (I' := I) (J' := J) (G' := G) rfl ?_
  refine aw_0eqN rfl (by omega) (oX6_odds.dec rfl) (tgt := 43) rfl (fun h1 => ?_) (fun h1 => absurd h1 (by omega))
  refine aw_run oX6_odds sxOk 1 (pc' := 44) (L' := [some (.ref 0), some (.int (nI 0)), some (.int y), some (.int u), some (.int v)]) (st' := [.int (-nI 1)]) (I' := I) (J' := J) (G' := G) rfl ?_
  exact aw_iret rfl (oX6_odds.dec rfl) pe_rfl
set_option maxRecDepth 20000 in
theorem c_odds_bad1 {I : II} {J : JJ} {G : II} {P : Nat} (hP : I 2 7 = nI P) (hP5 : P ≤ 5) {x y u v : Int32} (hx : notIn x (2 ^ P)) : AMet SX mX6_odds [.ref 0, .int x, .int y, .int u, .int v] I J G (PE (some (.int (-nI 1))) I J G) := by
  have hp32 : 2 ^ P ≤ 32 := Nat.pow_le_pow_right (by decide) hP5
  refine amet_en oX6_odds rfl rfl (L := [some (.ref 0), some (.int x), some (.int y), some (.int u), some (.int v)]) rfl ?_
  refine aw_run oX6_odds sxOk 1 (pc' := 1) (L' := [some (.ref 0), some (.int x), some (.int y), some (.int u), some (.int v)]) (st' := [.int x]) (I' := I) (J' := J) (G' := G) rfl ?_
  refine aw_if_eq (oX6_odds.dec rfl) (tgt := 43) rfl (fun h1 => absurd h1 (hx 0 (Nat.pow_pos (by decide)))) (fun h1 => ?_)
  refine aw_run oX6_odds sxOk 3 (pc' := 9) (L' := [some (.ref 0), some (.int x), some (.int y), some (.int u), some (.int v)]) (st' := [.int x, .ref 2]) (I' := I) (J' := J) (G' := G) rfl ?_
  refine aw_cV (st := []) 2 [.int x] oX4_hasSet k6_130 rfl rfl rfl rfl rfl rfl rfl rfl (oX6_odds.dec rfl) (c_hasSet_f hP (by omega) (by assumption)) ?_
  refine aw_eqS (st := [.int (nI 0)]) rfl ?_
  refine aw_0eqN rfl (by omega) (oX6_odds.dec rfl) (tgt := 43) rfl (fun h12 => ?_) (fun h12 => absurd h12 (by omega))
  refine aw_run oX6_odds sxOk 1 (pc' := 44) (L' := [some (.ref 0), some (.int x), some (.int y), some (.int u), some (.int v)]) (st' := [.int (-nI 1)]) (I' := I) (J' := J) (G' := G) rfl ?_
  exact aw_iret rfl (oX6_odds.dec rfl) pe_rfl
set_option maxRecDepth 20000 in
theorem c_odds_bad2 {I : II} {J : JJ} {G : II} {P : Nat} (hP : I 2 7 = nI P) (hP5 : P ≤ 5) {Wk : Nat} (hW : I 2 6 = nI Wk) (hWk : Wk ≤ 12) {σ : Nat} (hσ : σ < 2 ^ P) (hσ0 : σ ≠ 0) {x u v : Int32} (hx : notIn x Wk) : AMet SX mX6_odds [.ref 0, .int (nI σ), .int x, .int u, .int v] I J G (PE (some (.int (-nI 1))) I J G) := by
  have hp32 : 2 ^ P ≤ 32 := Nat.pow_le_pow_right (by decide) hP5
  refine amet_en oX6_odds rfl rfl (L := [some (.ref 0), some (.int (nI σ)), some (.int x), some (.int u), some (.int v)]) rfl ?_
  refine aw_run oX6_odds sxOk 1 (pc' := 1) (L' := [some (.ref 0), some (.int (nI σ)), some (.int x), some (.int u), some (.int v)]) (st' := [.int (nI σ)]) (I' := I) (J' := J) (G' := G) rfl ?_
  refine aw_0eqN rfl (by omega) (oX6_odds.dec rfl) (tgt := 43) rfl (fun h1 => absurd h1 (by omega)) (fun h1 => ?_)
  refine aw_run oX6_odds sxOk 3 (pc' := 9) (L' := [some (.ref 0), some (.int (nI σ)), some (.int x), some (.int u), some (.int v)]) (st' := [.int (nI σ), .ref 2]) (I' := I) (J' := J) (G' := G) rfl ?_
  refine aw_cV (st := []) 2 [.int (nI σ)] oX4_hasSet k6_130 rfl rfl rfl rfl rfl rfl rfl rfl (oX6_odds.dec rfl) (c_hasSet_t hP (by omega) (by omega)) ?_
  refine aw_eqS (st := [.int (nI 1)]) rfl ?_
  refine aw_0eqN rfl (by omega) (oX6_odds.dec rfl) (tgt := 43) rfl (fun h12 => absurd h12 (by omega)) (fun h12 => ?_)
  refine aw_run oX6_odds sxOk 3 (pc' := 20) (L' := [some (.ref 0), some (.int (nI σ)), some (.int x), some (.int u), some (.int v)]) (st' := [.int x, .ref 2]) (I' := I) (J' := J) (G' := G) rfl ?_
  refine aw_cV (st := []) 2 [.int x] oX4_hasWeek k6_87 rfl rfl rfl rfl rfl rfl rfl rfl (oX6_odds.dec rfl) (c_hasWeek_f hW (by omega) (by assumption)) ?_
  refine aw_eqS (st := [.int (nI 0)]) rfl ?_
  refine aw_0eqN rfl (by omega) (oX6_odds.dec rfl) (tgt := 43) rfl (fun h23 => ?_) (fun h23 => absurd h23 (by omega))
  refine aw_run oX6_odds sxOk 1 (pc' := 44) (L' := [some (.ref 0), some (.int (nI σ)), some (.int x), some (.int u), some (.int v)]) (st' := [.int (-nI 1)]) (I' := I) (J' := J) (G' := G) rfl ?_
  exact aw_iret rfl (oX6_odds.dec rfl) pe_rfl
set_option maxRecDepth 20000 in
theorem c_odds_bad3 {I : II} {J : JJ} {G : II} {P : Nat} (hP : I 2 7 = nI P) (hP5 : P ≤ 5) {Wk : Nat} (hW : I 2 6 = nI Wk) (hWk : Wk ≤ 12) {σ : Nat} (hσ : σ < 2 ^ P) (hσ0 : σ ≠ 0) {w : Nat} {x v : Int32} (hw : w < Wk) (hx : notIn x 6) : AMet SX mX6_odds [.ref 0, .int (nI σ), .int (nI w), .int x, .int v] I J G (PE (some (.int (-nI 1))) I J G) := by
  have hp32 : 2 ^ P ≤ 32 := Nat.pow_le_pow_right (by decide) hP5
  refine amet_en oX6_odds rfl rfl (L := [some (.ref 0), some (.int (nI σ)), some (.int (nI w)), some (.int x), some (.int v)]) rfl ?_
  refine aw_run oX6_odds sxOk 1 (pc' := 1) (L' := [some (.ref 0), some (.int (nI σ)), some (.int (nI w)), some (.int x), some (.int v)]) (st' := [.int (nI σ)]) (I' := I) (J' := J) (G' := G) rfl ?_
  refine aw_0eqN rfl (by omega) (oX6_odds.dec rfl) (tgt := 43) rfl (fun h1 => absurd h1 (by omega)) (fun h1 => ?_)
  refine aw_run oX6_odds sxOk 3 (pc' := 9) (L' := [some (.ref 0), some (.int (nI σ)), some (.int (nI w)), some (.int x), some (.int v)]) (st' := [.int (nI σ), .ref 2]) (I' := I) (J' := J) (G' := G) rfl ?_
  refine aw_cV (st := []) 2 [.int (nI σ)] oX4_hasSet k6_130 rfl rfl rfl rfl rfl rfl rfl rfl (oX6_odds.dec rfl) (c_hasSet_t hP (by omega) (by omega)) ?_
  refine aw_eqS (st := [.int (nI 1)]) rfl ?_
  refine aw_0eqN rfl (by omega) (oX6_odds.dec rfl) (tgt := 43) rfl (fun h12 => absurd h12 (by omega)) (fun h12 => ?_)
  refine aw_run oX6_odds sxOk 3 (pc' := 20) (L' := [some (.ref 0), some (.int (nI σ)), some (.int (nI w)), some (.int x), some (.int v)]) (st' := [.int (nI w), .ref 2]) (I' := I) (J' := J) (G' := G) rfl ?_
  refine aw_cV (st := []) 2 [.int (nI w)] oX4_hasWeek k6_87 rfl rfl rfl rfl rfl rfl rfl rfl (oX6_odds.dec rfl) (c_hasWeek_t hW (by omega) (by omega)) ?_
  refine aw_eqS (st := [.int (nI 1)]) rfl ?_
  refine aw_0eqN rfl (by omega) (oX6_odds.dec rfl) (tgt := 43) rfl (fun h23 => absurd h23 (by omega)) (fun h23 => ?_)
  refine aw_run oX6_odds sxOk 1 (pc' := 27) (L' := [some (.ref 0), some (.int (nI σ)), some (.int (nI w)), some (.int x), some (.int v)]) (st' := [.int x]) (I' := I) (J' := J) (G' := G) rfl ?_
  refine aw_if_lt (oX6_odds.dec rfl) (tgt := 43) rfl (fun h27 => ?_) (fun h27 => ?_)
  · refine aw_run oX6_odds sxOk 1 (pc' := 44) (L' := [some (.ref 0), some (.int (nI σ)), some (.int (nI w)), some (.int x), some (.int v)]) (st' := [.int (-nI 1)]) (I' := I) (J' := J) (G' := G) rfl ?_
    exact aw_iret rfl (oX6_odds.dec rfl) pe_rfl
  · refine aw_run oX6_odds sxOk 2 (pc' := 32) (L' := [some (.ref 0), some (.int (nI σ)), some (.int (nI w)), some (.int x), some (.int v)]) (st' := [.int (nI 5), .int x]) (I' := I) (J' := J) (G' := G) rfl ?_
    refine aw_icmp_gt (oX6_odds.dec rfl) (tgt := 43) rfl (fun h32 => ?_) (fun h32 => absurd (notIn_gt hx (by decide) h27) h32)
    refine aw_run oX6_odds sxOk 1 (pc' := 44) (L' := [some (.ref 0), some (.int (nI σ)), some (.int (nI w)), some (.int x), some (.int v)]) (st' := [.int (-nI 1)]) (I' := I) (J' := J) (G' := G) rfl ?_
    exact aw_iret rfl (oX6_odds.dec rfl) pe_rfl
set_option maxRecDepth 20000 in
theorem c_odds_bad4 {I : II} {J : JJ} {G : II} {P : Nat} (hP : I 2 7 = nI P) (hP5 : P ≤ 5) {Wk : Nat} (hW : I 2 6 = nI Wk) (hWk : Wk ≤ 12) {σ : Nat} (hσ : σ < 2 ^ P) (hσ0 : σ ≠ 0) {w k : Nat} {x : Int32} (hw : w < Wk) (hk : k ≤ 5) (hx : notIn x 2) : AMet SX mX6_odds [.ref 0, .int (nI σ), .int (nI w), .int (nI k), .int x] I J G (PE (some (.int (-nI 1))) I J G) := by
  have hp32 : 2 ^ P ≤ 32 := Nat.pow_le_pow_right (by decide) hP5
  refine amet_en oX6_odds rfl rfl (L := [some (.ref 0), some (.int (nI σ)), some (.int (nI w)), some (.int (nI k)), some (.int x)]) rfl ?_
  refine aw_run oX6_odds sxOk 1 (pc' := 1) (L' := [some (.ref 0), some (.int (nI σ)), some (.int (nI w)), some (.int (nI k)), some (.int x)]) (st' := [.int (nI σ)]) (I' := I) (J' := J) (G' := G) rfl ?_
  refine aw_0eqN rfl (by omega) (oX6_odds.dec rfl) (tgt := 43) rfl (fun h1 => absurd h1 (by omega)) (fun h1 => ?_)
  refine aw_run oX6_odds sxOk 3 (pc' := 9) (L' := [some (.ref 0), some (.int (nI σ)), some (.int (nI w)), some (.int (nI k)), some (.int x)]) (st' := [.int (nI σ), .ref 2]) (I' := I) (J' := J) (G' := G) rfl ?_
  refine aw_cV (st := []) 2 [.int (nI σ)] oX4_hasSet k6_130 rfl rfl rfl rfl rfl rfl rfl rfl (oX6_odds.dec rfl) (c_hasSet_t hP (by omega) (by omega)) ?_
  refine aw_eqS (st := [.int (nI 1)]) rfl ?_
  refine aw_0eqN rfl (by omega) (oX6_odds.dec rfl) (tgt := 43) rfl (fun h12 => absurd h12 (by omega)) (fun h12 => ?_)
  refine aw_run oX6_odds sxOk 3 (pc' := 20) (L' := [some (.ref 0), some (.int (nI σ)), some (.int (nI w)), some (.int (nI k)), some (.int x)]) (st' := [.int (nI w), .ref 2]) (I' := I) (J' := J) (G' := G) rfl ?_
  refine aw_cV (st := []) 2 [.int (nI w)] oX4_hasWeek k6_87 rfl rfl rfl rfl rfl rfl rfl rfl (oX6_odds.dec rfl) (c_hasWeek_t hW (by omega) (by omega)) ?_
  refine aw_eqS (st := [.int (nI 1)]) rfl ?_
  refine aw_0eqN rfl (by omega) (oX6_odds.dec rfl) (tgt := 43) rfl (fun h23 => absurd h23 (by omega)) (fun h23 => ?_)
  refine aw_run oX6_odds sxOk 1 (pc' := 27) (L' := [some (.ref 0), some (.int (nI σ)), some (.int (nI w)), some (.int (nI k)), some (.int x)]) (st' := [.int (nI k)]) (I' := I) (J' := J) (G' := G) rfl ?_
  refine aw_0ltN rfl (by omega) (oX6_odds.dec rfl) (tgt := 43) rfl ?_
  refine aw_run oX6_odds sxOk 2 (pc' := 32) (L' := [some (.ref 0), some (.int (nI σ)), some (.int (nI w)), some (.int (nI k)), some (.int x)]) (st' := [.int (nI 5), .int (nI k)]) (I' := I) (J' := J) (G' := G) rfl ?_
  refine aw_gtN rfl rfl (by omega) (by omega) (oX6_odds.dec rfl) (tgt := 43) rfl (fun h32 => absurd h32 (by omega)) (fun h32 => ?_)
  refine aw_run oX6_odds sxOk 1 (pc' := 37) (L' := [some (.ref 0), some (.int (nI σ)), some (.int (nI w)), some (.int (nI k)), some (.int x)]) (st' := [.int x]) (I' := I) (J' := J) (G' := G) rfl ?_
  refine aw_cS (st := []) [.int x] oX6_isNoHalf k6_187 rfl rfl rfl rfl rfl (oX6_odds.dec rfl) (c_isNoHalf_f (by assumption)) ?_
  refine aw_eqS (st := [.int (nI 1)]) rfl ?_
  refine aw_0eqN rfl (by omega) (oX6_odds.dec rfl) (tgt := 45) rfl (fun h40 => absurd h40 (by omega)) (fun h40 => ?_)
  refine aw_run oX6_odds sxOk 1 (pc' := 44) (L' := [some (.ref 0), some (.int (nI σ)), some (.int (nI w)), some (.int (nI k)), some (.int x)]) (st' := [.int (-nI 1)]) (I' := I) (J' := J) (G' := G) rfl ?_
  exact aw_iret rfl (oX6_odds.dec rfl) pe_rfl
set_option maxRecDepth 20000 in
theorem c_odds_0 {I : II} {J : JJ} {G : II} {P : Nat} (hP : I 2 7 = nI P) (hP5 : P ≤ 5) {Wk : Nat} (hW : I 2 6 = nI Wk) (hWk : Wk ≤ 12) {σ : Nat} (hσ : σ < 2 ^ P) (hσ0 : σ ≠ 0) {w k τ : Nat} (hw : w < Wk) (hk : k ≤ 5) (hτ : G 12 w = nI τ) (hτ10 : τ ≤ 10) (hsil : ∀ s, s < P → nI 0 ≤ sil (G 24) s) : AMet SX mX6_odds [.ref 0, .int (nI σ), .int (nI w), .int (nI k), .int (nI 0)] I J G (fun r I' J' G' => r = some (.int (nI (frU (oFr σ (tak (G 24) (G 16) (G 13 w) P σ) P τ k)))) ∧ J' = J ∧ (∃ u v, I' = up2 (up2 I 7 3 u) 7 4 v) ∧ ∃ f, G' = va_up G 30 f) := by
  have hp32 : 2 ^ P ≤ 32 := Nat.pow_le_pow_right (by decide) hP5
  refine amet_en oX6_odds rfl rfl (L := [some (.ref 0), some (.int (nI σ)), some (.int (nI w)), some (.int (nI k)), some (.int (nI 0))]) rfl ?_
  refine aw_run oX6_odds sxOk 1 (pc' := 1) (L' := [some (.ref 0), some (.int (nI σ)), some (.int (nI w)), some (.int (nI k)), some (.int (nI 0))]) (st' := [.int (nI σ)]) (I' := I) (J' := J) (G' := G) rfl ?_
  refine aw_0eqN rfl (by omega) (oX6_odds.dec rfl) (tgt := 43) rfl (fun h1 => absurd h1 (by omega)) (fun h1 => ?_)
  refine aw_run oX6_odds sxOk 3 (pc' := 9) (L' := [some (.ref 0), some (.int (nI σ)), some (.int (nI w)), some (.int (nI k)), some (.int (nI 0))]) (st' := [.int (nI σ), .ref 2]) (I' := I) (J' := J) (G' := G) rfl ?_
  refine aw_cV (st := []) 2 [.int (nI σ)] oX4_hasSet k6_130 rfl rfl rfl rfl rfl rfl rfl rfl (oX6_odds.dec rfl) (c_hasSet_t hP (by omega) (by omega)) ?_
  refine aw_eqS (st := [.int (nI 1)]) rfl ?_
  refine aw_0eqN rfl (by omega) (oX6_odds.dec rfl) (tgt := 43) rfl (fun h12 => absurd h12 (by omega)) (fun h12 => ?_)
  refine aw_run oX6_odds sxOk 3 (pc' := 20) (L' := [some (.ref 0), some (.int (nI σ)), some (.int (nI w)), some (.int (nI k)), some (.int (nI 0))]) (st' := [.int (nI w), .ref 2]) (I' := I) (J' := J) (G' := G) rfl ?_
  refine aw_cV (st := []) 2 [.int (nI w)] oX4_hasWeek k6_87 rfl rfl rfl rfl rfl rfl rfl rfl (oX6_odds.dec rfl) (c_hasWeek_t hW (by omega) (by omega)) ?_
  refine aw_eqS (st := [.int (nI 1)]) rfl ?_
  refine aw_0eqN rfl (by omega) (oX6_odds.dec rfl) (tgt := 43) rfl (fun h23 => absurd h23 (by omega)) (fun h23 => ?_)
  refine aw_run oX6_odds sxOk 1 (pc' := 27) (L' := [some (.ref 0), some (.int (nI σ)), some (.int (nI w)), some (.int (nI k)), some (.int (nI 0))]) (st' := [.int (nI k)]) (I' := I) (J' := J) (G' := G) rfl ?_
  refine aw_0ltN rfl (by omega) (oX6_odds.dec rfl) (tgt := 43) rfl ?_
  refine aw_run oX6_odds sxOk 2 (pc' := 32) (L' := [some (.ref 0), some (.int (nI σ)), some (.int (nI w)), some (.int (nI k)), some (.int (nI 0))]) (st' := [.int (nI 5), .int (nI k)]) (I' := I) (J' := J) (G' := G) rfl ?_
  refine aw_gtN rfl rfl (by omega) (by omega) (oX6_odds.dec rfl) (tgt := 43) rfl (fun h32 => absurd h32 (by omega)) (fun h32 => ?_)
  refine aw_run oX6_odds sxOk 1 (pc' := 37) (L' := [some (.ref 0), some (.int (nI σ)), some (.int (nI w)), some (.int (nI k)), some (.int (nI 0))]) (st' := [.int (nI 0)]) (I' := I) (J' := J) (G' := G) rfl ?_
  refine aw_cS (st := []) [.int (nI 0)] oX6_isNoHalf k6_187 rfl rfl rfl rfl rfl (oX6_odds.dec rfl) c_isNoHalf_0 ?_
  refine aw_eqS (st := [.int (nI 0)]) rfl ?_
  refine aw_0eqN rfl (by omega) (oX6_odds.dec rfl) (tgt := 45) rfl (fun h40 => ?_) (fun h40 => absurd h40 (by omega))
  refine aw_run oX6_odds sxOk 5 (pc' := 52) (L' := [some (.ref 0), some (.int (nI σ)), some (.int (nI w)), some (.int (nI k)), some (.int (nI 0))]) (st' := [.int (nI k), .int (nI w), .int (nI σ), .ref 7]) (I' := I) (J' := J) (G' := G) rfl ?_
  refine aw_cVP (st := []) 7 [.int (nI σ), .int (nI w), .int (nI k)] oX0_reckonOdds k6_199 rfl rfl rfl rfl rfl rfl rfl rfl (oX6_odds.dec rfl) (c_reckonOdds hP (by omega) (by omega) (by omega) (by omega) hτ hτ10 hsil) (fun r52 I52 J52 G52 hq52 => ?_)
  obtain ⟨hr, hI, hJ, f9, hG⟩ := hq52
  obtain rfl := hr.symm; obtain rfl := hI.symm; obtain rfl := hJ.symm; obtain rfl := hG.symm
  refine aw_eqS (st := []) rfl ?_
  refine aw_run oX6_odds sxOk 1 (pc' := 57) (L' := [some (.ref 0), some (.int (nI σ)), some (.int (nI w)), some (.int (nI k)), some (.int (nI 0))]) (st' := [.int (nI 0)]) (I' := up2 (up2 I 7 3 (nI (frU (oFr σ (tak (G 24) (G 16) (G 13 w) P σ) P τ k)))) 7 4 (nI (frL (oFr σ (tak (G 24) (G 16) (G 13 w) P σ) P τ k)))) (J' := J) (G' := va_up G 30 f9) rfl ?_
  refine aw_0neN rfl (by omega) (oX6_odds.dec rfl) (tgt := 70) rfl (fun h57 => absurd h57 (by omega)) (fun h57 => ?_)
  refine aw_run oX6_odds sxOk 4 (pc' := 77) (L' := [some (.ref 0), some (.int (nI σ)), some (.int (nI w)), some (.int (nI k)), some (.int (nI 0))]) (st' := [.int (nI (frU (oFr σ (tak (G 24) (G 16) (G 13 w) P σ) P τ k)))]) (I' := up2 (up2 I 7 3 (nI (frU (oFr σ (tak (G 24) (G 16) (G 13 w) P σ) P τ k)))) 7 4 (nI (frL (oFr σ (tak (G 24) (G 16) (G 13 w) P σ) P τ k)))) (J' := J) (G' := va_up G 30 f9) rfl ?_
  exact aw_iret rfl (oX6_odds.dec rfl) (⟨rfl, rfl, ⟨_, _, rfl⟩, _, rfl⟩)
set_option maxRecDepth 20000 in
theorem c_odds_1 {I : II} {J : JJ} {G : II} {P : Nat} (hP : I 2 7 = nI P) (hP5 : P ≤ 5) {Wk : Nat} (hW : I 2 6 = nI Wk) (hWk : Wk ≤ 12) {σ : Nat} (hσ : σ < 2 ^ P) (hσ0 : σ ≠ 0) {w k τ : Nat} (hw : w < Wk) (hk : k ≤ 5) (hτ : G 12 w = nI τ) (hτ10 : τ ≤ 10) (hsil : ∀ s, s < P → nI 0 ≤ sil (G 24) s) : AMet SX mX6_odds [.ref 0, .int (nI σ), .int (nI w), .int (nI k), .int (nI 1)] I J G (fun r I' J' G' => r = some (.int (nI (frL (oFr σ (tak (G 24) (G 16) (G 13 w) P σ) P τ k)))) ∧ J' = J ∧ (∃ u v, I' = up2 (up2 I 7 3 u) 7 4 v) ∧ ∃ f, G' = va_up G 30 f) := by
  have hp32 : 2 ^ P ≤ 32 := Nat.pow_le_pow_right (by decide) hP5
  refine amet_en oX6_odds rfl rfl (L := [some (.ref 0), some (.int (nI σ)), some (.int (nI w)), some (.int (nI k)), some (.int (nI 1))]) rfl ?_
  refine aw_run oX6_odds sxOk 1 (pc' := 1) (L' := [some (.ref 0), some (.int (nI σ)), some (.int (nI w)), some (.int (nI k)), some (.int (nI 1))]) (st' := [.int (nI σ)]) (I' := I) (J' := J) (G' := G) rfl ?_
  refine aw_0eqN rfl (by omega) (oX6_odds.dec rfl) (tgt := 43) rfl (fun h1 => absurd h1 (by omega)) (fun h1 => ?_)
  refine aw_run oX6_odds sxOk 3 (pc' := 9) (L' := [some (.ref 0), some (.int (nI σ)), some (.int (nI w)), some (.int (nI k)), some (.int (nI 1))]) (st' := [.int (nI σ), .ref 2]) (I' := I) (J' := J) (G' := G) rfl ?_
  refine aw_cV (st := []) 2 [.int (nI σ)] oX4_hasSet k6_130 rfl rfl rfl rfl rfl rfl rfl rfl (oX6_odds.dec rfl) (c_hasSet_t hP (by omega) (by omega)) ?_
  refine aw_eqS (st := [.int (nI 1)]) rfl ?_
  refine aw_0eqN rfl (by omega) (oX6_odds.dec rfl) (tgt := 43) rfl (fun h12 => absurd h12 (by omega)) (fun h12 => ?_)
  refine aw_run oX6_odds sxOk 3 (pc' := 20) (L' := [some (.ref 0), some (.int (nI σ)), some (.int (nI w)), some (.int (nI k)), some (.int (nI 1))]) (st' := [.int (nI w), .ref 2]) (I' := I) (J' := J) (G' := G) rfl ?_
  refine aw_cV (st := []) 2 [.int (nI w)] oX4_hasWeek k6_87 rfl rfl rfl rfl rfl rfl rfl rfl (oX6_odds.dec rfl) (c_hasWeek_t hW (by omega) (by omega)) ?_
  refine aw_eqS (st := [.int (nI 1)]) rfl ?_
  refine aw_0eqN rfl (by omega) (oX6_odds.dec rfl) (tgt := 43) rfl (fun h23 => absurd h23 (by omega)) (fun h23 => ?_)
  refine aw_run oX6_odds sxOk 1 (pc' := 27) (L' := [some (.ref 0), some (.int (nI σ)), some (.int (nI w)), some (.int (nI k)), some (.int (nI 1))]) (st' := [.int (nI k)]) (I' := I) (J' := J) (G' := G) rfl ?_
  refine aw_0ltN rfl (by omega) (oX6_odds.dec rfl) (tgt := 43) rfl ?_
  refine aw_run oX6_odds sxOk 2 (pc' := 32) (L' := [some (.ref 0), some (.int (nI σ)), some (.int (nI w)), some (.int (nI k)), some (.int (nI 1))]) (st' := [.int (nI 5), .int (nI k)]) (I' := I) (J' := J) (G' := G) rfl ?_
  refine aw_gtN rfl rfl (by omega) (by omega) (oX6_odds.dec rfl) (tgt := 43) rfl (fun h32 => absurd h32 (by omega)) (fun h32 => ?_)
  refine aw_run oX6_odds sxOk 1 (pc' := 37) (L' := [some (.ref 0), some (.int (nI σ)), some (.int (nI w)), some (.int (nI k)), some (.int (nI 1))]) (st' := [.int (nI 1)]) (I' := I) (J' := J) (G' := G) rfl ?_
  refine aw_cS (st := []) [.int (nI 1)] oX6_isNoHalf k6_187 rfl rfl rfl rfl rfl (oX6_odds.dec rfl) c_isNoHalf_1 ?_
  refine aw_eqS (st := [.int (nI 0)]) rfl ?_
  refine aw_0eqN rfl (by omega) (oX6_odds.dec rfl) (tgt := 45) rfl (fun h40 => ?_) (fun h40 => absurd h40 (by omega))
  refine aw_run oX6_odds sxOk 5 (pc' := 52) (L' := [some (.ref 0), some (.int (nI σ)), some (.int (nI w)), some (.int (nI k)), some (.int (nI 1))]) (st' := [.int (nI k), .int (nI w), .int (nI σ), .ref 7]) (I' := I) (J' := J) (G' := G) rfl ?_
  refine aw_cVP (st := []) 7 [.int (nI σ), .int (nI w), .int (nI k)] oX0_reckonOdds k6_199 rfl rfl rfl rfl rfl rfl rfl rfl (oX6_odds.dec rfl) (c_reckonOdds hP (by omega) (by omega) (by omega) (by omega) hτ hτ10 hsil) (fun r52 I52 J52 G52 hq52 => ?_)
  obtain ⟨hr, hI, hJ, f9, hG⟩ := hq52
  obtain rfl := hr.symm; obtain rfl := hI.symm; obtain rfl := hJ.symm; obtain rfl := hG.symm
  refine aw_eqS (st := []) rfl ?_
  refine aw_run oX6_odds sxOk 1 (pc' := 57) (L' := [some (.ref 0), some (.int (nI σ)), some (.int (nI w)), some (.int (nI k)), some (.int (nI 1))]) (st' := [.int (nI 1)]) (I' := up2 (up2 I 7 3 (nI (frU (oFr σ (tak (G 24) (G 16) (G 13 w) P σ) P τ k)))) 7 4 (nI (frL (oFr σ (tak (G 24) (G 16) (G 13 w) P σ) P τ k)))) (J' := J) (G' := va_up G 30 f9) rfl ?_
  refine aw_0neN rfl (by omega) (oX6_odds.dec rfl) (tgt := 70) rfl (fun h57 => ?_) (fun h57 => absurd h57 (by omega))
  refine aw_run oX6_odds sxOk 3 (pc' := 77) (L' := [some (.ref 0), some (.int (nI σ)), some (.int (nI w)), some (.int (nI k)), some (.int (nI 1))]) (st' := [.int (nI (frL (oFr σ (tak (G 24) (G 16) (G 13 w) P σ) P τ k)))]) (I' := up2 (up2 I 7 3 (nI (frU (oFr σ (tak (G 24) (G 16) (G 13 w) P σ) P τ k)))) 7 4 (nI (frL (oFr σ (tak (G 24) (G 16) (G 13 w) P σ) P τ k)))) (J' := J) (G' := va_up G 30 f9) rfl ?_
  exact aw_iret rfl (oX6_odds.dec rfl) (⟨rfl, rfl, ⟨_, _, rfl⟩, _, rfl⟩)
set_option maxRecDepth 20000 in
theorem c_mark_bad {I : II} {J : JJ} {G : II} {x y : Int32} (hx : notIn x 6) : AMet SX mX6_mark [.ref 0, .int x, .int y] I J G (PE (some (.int (-1000000 : Int32))) I J G) := by
  refine amet_en oX6_mark rfl rfl (L := [some (.ref 0), some (.int x), some (.int y)]) rfl ?_
  refine aw_run oX6_mark sxOk 1 (pc' := 1) (L' := [some (.ref 0), some (.int x), some (.int y)]) (st' := [.int x]) (I' := I) (J' := J) (G' := G) rfl ?_
  refine aw_if_lt (oX6_mark.dec rfl) (tgt := 20) rfl (fun h1 => ?_) (fun h1 => ?_)
  · refine aw_run oX6_mark sxOk 1 (pc' := 22) (L' := [some (.ref 0), some (.int x), some (.int y)]) (st' := [.int (-1000000 : Int32)]) (I' := I) (J' := J) (G' := G) rfl ?_
    exact aw_iret rfl (oX6_mark.dec rfl) pe_rfl
  · refine aw_run oX6_mark sxOk 2 (pc' := 6) (L' := [some (.ref 0), some (.int x), some (.int y)]) (st' := [.int (nI 5), .int x]) (I' := I) (J' := J) (G' := G) rfl ?_
    refine aw_icmp_gt (oX6_mark.dec rfl) (tgt := 20) rfl (fun h6 => ?_) (fun h6 => absurd (notIn_gt hx (by decide) h1) h6)
    refine aw_run oX6_mark sxOk 1 (pc' := 22) (L' := [some (.ref 0), some (.int x), some (.int y)]) (st' := [.int (-1000000 : Int32)]) (I' := I) (J' := J) (G' := G) rfl ?_
    exact aw_iret rfl (oX6_mark.dec rfl) pe_rfl
set_option maxRecDepth 20000 in
theorem c_mark_bad2 {I : II} {J : JJ} {G : II} {P : Nat} (hP : I 2 7 = nI P) (hP5 : P ≤ 5) {k : Nat} {x : Int32} (hk : k < 6) (hx : notIn x P) : AMet SX mX6_mark [.ref 0, .int (nI k), .int x] I J G (PE (some (.int (-1000000 : Int32))) I J G) := by
  refine amet_en oX6_mark rfl rfl (L := [some (.ref 0), some (.int (nI k)), some (.int x)]) rfl ?_
  refine aw_run oX6_mark sxOk 1 (pc' := 1) (L' := [some (.ref 0), some (.int (nI k)), some (.int x)]) (st' := [.int (nI k)]) (I' := I) (J' := J) (G' := G) rfl ?_
  refine aw_0ltN rfl (by omega) (oX6_mark.dec rfl) (tgt := 20) rfl ?_
  refine aw_run oX6_mark sxOk 2 (pc' := 6) (L' := [some (.ref 0), some (.int (nI k)), some (.int x)]) (st' := [.int (nI 5), .int (nI k)]) (I' := I) (J' := J) (G' := G) rfl ?_
  refine aw_gtN rfl rfl (by omega) (by omega) (oX6_mark.dec rfl) (tgt := 20) rfl (fun h6 => absurd h6 (by omega)) (fun h6 => ?_)
  refine aw_run oX6_mark sxOk 3 (pc' := 14) (L' := [some (.ref 0), some (.int (nI k)), some (.int x)]) (st' := [.int x, .ref 2]) (I' := I) (J' := J) (G' := G) rfl ?_
  refine aw_cV (st := []) 2 [.int x] oX4_hasShip k6_97 rfl rfl rfl rfl rfl rfl rfl rfl (oX6_mark.dec rfl) (c_hasShip_f hP (by omega) (by assumption)) ?_
  refine aw_eqS (st := [.int (nI 0)]) rfl ?_
  refine aw_0neN rfl (by omega) (oX6_mark.dec rfl) (tgt := 23) rfl (fun h17 => absurd h17 (by omega)) (fun h17 => ?_)
  refine aw_run oX6_mark sxOk 1 (pc' := 22) (L' := [some (.ref 0), some (.int (nI k)), some (.int x)]) (st' := [.int (-1000000 : Int32)]) (I' := I) (J' := J) (G' := G) rfl ?_
  exact aw_iret rfl (oX6_mark.dec rfl) pe_rfl
set_option maxRecDepth 20000 in
theorem c_mark_0 {I : II} {J : JJ} {G : II} {P : Nat} (hP : I 2 7 = nI P) (hP5 : P ≤ 5) {s : Nat} (hs : s < P) : AMet SX mX6_mark [.ref 0, .int (nI 0), .int (nI s)] I J G (PE (some (.int (G 24 (8 + s)))) I (up2 J 9 2 (((J 9 2)) + (Int64.ofNat 1))) G) := by
  refine amet_en oX6_mark rfl rfl (L := [some (.ref 0), some (.int (nI 0)), some (.int (nI s))]) rfl ?_
  refine aw_run oX6_mark sxOk 1 (pc' := 1) (L' := [some (.ref 0), some (.int (nI 0)), some (.int (nI s))]) (st' := [.int (nI 0)]) (I' := I) (J' := J) (G' := G) rfl ?_
  refine aw_0ltN rfl (by omega) (oX6_mark.dec rfl) (tgt := 20) rfl ?_
  refine aw_run oX6_mark sxOk 2 (pc' := 6) (L' := [some (.ref 0), some (.int (nI 0)), some (.int (nI s))]) (st' := [.int (nI 5), .int (nI 0)]) (I' := I) (J' := J) (G' := G) rfl ?_
  refine aw_gtN rfl rfl (by omega) (by omega) (oX6_mark.dec rfl) (tgt := 20) rfl (fun h6 => absurd h6 (by omega)) (fun h6 => ?_)
  refine aw_run oX6_mark sxOk 3 (pc' := 14) (L' := [some (.ref 0), some (.int (nI 0)), some (.int (nI s))]) (st' := [.int (nI s), .ref 2]) (I' := I) (J' := J) (G' := G) rfl ?_
  refine aw_cV (st := []) 2 [.int (nI s)] oX4_hasShip k6_97 rfl rfl rfl rfl rfl rfl rfl rfl (oX6_mark.dec rfl) (c_hasShip_t hP (by omega) (by omega)) ?_
  refine aw_eqS (st := [.int (nI 1)]) rfl ?_
  refine aw_0neN rfl (by omega) (oX6_mark.dec rfl) (tgt := 23) rfl (fun h17 => ?_) (fun h17 => absurd h17 (by omega))
  refine aw_run oX6_mark sxOk 4 (pc' := 29) (L' := [some (.ref 0), some (.int (nI 0)), some (.int (nI s))]) (st' := [.int (nI s), .int (nI 0), .ref 9]) (I' := I) (J' := J) (G' := G) rfl ?_
  refine aw_cV (st := []) 9 [.int (nI 0), .int (nI s)] oX1_markAs k6_206 rfl rfl rfl rfl rfl rfl rfl rfl (oX6_mark.dec rfl) (c_markAs_0 (by omega)) ?_
  refine aw_eqS (st := [.int (G 24 (8 + s))]) rfl ?_
  exact aw_iret rfl (oX6_mark.dec rfl) pe_rfl
set_option maxRecDepth 20000 in
theorem c_mark_1 {I : II} {J : JJ} {G : II} {P : Nat} (hP : I 2 7 = nI P) (hP5 : P ≤ 5) {s : Nat} (hs : s < P) : AMet SX mX6_mark [.ref 0, .int (nI 1), .int (nI s)] I J G (PE (some (.int ((G 24 (8 + s)) + (G 16 s)))) I (up2 J 9 2 (((((J 9 2)) + (10 : Int64))) + (Int64.ofNat 1))) G) := by
  refine amet_en oX6_mark rfl rfl (L := [some (.ref 0), some (.int (nI 1)), some (.int (nI s))]) rfl ?_
  refine aw_run oX6_mark sxOk 1 (pc' := 1) (L' := [some (.ref 0), some (.int (nI 1)), some (.int (nI s))]) (st' := [.int (nI 1)]) (I' := I) (J' := J) (G' := G) rfl ?_
  refine aw_0ltN rfl (by omega) (oX6_mark.dec rfl) (tgt := 20) rfl ?_
  refine aw_run oX6_mark sxOk 2 (pc' := 6) (L' := [some (.ref 0), some (.int (nI 1)), some (.int (nI s))]) (st' := [.int (nI 5), .int (nI 1)]) (I' := I) (J' := J) (G' := G) rfl ?_
  refine aw_gtN rfl rfl (by omega) (by omega) (oX6_mark.dec rfl) (tgt := 20) rfl (fun h6 => absurd h6 (by omega)) (fun h6 => ?_)
  refine aw_run oX6_mark sxOk 3 (pc' := 14) (L' := [some (.ref 0), some (.int (nI 1)), some (.int (nI s))]) (st' := [.int (nI s), .ref 2]) (I' := I) (J' := J) (G' := G) rfl ?_
  refine aw_cV (st := []) 2 [.int (nI s)] oX4_hasShip k6_97 rfl rfl rfl rfl rfl rfl rfl rfl (oX6_mark.dec rfl) (c_hasShip_t hP (by omega) (by omega)) ?_
  refine aw_eqS (st := [.int (nI 1)]) rfl ?_
  refine aw_0neN rfl (by omega) (oX6_mark.dec rfl) (tgt := 23) rfl (fun h17 => ?_) (fun h17 => absurd h17 (by omega))
  refine aw_run oX6_mark sxOk 4 (pc' := 29) (L' := [some (.ref 0), some (.int (nI 1)), some (.int (nI s))]) (st' := [.int (nI s), .int (nI 1), .ref 9]) (I' := I) (J' := J) (G' := G) rfl ?_
  refine aw_cV (st := []) 9 [.int (nI 1), .int (nI s)] oX1_markAs k6_206 rfl rfl rfl rfl rfl rfl rfl rfl (oX6_mark.dec rfl) (c_markAs_1 (by omega)) ?_
  refine aw_eqS (st := [.int ((G 24 (8 + s)) + (G 16 s))]) rfl ?_
  exact aw_iret rfl (oX6_mark.dec rfl) pe_rfl
set_option maxRecDepth 20000 in
theorem c_mark_2 {I : II} {J : JJ} {G : II} {P : Nat} (hP : I 2 7 = nI P) (hP5 : P ≤ 5) {s : Nat} (hs : s < P) : AMet SX mX6_mark [.ref 0, .int (nI 2), .int (nI s)] I J G (PE (some (.int ((G 24 (8 + s)) - (G 17 s)))) I (up2 J 9 2 (((((J 9 2)) + (100 : Int64))) + (Int64.ofNat 1))) G) := by
  refine amet_en oX6_mark rfl rfl (L := [some (.ref 0), some (.int (nI 2)), some (.int (nI s))]) rfl ?_
  refine aw_run oX6_mark sxOk 1 (pc' := 1) (L' := [some (.ref 0), some (.int (nI 2)), some (.int (nI s))]) (st' := [.int (nI 2)]) (I' := I) (J' := J) (G' := G) rfl ?_
  refine aw_0ltN rfl (by omega) (oX6_mark.dec rfl) (tgt := 20) rfl ?_
  refine aw_run oX6_mark sxOk 2 (pc' := 6) (L' := [some (.ref 0), some (.int (nI 2)), some (.int (nI s))]) (st' := [.int (nI 5), .int (nI 2)]) (I' := I) (J' := J) (G' := G) rfl ?_
  refine aw_gtN rfl rfl (by omega) (by omega) (oX6_mark.dec rfl) (tgt := 20) rfl (fun h6 => absurd h6 (by omega)) (fun h6 => ?_)
  refine aw_run oX6_mark sxOk 3 (pc' := 14) (L' := [some (.ref 0), some (.int (nI 2)), some (.int (nI s))]) (st' := [.int (nI s), .ref 2]) (I' := I) (J' := J) (G' := G) rfl ?_
  refine aw_cV (st := []) 2 [.int (nI s)] oX4_hasShip k6_97 rfl rfl rfl rfl rfl rfl rfl rfl (oX6_mark.dec rfl) (c_hasShip_t hP (by omega) (by omega)) ?_
  refine aw_eqS (st := [.int (nI 1)]) rfl ?_
  refine aw_0neN rfl (by omega) (oX6_mark.dec rfl) (tgt := 23) rfl (fun h17 => ?_) (fun h17 => absurd h17 (by omega))
  refine aw_run oX6_mark sxOk 4 (pc' := 29) (L' := [some (.ref 0), some (.int (nI 2)), some (.int (nI s))]) (st' := [.int (nI s), .int (nI 2), .ref 9]) (I' := I) (J' := J) (G' := G) rfl ?_
  refine aw_cV (st := []) 9 [.int (nI 2), .int (nI s)] oX1_markAs k6_206 rfl rfl rfl rfl rfl rfl rfl rfl (oX6_mark.dec rfl) (c_markAs_2 (by omega)) ?_
  refine aw_eqS (st := [.int ((G 24 (8 + s)) - (G 17 s))]) rfl ?_
  exact aw_iret rfl (oX6_mark.dec rfl) pe_rfl
set_option maxRecDepth 20000 in
theorem c_mark_3 {I : II} {J : JJ} {G : II} {P : Nat} (hP : I 2 7 = nI P) (hP5 : P ≤ 5) {s : Nat} (hs : s < P) : AMet SX mX6_mark [.ref 0, .int (nI 3), .int (nI s)] I J G (PE (some (.int (((G 24 (8 + s)) + (G 16 s)) * (nI 2)))) I (up2 J 9 2 (((((((J 9 2)) + (1000 : Int64))) + (10 : Int64))) + (Int64.ofNat 1))) G) := by
  refine amet_en oX6_mark rfl rfl (L := [some (.ref 0), some (.int (nI 3)), some (.int (nI s))]) rfl ?_
  refine aw_run oX6_mark sxOk 1 (pc' := 1) (L' := [some (.ref 0), some (.int (nI 3)), some (.int (nI s))]) (st' := [.int (nI 3)]) (I' := I) (J' := J) (G' := G) rfl ?_
  refine aw_0ltN rfl (by omega) (oX6_mark.dec rfl) (tgt := 20) rfl ?_
  refine aw_run oX6_mark sxOk 2 (pc' := 6) (L' := [some (.ref 0), some (.int (nI 3)), some (.int (nI s))]) (st' := [.int (nI 5), .int (nI 3)]) (I' := I) (J' := J) (G' := G) rfl ?_
  refine aw_gtN rfl rfl (by omega) (by omega) (oX6_mark.dec rfl) (tgt := 20) rfl (fun h6 => absurd h6 (by omega)) (fun h6 => ?_)
  refine aw_run oX6_mark sxOk 3 (pc' := 14) (L' := [some (.ref 0), some (.int (nI 3)), some (.int (nI s))]) (st' := [.int (nI s), .ref 2]) (I' := I) (J' := J) (G' := G) rfl ?_
  refine aw_cV (st := []) 2 [.int (nI s)] oX4_hasShip k6_97 rfl rfl rfl rfl rfl rfl rfl rfl (oX6_mark.dec rfl) (c_hasShip_t hP (by omega) (by omega)) ?_
  refine aw_eqS (st := [.int (nI 1)]) rfl ?_
  refine aw_0neN rfl (by omega) (oX6_mark.dec rfl) (tgt := 23) rfl (fun h17 => ?_) (fun h17 => absurd h17 (by omega))
  refine aw_run oX6_mark sxOk 4 (pc' := 29) (L' := [some (.ref 0), some (.int (nI 3)), some (.int (nI s))]) (st' := [.int (nI s), .int (nI 3), .ref 9]) (I' := I) (J' := J) (G' := G) rfl ?_
  refine aw_cV (st := []) 9 [.int (nI 3), .int (nI s)] oX1_markAs k6_206 rfl rfl rfl rfl rfl rfl rfl rfl (oX6_mark.dec rfl) (c_markAs_3 (by omega)) ?_
  refine aw_eqS (st := [.int (((G 24 (8 + s)) + (G 16 s)) * (nI 2))]) rfl ?_
  exact aw_iret rfl (oX6_mark.dec rfl) pe_rfl
set_option maxRecDepth 20000 in
theorem c_mark_4 {I : II} {J : JJ} {G : II} {P : Nat} (hP : I 2 7 = nI P) (hP5 : P ≤ 5) {s : Nat} (hs : s < P) : AMet SX mX6_mark [.ref 0, .int (nI 4), .int (nI s)] I J G (PE (some (.int (((G 24 (8 + s)) - (G 17 s)) + (nI s)))) I (up2 J 9 2 (((((((J 9 2)) + (10000 : Int64))) + (100 : Int64))) + (Int64.ofNat 1))) G) := by
  refine amet_en oX6_mark rfl rfl (L := [some (.ref 0), some (.int (nI 4)), some (.int (nI s))]) rfl ?_
  refine aw_run oX6_mark sxOk 1 (pc' := 1) (L' := [some (.ref 0), some (.int (nI 4)), some (.int (nI s))]) (st' := [.int (nI 4)]) (I' := I) (J' := J) (G' := G) rfl ?_
  refine aw_0ltN rfl (by omega) (oX6_mark.dec rfl) (tgt := 20) rfl ?_
  refine aw_run oX6_mark sxOk 2 (pc' := 6) (L' := [some (.ref 0), some (.int (nI 4)), some (.int (nI s))]) (st' := [.int (nI 5), .int (nI 4)]) (I' := I) (J' := J) (G' := G) rfl ?_
  refine aw_gtN rfl rfl (by omega) (by omega) (oX6_mark.dec rfl) (tgt := 20) rfl (fun h6 => absurd h6 (by omega)) (fun h6 => ?_)
  refine aw_run oX6_mark sxOk 3 (pc' := 14) (L' := [some (.ref 0), some (.int (nI 4)), some (.int (nI s))]) (st' := [.int (nI s), .ref 2]) (I' := I) (J' := J) (G' := G) rfl ?_
  refine aw_cV (st := []) 2 [.int (nI s)] oX4_hasShip k6_97 rfl rfl rfl rfl rfl rfl rfl rfl (oX6_mark.dec rfl) (c_hasShip_t hP (by omega) (by omega)) ?_
  refine aw_eqS (st := [.int (nI 1)]) rfl ?_
  refine aw_0neN rfl (by omega) (oX6_mark.dec rfl) (tgt := 23) rfl (fun h17 => ?_) (fun h17 => absurd h17 (by omega))
  refine aw_run oX6_mark sxOk 4 (pc' := 29) (L' := [some (.ref 0), some (.int (nI 4)), some (.int (nI s))]) (st' := [.int (nI s), .int (nI 4), .ref 9]) (I' := I) (J' := J) (G' := G) rfl ?_
  refine aw_cV (st := []) 9 [.int (nI 4), .int (nI s)] oX1_markAs k6_206 rfl rfl rfl rfl rfl rfl rfl rfl (oX6_mark.dec rfl) (c_markAs_4 (by omega)) ?_
  refine aw_eqS (st := [.int (((G 24 (8 + s)) - (G 17 s)) + (nI s))]) rfl ?_
  exact aw_iret rfl (oX6_mark.dec rfl) pe_rfl
set_option maxRecDepth 20000 in
theorem c_mark_5 {I : II} {J : JJ} {G : II} {P : Nat} (hP : I 2 7 = nI P) (hP5 : P ≤ 5) {s : Nat} (hs : s < P) : AMet SX mX6_mark [.ref 0, .int (nI 5), .int (nI s)] I J G (PE (some (.int ((G 24 (8 + s)) + (G 24 0)))) I (up2 J 9 2 (((((J 9 2)) + (100000 : Int64))) + (Int64.ofNat 1))) G) := by
  refine amet_en oX6_mark rfl rfl (L := [some (.ref 0), some (.int (nI 5)), some (.int (nI s))]) rfl ?_
  refine aw_run oX6_mark sxOk 1 (pc' := 1) (L' := [some (.ref 0), some (.int (nI 5)), some (.int (nI s))]) (st' := [.int (nI 5)]) (I' := I) (J' := J) (G' := G) rfl ?_
  refine aw_0ltN rfl (by omega) (oX6_mark.dec rfl) (tgt := 20) rfl ?_
  refine aw_run oX6_mark sxOk 2 (pc' := 6) (L' := [some (.ref 0), some (.int (nI 5)), some (.int (nI s))]) (st' := [.int (nI 5), .int (nI 5)]) (I' := I) (J' := J) (G' := G) rfl ?_
  refine aw_gtN rfl rfl (by omega) (by omega) (oX6_mark.dec rfl) (tgt := 20) rfl (fun h6 => absurd h6 (by omega)) (fun h6 => ?_)
  refine aw_run oX6_mark sxOk 3 (pc' := 14) (L' := [some (.ref 0), some (.int (nI 5)), some (.int (nI s))]) (st' := [.int (nI s), .ref 2]) (I' := I) (J' := J) (G' := G) rfl ?_
  refine aw_cV (st := []) 2 [.int (nI s)] oX4_hasShip k6_97 rfl rfl rfl rfl rfl rfl rfl rfl (oX6_mark.dec rfl) (c_hasShip_t hP (by omega) (by omega)) ?_
  refine aw_eqS (st := [.int (nI 1)]) rfl ?_
  refine aw_0neN rfl (by omega) (oX6_mark.dec rfl) (tgt := 23) rfl (fun h17 => ?_) (fun h17 => absurd h17 (by omega))
  refine aw_run oX6_mark sxOk 4 (pc' := 29) (L' := [some (.ref 0), some (.int (nI 5)), some (.int (nI s))]) (st' := [.int (nI s), .int (nI 5), .ref 9]) (I' := I) (J' := J) (G' := G) rfl ?_
  refine aw_cV (st := []) 9 [.int (nI 5), .int (nI s)] oX1_markAs k6_206 rfl rfl rfl rfl rfl rfl rfl rfl (oX6_mark.dec rfl) (c_markAs_5 (by omega)) ?_
  refine aw_eqS (st := [.int ((G 24 (8 + s)) + (G 24 0))]) rfl ?_
  exact aw_iret rfl (oX6_mark.dec rfl) pe_rfl
set_option maxRecDepth 20000 in
theorem c_keep_0 {I : II} {J : JJ} {G : II}  : AMet SX mX6_keep [.ref 0, .int (nI 0)] I J G (PE (some (.int (G 24 0))) (up2 (up2 I 5 2 (I 4 2)) 5 3 (nI 1)) J (va_up (va_up G 26 (va_cpy (G 24) (G 26) 0 0 18)) 27 (va_cpy (G 25) (G 27) 0 0 180))) := by
  refine amet_en oX6_keep rfl rfl (L := [some (.ref 0), some (.int (nI 0)), none]) rfl ?_
  refine aw_run oX6_keep sxOk 1 (pc' := 1) (L' := [some (.ref 0), some (.int (nI 0)), none]) (st' := [.int (nI 0)]) (I' := I) (J' := J) (G' := G) rfl ?_
  refine aw_cS (st := []) [.int (nI 0)] oX6_isImage k6_209 rfl rfl rfl rfl rfl (oX6_keep.dec rfl) c_isImage_0 ?_
  refine aw_eqS (st := [.int (nI 1)]) rfl ?_
  refine aw_0neN rfl (by omega) (oX6_keep.dec rfl) (tgt := 9) rfl (fun h4 => ?_) (fun h4 => absurd h4 (by omega))
  refine aw_run oX6_keep sxOk 2 (pc' := 11) (L' := [some (.ref 0), some (.int (nI 0)), none]) (st' := [.int (nI 0), .ref 0]) (I' := I) (J' := J) (G' := G) rfl ?_
  refine aw_cV (st := []) 0 [.int (nI 0)] oX6_imageOf k6_212 rfl rfl rfl rfl rfl rfl rfl rfl (oX6_keep.dec rfl) c_imageOf_0 ?_
  refine aw_eqS (st := [.ref 5]) rfl ?_
  refine aw_run oX6_keep sxOk 4 (pc' := 20) (L' := [some (.ref 0), some (.int (nI 0)), some (.ref 5)]) (st' := [.ref 4, .ref 5]) (I' := I) (J' := J) (G' := G) rfl ?_
  refine aw_cV (st := []) 5 [.ref 4] oX2_copyFrom k6_216 rfl rfl rfl rfl rfl rfl rfl rfl (oX6_keep.dec rfl) c_copyLog_54 ?_
  refine aw_eqS (st := []) rfl ?_
  refine aw_run oX6_keep sxOk 5 (pc' := 32) (L' := [some (.ref 0), some (.int (nI 0)), some (.ref 5)]) (st' := [.ref 4]) (I' := up2 (up2 I 5 2 (I 4 2)) 5 3 (nI 1)) (J' := J) (G' := va_up (va_up G 26 (va_cpy (G 24) (G 26) 0 0 18)) 27 (va_cpy (G 25) (G 27) 0 0 180)) rfl ?_
  refine aw_cV (st := []) 4 [] oX2_theWeek k6_126 rfl rfl rfl rfl rfl rfl rfl rfl (oX6_keep.dec rfl) c_theWeek ?_
  refine aw_eqS (st := [.int (G 24 0)]) rfl ?_
  exact aw_iret rfl (oX6_keep.dec rfl) pe_rfl
set_option maxRecDepth 20000 in
theorem c_back_no_0 {I : II} {J : JJ} {G : II} (hk : I 5 3 = nI 0) : AMet SX mX6_back [.ref 0, .int (nI 0)] I J G (PE (some (.int (-nI 2))) I J G) := by
  refine amet_en oX6_back rfl rfl (L := [some (.ref 0), some (.int (nI 0)), none]) rfl ?_
  refine aw_run oX6_back sxOk 1 (pc' := 1) (L' := [some (.ref 0), some (.int (nI 0)), none]) (st' := [.int (nI 0)]) (I' := I) (J' := J) (G' := G) rfl ?_
  refine aw_cS (st := []) [.int (nI 0)] oX6_isImage k6_209 rfl rfl rfl rfl rfl (oX6_back.dec rfl) c_isImage_0 ?_
  refine aw_eqS (st := [.int (nI 1)]) rfl ?_
  refine aw_0neN rfl (by omega) (oX6_back.dec rfl) (tgt := 9) rfl (fun h4 => ?_) (fun h4 => absurd h4 (by omega))
  refine aw_run oX6_back sxOk 2 (pc' := 11) (L' := [some (.ref 0), some (.int (nI 0)), none]) (st' := [.int (nI 0), .ref 0]) (I' := I) (J' := J) (G' := G) rfl ?_
  refine aw_cV (st := []) 0 [.int (nI 0)] oX6_imageOf k6_212 rfl rfl rfl rfl rfl rfl rfl rfl (oX6_back.dec rfl) c_imageOf_0 ?_
  refine aw_eqS (st := [.ref 5]) rfl ?_
  refine aw_run oX6_back sxOk 3 (pc' := 19) (L' := [some (.ref 0), some (.int (nI 0)), some (.ref 5)]) (st' := [.int (I 5 3)]) (I' := I) (J' := J) (G' := G) rfl ?_
  refine aw_0neN hk (by omega) (oX6_back.dec rfl) (tgt := 25) rfl (fun h19 => absurd h19 (by omega)) (fun h19 => ?_)
  refine aw_run oX6_back sxOk 1 (pc' := 24) (L' := [some (.ref 0), some (.int (nI 0)), some (.ref 5)]) (st' := [.int (-nI 2)]) (I' := I) (J' := J) (G' := G) rfl ?_
  exact aw_iret rfl (oX6_back.dec rfl) pe_rfl
set_option maxRecDepth 20000 in
theorem c_back_0 {I : II} {J : JJ} {G : II} (hk : I 5 3 = nI 1) : AMet SX mX6_back [.ref 0, .int (nI 0)] I J G (PE (some (.int ((va_cpy (G 26) (G 24) 0 0 18) 0))) (up2 I 4 2 (I 5 2)) J (va_up (va_up G 24 (va_cpy (G 26) (G 24) 0 0 18)) 25 (va_cpy (G 27) (G 25) 0 0 180))) := by
  refine amet_en oX6_back rfl rfl (L := [some (.ref 0), some (.int (nI 0)), none]) rfl ?_
  refine aw_run oX6_back sxOk 1 (pc' := 1) (L' := [some (.ref 0), some (.int (nI 0)), none]) (st' := [.int (nI 0)]) (I' := I) (J' := J) (G' := G) rfl ?_
  refine aw_cS (st := []) [.int (nI 0)] oX6_isImage k6_209 rfl rfl rfl rfl rfl (oX6_back.dec rfl) c_isImage_0 ?_
  refine aw_eqS (st := [.int (nI 1)]) rfl ?_
  refine aw_0neN rfl (by omega) (oX6_back.dec rfl) (tgt := 9) rfl (fun h4 => ?_) (fun h4 => absurd h4 (by omega))
  refine aw_run oX6_back sxOk 2 (pc' := 11) (L' := [some (.ref 0), some (.int (nI 0)), none]) (st' := [.int (nI 0), .ref 0]) (I' := I) (J' := J) (G' := G) rfl ?_
  refine aw_cV (st := []) 0 [.int (nI 0)] oX6_imageOf k6_212 rfl rfl rfl rfl rfl rfl rfl rfl (oX6_back.dec rfl) c_imageOf_0 ?_
  refine aw_eqS (st := [.ref 5]) rfl ?_
  refine aw_run oX6_back sxOk 3 (pc' := 19) (L' := [some (.ref 0), some (.int (nI 0)), some (.ref 5)]) (st' := [.int (I 5 3)]) (I' := I) (J' := J) (G' := G) rfl ?_
  refine aw_0neN hk (by omega) (oX6_back.dec rfl) (tgt := 25) rfl (fun h19 => ?_) (fun h19 => absurd h19 (by omega))
  refine aw_run oX6_back sxOk 3 (pc' := 30) (L' := [some (.ref 0), some (.int (nI 0)), some (.ref 5)]) (st' := [.ref 5, .ref 4]) (I' := I) (J' := J) (G' := G) rfl ?_
  refine aw_cV (st := []) 4 [.ref 5] oX2_copyFrom k6_216 rfl rfl rfl rfl rfl rfl rfl rfl (oX6_back.dec rfl) c_copyLog_45 ?_
  refine aw_eqS (st := []) rfl ?_
  refine aw_run oX6_back sxOk 2 (pc' := 37) (L' := [some (.ref 0), some (.int (nI 0)), some (.ref 5)]) (st' := [.ref 4]) (I' := up2 I 4 2 (I 5 2)) (J' := J) (G' := va_up (va_up G 24 (va_cpy (G 26) (G 24) 0 0 18)) 25 (va_cpy (G 27) (G 25) 0 0 180)) rfl ?_
  refine aw_cV (st := []) 4 [] oX2_theWeek k6_126 rfl rfl rfl rfl rfl rfl rfl rfl (oX6_back.dec rfl) c_theWeek ?_
  refine aw_eqS (st := [.int ((va_cpy (G 26) (G 24) 0 0 18) 0)]) rfl ?_
  exact aw_iret rfl (oX6_back.dec rfl) pe_rfl
set_option maxRecDepth 20000 in
theorem c_keep_1 {I : II} {J : JJ} {G : II}  : AMet SX mX6_keep [.ref 0, .int (nI 1)] I J G (PE (some (.int (G 24 0))) (up2 (up2 I 6 2 (I 4 2)) 6 3 (nI 1)) J (va_up (va_up G 28 (va_cpy (G 24) (G 28) 0 0 18)) 29 (va_cpy (G 25) (G 29) 0 0 180))) := by
  refine amet_en oX6_keep rfl rfl (L := [some (.ref 0), some (.int (nI 1)), none]) rfl ?_
  refine aw_run oX6_keep sxOk 1 (pc' := 1) (L' := [some (.ref 0), some (.int (nI 1)), none]) (st' := [.int (nI 1)]) (I' := I) (J' := J) (G' := G) rfl ?_
  refine aw_cS (st := []) [.int (nI 1)] oX6_isImage k6_209 rfl rfl rfl rfl rfl (oX6_keep.dec rfl) c_isImage_1 ?_
  refine aw_eqS (st := [.int (nI 1)]) rfl ?_
  refine aw_0neN rfl (by omega) (oX6_keep.dec rfl) (tgt := 9) rfl (fun h4 => ?_) (fun h4 => absurd h4 (by omega))
  refine aw_run oX6_keep sxOk 2 (pc' := 11) (L' := [some (.ref 0), some (.int (nI 1)), none]) (st' := [.int (nI 1), .ref 0]) (I' := I) (J' := J) (G' := G) rfl ?_
  refine aw_cV (st := []) 0 [.int (nI 1)] oX6_imageOf k6_212 rfl rfl rfl rfl rfl rfl rfl rfl (oX6_keep.dec rfl) c_imageOf_1 ?_
  refine aw_eqS (st := [.ref 6]) rfl ?_
  refine aw_run oX6_keep sxOk 4 (pc' := 20) (L' := [some (.ref 0), some (.int (nI 1)), some (.ref 6)]) (st' := [.ref 4, .ref 6]) (I' := I) (J' := J) (G' := G) rfl ?_
  refine aw_cV (st := []) 6 [.ref 4] oX2_copyFrom k6_216 rfl rfl rfl rfl rfl rfl rfl rfl (oX6_keep.dec rfl) c_copyLog_64 ?_
  refine aw_eqS (st := []) rfl ?_
  refine aw_run oX6_keep sxOk 5 (pc' := 32) (L' := [some (.ref 0), some (.int (nI 1)), some (.ref 6)]) (st' := [.ref 4]) (I' := up2 (up2 I 6 2 (I 4 2)) 6 3 (nI 1)) (J' := J) (G' := va_up (va_up G 28 (va_cpy (G 24) (G 28) 0 0 18)) 29 (va_cpy (G 25) (G 29) 0 0 180)) rfl ?_
  refine aw_cV (st := []) 4 [] oX2_theWeek k6_126 rfl rfl rfl rfl rfl rfl rfl rfl (oX6_keep.dec rfl) c_theWeek ?_
  refine aw_eqS (st := [.int (G 24 0)]) rfl ?_
  exact aw_iret rfl (oX6_keep.dec rfl) pe_rfl
set_option maxRecDepth 20000 in
theorem c_back_no_1 {I : II} {J : JJ} {G : II} (hk : I 6 3 = nI 0) : AMet SX mX6_back [.ref 0, .int (nI 1)] I J G (PE (some (.int (-nI 2))) I J G) := by
  refine amet_en oX6_back rfl rfl (L := [some (.ref 0), some (.int (nI 1)), none]) rfl ?_
  refine aw_run oX6_back sxOk 1 (pc' := 1) (L' := [some (.ref 0), some (.int (nI 1)), none]) (st' := [.int (nI 1)]) (I' := I) (J' := J) (G' := G) rfl ?_
  refine aw_cS (st := []) [.int (nI 1)] oX6_isImage k6_209 rfl rfl rfl rfl rfl (oX6_back.dec rfl) c_isImage_1 ?_
  refine aw_eqS (st := [.int (nI 1)]) rfl ?_
  refine aw_0neN rfl (by omega) (oX6_back.dec rfl) (tgt := 9) rfl (fun h4 => ?_) (fun h4 => absurd h4 (by omega))
  refine aw_run oX6_back sxOk 2 (pc' := 11) (L' := [some (.ref 0), some (.int (nI 1)), none]) (st' := [.int (nI 1), .ref 0]) (I' := I) (J' := J) (G' := G) rfl ?_
  refine aw_cV (st := []) 0 [.int (nI 1)] oX6_imageOf k6_212 rfl rfl rfl rfl rfl rfl rfl rfl (oX6_back.dec rfl) c_imageOf_1 ?_
  refine aw_eqS (st := [.ref 6]) rfl ?_
  refine aw_run oX6_back sxOk 3 (pc' := 19) (L' := [some (.ref 0), some (.int (nI 1)), some (.ref 6)]) (st' := [.int (I 6 3)]) (I' := I) (J' := J) (G' := G) rfl ?_
  refine aw_0neN hk (by omega) (oX6_back.dec rfl) (tgt := 25) rfl (fun h19 => absurd h19 (by omega)) (fun h19 => ?_)
  refine aw_run oX6_back sxOk 1 (pc' := 24) (L' := [some (.ref 0), some (.int (nI 1)), some (.ref 6)]) (st' := [.int (-nI 2)]) (I' := I) (J' := J) (G' := G) rfl ?_
  exact aw_iret rfl (oX6_back.dec rfl) pe_rfl
set_option maxRecDepth 20000 in
theorem c_back_1 {I : II} {J : JJ} {G : II} (hk : I 6 3 = nI 1) : AMet SX mX6_back [.ref 0, .int (nI 1)] I J G (PE (some (.int ((va_cpy (G 28) (G 24) 0 0 18) 0))) (up2 I 4 2 (I 6 2)) J (va_up (va_up G 24 (va_cpy (G 28) (G 24) 0 0 18)) 25 (va_cpy (G 29) (G 25) 0 0 180))) := by
  refine amet_en oX6_back rfl rfl (L := [some (.ref 0), some (.int (nI 1)), none]) rfl ?_
  refine aw_run oX6_back sxOk 1 (pc' := 1) (L' := [some (.ref 0), some (.int (nI 1)), none]) (st' := [.int (nI 1)]) (I' := I) (J' := J) (G' := G) rfl ?_
  refine aw_cS (st := []) [.int (nI 1)] oX6_isImage k6_209 rfl rfl rfl rfl rfl (oX6_back.dec rfl) c_isImage_1 ?_
  refine aw_eqS (st := [.int (nI 1)]) rfl ?_
  refine aw_0neN rfl (by omega) (oX6_back.dec rfl) (tgt := 9) rfl (fun h4 => ?_) (fun h4 => absurd h4 (by omega))
  refine aw_run oX6_back sxOk 2 (pc' := 11) (L' := [some (.ref 0), some (.int (nI 1)), none]) (st' := [.int (nI 1), .ref 0]) (I' := I) (J' := J) (G' := G) rfl ?_
  refine aw_cV (st := []) 0 [.int (nI 1)] oX6_imageOf k6_212 rfl rfl rfl rfl rfl rfl rfl rfl (oX6_back.dec rfl) c_imageOf_1 ?_
  refine aw_eqS (st := [.ref 6]) rfl ?_
  refine aw_run oX6_back sxOk 3 (pc' := 19) (L' := [some (.ref 0), some (.int (nI 1)), some (.ref 6)]) (st' := [.int (I 6 3)]) (I' := I) (J' := J) (G' := G) rfl ?_
  refine aw_0neN hk (by omega) (oX6_back.dec rfl) (tgt := 25) rfl (fun h19 => ?_) (fun h19 => absurd h19 (by omega))
  refine aw_run oX6_back sxOk 3 (pc' := 30) (L' := [some (.ref 0), some (.int (nI 1)), some (.ref 6)]) (st' := [.ref 6, .ref 4]) (I' := I) (J' := J) (G' := G) rfl ?_
  refine aw_cV (st := []) 4 [.ref 6] oX2_copyFrom k6_216 rfl rfl rfl rfl rfl rfl rfl rfl (oX6_back.dec rfl) c_copyLog_46 ?_
  refine aw_eqS (st := []) rfl ?_
  refine aw_run oX6_back sxOk 2 (pc' := 37) (L' := [some (.ref 0), some (.int (nI 1)), some (.ref 6)]) (st' := [.ref 4]) (I' := up2 I 4 2 (I 6 2)) (J' := J) (G' := va_up (va_up G 24 (va_cpy (G 28) (G 24) 0 0 18)) 25 (va_cpy (G 29) (G 25) 0 0 180)) rfl ?_
  refine aw_cV (st := []) 4 [] oX2_theWeek k6_126 rfl rfl rfl rfl rfl rfl rfl rfl (oX6_back.dec rfl) c_theWeek ?_
  refine aw_eqS (st := [.int ((va_cpy (G 28) (G 24) 0 0 18) 0)]) rfl ?_
  exact aw_iret rfl (oX6_back.dec rfl) pe_rfl
set_option maxRecDepth 20000 in
theorem c_keep_bad {I : II} {J : JJ} {G : II} {x : Int32} (hx : notIn x 2) : AMet SX mX6_keep [.ref 0, .int x] I J G (PE (some (.int (-nI 1))) I J G) := by
  refine amet_en oX6_keep rfl rfl (L := [some (.ref 0), some (.int x), none]) rfl ?_
  refine aw_run oX6_keep sxOk 1 (pc' := 1) (L' := [some (.ref 0), some (.int x), none]) (st' := [.int x]) (I' := I) (J' := J) (G' := G) rfl ?_
  refine aw_cS (st := []) [.int x] oX6_isImage k6_209 rfl rfl rfl rfl rfl (oX6_keep.dec rfl) (c_isImage_f (by assumption)) ?_
  refine aw_eqS (st := [.int (nI 0)]) rfl ?_
  refine aw_0neN rfl (by omega) (oX6_keep.dec rfl) (tgt := 9) rfl (fun h4 => absurd h4 (by omega)) (fun h4 => ?_)
  refine aw_run oX6_keep sxOk 1 (pc' := 8) (L' := [some (.ref 0), some (.int x), none]) (st' := [.int (-nI 1)]) (I' := I) (J' := J) (G' := G) rfl ?_
  exact aw_iret rfl (oX6_keep.dec rfl) pe_rfl
set_option maxRecDepth 20000 in
theorem c_back_bad {I : II} {J : JJ} {G : II} {x : Int32} (hx : notIn x 2) : AMet SX mX6_back [.ref 0, .int x] I J G (PE (some (.int (-nI 1))) I J G) := by
  refine amet_en oX6_back rfl rfl (L := [some (.ref 0), some (.int x), none]) rfl ?_
  refine aw_run oX6_back sxOk 1 (pc' := 1) (L' := [some (.ref 0), some (.int x), none]) (st' := [.int x]) (I' := I) (J' := J) (G' := G) rfl ?_
  refine aw_cS (st := []) [.int x] oX6_isImage k6_209 rfl rfl rfl rfl rfl (oX6_back.dec rfl) (c_isImage_f (by assumption)) ?_
  refine aw_eqS (st := [.int (nI 0)]) rfl ?_
  refine aw_0neN rfl (by omega) (oX6_back.dec rfl) (tgt := 9) rfl (fun h4 => absurd h4 (by omega)) (fun h4 => ?_)
  refine aw_run oX6_back sxOk 1 (pc' := 8) (L' := [some (.ref 0), some (.int x), none]) (st' := [.int (-nI 1)]) (I' := I) (J' := J) (G' := G) rfl ?_
  exact aw_iret rfl (oX6_back.dec rfl) pe_rfl
set_option maxRecDepth 20000 in
theorem c_count_0 {I : II} {J : JJ} {G : II}  : AMet SX mX6_count [.ref 0, .int (nI 0)] I J G (PE (some (.int (I 2 6))) I J G) := by
  refine amet_en oX6_count rfl rfl (L := [some (.ref 0), some (.int (nI 0))]) rfl ?_
  refine aw_run oX6_count sxOk 1 (pc' := 1) (L' := [some (.ref 0), some (.int (nI 0))]) (st' := [.int (nI 0)]) (I' := I) (J' := J) (G' := G) rfl ?_
  refine aw_tableIn (x := nI 0) (oX6_count.dec rfl) (by decide) (by decide) (off := 35) (by decide) (tgt := 36) rfl ?_
  refine aw_run oX6_count sxOk 3 (pc' := 43) (L' := [some (.ref 0), some (.int (nI 0))]) (st' := [.int (I 2 6)]) (I' := I) (J' := J) (G' := G) rfl ?_
  exact aw_iret rfl (oX6_count.dec rfl) pe_rfl
set_option maxRecDepth 20000 in
theorem c_count_1 {I : II} {J : JJ} {G : II}  : AMet SX mX6_count [.ref 0, .int (nI 1)] I J G (PE (some (.int (I 2 7))) I J G) := by
  refine amet_en oX6_count rfl rfl (L := [some (.ref 0), some (.int (nI 1))]) rfl ?_
  refine aw_run oX6_count sxOk 1 (pc' := 1) (L' := [some (.ref 0), some (.int (nI 1))]) (st' := [.int (nI 1)]) (I' := I) (J' := J) (G' := G) rfl ?_
  refine aw_tableIn (x := nI 1) (oX6_count.dec rfl) (by decide) (by decide) (off := 43) (by decide) (tgt := 44) rfl ?_
  refine aw_run oX6_count sxOk 3 (pc' := 51) (L' := [some (.ref 0), some (.int (nI 1))]) (st' := [.int (I 2 7)]) (I' := I) (J' := J) (G' := G) rfl ?_
  exact aw_iret rfl (oX6_count.dec rfl) pe_rfl
set_option maxRecDepth 20000 in
theorem c_count_2 {I : II} {J : JJ} {G : II}  : AMet SX mX6_count [.ref 0, .int (nI 2)] I J G (PE (some (.int (I 2 8))) I J G) := by
  refine amet_en oX6_count rfl rfl (L := [some (.ref 0), some (.int (nI 2))]) rfl ?_
  refine aw_run oX6_count sxOk 1 (pc' := 1) (L' := [some (.ref 0), some (.int (nI 2))]) (st' := [.int (nI 2)]) (I' := I) (J' := J) (G' := G) rfl ?_
  refine aw_tableIn (x := nI 2) (oX6_count.dec rfl) (by decide) (by decide) (off := 51) (by decide) (tgt := 52) rfl ?_
  refine aw_run oX6_count sxOk 3 (pc' := 59) (L' := [some (.ref 0), some (.int (nI 2))]) (st' := [.int (I 2 8)]) (I' := I) (J' := J) (G' := G) rfl ?_
  exact aw_iret rfl (oX6_count.dec rfl) pe_rfl
set_option maxRecDepth 20000 in
theorem c_count_3 {I : II} {J : JJ} {G : II}  : AMet SX mX6_count [.ref 0, .int (nI 3)] I J G (PE (some (.int (I 4 2))) I J G) := by
  refine amet_en oX6_count rfl rfl (L := [some (.ref 0), some (.int (nI 3))]) rfl ?_
  refine aw_run oX6_count sxOk 1 (pc' := 1) (L' := [some (.ref 0), some (.int (nI 3))]) (st' := [.int (nI 3)]) (I' := I) (J' := J) (G' := G) rfl ?_
  refine aw_tableIn (x := nI 3) (oX6_count.dec rfl) (by decide) (by decide) (off := 59) (by decide) (tgt := 60) rfl ?_
  refine aw_run oX6_count sxOk 3 (pc' := 67) (L' := [some (.ref 0), some (.int (nI 3))]) (st' := [.int (I 4 2)]) (I' := I) (J' := J) (G' := G) rfl ?_
  exact aw_iret rfl (oX6_count.dec rfl) pe_rfl
set_option maxRecDepth 20000 in
theorem c_count_4 {I : II} {J : JJ} {G : II}  : AMet SX mX6_count [.ref 0, .int (nI 4)] I J G (PE (some (.int (I 1 1))) I J G) := by
  refine amet_en oX6_count rfl rfl (L := [some (.ref 0), some (.int (nI 4))]) rfl ?_
  refine aw_run oX6_count sxOk 1 (pc' := 1) (L' := [some (.ref 0), some (.int (nI 4))]) (st' := [.int (nI 4)]) (I' := I) (J' := J) (G' := G) rfl ?_
  refine aw_tableIn (x := nI 4) (oX6_count.dec rfl) (by decide) (by decide) (off := 67) (by decide) (tgt := 68) rfl ?_
  refine aw_run oX6_count sxOk 3 (pc' := 75) (L' := [some (.ref 0), some (.int (nI 4))]) (st' := [.int (I 1 1)]) (I' := I) (J' := J) (G' := G) rfl ?_
  exact aw_iret rfl (oX6_count.dec rfl) pe_rfl
set_option maxRecDepth 20000 in
theorem c_count_bad {I : II} {J : JJ} {G : II} {x : Int32} (hx : notIn x 5) : AMet SX mX6_count [.ref 0, .int x] I J G (PE (some (.int (-nI 1))) I J G) := by
  refine amet_en oX6_count rfl rfl (L := [some (.ref 0), some (.int x)]) rfl ?_
  refine aw_run oX6_count sxOk 1 (pc' := 1) (L' := [some (.ref 0), some (.int x)]) (st' := [.int x]) (I' := I) (J' := J) (G' := G) rfl ?_
  refine aw_tableOut (x := x) (oX6_count.dec rfl) (notIn_tab hx (by decide)) (tgt := 76) rfl ?_
  refine aw_run oX6_count sxOk 1 (pc' := 77) (L' := [some (.ref 0), some (.int x)]) (st' := [.int (-nI 1)]) (I' := I) (J' := J) (G' := G) rfl ?_
  exact aw_iret rfl (oX6_count.dec rfl) pe_rfl
set_option maxRecDepth 20000 in
theorem c_trace {I : II} {J : JJ} {G : II}  : AMet SX mX6_trace [.ref 0] I J G (PE (some (.long (J 9 2))) I J G) := by
  refine amet_en oX6_trace rfl rfl (L := [some (.ref 0)]) rfl ?_
  refine aw_run oX6_trace sxOk 3 (pc' := 7) (L' := [some (.ref 0)]) (st' := [.long (J 9 2)]) (I' := I) (J' := J) (G' := G) rfl ?_
  exact aw_lret rfl (oX6_trace.dec rfl) pe_rfl
end
section
set_option maxRecDepth 20000 in
theorem c_sails_bad0 {I : II} {J : JJ} {G : II} {y : Int32} : AMet SX mX6_sails [.ref 0, .int (nI 0), .int y] I J G (PE (some (.int (-nI 1))) I J G) := by
  refine amet_en oX6_sails rfl rfl (L := [some (.ref 0), some (.int (nI 0)), some (.int y), none, none, none]) rfl ?_
  refine aw_run oX6_sails sxOk 1 (pc' := 1) (L' := [some (.ref 0), some (.int (nI 0)), some (.int y), none, none, none]) (st' := [.int (nI 0)]) (I' := I) (J' := J) (G' := G) rfl ?_
  refine aw_0eqN rfl (by omega) (oX6_sails.dec rfl) (tgt := 26) rfl (fun h1 => ?_) (fun h1 => absurd h1 (by omega))
  refine aw_run oX6_sails sxOk 1 (pc' := 27) (L' := [some (.ref 0), some (.int (nI 0)), some (.int y), none, none, none]) (st' := [.int (-nI 1)]) (I' := I) (J' := J) (G' := G) rfl ?_
  exact aw_iret rfl (oX6_sails.dec rfl) pe_rfl
set_option maxRecDepth 20000 in
theorem c_sails_bad1 {I : II} {J : JJ} {G : II} {P : Nat} (hP : I 2 7 = nI P) (hP5 : P ≤ 5) {x y : Int32} (hx : notIn x (2 ^ P)) : AMet SX mX6_sails [.ref 0, .int x, .int y] I J G (PE (some (.int (-nI 1))) I J G) := by
  have hp32 : 2 ^ P ≤ 32 := Nat.pow_le_pow_right (by decide) hP5
  refine amet_en oX6_sails rfl rfl (L := [some (.ref 0), some (.int x), some (.int y), none, none, none]) rfl ?_
  refine aw_run oX6_sails sxOk 1 (pc' := 1) (L' := [some (.ref 0), some (.int x), some (.int y), none, none, none]) (st' := [.int x]) (I' := I) (J' := J) (G' := G) rfl ?_
  refine aw_if_eq (oX6_sails.dec rfl) (tgt := 26) rfl (fun h1 => absurd h1 (hx 0 (Nat.pow_pos (by decide)))) (fun h1 => ?_)
  refine aw_run oX6_sails sxOk 3 (pc' := 9) (L' := [some (.ref 0), some (.int x), some (.int y), none, none, none]) (st' := [.int x, .ref 2]) (I' := I) (J' := J) (G' := G) rfl ?_
  refine aw_cV (st := []) 2 [.int x] oX4_hasSet k6_130 rfl rfl rfl rfl rfl rfl rfl rfl (oX6_sails.dec rfl) (c_hasSet_f hP (by omega) (by assumption)) ?_
  refine aw_eqS (st := [.int (nI 0)]) rfl ?_
  refine aw_0eqN rfl (by omega) (oX6_sails.dec rfl) (tgt := 26) rfl (fun h12 => ?_) (fun h12 => absurd h12 (by omega))
  refine aw_run oX6_sails sxOk 1 (pc' := 27) (L' := [some (.ref 0), some (.int x), some (.int y), none, none, none]) (st' := [.int (-nI 1)]) (I' := I) (J' := J) (G' := G) rfl ?_
  exact aw_iret rfl (oX6_sails.dec rfl) pe_rfl
set_option maxRecDepth 20000 in
theorem c_sails_bad2 {I : II} {J : JJ} {G : II} {P : Nat} (hP : I 2 7 = nI P) (hP5 : P ≤ 5) {σ : Nat} (hσ : σ < 2 ^ P) (hσ0 : σ ≠ 0) {x : Int32} (hx : notIn x 10000) : AMet SX mX6_sails [.ref 0, .int (nI σ), .int x] I J G (PE (some (.int (-nI 1))) I J G) := by
  have hp32 : 2 ^ P ≤ 32 := Nat.pow_le_pow_right (by decide) hP5
  refine amet_en oX6_sails rfl rfl (L := [some (.ref 0), some (.int (nI σ)), some (.int x), none, none, none]) rfl ?_
  refine aw_run oX6_sails sxOk 1 (pc' := 1) (L' := [some (.ref 0), some (.int (nI σ)), some (.int x), none, none, none]) (st' := [.int (nI σ)]) (I' := I) (J' := J) (G' := G) rfl ?_
  refine aw_0eqN rfl (by omega) (oX6_sails.dec rfl) (tgt := 26) rfl (fun h1 => absurd h1 (by omega)) (fun h1 => ?_)
  refine aw_run oX6_sails sxOk 3 (pc' := 9) (L' := [some (.ref 0), some (.int (nI σ)), some (.int x), none, none, none]) (st' := [.int (nI σ), .ref 2]) (I' := I) (J' := J) (G' := G) rfl ?_
  refine aw_cV (st := []) 2 [.int (nI σ)] oX4_hasSet k6_130 rfl rfl rfl rfl rfl rfl rfl rfl (oX6_sails.dec rfl) (c_hasSet_t hP (by omega) (by omega)) ?_
  refine aw_eqS (st := [.int (nI 1)]) rfl ?_
  refine aw_0eqN rfl (by omega) (oX6_sails.dec rfl) (tgt := 26) rfl (fun h12 => absurd h12 (by omega)) (fun h12 => ?_)
  refine aw_run oX6_sails sxOk 1 (pc' := 16) (L' := [some (.ref 0), some (.int (nI σ)), some (.int x), none, none, none]) (st' := [.int x]) (I' := I) (J' := J) (G' := G) rfl ?_
  refine aw_if_lt (oX6_sails.dec rfl) (tgt := 26) rfl (fun h16 => ?_) (fun h16 => ?_)
  · refine aw_run oX6_sails sxOk 1 (pc' := 27) (L' := [some (.ref 0), some (.int (nI σ)), some (.int x), none, none, none]) (st' := [.int (-nI 1)]) (I' := I) (J' := J) (G' := G) rfl ?_
    exact aw_iret rfl (oX6_sails.dec rfl) pe_rfl
  · refine aw_run oX6_sails sxOk 2 (pc' := 23) (L' := [some (.ref 0), some (.int (nI σ)), some (.int x), none, none, none]) (st' := [.int (nI 9999), .int x]) (I' := I) (J' := J) (G' := G) rfl ?_
    refine aw_icmp_le (oX6_sails.dec rfl) (tgt := 28) rfl (fun h23 => absurd h23 (Int32.not_le.mpr (notIn_gt hx (by decide) h16))) (fun h23 => ?_)
    refine aw_run oX6_sails sxOk 1 (pc' := 27) (L' := [some (.ref 0), some (.int (nI σ)), some (.int x), none, none, none]) (st' := [.int (-nI 1)]) (I' := I) (J' := J) (G' := G) rfl ?_
    exact aw_iret rfl (oX6_sails.dec rfl) pe_rfl
set_option maxRecDepth 20000 in
theorem c_sails_over {I : II} {J : JJ} {G : II} {P : Nat} (hP : I 2 7 = nI P) (hP5 : P ≤ 5) {Wk : Nat} (hW : I 2 6 = nI Wk) (hWk : Wk ≤ 12) {t : Nat} (ht : G 24 0 = nI t) (ht12 : t ≤ 12) {σ : Nat} (hσ : σ < 2 ^ P) (hσ0 : σ ≠ 0) {z : Nat} (hz : z ≤ 9999) (ho : Wk ≤ t) : AMet SX mX6_sails [.ref 0, .int (nI σ), .int (nI z)] I J G (PE (some (.int (-nI 2))) I J G) := by
  have hp32 : 2 ^ P ≤ 32 := Nat.pow_le_pow_right (by decide) hP5
  refine amet_en oX6_sails rfl rfl (L := [some (.ref 0), some (.int (nI σ)), some (.int (nI z)), none, none, none]) rfl ?_
  refine aw_run oX6_sails sxOk 1 (pc' := 1) (L' := [some (.ref 0), some (.int (nI σ)), some (.int (nI z)), none, none, none]) (st' := [.int (nI σ)]) (I' := I) (J' := J) (G' := G) rfl ?_
  refine aw_0eqN rfl (by omega) (oX6_sails.dec rfl) (tgt := 26) rfl (fun h1 => absurd h1 (by omega)) (fun h1 => ?_)
  refine aw_run oX6_sails sxOk 3 (pc' := 9) (L' := [some (.ref 0), some (.int (nI σ)), some (.int (nI z)), none, none, none]) (st' := [.int (nI σ), .ref 2]) (I' := I) (J' := J) (G' := G) rfl ?_
  refine aw_cV (st := []) 2 [.int (nI σ)] oX4_hasSet k6_130 rfl rfl rfl rfl rfl rfl rfl rfl (oX6_sails.dec rfl) (c_hasSet_t hP (by omega) (by omega)) ?_
  refine aw_eqS (st := [.int (nI 1)]) rfl ?_
  refine aw_0eqN rfl (by omega) (oX6_sails.dec rfl) (tgt := 26) rfl (fun h12 => absurd h12 (by omega)) (fun h12 => ?_)
  refine aw_run oX6_sails sxOk 1 (pc' := 16) (L' := [some (.ref 0), some (.int (nI σ)), some (.int (nI z)), none, none, none]) (st' := [.int (nI z)]) (I' := I) (J' := J) (G' := G) rfl ?_
  refine aw_0ltN rfl (by omega) (oX6_sails.dec rfl) (tgt := 26) rfl ?_
  refine aw_run oX6_sails sxOk 2 (pc' := 23) (L' := [some (.ref 0), some (.int (nI σ)), some (.int (nI z)), none, none, none]) (st' := [.int (nI 9999), .int (nI z)]) (I' := I) (J' := J) (G' := G) rfl ?_
  refine aw_leN rfl rfl (by omega) (by omega) (oX6_sails.dec rfl) (tgt := 28) rfl (fun h23 => ?_) (fun h23 => absurd h23 (by omega))
  refine aw_run oX6_sails sxOk 1 (pc' := 29) (L' := [some (.ref 0), some (.int (nI σ)), some (.int (nI z)), none, none, none]) (st' := [.ref 0]) (I' := I) (J' := J) (G' := G) rfl ?_
  refine aw_cV (st := []) 0 [] oX6_isOver k6_116 rfl rfl rfl rfl rfl rfl rfl rfl (oX6_sails.dec rfl) (c_isOver hW hWk ht (by omega)) ?_
  refine aw_eqS (st := [.int (b1 (decide (Wk ≤ t)))]) rfl ?_
  refine aw_0neD (oX6_sails.dec rfl) (tgt := 43) rfl (fun h32 => ?_) (fun h32 => absurd h32 (by omega))
  refine aw_run oX6_sails sxOk 1 (pc' := 45) (L' := [some (.ref 0), some (.int (nI σ)), some (.int (nI z)), none, none, none]) (st' := [.int (-nI 2)]) (I' := I) (J' := J) (G' := G) rfl ?_
  exact aw_iret rfl (oX6_sails.dec rfl) pe_rfl
set_option maxRecDepth 20000 in
theorem c_sails_no {I : II} {J : JJ} {G : II} {P : Nat} (hP : I 2 7 = nI P) (hP5 : P ≤ 5) {Wk : Nat} (hW : I 2 6 = nI Wk) (hWk : Wk ≤ 12) {t : Nat} (ht : G 24 0 = nI t) (ht12 : t ≤ 12) {σ : Nat} (hσ : σ < 2 ^ P) (hσ0 : σ ≠ 0) {z : Nat} (hz : z ≤ 9999) (ho : t < Wk) (hc : allB (sq (G 24) (G 17) σ t) P = false) : AMet SX mX6_sails [.ref 0, .int (nI σ), .int (nI z)] I J G (PE (some (.int (-nI 2))) I J G) := by
  have hp32 : 2 ^ P ≤ 32 := Nat.pow_le_pow_right (by decide) hP5
  refine amet_en oX6_sails rfl rfl (L := [some (.ref 0), some (.int (nI σ)), some (.int (nI z)), none, none, none]) rfl ?_
  refine aw_run oX6_sails sxOk 1 (pc' := 1) (L' := [some (.ref 0), some (.int (nI σ)), some (.int (nI z)), none, none, none]) (st' := [.int (nI σ)]) (I' := I) (J' := J) (G' := G) rfl ?_
  refine aw_0eqN rfl (by omega) (oX6_sails.dec rfl) (tgt := 26) rfl (fun h1 => absurd h1 (by omega)) (fun h1 => ?_)
  refine aw_run oX6_sails sxOk 3 (pc' := 9) (L' := [some (.ref 0), some (.int (nI σ)), some (.int (nI z)), none, none, none]) (st' := [.int (nI σ), .ref 2]) (I' := I) (J' := J) (G' := G) rfl ?_
  refine aw_cV (st := []) 2 [.int (nI σ)] oX4_hasSet k6_130 rfl rfl rfl rfl rfl rfl rfl rfl (oX6_sails.dec rfl) (c_hasSet_t hP (by omega) (by omega)) ?_
  refine aw_eqS (st := [.int (nI 1)]) rfl ?_
  refine aw_0eqN rfl (by omega) (oX6_sails.dec rfl) (tgt := 26) rfl (fun h12 => absurd h12 (by omega)) (fun h12 => ?_)
  refine aw_run oX6_sails sxOk 1 (pc' := 16) (L' := [some (.ref 0), some (.int (nI σ)), some (.int (nI z)), none, none, none]) (st' := [.int (nI z)]) (I' := I) (J' := J) (G' := G) rfl ?_
  refine aw_0ltN rfl (by omega) (oX6_sails.dec rfl) (tgt := 26) rfl ?_
  refine aw_run oX6_sails sxOk 2 (pc' := 23) (L' := [some (.ref 0), some (.int (nI σ)), some (.int (nI z)), none, none, none]) (st' := [.int (nI 9999), .int (nI z)]) (I' := I) (J' := J) (G' := G) rfl ?_
  refine aw_leN rfl rfl (by omega) (by omega) (oX6_sails.dec rfl) (tgt := 28) rfl (fun h23 => ?_) (fun h23 => absurd h23 (by omega))
  refine aw_run oX6_sails sxOk 1 (pc' := 29) (L' := [some (.ref 0), some (.int (nI σ)), some (.int (nI z)), none, none, none]) (st' := [.ref 0]) (I' := I) (J' := J) (G' := G) rfl ?_
  refine aw_cV (st := []) 0 [] oX6_isOver k6_116 rfl rfl rfl rfl rfl rfl rfl rfl (oX6_sails.dec rfl) (c_isOver hW hWk ht (by omega)) ?_
  refine aw_eqS (st := [.int (b1 (decide (Wk ≤ t)))]) rfl ?_
  refine aw_0neD (oX6_sails.dec rfl) (tgt := 43) rfl (fun h32 => absurd h32 (by omega)) (fun h32 => ?_)
  refine aw_run oX6_sails sxOk 2 (pc' := 37) (L' := [some (.ref 0), some (.int (nI σ)), some (.int (nI z)), none, none, none]) (st' := [.int (nI σ), .ref 0]) (I' := I) (J' := J) (G' := G) rfl ?_
  refine aw_cV (st := []) 0 [.int (nI σ)] oX6_canSail k6_133 rfl rfl rfl rfl rfl rfl rfl rfl (oX6_sails.dec rfl) (c_canSail hP (by omega) (by omega) ht) ?_
  refine aw_eqS (st := [.int (b1 (allB (sq (G 24) (G 17) σ t) P))]) rfl ?_
  refine aw_0neB (oX6_sails.dec rfl) (tgt := 46) rfl (fun h40 => by first | exact absurd h40 (by assumption) | exact absurd (by assumption) h40 | (exfalso; revert h40; decide) | simp_all) (fun h40 => ?_)
  refine aw_run oX6_sails sxOk 1 (pc' := 45) (L' := [some (.ref 0), some (.int (nI σ)), some (.int (nI z)), none, none, none]) (st' := [.int (-nI 2)]) (I' := I) (J' := J) (G' := G) rfl ?_
  exact aw_iret rfl (oX6_sails.dec rfl) pe_rfl
set_option maxRecDepth 20000 in
theorem c_sails_ok {I : II} {J : JJ} {G : II} {P : Nat} (hP : I 2 7 = nI P) (hP5 : P ≤ 5) {Wk : Nat} (hW : I 2 6 = nI Wk) (hWk : Wk ≤ 12) {t : Nat} (ht : G 24 0 = nI t) (ht12 : t ≤ 12) {K : Nat} (hK : I 4 2 = nI K) (hK10 : K ≤ 10) {σ : Nat} (hσ : σ < 2 ^ P) (hσ0 : σ ≠ 0) {z : Nat} (hz : z ≤ 9999) (ho : t < Wk) (hc : allB (sq (G 24) (G 17) σ t) P = true) (hsil : ∀ s, s < P → nI 0 ≤ sil (G 24) s) : AMet SX mX6_sails [.ref 0, .int (nI σ), .int (nI z)] I J G (PE (some (.int (nI (cntB (hq (G 12 t) σ (tak (G 24) (G 16) (G 13 t) P σ) z t) P)))) (up2 I 4 2 (nI (remK K))) J (va_up (va_up G 25 (remP (G 24) (G 25) K)) 24 (sailR (G 24) (I 2 8) (G 12 t) σ (tak (G 24) (G 16) (G 13 t) P σ) z t P))) := by
  refine amet_en oX6_sails rfl rfl (L := [some (.ref 0), some (.int (nI σ)), some (.int (nI z)), none, none, none]) rfl ?_
  have hp32 : 2 ^ P ≤ 32 := Nat.pow_le_pow_right (by decide) hP5
  have loop : ∀ (n s : Nat) (x : Int32) (c : Int32) (f : Nat → Int32), (s + n = P) → (x = nI s) → (c = nI (cntB (hq (G 12 t) σ (tak (G 24) (G 16) (G 13 t) P σ) z t) s)) → (f = sailR (G 24) (I 2 8) (G 12 t) σ (tak (G 24) (G 16) (G 13 t) P σ) z t s) → (f 0 = nI t) → AW SX mX6_sails 75 [some (.ref 0), some (.int (nI σ)), some (.int (nI z)), some (.int (encO (tak (G 24) (G 16) (G 13 t) P σ))), some (.int c), some (.int x)] [] (up2 I 4 2 (nI (remK K))) J (va_up (va_up G 25 (remP (G 24) (G 25) K)) 24 f) (PE (some (.int (nI (cntB (hq (G 12 t) σ (tak (G 24) (G 16) (G 13 t) P σ) z t) P)))) (up2 I 4 2 (nI (remK K))) J (va_up (va_up G 25 (remP (G 24) (G 25) K)) 24 (sailR (G 24) (I 2 8) (G 12 t) σ (tak (G 24) (G 16) (G 13 t) P σ) z t P))) := by
    intro n
    induction n with
    | zero =>
      intro s x c f hsn hx hc hf hf0
      refine aw_run oX6_sails sxOk 4 (pc' := 84) (L' := [some (.ref 0), some (.int (nI σ)), some (.int (nI z)), some (.int (encO (tak (G 24) (G 16) (G 13 t) P σ))), some (.int c), some (.int x)]) (st' := [.int (I 2 7), .int x]) (I' := up2 I 4 2 (nI (remK K))) (J' := J) (G' := va_up (va_up G 25 (remP (G 24) (G 25) K)) 24 f) rfl ?_
      refine aw_geN hx hP (by omega) (by omega) (oX6_sails.dec rfl) (tgt := 125) rfl (fun h84 => ?_) (fun h84 => absurd h84 (by omega))
      refine aw_run oX6_sails sxOk 1 (pc' := 127) (L' := [some (.ref 0), some (.int (nI σ)), some (.int (nI z)), some (.int (encO (tak (G 24) (G 16) (G 13 t) P σ))), some (.int c), some (.int x)]) (st' := [.int c]) (I' := up2 I 4 2 (nI (remK K))) (J' := J) (G' := va_up (va_up G 25 (remP (G 24) (G 25) K)) 24 f) rfl ?_
      exact aw_iret rfl (oX6_sails.dec rfl) (⟨by rw [hc, show s = P by omega], rfl, rfl, by rw [hf, show s = P by omega]⟩)
    | succ n ih =>
      intro s x c f hsn hx hc hf hf0
      refine aw_run oX6_sails sxOk 4 (pc' := 84) (L' := [some (.ref 0), some (.int (nI σ)), some (.int (nI z)), some (.int (encO (tak (G 24) (G 16) (G 13 t) P σ))), some (.int c), some (.int x)]) (st' := [.int (I 2 7), .int x]) (I' := up2 I 4 2 (nI (remK K))) (J' := J) (G' := va_up (va_up G 25 (remP (G 24) (G 25) K)) 24 f) rfl ?_
      refine aw_geN hx hP (by omega) (by omega) (oX6_sails.dec rfl) (tgt := 125) rfl (fun h84 => absurd h84 (by omega)) (fun h84 => ?_)
      refine aw_run oX6_sails sxOk 2 (pc' := 90) (L' := [some (.ref 0), some (.int (nI σ)), some (.int (nI z)), some (.int (encO (tak (G 24) (G 16) (G 13 t) P σ))), some (.int c), some (.int x)]) (st' := [.int (nI σ), .int x]) (I' := up2 I 4 2 (nI (remK K))) (J' := J) (G' := va_up (va_up G 25 (remP (G 24) (G 25) K)) 24 f) rfl ?_
      refine aw_eqS (st := [.int (nI σ), .int (nI s)]) (by rw [show x = nI s from hx]) ?_
      refine aw_cS (st := []) [.int (nI s), .int (nI σ)] oX6_isIn k6_143 rfl rfl rfl rfl rfl (oX6_sails.dec rfl) (c_isIn (I := up2 I 4 2 (nI (remK K))) (J := J) (G := va_up (va_up G 25 (remP (G 24) (G 25) K)) 24 f) (by omega) (by omega)) ?_
      refine aw_eqS (st := [.int (nI (bitN σ s))]) rfl ?_
      refine aw_0eqN rfl (bitN_b _ _) (oX6_sails.dec rfl) (tgt := 119) rfl (fun h93 => ?_) (fun h93 => ?_)
      · refine aw_run oX6_sails sxOk 2 (pc' := 75) (L' := [some (.ref 0), some (.int (nI σ)), some (.int (nI z)), some (.int (encO (tak (G 24) (G 16) (G 13 t) P σ))), some (.int c), some (.int (x + (nI 1)))]) (st' := []) (I' := up2 I 4 2 (nI (remK K))) (J' := J) (G' := va_up (va_up G 25 (remP (G 24) (G 25) K)) 24 f) rfl ?_
        exact ih (s + 1) _ _ _ (by omega) (addN hx rfl) (by rw [cntB_f (by unfold hq; rw [bitN_0 h93]; simp)]; exact hc) (by rw [hf, sailR_f (bitN_0 h93)]) hf0
      · refine aw_run oX6_sails sxOk 5 (pc' := 104) (L' := [some (.ref 0), some (.int (nI σ)), some (.int (nI z)), some (.int (encO (tak (G 24) (G 16) (G 13 t) P σ))), some (.int c), some (.int x)]) (st' := [.int (encO (tak (G 24) (G 16) (G 13 t) P σ)), .int x, .int x, .ref 0, .int c]) (I' := up2 I 4 2 (nI (remK K))) (J' := J) (G' := va_up (va_up G 25 (remP (G 24) (G 25) K)) 24 f) rfl ?_
        refine aw_icmp_ne (oX6_sails.dec rfl) (tgt := 111) rfl (fun h104 => ?_) (fun h104 => ?_)
        · refine aw_run oX6_sails sxOk 2 (pc' := 113) (L' := [some (.ref 0), some (.int (nI σ)), some (.int (nI z)), some (.int (encO (tak (G 24) (G 16) (G 13 t) P σ))), some (.int c), some (.int x)]) (st' := [.int (nI z), .int (nI 0), .int x, .ref 0, .int c]) (I' := up2 I 4 2 (nI (remK K))) (J' := J) (G' := va_up (va_up G 25 (remP (G 24) (G 25) K)) 24 f) rfl ?_
          refine aw_eqS (st := [.int (nI z), .int (nI 0), .int (nI s), .ref 0, .int c]) (by rw [show x = nI s from hx]) ?_
          refine aw_cV (st := [.int c]) 0 [.int (nI s), .int (nI 0), .int (nI z)] oX6_sailOne k6_147 rfl rfl rfl rfl rfl rfl rfl rfl (oX6_sails.dec rfl) (c_sailOne_f (I := up2 I 4 2 (nI (remK K))) (J := J) (G := va_up (va_up G 25 (remP (G 24) (G 25) K)) 24 f) (by omega) hf0 (by omega) (by omega)) ?_
          refine aw_eqG (G' := va_up (va_up G 25 (remP (G 24) (G 25) K)) 24 (sail1 f (I 2 8) (G 12 t) false (dN z s t) s)) (bx_uu _ _ _ _) ?_
          refine aw_eqS (st := [.int (b1 (home1 (G 12 t) false (dN z s t))), .int c]) rfl ?_
          refine aw_run oX6_sails sxOk 4 (pc' := 75) (L' := [some (.ref 0), some (.int (nI σ)), some (.int (nI z)), some (.int (encO (tak (G 24) (G 16) (G 13 t) P σ))), some (.int (c + (b1 (home1 (G 12 t) false (dN z s t))))), some (.int (x + (nI 1)))]) (st' := []) (I' := up2 I 4 2 (nI (remK K))) (J' := J) (G' := va_up (va_up G 25 (remP (G 24) (G 25) K)) 24 (sail1 f (I 2 8) (G 12 t) false (dN z s t) s)) rfl ?_
          have htk : ¬ tak (G 24) (G 16) (G 13 t) P σ = some s := fun e => h104 (hx.trans ((encO_s (by omega) (fun r hr => (tak_lt hr).1) (by omega)).mpr e))
          have hq1 : hq (G 12 t) σ (tak (G 24) (G 16) (G 13 t) P σ) z t s = home1 (G 12 t) false (dN z s t) := by unfold hq; rw [bitN_n0 h93, decide_eq_false htk, Bool.true_and]
          exact ih (s + 1) _ _ _ (by omega) (addN hx rfl) (by rw [hc, cntB_add, hq1]; exact nb_add _ _) (by rw [hf, sailR_t (bitN_n0 h93), decide_eq_false htk]) (by rw [sail1_0]; exact hf0)
        · refine aw_run oX6_sails sxOk 3 (pc' := 113) (L' := [some (.ref 0), some (.int (nI σ)), some (.int (nI z)), some (.int (encO (tak (G 24) (G 16) (G 13 t) P σ))), some (.int c), some (.int x)]) (st' := [.int (nI z), .int (nI 1), .int x, .ref 0, .int c]) (I' := up2 I 4 2 (nI (remK K))) (J' := J) (G' := va_up (va_up G 25 (remP (G 24) (G 25) K)) 24 f) rfl ?_
          refine aw_eqS (st := [.int (nI z), .int (nI 1), .int (nI s), .ref 0, .int c]) (by rw [show x = nI s from hx]) ?_
          refine aw_cV (st := [.int c]) 0 [.int (nI s), .int (nI 1), .int (nI z)] oX6_sailOne k6_147 rfl rfl rfl rfl rfl rfl rfl rfl (oX6_sails.dec rfl) (c_sailOne_t (I := up2 I 4 2 (nI (remK K))) (J := J) (G := va_up (va_up G 25 (remP (G 24) (G 25) K)) 24 f) (by omega) hf0 (by omega) (by omega)) ?_
          refine aw_eqG (G' := va_up (va_up G 25 (remP (G 24) (G 25) K)) 24 (sail1 f (I 2 8) (G 12 t) true (dN z s t) s)) (bx_uu _ _ _ _) ?_
          refine aw_eqS (st := [.int (nI 0), .int c]) rfl ?_
          refine aw_run oX6_sails sxOk 4 (pc' := 75) (L' := [some (.ref 0), some (.int (nI σ)), some (.int (nI z)), some (.int (encO (tak (G 24) (G 16) (G 13 t) P σ))), some (.int (c + (nI 0))), some (.int (x + (nI 1)))]) (st' := []) (I' := up2 I 4 2 (nI (remK K))) (J' := J) (G' := va_up (va_up G 25 (remP (G 24) (G 25) K)) 24 (sail1 f (I 2 8) (G 12 t) true (dN z s t) s)) rfl ?_
          have htk : tak (G 24) (G 16) (G 13 t) P σ = some s := (encO_s (by omega) (fun r hr => (tak_lt hr).1) (by omega)).mp (hx.symm.trans h104)
          exact ih (s + 1) _ _ _ (by omega) (addN hx rfl) (by rw [cntB_f (by unfold hq home1; rw [decide_eq_true htk]; simp)]; exact (addN hc rfl)) (by rw [hf, sailR_t (bitN_n0 h93), decide_eq_true htk]) (by rw [sail1_0]; exact hf0)
  refine aw_run oX6_sails sxOk 1 (pc' := 1) (L' := [some (.ref 0), some (.int (nI σ)), some (.int (nI z)), none, none, none]) (st' := [.int (nI σ)]) (I' := I) (J' := J) (G' := G) rfl ?_
  refine aw_0eqN rfl (by omega) (oX6_sails.dec rfl) (tgt := 26) rfl (fun h1 => absurd h1 (by omega)) (fun h1 => ?_)
  refine aw_run oX6_sails sxOk 3 (pc' := 9) (L' := [some (.ref 0), some (.int (nI σ)), some (.int (nI z)), none, none, none]) (st' := [.int (nI σ), .ref 2]) (I' := I) (J' := J) (G' := G) rfl ?_
  refine aw_cV (st := []) 2 [.int (nI σ)] oX4_hasSet k6_130 rfl rfl rfl rfl rfl rfl rfl rfl (oX6_sails.dec rfl) (c_hasSet_t hP (by omega) (by omega)) ?_
  refine aw_eqS (st := [.int (nI 1)]) rfl ?_
  refine aw_0eqN rfl (by omega) (oX6_sails.dec rfl) (tgt := 26) rfl (fun h12 => absurd h12 (by omega)) (fun h12 => ?_)
  refine aw_run oX6_sails sxOk 1 (pc' := 16) (L' := [some (.ref 0), some (.int (nI σ)), some (.int (nI z)), none, none, none]) (st' := [.int (nI z)]) (I' := I) (J' := J) (G' := G) rfl ?_
  refine aw_0ltN rfl (by omega) (oX6_sails.dec rfl) (tgt := 26) rfl ?_
  refine aw_run oX6_sails sxOk 2 (pc' := 23) (L' := [some (.ref 0), some (.int (nI σ)), some (.int (nI z)), none, none, none]) (st' := [.int (nI 9999), .int (nI z)]) (I' := I) (J' := J) (G' := G) rfl ?_
  refine aw_leN rfl rfl (by omega) (by omega) (oX6_sails.dec rfl) (tgt := 28) rfl (fun h23 => ?_) (fun h23 => absurd h23 (by omega))
  refine aw_run oX6_sails sxOk 1 (pc' := 29) (L' := [some (.ref 0), some (.int (nI σ)), some (.int (nI z)), none, none, none]) (st' := [.ref 0]) (I' := I) (J' := J) (G' := G) rfl ?_
  refine aw_cV (st := []) 0 [] oX6_isOver k6_116 rfl rfl rfl rfl rfl rfl rfl rfl (oX6_sails.dec rfl) (c_isOver hW hWk ht (by omega)) ?_
  refine aw_eqS (st := [.int (b1 (decide (Wk ≤ t)))]) rfl ?_
  refine aw_0neD (oX6_sails.dec rfl) (tgt := 43) rfl (fun h32 => absurd h32 (by omega)) (fun h32 => ?_)
  refine aw_run oX6_sails sxOk 2 (pc' := 37) (L' := [some (.ref 0), some (.int (nI σ)), some (.int (nI z)), none, none, none]) (st' := [.int (nI σ), .ref 0]) (I' := I) (J' := J) (G' := G) rfl ?_
  refine aw_cV (st := []) 0 [.int (nI σ)] oX6_canSail k6_133 rfl rfl rfl rfl rfl rfl rfl rfl (oX6_sails.dec rfl) (c_canSail hP (by omega) (by omega) ht) ?_
  refine aw_eqS (st := [.int (b1 (allB (sq (G 24) (G 17) σ t) P))]) rfl ?_
  refine aw_0neB (oX6_sails.dec rfl) (tgt := 46) rfl (fun h40 => ?_) (fun h40 => by first | exact absurd h40 (by assumption) | exact absurd (by assumption) h40 | (exfalso; revert h40; decide) | simp_all)
  refine aw_run oX6_sails sxOk 2 (pc' := 50) (L' := [some (.ref 0), some (.int (nI σ)), some (.int (nI z)), none, none, none]) (st' := [.ref 4]) (I' := I) (J' := J) (G' := G) rfl ?_
  refine aw_cV (st := []) 4 [] oX2_remember k6_120 rfl rfl rfl rfl rfl rfl rfl rfl (oX6_sails.dec rfl) (c_remember hK (by omega)) ?_
  refine aw_eqG (G' := va_up G 25 (remP (G 24) (G 25) K)) (rfl) ?_
  refine aw_eqS (st := []) rfl ?_
  refine aw_run oX6_sails sxOk 5 (pc' := 62) (L' := [some (.ref 0), some (.int (nI σ)), some (.int (nI z)), none, none, none]) (st' := [.ref 4, .int (nI σ), .ref 7]) (I' := up2 I 4 2 (nI (remK K))) (J' := J) (G' := va_up G 25 (remP (G 24) (G 25) K)) rfl ?_
  refine aw_cV (st := [.int (nI σ), .ref 7]) 4 [] oX2_theWeek k6_126 rfl rfl rfl rfl rfl rfl rfl rfl (oX6_sails.dec rfl) (c_theWeek (I := up2 I 4 2 (nI (remK K))) (J := J) (G := va_up G 25 (remP (G 24) (G 25) K)) ) ?_
  refine aw_eqS (st := [.int (G 24 0), .int (nI σ), .ref 7]) rfl ?_
  refine aw_eqS (st := [.int (nI t), .int (nI σ), .ref 7]) (by rw [show G 24 0 = nI t from ht]) ?_
  refine aw_cV (st := []) 7 [.int (nI σ), .int (nI t)] oX0_takenOf k6_136 rfl rfl rfl rfl rfl rfl rfl rfl (oX6_sails.dec rfl) (c_takenOf (I := up2 I 4 2 (nI (remK K))) (J := J) (G := va_up G 25 (remP (G 24) (G 25) K)) hP (by omega) (by omega) (by omega) hsil) ?_
  refine aw_eqS (st := [.int (encO (tak (G 24) (G 16) (G 13 t) P σ))]) rfl ?_
  refine aw_run oX6_sails sxOk 5 (pc' := 75) (L' := [some (.ref 0), some (.int (nI σ)), some (.int (nI z)), some (.int (encO (tak (G 24) (G 16) (G 13 t) P σ))), some (.int (nI 0)), some (.int (nI 0))]) (st' := []) (I' := up2 I 4 2 (nI (remK K))) (J' := J) (G' := va_up G 25 (remP (G 24) (G 25) K)) rfl ?_
  refine aw_eqG (G' := va_up (va_up G 25 (remP (G 24) (G 25) K)) 24 (G 24)) (upG_24 _ _ 0).symm ?_
  exact loop P 0 _ _ _ (by omega) rfl rfl rfl ht
set_option maxRecDepth 20000 in
theorem c_reg_bad1 {I : II} {J : JJ} {G : II} {x y : Int32} (hx : notIn x 301) : AMet SX mX6_register [.ref 0, .int x, .int y] I J G (PE (some (.int (-nI 1))) I J G) := by
  refine amet_en oX6_register rfl rfl (L := [some (.ref 0), some (.int x), some (.int y), none, none, none, none]) rfl ?_
  refine aw_run oX6_register sxOk 1 (pc' := 1) (L' := [some (.ref 0), some (.int x), some (.int y), none, none, none, none]) (st' := [.int x]) (I' := I) (J' := J) (G' := G) rfl ?_
  refine aw_if_lt (oX6_register.dec rfl) (tgt := 20) rfl (fun h1 => ?_) (fun h1 => ?_)
  · refine aw_run oX6_register sxOk 1 (pc' := 21) (L' := [some (.ref 0), some (.int x), some (.int y), none, none, none, none]) (st' := [.int (-nI 1)]) (I' := I) (J' := J) (G' := G) rfl ?_
    exact aw_iret rfl (oX6_register.dec rfl) pe_rfl
  · refine aw_run oX6_register sxOk 2 (pc' := 8) (L' := [some (.ref 0), some (.int x), some (.int y), none, none, none, none]) (st' := [.int (nI 300), .int x]) (I' := I) (J' := J) (G' := G) rfl ?_
    refine aw_icmp_gt (oX6_register.dec rfl) (tgt := 20) rfl (fun h8 => ?_) (fun h8 => absurd (notIn_gt hx (by decide) h1) h8)
    refine aw_run oX6_register sxOk 1 (pc' := 21) (L' := [some (.ref 0), some (.int x), some (.int y), none, none, none, none]) (st' := [.int (-nI 1)]) (I' := I) (J' := J) (G' := G) rfl ?_
    exact aw_iret rfl (oX6_register.dec rfl) pe_rfl
set_option maxRecDepth 20000 in
theorem c_reg_bad2 {I : II} {J : JJ} {G : II} {n0 : Nat} {x : Int32} (hn0 : n0 ≤ 300) (hx : notIn x 3) : AMet SX mX6_register [.ref 0, .int (nI n0), .int x] I J G (PE (some (.int (-nI 1))) I J G) := by
  refine amet_en oX6_register rfl rfl (L := [some (.ref 0), some (.int (nI n0)), some (.int x), none, none, none, none]) rfl ?_
  refine aw_run oX6_register sxOk 1 (pc' := 1) (L' := [some (.ref 0), some (.int (nI n0)), some (.int x), none, none, none, none]) (st' := [.int (nI n0)]) (I' := I) (J' := J) (G' := G) rfl ?_
  refine aw_0ltN rfl (by omega) (oX6_register.dec rfl) (tgt := 20) rfl ?_
  refine aw_run oX6_register sxOk 2 (pc' := 8) (L' := [some (.ref 0), some (.int (nI n0)), some (.int x), none, none, none, none]) (st' := [.int (nI 300), .int (nI n0)]) (I' := I) (J' := J) (G' := G) rfl ?_
  refine aw_gtN rfl rfl (by omega) (by omega) (oX6_register.dec rfl) (tgt := 20) rfl (fun h8 => absurd h8 (by omega)) (fun h8 => ?_)
  refine aw_run oX6_register sxOk 1 (pc' := 12) (L' := [some (.ref 0), some (.int (nI n0)), some (.int x), none, none, none, none]) (st' := [.int x]) (I' := I) (J' := J) (G' := G) rfl ?_
  refine aw_if_lt (oX6_register.dec rfl) (tgt := 20) rfl (fun h12 => ?_) (fun h12 => ?_)
  · refine aw_run oX6_register sxOk 1 (pc' := 21) (L' := [some (.ref 0), some (.int (nI n0)), some (.int x), none, none, none, none]) (st' := [.int (-nI 1)]) (I' := I) (J' := J) (G' := G) rfl ?_
    exact aw_iret rfl (oX6_register.dec rfl) pe_rfl
  · refine aw_run oX6_register sxOk 2 (pc' := 17) (L' := [some (.ref 0), some (.int (nI n0)), some (.int x), none, none, none, none]) (st' := [.int (nI 2), .int x]) (I' := I) (J' := J) (G' := G) rfl ?_
    refine aw_icmp_le (oX6_register.dec rfl) (tgt := 22) rfl (fun h17 => absurd h17 (Int32.not_le.mpr (notIn_gt hx (by decide) h12))) (fun h17 => ?_)
    refine aw_run oX6_register sxOk 1 (pc' := 21) (L' := [some (.ref 0), some (.int (nI n0)), some (.int x), none, none, none, none]) (st' := [.int (-nI 1)]) (I' := I) (J' := J) (G' := G) rfl ?_
    exact aw_iret rfl (oX6_register.dec rfl) pe_rfl
set_option maxRecDepth 20000 in
theorem c_reg_0 {I : II} {J : JJ} {G : II} {P : Nat} (hP : I 2 7 = nI P) (hP5 : P ≤ 5) {n0 : Nat} (hn0 : n0 ≤ 300) : AMet SX mX6_register [.ref 0, .int (nI n0), .int (nI 0)] I J G (PE (some (.int (nI (cntB (fun σ => decide (sumS (fun s => G 24 (8 + s)) σ P = nI n0)) (2 ^ P))))) I J G) := by
  refine amet_en oX6_register rfl rfl (L := [some (.ref 0), some (.int (nI n0)), some (.int (nI 0)), none, none, none, none]) rfl ?_
  have hp32 : 2 ^ P ≤ 32 := Nat.pow_le_pow_right (by decide) hP5
  have hp0 : 0 < 2 ^ P := Nat.pow_pos (by decide)
  have loop : ∀ (n s : Nat) (x : Int32) (m : Int32) (a : Int32) (b : Int32), (s + n = 2 ^ P) → (x = nI s) → (m = nI (cntB (fun σ => decide (sumS (fun s => G 24 (8 + s)) σ P = nI n0)) s)) → (a = nI (andA (fun σ => decide (sumS (fun s => G 24 (8 + s)) σ P = nI n0)) 31 s)) → (b = nI (orS (fun σ => decide (sumS (fun s => G 24 (8 + s)) σ P = nI n0)) s)) → AW SX mX6_register 34 [some (.ref 0), some (.int (nI n0)), some (.int (nI 0)), some (.int m), some (.int a), some (.int b), some (.int x)] [] I J G (PE (some (.int (nI (cntB (fun σ => decide (sumS (fun s => G 24 (8 + s)) σ P = nI n0)) (2 ^ P))))) I J G) := by
    intro n
    induction n with
    | zero =>
      intro s x m a b hsn hx hm ha hb
      have hcl := cntB_le (fun σ => decide (sumS (fun s => G 24 (8 + s)) σ P = nI n0)) s
      refine aw_run oX6_register sxOk 2 (pc' := 38) (L' := [some (.ref 0), some (.int (nI n0)), some (.int (nI 0)), some (.int m), some (.int a), some (.int b), some (.int x)]) (st' := [.int (nI 32), .int x]) (I' := I) (J' := J) (G' := G) rfl ?_
      refine aw_geN hx rfl (by omega) (by omega) (oX6_register.dec rfl) (tgt := 89) rfl (fun h38 => ?_) (fun h38 => ?_)
      · refine aw_run oX6_register sxOk 1 (pc' := 90) (L' := [some (.ref 0), some (.int (nI n0)), some (.int (nI 0)), some (.int m), some (.int a), some (.int b), some (.int x)]) (st' := [.int (nI 0)]) (I' := I) (J' := J) (G' := G) rfl ?_
        refine aw_0neN rfl (by omega) (oX6_register.dec rfl) (tgt := 95) rfl (fun h90 => absurd h90 (by omega)) (fun h90 => ?_)
        refine aw_run oX6_register sxOk 1 (pc' := 94) (L' := [some (.ref 0), some (.int (nI n0)), some (.int (nI 0)), some (.int m), some (.int a), some (.int b), some (.int x)]) (st' := [.int m]) (I' := I) (J' := J) (G' := G) rfl ?_
        exact aw_iret rfl (oX6_register.dec rfl) (pe_i (by rw [hm, show s = 2 ^ P by omega]))
      · refine aw_run oX6_register sxOk 3 (pc' := 47) (L' := [some (.ref 0), some (.int (nI n0)), some (.int (nI 0)), some (.int m), some (.int a), some (.int b), some (.int x)]) (st' := [.int x, .ref 2]) (I' := I) (J' := J) (G' := G) rfl ?_
        refine aw_cV (st := []) 2 [.int x] oX4_hasSet k6_130 rfl rfl rfl rfl rfl rfl rfl rfl (oX6_register.dec rfl) (c_hasSet_f hP (by omega) (by rw [hx]; exact notIn_self (by omega) (by omega))) ?_
        refine aw_eqS (st := [.int (nI 0)]) rfl ?_
        refine aw_0eqN rfl (by omega) (oX6_register.dec rfl) (tgt := 89) rfl (fun h50 => ?_) (fun h50 => absurd h50 (by omega))
        refine aw_run oX6_register sxOk 1 (pc' := 90) (L' := [some (.ref 0), some (.int (nI n0)), some (.int (nI 0)), some (.int m), some (.int a), some (.int b), some (.int x)]) (st' := [.int (nI 0)]) (I' := I) (J' := J) (G' := G) rfl ?_
        refine aw_0neN rfl (by omega) (oX6_register.dec rfl) (tgt := 95) rfl (fun h90 => absurd h90 (by omega)) (fun h90 => ?_)
        refine aw_run oX6_register sxOk 1 (pc' := 94) (L' := [some (.ref 0), some (.int (nI n0)), some (.int (nI 0)), some (.int m), some (.int a), some (.int b), some (.int x)]) (st' := [.int m]) (I' := I) (J' := J) (G' := G) rfl ?_
        exact aw_iret rfl (oX6_register.dec rfl) (pe_i (by rw [hm, show s = 2 ^ P by omega]))
    | succ n ih =>
      intro s x m a b hsn hx hm ha hb
      refine aw_run oX6_register sxOk 2 (pc' := 38) (L' := [some (.ref 0), some (.int (nI n0)), some (.int (nI 0)), some (.int m), some (.int a), some (.int b), some (.int x)]) (st' := [.int (nI 32), .int x]) (I' := I) (J' := J) (G' := G) rfl ?_
      refine aw_geN hx rfl (by omega) (by omega) (oX6_register.dec rfl) (tgt := 89) rfl (fun h38 => absurd h38 (by omega)) (fun h38 => ?_)
      refine aw_run oX6_register sxOk 3 (pc' := 47) (L' := [some (.ref 0), some (.int (nI n0)), some (.int (nI 0)), some (.int m), some (.int a), some (.int b), some (.int x)]) (st' := [.int x, .ref 2]) (I' := I) (J' := J) (G' := G) rfl ?_
      refine aw_eqS (st := [.int (nI s), .ref 2]) (by rw [show x = nI s from hx]) ?_
      refine aw_cV (st := []) 2 [.int (nI s)] oX4_hasSet k6_130 rfl rfl rfl rfl rfl rfl rfl rfl (oX6_register.dec rfl) (c_hasSet_t hP (by omega) (by omega)) ?_
      refine aw_eqS (st := [.int (nI 1)]) rfl ?_
      refine aw_0eqN rfl (by omega) (oX6_register.dec rfl) (tgt := 89) rfl (fun h50 => absurd h50 (by omega)) (fun h50 => ?_)
      refine aw_run oX6_register sxOk 3 (pc' := 59) (L' := [some (.ref 0), some (.int (nI n0)), some (.int (nI 0)), some (.int m), some (.int a), some (.int b), some (.int x)]) (st' := [.int x, .ref 7]) (I' := I) (J' := J) (G' := G) rfl ?_
      refine aw_eqS (st := [.int (nI s), .ref 7]) (by rw [show x = nI s from hx]) ?_
      refine aw_cV (st := []) 7 [.int (nI s)] oX0_listedTogether k6_202 rfl rfl rfl rfl rfl rfl rfl rfl (oX6_register.dec rfl) (c_listedTogether hP (by omega) (by omega)) ?_
      refine aw_eqS (st := [.int (sumS (fun s => G 24 (8 + s)) s P)]) rfl ?_
      refine aw_run oX6_register sxOk 1 (pc' := 63) (L' := [some (.ref 0), some (.int (nI n0)), some (.int (nI 0)), some (.int m), some (.int a), some (.int b), some (.int x)]) (st' := [.int (nI n0), .int (sumS (fun s => G 24 (8 + s)) s P)]) (I' := I) (J' := J) (G' := G) rfl ?_
      refine aw_icmp_ne (oX6_register.dec rfl) (tgt := 83) rfl (fun h63 => ?_) (fun h63 => ?_)
      · refine aw_run oX6_register sxOk 2 (pc' := 34) (L' := [some (.ref 0), some (.int (nI n0)), some (.int (nI 0)), some (.int m), some (.int a), some (.int b), some (.int (x + (nI 1)))]) (st' := []) (I' := I) (J' := J) (G' := G) rfl ?_
        exact ih (s + 1) _ _ _ _ (by omega) (addN hx rfl) (by rw [cntB_f (by simpa using h63)]; exact hm) (by rw [andA_f (by simpa using h63)]; exact ha) (by rw [orS_f (by simpa using h63)]; exact hb)
      · refine aw_run oX6_register sxOk 11 (pc' := 34) (L' := [some (.ref 0), some (.int (nI n0)), some (.int (nI 0)), some (.int (m + (nI 1))), some (.int (a &&& x)), some (.int (b ||| x)), some (.int (x + (nI 1)))]) (st' := []) (I' := I) (J' := J) (G' := G) rfl ?_
        exact ih (s + 1) _ _ _ _ (by omega) (addN hx rfl) (by rw [cntB_t (by simpa using h63)]; exact addN hm rfl) (by rw [andA_t (by simpa using h63)]; exact andN ha hx) (by rw [orS_t (by simpa using h63)]; exact orN hb hx)
  refine aw_run oX6_register sxOk 1 (pc' := 1) (L' := [some (.ref 0), some (.int (nI n0)), some (.int (nI 0)), none, none, none, none]) (st' := [.int (nI n0)]) (I' := I) (J' := J) (G' := G) rfl ?_
  refine aw_0ltN rfl (by omega) (oX6_register.dec rfl) (tgt := 20) rfl ?_
  refine aw_run oX6_register sxOk 2 (pc' := 8) (L' := [some (.ref 0), some (.int (nI n0)), some (.int (nI 0)), none, none, none, none]) (st' := [.int (nI 300), .int (nI n0)]) (I' := I) (J' := J) (G' := G) rfl ?_
  refine aw_gtN rfl rfl (by omega) (by omega) (oX6_register.dec rfl) (tgt := 20) rfl (fun h8 => absurd h8 (by omega)) (fun h8 => ?_)
  refine aw_run oX6_register sxOk 1 (pc' := 12) (L' := [some (.ref 0), some (.int (nI n0)), some (.int (nI 0)), none, none, none, none]) (st' := [.int (nI 0)]) (I' := I) (J' := J) (G' := G) rfl ?_
  refine aw_0ltN rfl (by omega) (oX6_register.dec rfl) (tgt := 20) rfl ?_
  refine aw_run oX6_register sxOk 2 (pc' := 17) (L' := [some (.ref 0), some (.int (nI n0)), some (.int (nI 0)), none, none, none, none]) (st' := [.int (nI 2), .int (nI 0)]) (I' := I) (J' := J) (G' := G) rfl ?_
  refine aw_leN rfl rfl (by omega) (by omega) (oX6_register.dec rfl) (tgt := 22) rfl (fun h17 => ?_) (fun h17 => absurd h17 (by omega))
  refine aw_run oX6_register sxOk 8 (pc' := 34) (L' := [some (.ref 0), some (.int (nI n0)), some (.int (nI 0)), some (.int (nI 0)), some (.int (nI 31)), some (.int (nI 0)), some (.int (nI 0))]) (st' := []) (I' := I) (J' := J) (G' := G) rfl ?_
  exact loop (2 ^ P) 0 _ _ _ _ (by omega) rfl rfl rfl rfl
set_option maxRecDepth 20000 in
theorem c_reg_1 {I : II} {J : JJ} {G : II} {P : Nat} (hP : I 2 7 = nI P) (hP5 : P ≤ 5) {n0 : Nat} (hn0 : n0 ≤ 300) : AMet SX mX6_register [.ref 0, .int (nI n0), .int (nI 1)] I J G (PE (some (.int (if cntB (fun σ => decide (sumS (fun s => G 24 (8 + s)) σ P = nI n0)) (2 ^ P) = 0 then -nI 9 else nI (andA (fun σ => decide (sumS (fun s => G 24 (8 + s)) σ P = nI n0)) 31 (2 ^ P))))) I J G) := by
  refine amet_en oX6_register rfl rfl (L := [some (.ref 0), some (.int (nI n0)), some (.int (nI 1)), none, none, none, none]) rfl ?_
  have hp32 : 2 ^ P ≤ 32 := Nat.pow_le_pow_right (by decide) hP5
  have hp0 : 0 < 2 ^ P := Nat.pow_pos (by decide)
  have loop : ∀ (n s : Nat) (x : Int32) (m : Int32) (a : Int32) (b : Int32), (s + n = 2 ^ P) → (x = nI s) → (m = nI (cntB (fun σ => decide (sumS (fun s => G 24 (8 + s)) σ P = nI n0)) s)) → (a = nI (andA (fun σ => decide (sumS (fun s => G 24 (8 + s)) σ P = nI n0)) 31 s)) → (b = nI (orS (fun σ => decide (sumS (fun s => G 24 (8 + s)) σ P = nI n0)) s)) → AW SX mX6_register 34 [some (.ref 0), some (.int (nI n0)), some (.int (nI 1)), some (.int m), some (.int a), some (.int b), some (.int x)] [] I J G (PE (some (.int (if cntB (fun σ => decide (sumS (fun s => G 24 (8 + s)) σ P = nI n0)) (2 ^ P) = 0 then -nI 9 else nI (andA (fun σ => decide (sumS (fun s => G 24 (8 + s)) σ P = nI n0)) 31 (2 ^ P))))) I J G) := by
    intro n
    induction n with
    | zero =>
      intro s x m a b hsn hx hm ha hb
      have hcl := cntB_le (fun σ => decide (sumS (fun s => G 24 (8 + s)) σ P = nI n0)) s
      refine aw_run oX6_register sxOk 2 (pc' := 38) (L' := [some (.ref 0), some (.int (nI n0)), some (.int (nI 1)), some (.int m), some (.int a), some (.int b), some (.int x)]) (st' := [.int (nI 32), .int x]) (I' := I) (J' := J) (G' := G) rfl ?_
      refine aw_geN hx rfl (by omega) (by omega) (oX6_register.dec rfl) (tgt := 89) rfl (fun h38 => ?_) (fun h38 => ?_)
      · refine aw_run oX6_register sxOk 1 (pc' := 90) (L' := [some (.ref 0), some (.int (nI n0)), some (.int (nI 1)), some (.int m), some (.int a), some (.int b), some (.int x)]) (st' := [.int (nI 1)]) (I' := I) (J' := J) (G' := G) rfl ?_
        refine aw_0neN rfl (by omega) (oX6_register.dec rfl) (tgt := 95) rfl (fun h90 => ?_) (fun h90 => absurd h90 (by omega))
        refine aw_run oX6_register sxOk 2 (pc' := 97) (L' := [some (.ref 0), some (.int (nI n0)), some (.int (nI 1)), some (.int m), some (.int a), some (.int b), some (.int x)]) (st' := [.int (nI 2), .int (nI 1)]) (I' := I) (J' := J) (G' := G) rfl ?_
        refine aw_neN rfl rfl (by omega) (by omega) (oX6_register.dec rfl) (tgt := 103) rfl (fun h97 => ?_) (fun h97 => absurd h97 (by omega))
        refine aw_run oX6_register sxOk 1 (pc' := 104) (L' := [some (.ref 0), some (.int (nI n0)), some (.int (nI 1)), some (.int m), some (.int a), some (.int b), some (.int x)]) (st' := [.int m]) (I' := I) (J' := J) (G' := G) rfl ?_
        refine aw_0neN hm (by omega) (oX6_register.dec rfl) (tgt := 112) rfl (fun h104 => ?_) (fun h104 => ?_)
        · refine aw_run oX6_register sxOk 1 (pc' := 114) (L' := [some (.ref 0), some (.int (nI n0)), some (.int (nI 1)), some (.int m), some (.int a), some (.int b), some (.int x)]) (st' := [.int a]) (I' := I) (J' := J) (G' := G) rfl ?_
          exact aw_iret rfl (oX6_register.dec rfl) (pe_i (by rw [if_neg (by rw [← show s = 2 ^ P by omega]; exact h104), ha, show s = 2 ^ P by omega]))
        · refine aw_run oX6_register sxOk 2 (pc' := 114) (L' := [some (.ref 0), some (.int (nI n0)), some (.int (nI 1)), some (.int m), some (.int a), some (.int b), some (.int x)]) (st' := [.int (-nI 9)]) (I' := I) (J' := J) (G' := G) rfl ?_
          exact aw_iret rfl (oX6_register.dec rfl) (pe_i (by rw [if_pos (by rw [← show s = 2 ^ P by omega]; exact h104)]))
      · refine aw_run oX6_register sxOk 3 (pc' := 47) (L' := [some (.ref 0), some (.int (nI n0)), some (.int (nI 1)), some (.int m), some (.int a), some (.int b), some (.int x)]) (st' := [.int x, .ref 2]) (I' := I) (J' := J) (G' := G) rfl ?_
        refine aw_cV (st := []) 2 [.int x] oX4_hasSet k6_130 rfl rfl rfl rfl rfl rfl rfl rfl (oX6_register.dec rfl) (c_hasSet_f hP (by omega) (by rw [hx]; exact notIn_self (by omega) (by omega))) ?_
        refine aw_eqS (st := [.int (nI 0)]) rfl ?_
        refine aw_0eqN rfl (by omega) (oX6_register.dec rfl) (tgt := 89) rfl (fun h50 => ?_) (fun h50 => absurd h50 (by omega))
        refine aw_run oX6_register sxOk 1 (pc' := 90) (L' := [some (.ref 0), some (.int (nI n0)), some (.int (nI 1)), some (.int m), some (.int a), some (.int b), some (.int x)]) (st' := [.int (nI 1)]) (I' := I) (J' := J) (G' := G) rfl ?_
        refine aw_0neN rfl (by omega) (oX6_register.dec rfl) (tgt := 95) rfl (fun h90 => ?_) (fun h90 => absurd h90 (by omega))
        refine aw_run oX6_register sxOk 2 (pc' := 97) (L' := [some (.ref 0), some (.int (nI n0)), some (.int (nI 1)), some (.int m), some (.int a), some (.int b), some (.int x)]) (st' := [.int (nI 2), .int (nI 1)]) (I' := I) (J' := J) (G' := G) rfl ?_
        refine aw_neN rfl rfl (by omega) (by omega) (oX6_register.dec rfl) (tgt := 103) rfl (fun h97 => ?_) (fun h97 => absurd h97 (by omega))
        refine aw_run oX6_register sxOk 1 (pc' := 104) (L' := [some (.ref 0), some (.int (nI n0)), some (.int (nI 1)), some (.int m), some (.int a), some (.int b), some (.int x)]) (st' := [.int m]) (I' := I) (J' := J) (G' := G) rfl ?_
        refine aw_0neN hm (by omega) (oX6_register.dec rfl) (tgt := 112) rfl (fun h104 => ?_) (fun h104 => ?_)
        · refine aw_run oX6_register sxOk 1 (pc' := 114) (L' := [some (.ref 0), some (.int (nI n0)), some (.int (nI 1)), some (.int m), some (.int a), some (.int b), some (.int x)]) (st' := [.int a]) (I' := I) (J' := J) (G' := G) rfl ?_
          exact aw_iret rfl (oX6_register.dec rfl) (pe_i (by rw [if_neg (by rw [← show s = 2 ^ P by omega]; exact h104), ha, show s = 2 ^ P by omega]))
        · refine aw_run oX6_register sxOk 2 (pc' := 114) (L' := [some (.ref 0), some (.int (nI n0)), some (.int (nI 1)), some (.int m), some (.int a), some (.int b), some (.int x)]) (st' := [.int (-nI 9)]) (I' := I) (J' := J) (G' := G) rfl ?_
          exact aw_iret rfl (oX6_register.dec rfl) (pe_i (by rw [if_pos (by rw [← show s = 2 ^ P by omega]; exact h104)]))
    | succ n ih =>
      intro s x m a b hsn hx hm ha hb
      refine aw_run oX6_register sxOk 2 (pc' := 38) (L' := [some (.ref 0), some (.int (nI n0)), some (.int (nI 1)), some (.int m), some (.int a), some (.int b), some (.int x)]) (st' := [.int (nI 32), .int x]) (I' := I) (J' := J) (G' := G) rfl ?_
      refine aw_geN hx rfl (by omega) (by omega) (oX6_register.dec rfl) (tgt := 89) rfl (fun h38 => absurd h38 (by omega)) (fun h38 => ?_)
      refine aw_run oX6_register sxOk 3 (pc' := 47) (L' := [some (.ref 0), some (.int (nI n0)), some (.int (nI 1)), some (.int m), some (.int a), some (.int b), some (.int x)]) (st' := [.int x, .ref 2]) (I' := I) (J' := J) (G' := G) rfl ?_
      refine aw_eqS (st := [.int (nI s), .ref 2]) (by rw [show x = nI s from hx]) ?_
      refine aw_cV (st := []) 2 [.int (nI s)] oX4_hasSet k6_130 rfl rfl rfl rfl rfl rfl rfl rfl (oX6_register.dec rfl) (c_hasSet_t hP (by omega) (by omega)) ?_
      refine aw_eqS (st := [.int (nI 1)]) rfl ?_
      refine aw_0eqN rfl (by omega) (oX6_register.dec rfl) (tgt := 89) rfl (fun h50 => absurd h50 (by omega)) (fun h50 => ?_)
      refine aw_run oX6_register sxOk 3 (pc' := 59) (L' := [some (.ref 0), some (.int (nI n0)), some (.int (nI 1)), some (.int m), some (.int a), some (.int b), some (.int x)]) (st' := [.int x, .ref 7]) (I' := I) (J' := J) (G' := G) rfl ?_
      refine aw_eqS (st := [.int (nI s), .ref 7]) (by rw [show x = nI s from hx]) ?_
      refine aw_cV (st := []) 7 [.int (nI s)] oX0_listedTogether k6_202 rfl rfl rfl rfl rfl rfl rfl rfl (oX6_register.dec rfl) (c_listedTogether hP (by omega) (by omega)) ?_
      refine aw_eqS (st := [.int (sumS (fun s => G 24 (8 + s)) s P)]) rfl ?_
      refine aw_run oX6_register sxOk 1 (pc' := 63) (L' := [some (.ref 0), some (.int (nI n0)), some (.int (nI 1)), some (.int m), some (.int a), some (.int b), some (.int x)]) (st' := [.int (nI n0), .int (sumS (fun s => G 24 (8 + s)) s P)]) (I' := I) (J' := J) (G' := G) rfl ?_
      refine aw_icmp_ne (oX6_register.dec rfl) (tgt := 83) rfl (fun h63 => ?_) (fun h63 => ?_)
      · refine aw_run oX6_register sxOk 2 (pc' := 34) (L' := [some (.ref 0), some (.int (nI n0)), some (.int (nI 1)), some (.int m), some (.int a), some (.int b), some (.int (x + (nI 1)))]) (st' := []) (I' := I) (J' := J) (G' := G) rfl ?_
        exact ih (s + 1) _ _ _ _ (by omega) (addN hx rfl) (by rw [cntB_f (by simpa using h63)]; exact hm) (by rw [andA_f (by simpa using h63)]; exact ha) (by rw [orS_f (by simpa using h63)]; exact hb)
      · refine aw_run oX6_register sxOk 11 (pc' := 34) (L' := [some (.ref 0), some (.int (nI n0)), some (.int (nI 1)), some (.int (m + (nI 1))), some (.int (a &&& x)), some (.int (b ||| x)), some (.int (x + (nI 1)))]) (st' := []) (I' := I) (J' := J) (G' := G) rfl ?_
        exact ih (s + 1) _ _ _ _ (by omega) (addN hx rfl) (by rw [cntB_t (by simpa using h63)]; exact addN hm rfl) (by rw [andA_t (by simpa using h63)]; exact andN ha hx) (by rw [orS_t (by simpa using h63)]; exact orN hb hx)
  refine aw_run oX6_register sxOk 1 (pc' := 1) (L' := [some (.ref 0), some (.int (nI n0)), some (.int (nI 1)), none, none, none, none]) (st' := [.int (nI n0)]) (I' := I) (J' := J) (G' := G) rfl ?_
  refine aw_0ltN rfl (by omega) (oX6_register.dec rfl) (tgt := 20) rfl ?_
  refine aw_run oX6_register sxOk 2 (pc' := 8) (L' := [some (.ref 0), some (.int (nI n0)), some (.int (nI 1)), none, none, none, none]) (st' := [.int (nI 300), .int (nI n0)]) (I' := I) (J' := J) (G' := G) rfl ?_
  refine aw_gtN rfl rfl (by omega) (by omega) (oX6_register.dec rfl) (tgt := 20) rfl (fun h8 => absurd h8 (by omega)) (fun h8 => ?_)
  refine aw_run oX6_register sxOk 1 (pc' := 12) (L' := [some (.ref 0), some (.int (nI n0)), some (.int (nI 1)), none, none, none, none]) (st' := [.int (nI 1)]) (I' := I) (J' := J) (G' := G) rfl ?_
  refine aw_0ltN rfl (by omega) (oX6_register.dec rfl) (tgt := 20) rfl ?_
  refine aw_run oX6_register sxOk 2 (pc' := 17) (L' := [some (.ref 0), some (.int (nI n0)), some (.int (nI 1)), none, none, none, none]) (st' := [.int (nI 2), .int (nI 1)]) (I' := I) (J' := J) (G' := G) rfl ?_
  refine aw_leN rfl rfl (by omega) (by omega) (oX6_register.dec rfl) (tgt := 22) rfl (fun h17 => ?_) (fun h17 => absurd h17 (by omega))
  refine aw_run oX6_register sxOk 8 (pc' := 34) (L' := [some (.ref 0), some (.int (nI n0)), some (.int (nI 1)), some (.int (nI 0)), some (.int (nI 31)), some (.int (nI 0)), some (.int (nI 0))]) (st' := []) (I' := I) (J' := J) (G' := G) rfl ?_
  exact loop (2 ^ P) 0 _ _ _ _ (by omega) rfl rfl rfl rfl
set_option maxRecDepth 20000 in
theorem c_reg_2 {I : II} {J : JJ} {G : II} {P : Nat} (hP : I 2 7 = nI P) (hP5 : P ≤ 5) {n0 : Nat} (hn0 : n0 ≤ 300) : AMet SX mX6_register [.ref 0, .int (nI n0), .int (nI 2)] I J G (PE (some (.int (nI (orS (fun σ => decide (sumS (fun s => G 24 (8 + s)) σ P = nI n0)) (2 ^ P))))) I J G) := by
  refine amet_en oX6_register rfl rfl (L := [some (.ref 0), some (.int (nI n0)), some (.int (nI 2)), none, none, none, none]) rfl ?_
  have hp32 : 2 ^ P ≤ 32 := Nat.pow_le_pow_right (by decide) hP5
  have hp0 : 0 < 2 ^ P := Nat.pow_pos (by decide)
  have loop : ∀ (n s : Nat) (x : Int32) (m : Int32) (a : Int32) (b : Int32), (s + n = 2 ^ P) → (x = nI s) → (m = nI (cntB (fun σ => decide (sumS (fun s => G 24 (8 + s)) σ P = nI n0)) s)) → (a = nI (andA (fun σ => decide (sumS (fun s => G 24 (8 + s)) σ P = nI n0)) 31 s)) → (b = nI (orS (fun σ => decide (sumS (fun s => G 24 (8 + s)) σ P = nI n0)) s)) → AW SX mX6_register 34 [some (.ref 0), some (.int (nI n0)), some (.int (nI 2)), some (.int m), some (.int a), some (.int b), some (.int x)] [] I J G (PE (some (.int (nI (orS (fun σ => decide (sumS (fun s => G 24 (8 + s)) σ P = nI n0)) (2 ^ P))))) I J G) := by
    intro n
    induction n with
    | zero =>
      intro s x m a b hsn hx hm ha hb
      have hcl := cntB_le (fun σ => decide (sumS (fun s => G 24 (8 + s)) σ P = nI n0)) s
      refine aw_run oX6_register sxOk 2 (pc' := 38) (L' := [some (.ref 0), some (.int (nI n0)), some (.int (nI 2)), some (.int m), some (.int a), some (.int b), some (.int x)]) (st' := [.int (nI 32), .int x]) (I' := I) (J' := J) (G' := G) rfl ?_
      refine aw_geN hx rfl (by omega) (by omega) (oX6_register.dec rfl) (tgt := 89) rfl (fun h38 => ?_) (fun h38 => ?_)
      · refine aw_run oX6_register sxOk 1 (pc' := 90) (L' := [some (.ref 0), some (.int (nI n0)), some (.int (nI 2)), some (.int m), some (.int a), some (.int b), some (.int x)]) (st' := [.int (nI 2)]) (I' := I) (J' := J) (G' := G) rfl ?_
        refine aw_0neN rfl (by omega) (oX6_register.dec rfl) (tgt := 95) rfl (fun h90 => ?_) (fun h90 => absurd h90 (by omega))
        refine aw_run oX6_register sxOk 2 (pc' := 97) (L' := [some (.ref 0), some (.int (nI n0)), some (.int (nI 2)), some (.int m), some (.int a), some (.int b), some (.int x)]) (st' := [.int (nI 2), .int (nI 2)]) (I' := I) (J' := J) (G' := G) rfl ?_
        refine aw_neN rfl rfl (by omega) (by omega) (oX6_register.dec rfl) (tgt := 103) rfl (fun h97 => absurd h97 (by omega)) (fun h97 => ?_)
        refine aw_run oX6_register sxOk 1 (pc' := 102) (L' := [some (.ref 0), some (.int (nI n0)), some (.int (nI 2)), some (.int m), some (.int a), some (.int b), some (.int x)]) (st' := [.int b]) (I' := I) (J' := J) (G' := G) rfl ?_
        exact aw_iret rfl (oX6_register.dec rfl) (pe_i (by rw [hb, show s = 2 ^ P by omega]))
      · refine aw_run oX6_register sxOk 3 (pc' := 47) (L' := [some (.ref 0), some (.int (nI n0)), some (.int (nI 2)), some (.int m), some (.int a), some (.int b), some (.int x)]) (st' := [.int x, .ref 2]) (I' := I) (J' := J) (G' := G) rfl ?_
        refine aw_cV (st := []) 2 [.int x] oX4_hasSet k6_130 rfl rfl rfl rfl rfl rfl rfl rfl (oX6_register.dec rfl) (c_hasSet_f hP (by omega) (by rw [hx]; exact notIn_self (by omega) (by omega))) ?_
        refine aw_eqS (st := [.int (nI 0)]) rfl ?_
        refine aw_0eqN rfl (by omega) (oX6_register.dec rfl) (tgt := 89) rfl (fun h50 => ?_) (fun h50 => absurd h50 (by omega))
        refine aw_run oX6_register sxOk 1 (pc' := 90) (L' := [some (.ref 0), some (.int (nI n0)), some (.int (nI 2)), some (.int m), some (.int a), some (.int b), some (.int x)]) (st' := [.int (nI 2)]) (I' := I) (J' := J) (G' := G) rfl ?_
        refine aw_0neN rfl (by omega) (oX6_register.dec rfl) (tgt := 95) rfl (fun h90 => ?_) (fun h90 => absurd h90 (by omega))
        refine aw_run oX6_register sxOk 2 (pc' := 97) (L' := [some (.ref 0), some (.int (nI n0)), some (.int (nI 2)), some (.int m), some (.int a), some (.int b), some (.int x)]) (st' := [.int (nI 2), .int (nI 2)]) (I' := I) (J' := J) (G' := G) rfl ?_
        refine aw_neN rfl rfl (by omega) (by omega) (oX6_register.dec rfl) (tgt := 103) rfl (fun h97 => absurd h97 (by omega)) (fun h97 => ?_)
        refine aw_run oX6_register sxOk 1 (pc' := 102) (L' := [some (.ref 0), some (.int (nI n0)), some (.int (nI 2)), some (.int m), some (.int a), some (.int b), some (.int x)]) (st' := [.int b]) (I' := I) (J' := J) (G' := G) rfl ?_
        exact aw_iret rfl (oX6_register.dec rfl) (pe_i (by rw [hb, show s = 2 ^ P by omega]))
    | succ n ih =>
      intro s x m a b hsn hx hm ha hb
      refine aw_run oX6_register sxOk 2 (pc' := 38) (L' := [some (.ref 0), some (.int (nI n0)), some (.int (nI 2)), some (.int m), some (.int a), some (.int b), some (.int x)]) (st' := [.int (nI 32), .int x]) (I' := I) (J' := J) (G' := G) rfl ?_
      refine aw_geN hx rfl (by omega) (by omega) (oX6_register.dec rfl) (tgt := 89) rfl (fun h38 => absurd h38 (by omega)) (fun h38 => ?_)
      refine aw_run oX6_register sxOk 3 (pc' := 47) (L' := [some (.ref 0), some (.int (nI n0)), some (.int (nI 2)), some (.int m), some (.int a), some (.int b), some (.int x)]) (st' := [.int x, .ref 2]) (I' := I) (J' := J) (G' := G) rfl ?_
      refine aw_eqS (st := [.int (nI s), .ref 2]) (by rw [show x = nI s from hx]) ?_
      refine aw_cV (st := []) 2 [.int (nI s)] oX4_hasSet k6_130 rfl rfl rfl rfl rfl rfl rfl rfl (oX6_register.dec rfl) (c_hasSet_t hP (by omega) (by omega)) ?_
      refine aw_eqS (st := [.int (nI 1)]) rfl ?_
      refine aw_0eqN rfl (by omega) (oX6_register.dec rfl) (tgt := 89) rfl (fun h50 => absurd h50 (by omega)) (fun h50 => ?_)
      refine aw_run oX6_register sxOk 3 (pc' := 59) (L' := [some (.ref 0), some (.int (nI n0)), some (.int (nI 2)), some (.int m), some (.int a), some (.int b), some (.int x)]) (st' := [.int x, .ref 7]) (I' := I) (J' := J) (G' := G) rfl ?_
      refine aw_eqS (st := [.int (nI s), .ref 7]) (by rw [show x = nI s from hx]) ?_
      refine aw_cV (st := []) 7 [.int (nI s)] oX0_listedTogether k6_202 rfl rfl rfl rfl rfl rfl rfl rfl (oX6_register.dec rfl) (c_listedTogether hP (by omega) (by omega)) ?_
      refine aw_eqS (st := [.int (sumS (fun s => G 24 (8 + s)) s P)]) rfl ?_
      refine aw_run oX6_register sxOk 1 (pc' := 63) (L' := [some (.ref 0), some (.int (nI n0)), some (.int (nI 2)), some (.int m), some (.int a), some (.int b), some (.int x)]) (st' := [.int (nI n0), .int (sumS (fun s => G 24 (8 + s)) s P)]) (I' := I) (J' := J) (G' := G) rfl ?_
      refine aw_icmp_ne (oX6_register.dec rfl) (tgt := 83) rfl (fun h63 => ?_) (fun h63 => ?_)
      · refine aw_run oX6_register sxOk 2 (pc' := 34) (L' := [some (.ref 0), some (.int (nI n0)), some (.int (nI 2)), some (.int m), some (.int a), some (.int b), some (.int (x + (nI 1)))]) (st' := []) (I' := I) (J' := J) (G' := G) rfl ?_
        exact ih (s + 1) _ _ _ _ (by omega) (addN hx rfl) (by rw [cntB_f (by simpa using h63)]; exact hm) (by rw [andA_f (by simpa using h63)]; exact ha) (by rw [orS_f (by simpa using h63)]; exact hb)
      · refine aw_run oX6_register sxOk 11 (pc' := 34) (L' := [some (.ref 0), some (.int (nI n0)), some (.int (nI 2)), some (.int (m + (nI 1))), some (.int (a &&& x)), some (.int (b ||| x)), some (.int (x + (nI 1)))]) (st' := []) (I' := I) (J' := J) (G' := G) rfl ?_
        exact ih (s + 1) _ _ _ _ (by omega) (addN hx rfl) (by rw [cntB_t (by simpa using h63)]; exact addN hm rfl) (by rw [andA_t (by simpa using h63)]; exact andN ha hx) (by rw [orS_t (by simpa using h63)]; exact orN hb hx)
  refine aw_run oX6_register sxOk 1 (pc' := 1) (L' := [some (.ref 0), some (.int (nI n0)), some (.int (nI 2)), none, none, none, none]) (st' := [.int (nI n0)]) (I' := I) (J' := J) (G' := G) rfl ?_
  refine aw_0ltN rfl (by omega) (oX6_register.dec rfl) (tgt := 20) rfl ?_
  refine aw_run oX6_register sxOk 2 (pc' := 8) (L' := [some (.ref 0), some (.int (nI n0)), some (.int (nI 2)), none, none, none, none]) (st' := [.int (nI 300), .int (nI n0)]) (I' := I) (J' := J) (G' := G) rfl ?_
  refine aw_gtN rfl rfl (by omega) (by omega) (oX6_register.dec rfl) (tgt := 20) rfl (fun h8 => absurd h8 (by omega)) (fun h8 => ?_)
  refine aw_run oX6_register sxOk 1 (pc' := 12) (L' := [some (.ref 0), some (.int (nI n0)), some (.int (nI 2)), none, none, none, none]) (st' := [.int (nI 2)]) (I' := I) (J' := J) (G' := G) rfl ?_
  refine aw_0ltN rfl (by omega) (oX6_register.dec rfl) (tgt := 20) rfl ?_
  refine aw_run oX6_register sxOk 2 (pc' := 17) (L' := [some (.ref 0), some (.int (nI n0)), some (.int (nI 2)), none, none, none, none]) (st' := [.int (nI 2), .int (nI 2)]) (I' := I) (J' := J) (G' := G) rfl ?_
  refine aw_leN rfl rfl (by omega) (by omega) (oX6_register.dec rfl) (tgt := 22) rfl (fun h17 => ?_) (fun h17 => absurd h17 (by omega))
  refine aw_run oX6_register sxOk 8 (pc' := 34) (L' := [some (.ref 0), some (.int (nI n0)), some (.int (nI 2)), some (.int (nI 0)), some (.int (nI 31)), some (.int (nI 0)), some (.int (nI 0))]) (st' := []) (I' := I) (J' := J) (G' := G) rfl ?_
  exact loop (2 ^ P) 0 _ _ _ _ (by omega) rfl rfl rfl rfl
end
section
/-! the plan's recursion -/
def ffF (sum : Nat → Int32) (sub : Nat → Bool) : Nat → Option (Int32 × Nat)
  | 0 => none
  | m + 1 => if sub m = true then (match ffF sum sub m with
    | none => some (sum m, m)
    | some q => if q.1 < sum m then some (sum m, m) else some q) else ffF sum sub m
def subB (m a : Nat) : Bool := decide (anN m a = 0)
def valO (o : Option (Int32 × Nat)) : Int32 := match o with
  | none => nI 0
  | some q => q.1
def chO (o : Option (Int32 × Nat)) : Nat := match o with
  | none => 0
  | some q => q.2
def bO (b0 : Int32) (o : Option (Int32 × Nat)) : Int32 := match o with
  | none => b0
  | some q => q.1
def plV (wo : Nat → Nat → Int32) (rd : Nat → Nat) (Wk : Nat) : Nat → Nat → Option (Int32 × Nat)
  | 0, _ => none
  | n + 1, left => ffF (fun m => wo m (Wk - (n + 1)) + valO (plV wo rd Wk n (anN left m))) (fun m => subB m (left &&& rd (Wk - (n + 1)))) 32
theorem ff_no {sum : Nat → Int32} {sub : Nat → Bool} {m : Nat} (h : ¬ sub m = true) : ffF sum sub (m + 1) = ffF sum sub m := if_neg h
theorem ff_none {sum : Nat → Int32} {sub : Nat → Bool} (h : sub 0 = true) : ∀ m, ffF sum sub (m + 1) ≠ none := by
  intro m
  induction m with
  | zero =>
    show (if sub 0 = true then _ else _) ≠ none
    rw [if_pos h]
    exact fun e => by cases e
  | succ m ih =>
    show (if sub (m + 1) = true then _ else _) ≠ none
    split
    · split
      · exact fun e => by cases e
      · split <;> exact fun e => by cases e
    · exact ih
theorem ff_new {sum : Nat → Int32} {sub : Nat → Bool} {b0 : Int32} {m : Nat} (h : sub m = true) (h1 : ¬ sum m ≤ bO b0 (ffF sum sub m)) : ffF sum sub (m + 1) = some (sum m, m) := by
  show (if sub m = true then _ else _) = _
  rw [if_pos h]
  cases hr : ffF sum sub m with
  | none => rfl
  | some q =>
    rw [hr] at h1
    have h2 : q.1 < sum m := Int32.not_le.mp h1
    simp [h2]
theorem ff_old {sum : Nat → Int32} {sub : Nat → Bool} {b0 : Int32} {m : Nat} (h : sub m = true) (h0 : sub 0 = true) (hb : b0 < sum 0) (h1 : sum m ≤ bO b0 (ffF sum sub m)) : ffF sum sub (m + 1) = ffF sum sub m := by
  show (if sub m = true then _ else _) = _
  rw [if_pos h]
  cases hr : ffF sum sub m with
  | none =>
    rw [hr] at h1
    cases m with
    | zero => exact absurd hb (Int32.not_lt.mpr h1)
    | succ m => exact absurd hr (ff_none h0 m)
  | some q =>
    rw [hr] at h1
    have h2 : ¬ q.1 < sum m := Int32.not_lt.mpr h1
    simp [h2]
theorem ff_ge {sum : Nat → Int32} {sub : Nat → Bool} (h0 : sub 0 = true) : ∀ m, ∃ q, ffF sum sub (m + 1) = some q ∧ sum 0 ≤ q.1 ∧ q.2 ≤ m ∧ sub q.2 = true := by
  intro m
  induction m with
  | zero => exact ⟨(sum 0, 0), if_pos h0, Int32.le_refl _, Nat.le_refl _, h0⟩
  | succ m ih =>
    obtain ⟨q, h1, h2, h3, h4⟩ := ih
    by_cases hs : sub (m + 1) = true
    · by_cases hq : q.1 < sum (m + 1)
      · refine ⟨(sum (m + 1), m + 1), ?_, Int32.le_trans h2 (Int32.le_of_lt hq), Nat.le_refl _, hs⟩
        show (if sub (m + 1) = true then _ else _) = _
        rw [if_pos hs, h1]
        simp [hq]
      · refine ⟨q, ?_, h2, by omega, h4⟩
        show (if sub (m + 1) = true then _ else _) = _
        rw [if_pos hs, h1]
        simp [hq]
    · exact ⟨q, by rw [ff_no hs, h1], h2, by omega, h4⟩
theorem ff_cut {sum : Nat → Int32} {sub : Nat → Bool} {a : Nat} : ∀ n, (∀ m, a ≤ m → m < a + n → ¬ sub m = true) → ffF sum sub (a + n) = ffF sum sub a := by
  intro n
  induction n with
  | zero => intro _; rfl
  | succ n ih =>
    intro h
    show ffF sum sub (a + n + 1) = _
    rw [ff_no (h (a + n) (by omega) (by omega)), ih (fun m h1 h2 => h m h1 (by omega))]
theorem an_le : ∀ m, m < 32 → ∀ a, a < 32 → anN m a = 0 → m ≤ a := by decide +kernel
theorem an_and : ∀ m, m < 32 → ∀ a, a < 32 → anN m a = 0 → m &&& a = m := by decide +kernel
theorem an_and2 : ∀ m, m < 32 → ∀ a, a < 32 → m &&& a = m → anN m a = 0 := by decide +kernel
theorem an_0 : ∀ a, a < 32 → anN 0 a = 0 := by decide +kernel
theorem an_00 : ∀ a, a < 32 → anN a 0 = a := by decide +kernel
theorem and_lt : ∀ a, a < 32 → ∀ b, b < 32 → a &&& b < 32 := by decide +kernel
theorem an_sub : ∀ l, l < 32 → ∀ m, m < 32 → anN l m &&& l = anN l m := by decide +kernel
theorem an_port {l m p : Nat} (hl : l < 32) (hm : m < 32) (hp : p < 32) (h : anN l p = 0) : anN (anN l m) p = 0 := by
  have h1 := an_and l hl p hp h
  have h2 := an_sub l hl m hm
  have h3 := anN_lt l hl m hm
  refine an_and2 _ h3 _ hp ?_
  have e : anN l m &&& p = anN l m := by
    calc anN l m &&& p = (anN l m &&& l) &&& p := by rw [h2]
      _ = anN l m &&& (l &&& p) := Nat.and_assoc _ _ _
      _ = anN l m &&& l := by rw [h1]
      _ = anN l m := h2
  exact e
theorem and_port {l p r : Nat} (hl : l < 32) (hp : p < 32) (h : anN l p = 0) : l &&& (p &&& r) = l &&& r := by
  rw [← Nat.and_assoc, an_and l hl p hp h]
theorem plV_s {wo : Nat → Nat → Int32} {rd : Nat → Nat} {Wk n left : Nat} : plV wo rd Wk (n + 1) left = ffF (fun m => wo m (Wk - (n + 1)) + valO (plV wo rd Wk n (anN left m))) (fun m => subB m (left &&& rd (Wk - (n + 1)))) 32 := rfl
theorem subB_0 {a : Nat} (h : a < 32) : subB 0 a = true := by unfold subB; rw [an_0 a h]; rfl
theorem plV_pos {wo : Nat → Nat → Int32} {rd : Nat → Nat} {Wk : Nat} (hw : ∀ w, wo 0 w = nI 0) (hr : ∀ w, rd w < 32) : ∀ n left, left < 32 → nI 0 ≤ valO (plV wo rd Wk n left) := by
  intro n
  induction n with
  | zero => intro left _; exact Int32.le_refl _
  | succ n ih =>
    intro left hl
    obtain ⟨q, h1, h2, -, -⟩ := ff_ge (sum := fun m => wo m (Wk - (n + 1)) + valO (plV wo rd Wk n (anN left m))) (sub := fun m => subB m (left &&& rd (Wk - (n + 1)))) (subB_0 (and_lt _ hl _ (hr _))) 31
    rw [plV_s, h1]
    refine Int32.le_trans ?_ h2
    show nI 0 ≤ wo 0 _ + valO (plV wo rd Wk n (anN left 0))
    rw [hw, an_00 left hl]
    have h3 := ih left hl
    have e : nI 0 + valO (plV wo rd Wk n left) = valO (plV wo rd Wk n left) := Int32.zero_add _
    rw [e]
    exact h3
theorem sum_none {x : Nat → Int32} {q : Nat → Bool} : ∀ n, (∀ j, j < n → q j = false) → sumC x q n = nI 0 := by
  intro n
  induction n with
  | zero => intro _; rfl
  | succ n ih =>
    intro h
    rw [← sumC_f (by rw [h n (by omega)]; decide)]
    exact ih (fun j hj => h j (by omega))
theorem rich_none {f : Nat → Int32} : ∀ n, rich f 0 n = none := by
  intro n
  induction n with
  | zero => rfl
  | succ n ih => rw [rich_no (by simp)]; exact ih
theorem wor_0 (f g : Nat → Int32) (pir sto : Int32) (P : Nat) : wor f g pir sto P 0 = nI 0 := by
  unfold wor
  have h1 : sumS (sil f) 0 P = nI 0 := sum_none P (fun j _ => by simp)
  have h2 : tak f g pir P 0 = none := by
    unfold tak
    rw [rich_none]
    split <;> rfl
  rw [h1, h2]
  show (nI 0 - nI 0) * _ = nI 0
  rw [show nI 0 - nI 0 = 0 by decide, Int32.zero_mul]
  rfl
/-- the planner's three rows -/
theorem G3_id (G : II) : va_up (va_up (va_up G 31 (G 31)) 32 (G 32)) 33 (G 33) = G := by
  rw [upG_id G 31, upG_id G 32, upG_id G 33]
theorem G3_33 {G : II} {b c v v' : Nat → Int32} : va_up (va_up (va_up (va_up G 31 b) 32 c) 33 v) 33 v' = va_up (va_up (va_up G 31 b) 32 c) 33 v' := bx_uu _ _ _ _
theorem G3_bc {G : II} {b c v b' c' : Nat → Int32} : va_up (va_up (va_up (va_up (va_up G 31 b) 32 c) 33 v) 31 b') 32 c' = va_up (va_up (va_up G 31 b') 32 c') 33 v := by
  funext q
  simp only [va_up]
  by_cases h1 : q = 31
  · subst h1; simp
  · by_cases h2 : q = 32
    · subst h2; simp
    · simp [h1, h2]
theorem G3_b {G : II} {b c v b' : Nat → Int32} : va_up (va_up (va_up (va_up G 31 b) 32 c) 33 v) 31 b' = va_up (va_up (va_up G 31 b') 32 c) 33 v := by
  funext q
  simp only [va_up]
  by_cases h1 : q = 31
  · subst h1; simp
  · simp [h1]
theorem lt_pred {n : Nat} (h : n < 2 ^ 31) : nI n - nI 1 < nI n := by
  cases n with
  | zero => decide
  | succ n => rw [show nI (n + 1) - nI 1 = nI n from subN rfl rfl (by omega)]; exact nI_lt (by omega) h
end
section
set_option maxRecDepth 20000 in
theorem c_choose {I : II} {J : JJ} {G : II}  {w l a : Nat} (hw : w < 12) (hl : l < 32) (ha : a < 32) {sm : Nat → Int32} (hpos : -nI 1 < sm 0) (hs : ∀ m, m ≤ a → subB m a = true → G 33 m + G 31 ((w + 1) * 32 + anN l m) = sm m) : AMet SX mX3_choose [.ref 8, .int (nI w), .int (nI l), .int (nI a)] I J G (fun r I' J' G' => r = none ∧ I' = I ∧ J' = J ∧ ∃ b c, G' = va_up (va_up G 31 b) 32 c ∧ (∀ i, i ≠ w * 32 + l → b i = G 31 i ∧ c i = G 32 i) ∧ b (w * 32 + l) = valO (ffF sm (fun m => subB m a) (a + 1)) ∧ c (w * 32 + l) = nI (chO (ffF sm (fun m => subB m a) (a + 1)))) := by
  refine amet_en oX3_choose rfl rfl (L := [some (.ref 8), some (.int (nI w)), some (.int (nI l)), some (.int (nI a)), none, none, none, none]) rfl ?_
  have hal : ∀ m, m < 32 → anN l m < 32 := fun m hm => anN_lt l (by omega) m hm
  have loop : ∀ (n s : Nat) (x : Int32) (b : Nat → Int32) (c : Nat → Int32), (s + n = a + 1) → (x = nI s) → (∀ i, i ≠ w * 32 + l → b i = G 31 i ∧ c i = G 32 i) → (b (w * 32 + l) = bO (-nI 1) (ffF sm (fun m => subB m a) s)) → (∀ q, ffF sm (fun m => subB m a) s = some q → c (w * 32 + l) = nI q.2) → AW SX mX3_choose 27 [some (.ref 8), some (.int (nI w)), some (.int (nI l)), some (.int (nI a)), some (.int ((nI w * nI 32) + nI l)), some (.int ((nI w + nI 1) * nI 32)), some (.int x), none] [] I J (va_up (va_up G 31 b) 32 c) (fun r I' J' G' => r = none ∧ I' = I ∧ J' = J ∧ ∃ b c, G' = va_up (va_up G 31 b) 32 c ∧ (∀ i, i ≠ w * 32 + l → b i = G 31 i ∧ c i = G 32 i) ∧ b (w * 32 + l) = valO (ffF sm (fun m => subB m a) (a + 1)) ∧ c (w * 32 + l) = nI (chO (ffF sm (fun m => subB m a) (a + 1)))) := by
    intro n
    induction n with
    | zero =>
      intro s x b c hsn hx ho hb hc
      refine aw_run oX3_choose sxOk 2 (pc' := 30) (L' := [some (.ref 8), some (.int (nI w)), some (.int (nI l)), some (.int (nI a)), some (.int ((nI w * nI 32) + nI l)), some (.int ((nI w + nI 1) * nI 32)), some (.int x), none]) (st' := [.int (nI a), .int x]) (I' := I) (J' := J) (G' := va_up (va_up G 31 b) 32 c) rfl ?_
      refine aw_gtN hx rfl (by omega) (by omega) (oX3_choose.dec rfl) (tgt := 102) rfl (fun h30 => ?_) (fun h30 => absurd h30 (by omega))
      obtain rfl : s = a + 1 := by omega
      obtain ⟨q, hq1, -⟩ := ff_ge (sum := sm) (sub := fun m => subB m a) (subB_0 (by omega)) a
      exact aw_vret rfl (oX3_choose.dec rfl) (⟨rfl, rfl, rfl, b, c, rfl, ho, by rw [hb, hq1]; rfl, by rw [hc q hq1, hq1]; rfl⟩)
    | succ n ih =>
      intro s x b c hsn hx ho hb hc
      have han := hal s (by omega)
      refine aw_run oX3_choose sxOk 2 (pc' := 30) (L' := [some (.ref 8), some (.int (nI w)), some (.int (nI l)), some (.int (nI a)), some (.int ((nI w * nI 32) + nI l)), some (.int ((nI w + nI 1) * nI 32)), some (.int x), none]) (st' := [.int (nI a), .int x]) (I' := I) (J' := J) (G' := va_up (va_up G 31 b) 32 c) rfl ?_
      refine aw_gtN hx rfl (by omega) (by omega) (oX3_choose.dec rfl) (tgt := 102) rfl (fun h30 => absurd h30 (by omega)) (fun h30 => ?_)
      refine aw_run oX3_choose sxOk 5 (pc' := 39) (L' := [some (.ref 8), some (.int (nI w)), some (.int (nI l)), some (.int (nI a)), some (.int ((nI w * nI 32) + nI l)), some (.int ((nI w + nI 1) * nI 32)), some (.int x), none]) (st' := [.int (x &&& ((nI a) ^^^ (-nI 1)))]) (I' := I) (J' := J) (G' := va_up (va_up G 31 b) 32 c) rfl ?_
      refine aw_0neN (anNI hx rfl (by omega) (by omega)) (Nat.lt_of_lt_of_le (anN_lt _ (by omega) _ (by omega)) (by decide)) (oX3_choose.dec rfl) (tgt := 96) rfl (fun h39 => ?_) (fun h39 => ?_)
      · refine aw_run oX3_choose sxOk 2 (pc' := 27) (L' := [some (.ref 8), some (.int (nI w)), some (.int (nI l)), some (.int (nI a)), some (.int ((nI w * nI 32) + nI l)), some (.int ((nI w + nI 1) * nI 32)), some (.int (x + (nI 1))), none]) (st' := []) (I' := I) (J' := J) (G' := va_up (va_up G 31 b) 32 c) rfl ?_
        have hns : ¬ subB s a = true := by unfold subB; simpa using h39
        exact ih (s + 1) _ _ _ (by omega) (addN hx rfl) ho (by rw [ff_no (sub := fun m => subB m a) hns]; exact hb) (by rw [ff_no (sub := fun m => subB m a) hns]; exact hc)
      · refine aw_run oX3_choose sxOk 3 (pc' := 48) (L' := [some (.ref 8), some (.int (nI w)), some (.int (nI l)), some (.int (nI a)), some (.int ((nI w * nI 32) + nI l)), some (.int ((nI w + nI 1) * nI 32)), some (.int x), none]) (st' := [.int x, .ref 33]) (I' := I) (J' := J) (G' := va_up (va_up G 31 b) 32 c) rfl ?_
        refine aw_iaN s sxOk rfl hx (by omega) (oX3_choose.dec rfl) ?_
        refine aw_eqS (st := [.int (G 33 s)]) rfl ?_
        refine aw_run oX3_choose sxOk 9 (pc' := 62) (L' := [some (.ref 8), some (.int (nI w)), some (.int (nI l)), some (.int (nI a)), some (.int ((nI w * nI 32) + nI l)), some (.int ((nI w + nI 1) * nI 32)), some (.int x), none]) (st' := [.int (((nI w + nI 1) * nI 32) + ((nI l) &&& (x ^^^ (-nI 1)))), .ref 31, .int (G 33 s)]) (I' := I) (J' := J) (G' := va_up (va_up G 31 b) 32 c) rfl ?_
        refine aw_iaN ((w + 1) * 32 + (anN l s)) sxOk rfl (addN (mulN (addN rfl rfl) rfl) (anNI rfl hx (by omega) (by omega))) (by omega) (oX3_choose.dec rfl) ?_
        refine aw_eqS (st := [.int (b ((w + 1) * 32 + (anN l s))), .int (G 33 s)]) rfl ?_
        refine aw_run oX3_choose sxOk 6 (pc' := 74) (L' := [some (.ref 8), some (.int (nI w)), some (.int (nI l)), some (.int (nI a)), some (.int ((nI w * nI 32) + nI l)), some (.int ((nI w + nI 1) * nI 32)), some (.int x), some (.int ((G 33 s) + (b ((w + 1) * 32 + (anN l s)))))]) (st' := [.int ((nI w * nI 32) + nI l), .ref 31, .int ((G 33 s) + (b ((w + 1) * 32 + (anN l s))))]) (I' := I) (J' := J) (G' := va_up (va_up G 31 b) 32 c) rfl ?_
        refine aw_iaN (w * 32 + l) sxOk rfl (addN (mulN rfl rfl) rfl) (by omega) (oX3_choose.dec rfl) ?_
        refine aw_eqS (st := [.int (b (w * 32 + l)), .int ((G 33 s) + (b ((w + 1) * 32 + (anN l s))))]) rfl ?_
        refine aw_icmp_le (oX3_choose.dec rfl) (tgt := 96) rfl (fun h75 => ?_) (fun h75 => ?_)
        · refine aw_run oX3_choose sxOk 2 (pc' := 27) (L' := [some (.ref 8), some (.int (nI w)), some (.int (nI l)), some (.int (nI a)), some (.int ((nI w * nI 32) + nI l)), some (.int ((nI w + nI 1) * nI 32)), some (.int (x + (nI 1))), some (.int ((G 33 s) + (b ((w + 1) * 32 + (anN l s)))))]) (st' := []) (I' := I) (J' := J) (G' := va_up (va_up G 31 b) 32 c) rfl ?_
          refine aw_forget1 7 (L' := [some (.ref 8), some (.int (nI w)), some (.int (nI l)), some (.int (nI a)), some (.int ((nI w * nI 32) + nI l)), some (.int ((nI w + nI 1) * nI 32)), some (.int (x + (nI 1))), none]) rfl ?_
          have hss : subB s a = true := by unfold subB; simpa using h39
          have hsm : G 33 s + b ((w + 1) * 32 + anN l s) = sm s := by rw [(ho _ (by omega)).1]; exact hs s (by omega) hss
          rw [hsm, hb] at h75
          exact ih (s + 1) _ _ _ (by omega) (addN hx rfl) ho (by rw [ff_old (sub := fun m => subB m a) hss (subB_0 (by omega)) hpos h75]; exact hb) (by rw [ff_old (sub := fun m => subB m a) hss (subB_0 (by omega)) hpos h75]; exact hc)
        · refine aw_run oX3_choose sxOk 4 (pc' := 86) (L' := [some (.ref 8), some (.int (nI w)), some (.int (nI l)), some (.int (nI a)), some (.int ((nI w * nI 32) + nI l)), some (.int ((nI w + nI 1) * nI 32)), some (.int x), some (.int ((G 33 s) + (b ((w + 1) * 32 + (anN l s)))))]) (st' := [.int ((G 33 s) + (b ((w + 1) * 32 + (anN l s)))), .int ((nI w * nI 32) + nI l), .ref 31]) (I' := I) (J' := J) (G' := va_up (va_up G 31 b) 32 c) rfl ?_
          refine aw_isN (w * 32 + l) sxOk rfl (addN (mulN rfl rfl) rfl) (by omega) (oX3_choose.dec rfl) ?_
          refine aw_eqG (G' := va_up (va_up G 31 (upd b (w * 32 + l) ((G 33 s) + (b ((w + 1) * 32 + (anN l s)))))) 32 c) (by funext q; simp only [va_up]; repeat' split; all_goals first | rfl | (exfalso; omega) | simp_all) ?_
          refine aw_run oX3_choose sxOk 4 (pc' := 95) (L' := [some (.ref 8), some (.int (nI w)), some (.int (nI l)), some (.int (nI a)), some (.int ((nI w * nI 32) + nI l)), some (.int ((nI w + nI 1) * nI 32)), some (.int x), some (.int ((G 33 s) + (b ((w + 1) * 32 + (anN l s)))))]) (st' := [.int x, .int ((nI w * nI 32) + nI l), .ref 32]) (I' := I) (J' := J) (G' := va_up (va_up G 31 (upd b (w * 32 + l) ((G 33 s) + (b ((w + 1) * 32 + (anN l s)))))) 32 c) rfl ?_
          refine aw_isN (w * 32 + l) sxOk rfl (addN (mulN rfl rfl) rfl) (by omega) (oX3_choose.dec rfl) ?_
          refine aw_eqG (G' := va_up (va_up G 31 (upd b (w * 32 + l) ((G 33 s) + (b ((w + 1) * 32 + (anN l s)))))) 32 (upd c (w * 32 + l) x)) (bx_uu _ _ _ _) ?_
          refine aw_run oX3_choose sxOk 2 (pc' := 27) (L' := [some (.ref 8), some (.int (nI w)), some (.int (nI l)), some (.int (nI a)), some (.int ((nI w * nI 32) + nI l)), some (.int ((nI w + nI 1) * nI 32)), some (.int (x + (nI 1))), some (.int ((G 33 s) + (b ((w + 1) * 32 + (anN l s)))))]) (st' := []) (I' := I) (J' := J) (G' := va_up (va_up G 31 (upd b (w * 32 + l) ((G 33 s) + (b ((w + 1) * 32 + (anN l s)))))) 32 (upd c (w * 32 + l) x)) rfl ?_
          refine aw_forget1 7 (L' := [some (.ref 8), some (.int (nI w)), some (.int (nI l)), some (.int (nI a)), some (.int ((nI w * nI 32) + nI l)), some (.int ((nI w + nI 1) * nI 32)), some (.int (x + (nI 1))), none]) rfl ?_
          have hss : subB s a = true := by unfold subB; simpa using h39
          have hsm : G 33 s + b ((w + 1) * 32 + anN l s) = sm s := by rw [(ho _ (by omega)).1]; exact hs s (by omega) hss
          rw [hsm, hb] at h75
          exact ih (s + 1) _ _ _ (by omega) (addN hx rfl) (fun i hi => by rw [pk_un hi, pk_un hi]; exact ho i hi) (by rw [pk_us, ff_new (sub := fun m => subB m a) hss h75]; exact hsm) (fun q hq => by rw [ff_new (sub := fun m => subB m a) hss h75] at hq; cases hq; rw [pk_us]; exact hx)
  refine aw_run oX3_choose sxOk 16 (pc' := 23) (L' := [some (.ref 8), some (.int (nI w)), some (.int (nI l)), some (.int (nI a)), some (.int (((nI w) * (nI 32)) + (nI l))), some (.int (((nI w) + (nI 1)) * (nI 32))), none, none]) (st' := [.int (-nI 1), .int (((nI w) * (nI 32)) + (nI l)), .ref 31]) (I' := I) (J' := J) (G' := G) rfl ?_
  refine aw_isN (w * 32 + l) sxOk rfl (addN (mulN rfl rfl) rfl) (by omega) (oX3_choose.dec rfl) ?_
  refine aw_eqG (G' := va_up G 31 (upd (G 31) (w * 32 + l) (-nI 1))) (rfl) ?_
  refine aw_run oX3_choose sxOk 2 (pc' := 27) (L' := [some (.ref 8), some (.int (nI w)), some (.int (nI l)), some (.int (nI a)), some (.int (((nI w) * (nI 32)) + (nI l))), some (.int (((nI w) + (nI 1)) * (nI 32))), some (.int (nI 0)), none]) (st' := []) (I' := I) (J' := J) (G' := va_up G 31 (upd (G 31) (w * 32 + l) (-nI 1))) rfl ?_
  refine aw_eqG (G' := va_up (va_up G 31 (upd (G 31) (w * 32 + l) (-nI 1))) 32 (G 32)) (by funext q; simp only [va_up]; by_cases h1 : q = 32; subst h1; simp; simp [h1]) ?_
  exact loop (a + 1) 0 _ _ _ (by omega) rfl (fun i hi => ⟨pk_un hi, rfl⟩) pk_us (fun q hq => by cases hq)
set_option maxRecDepth 20000 in
theorem c_reckonWorths {I : II} {J : JJ} {G : II} {P : Nat} (hP : I 2 7 = nI P) (hP5 : P ≤ 5) {r w : Nat} (hr : r < 32) (hw : w < 12) (hsil : ∀ s, s < P → nI 0 ≤ sil (G 24) s) : AMet SX mX3_reckonWorths [.ref 8, .int (nI r), .int (nI w)] I J G (fun r0 I' J' G' => r0 = none ∧ I' = I ∧ J' = J ∧ ∃ v, G' = va_up G 33 v ∧ ∀ m, m ≤ r → subB m r = true → v m = wor (G 24) (G 16) (G 13 w) (G 12 w) P m) := by
  refine amet_en oX3_reckonWorths rfl rfl (L := [some (.ref 8), some (.int (nI r)), some (.int (nI w)), none]) rfl ?_
  have loop : ∀ (n s : Nat) (x : Int32) (v : Nat → Int32), (s + n = r + 1) → (x = nI s) → (∀ m, m < s → subB m r = true → v m = wor (G 24) (G 16) (G 13 w) (G 12 w) P m) → AW SX mX3_reckonWorths 2 [some (.ref 8), some (.int (nI r)), some (.int (nI w)), some (.int x)] [] I J (va_up G 33 v) (fun r0 I' J' G' => r0 = none ∧ I' = I ∧ J' = J ∧ ∃ v, G' = va_up G 33 v ∧ ∀ m, m ≤ r → subB m r = true → v m = wor (G 24) (G 16) (G 13 w) (G 12 w) P m) := by
    intro n
    induction n with
    | zero =>
      intro s x v hsn hx hv
      refine aw_run oX3_reckonWorths sxOk 2 (pc' := 4) (L' := [some (.ref 8), some (.int (nI r)), some (.int (nI w)), some (.int x)]) (st' := [.int (nI r), .int x]) (I' := I) (J' := J) (G' := va_up G 33 v) rfl ?_
      refine aw_gtN hx rfl (by omega) (by omega) (oX3_reckonWorths.dec rfl) (tgt := 36) rfl (fun h4 => ?_) (fun h4 => absurd h4 (by omega))
      exact aw_vret rfl (oX3_reckonWorths.dec rfl) (⟨rfl, rfl, rfl, v, rfl, fun m hm hb => hv m (by omega) hb⟩)
    | succ n ih =>
      intro s x v hsn hx hv
      refine aw_run oX3_reckonWorths sxOk 2 (pc' := 4) (L' := [some (.ref 8), some (.int (nI r)), some (.int (nI w)), some (.int x)]) (st' := [.int (nI r), .int x]) (I' := I) (J' := J) (G' := va_up G 33 v) rfl ?_
      refine aw_gtN hx rfl (by omega) (by omega) (oX3_reckonWorths.dec rfl) (tgt := 36) rfl (fun h4 => absurd h4 (by omega)) (fun h4 => ?_)
      refine aw_run oX3_reckonWorths sxOk 5 (pc' := 12) (L' := [some (.ref 8), some (.int (nI r)), some (.int (nI w)), some (.int x)]) (st' := [.int (x &&& ((nI r) ^^^ (-nI 1)))]) (I' := I) (J' := J) (G' := va_up G 33 v) rfl ?_
      refine aw_0neN (anNI hx rfl (by omega) (by omega)) (Nat.lt_of_lt_of_le (anN_lt _ (by omega) _ (by omega)) (by decide)) (oX3_reckonWorths.dec rfl) (tgt := 30) rfl (fun h12 => ?_) (fun h12 => ?_)
      · refine aw_run oX3_reckonWorths sxOk 2 (pc' := 2) (L' := [some (.ref 8), some (.int (nI r)), some (.int (nI w)), some (.int (x + (nI 1)))]) (st' := []) (I' := I) (J' := J) (G' := va_up G 33 v) rfl ?_
        exact ih (s + 1) _ _ (by omega) (addN hx rfl) (fun m hm hb => by rcases Nat.lt_or_ge m s with h1 | h1; exact hv m h1 hb; exact absurd (by unfold subB at hb; simpa using hb) (by rw [show m = s by omega]; exact h12))
      · refine aw_run oX3_reckonWorths sxOk 7 (pc' := 26) (L' := [some (.ref 8), some (.int (nI r)), some (.int (nI w)), some (.int x)]) (st' := [.int (nI w), .int x, .ref 7, .int x, .ref 33]) (I' := I) (J' := J) (G' := va_up G 33 v) rfl ?_
        refine aw_eqS (st := [.int (nI w), .int (nI s), .ref 7, .int x, .ref 33]) (by rw [show x = nI s from hx]) ?_
        refine aw_cV (st := [.int x, .ref 33]) 7 [.int (nI s), .int (nI w)] oX0_worthOf k3_66 rfl rfl rfl rfl rfl rfl rfl rfl (oX3_reckonWorths.dec rfl) (c_worthOf (I := I) (J := J) (G := va_up G 33 v) hP (by omega) (by omega) (by omega) hsil) ?_
        refine aw_eqS (st := [.int (wor (G 24) (G 16) (G 13 w) (G 12 w) P s), .int x, .ref 33]) rfl ?_
        refine aw_isN s sxOk rfl hx (by omega) (oX3_reckonWorths.dec rfl) ?_
        refine aw_eqG (G' := va_up G 33 (upd v s (wor (G 24) (G 16) (G 13 w) (G 12 w) P s))) (bx_uu _ _ _ _) ?_
        refine aw_run oX3_reckonWorths sxOk 2 (pc' := 2) (L' := [some (.ref 8), some (.int (nI r)), some (.int (nI w)), some (.int (x + (nI 1)))]) (st' := []) (I' := I) (J' := J) (G' := va_up G 33 (upd v s (wor (G 24) (G 16) (G 13 w) (G 12 w) P s))) rfl ?_
        exact ih (s + 1) _ _ (by omega) (addN hx rfl) (fun m hm hb => by by_cases e : m = s; (subst e; exact pk_us); (rw [pk_un e]; exact hv m (by omega) hb))
  refine aw_run oX3_reckonWorths sxOk 2 (pc' := 2) (L' := [some (.ref 8), some (.int (nI r)), some (.int (nI w)), some (.int (nI 0))]) (st' := []) (I' := I) (J' := J) (G' := G) rfl ?_
  refine aw_eqG (upG_id G 33).symm ?_
  exact loop (r + 1) 0 _ _ (by omega) rfl (fun m hm => absurd hm (by omega))
set_option maxRecDepth 20000 in
theorem c_reckonFrom {I : II} {J : JJ} {G : II} {P : Nat} (hP : I 2 7 = nI P) (hP5 : P ≤ 5) {Wk : Nat} (hW : I 2 6 = nI Wk) (hWk : Wk ≤ 12)  {fi : Nat} (hfi : fi ≤ Wk) (hsil : ∀ s, s < P → nI 0 ≤ sil (G 24) s) : AMet SX mX3_reckonFrom [.ref 8, .int (nI fi)] I J G (fun r I' J' G' => r = none ∧ I' = I ∧ J' = J ∧ ∃ b c v, G' = va_up (va_up (va_up G 31 b) 32 c) 33 v ∧ ∀ w, fi ≤ w → w < Wk → ∀ u, u < 32 → anN u (setN (fun s => decide (G 24 (3 + s) = nI 0)) P) = 0 → b (w * 32 + u) = valO (plV (fun m w => wor (G 24) (G 16) (G 13 w) (G 12 w) P m) (fun w => setN (fun s => decide (G 17 s ≤ nI w)) P) Wk (Wk - w) u) ∧ c (w * 32 + u) = nI (chO (plV (fun m w => wor (G 24) (G 16) (G 13 w) (G 12 w) P m) (fun w => setN (fun s => decide (G 17 s ≤ nI w)) P) Wk (Wk - w) u))) := by
  refine amet_en oX3_reckonFrom rfl rfl (L := [some (.ref 8), some (.int (nI fi)), none, none, none, none]) rfl ?_
  have hp32 : 2 ^ P ≤ 32 := Nat.pow_le_pow_right (by decide) hP5
  have hpo : setN (fun s => decide (G 24 (3 + s) = nI 0)) P < 32 := Nat.lt_of_lt_of_le (setN_lt _ _) hp32
  have hrd : ∀ w, setN (fun s => decide (G 17 s ≤ nI w)) P < 32 := fun w => Nat.lt_of_lt_of_le (setN_lt _ _) hp32
  have inner : ∀ (w : Nat) (y z : Int32) (b0 c0 v : Nat → Int32) (K9 : ∀ (b c : Nat → Int32), (∀ i, (w + 1) * 32 ≤ i → b i = b0 i ∧ c i = c0 i) → (∀ u, u < 32 → anN u (setN (fun s => decide (G 24 (3 + s) = nI 0)) P) = 0 → b (w * 32 + u) = valO (plV (fun m w => wor (G 24) (G 16) (G 13 w) (G 12 w) P m) (fun w => setN (fun s => decide (G 17 s ≤ nI w)) P) Wk (Wk - w) u) ∧ c (w * 32 + u) = nI (chO (plV (fun m w => wor (G 24) (G 16) (G 13 w) (G 12 w) P m) (fun w => setN (fun s => decide (G 17 s ≤ nI w)) P) Wk (Wk - w) u))) → AW SX mX3_reckonFrom 110 [some (.ref 8), some (.int (nI fi)), some (.int (nI (setN (fun s => decide (G 24 (3 + s) = nI 0)) P))), some (.int y), none, none] [] I J (va_up (va_up (va_up G 31 b) 32 c) 33 v) (fun r I' J' G' => r = none ∧ I' = I ∧ J' = J ∧ ∃ b c v, G' = va_up (va_up (va_up G 31 b) 32 c) 33 v ∧ ∀ w, fi ≤ w → w < Wk → ∀ u, u < 32 → anN u (setN (fun s => decide (G 24 (3 + s) = nI 0)) P) = 0 → b (w * 32 + u) = valO (plV (fun m w => wor (G 24) (G 16) (G 13 w) (G 12 w) P m) (fun w => setN (fun s => decide (G 17 s ≤ nI w)) P) Wk (Wk - w) u) ∧ c (w * 32 + u) = nI (chO (plV (fun m w => wor (G 24) (G 16) (G 13 w) (G 12 w) P m) (fun w => setN (fun s => decide (G 17 s ≤ nI w)) P) Wk (Wk - w) u)))), w < Wk → y = nI w → z = nI ((setN (fun s => decide (G 24 (3 + s) = nI 0)) P) &&& setN (fun s => decide (G 17 s ≤ nI w)) P) → (∀ m, m ≤ (setN (fun s => decide (G 24 (3 + s) = nI 0)) P) &&& setN (fun s => decide (G 17 s ≤ nI w)) P → subB m ((setN (fun s => decide (G 24 (3 + s) = nI 0)) P) &&& setN (fun s => decide (G 17 s ≤ nI w)) P) = true → v m = wor (G 24) (G 16) (G 13 w) (G 12 w) P m) → (∀ u, u < 32 → anN u (setN (fun s => decide (G 24 (3 + s) = nI 0)) P) = 0 → b0 ((w + 1) * 32 + u) = valO (plV (fun m w => wor (G 24) (G 16) (G 13 w) (G 12 w) P m) (fun w => setN (fun s => decide (G 17 s ≤ nI w)) P) Wk (Wk - (w + 1)) u)) → ∀ (n s : Nat) (x : Int32) (b c : Nat → Int32), (s + n = (setN (fun s => decide (G 24 (3 + s) = nI 0)) P) + 1) → (x = nI s) → (∀ i, (w + 1) * 32 ≤ i → b i = b0 i ∧ c i = c0 i) → (∀ u, u < s → anN u (setN (fun s => decide (G 24 (3 + s) = nI 0)) P) = 0 → b (w * 32 + u) = valO (plV (fun m w => wor (G 24) (G 16) (G 13 w) (G 12 w) P m) (fun w => setN (fun s => decide (G 17 s ≤ nI w)) P) Wk (Wk - w) u) ∧ c (w * 32 + u) = nI (chO (plV (fun m w => wor (G 24) (G 16) (G 13 w) (G 12 w) P m) (fun w => setN (fun s => decide (G 17 s ≤ nI w)) P) Wk (Wk - w) u))) → AW SX mX3_reckonFrom 77 [some (.ref 8), some (.int (nI fi)), some (.int (nI (setN (fun s => decide (G 24 (3 + s) = nI 0)) P))), some (.int y), some (.int z), some (.int x)] [] I J (va_up (va_up (va_up G 31 b) 32 c) 33 v) (fun r I' J' G' => r = none ∧ I' = I ∧ J' = J ∧ ∃ b c v, G' = va_up (va_up (va_up G 31 b) 32 c) 33 v ∧ ∀ w, fi ≤ w → w < Wk → ∀ u, u < 32 → anN u (setN (fun s => decide (G 24 (3 + s) = nI 0)) P) = 0 → b (w * 32 + u) = valO (plV (fun m w => wor (G 24) (G 16) (G 13 w) (G 12 w) P m) (fun w => setN (fun s => decide (G 17 s ≤ nI w)) P) Wk (Wk - w) u) ∧ c (w * 32 + u) = nI (chO (plV (fun m w => wor (G 24) (G 16) (G 13 w) (G 12 w) P m) (fun w => setN (fun s => decide (G 17 s ≤ nI w)) P) Wk (Wk - w) u))) := by
    intro w y z b0 c0 v K9 hwk hy hz hv hup n
    induction n with
    | zero =>
      intro s x b c hsn hx hk hd
      refine aw_run oX3_reckonFrom sxOk 2 (pc' := 80) (L' := [some (.ref 8), some (.int (nI fi)), some (.int (nI (setN (fun s => decide (G 24 (3 + s) = nI 0)) P))), some (.int y), some (.int z), some (.int x)]) (st' := [.int (nI (setN (fun s => decide (G 24 (3 + s) = nI 0)) P)), .int x]) (I' := I) (J' := J) (G' := va_up (va_up (va_up G 31 b) 32 c) 33 v) rfl ?_
      refine aw_gtN hx rfl (by omega) (by omega) (oX3_reckonFrom.dec rfl) (tgt := 110) rfl (fun h80 => ?_) (fun h80 => absurd h80 (by omega))
      refine aw_forget1 4 (L' := [some (.ref 8), some (.int (nI fi)), some (.int (nI (setN (fun s => decide (G 24 (3 + s) = nI 0)) P))), some (.int y), none, some (.int x)]) rfl ?_
      refine aw_forget1 5 (L' := [some (.ref 8), some (.int (nI fi)), some (.int (nI (setN (fun s => decide (G 24 (3 + s) = nI 0)) P))), some (.int y), none, none]) rfl ?_
      exact K9 b c hk (fun u hu hp => hd u (by have := an_le u hu _ hpo hp; omega) hp)
    | succ n ih =>
      intro s x b c hsn hx hk hd
      refine aw_run oX3_reckonFrom sxOk 2 (pc' := 80) (L' := [some (.ref 8), some (.int (nI fi)), some (.int (nI (setN (fun s => decide (G 24 (3 + s) = nI 0)) P))), some (.int y), some (.int z), some (.int x)]) (st' := [.int (nI (setN (fun s => decide (G 24 (3 + s) = nI 0)) P)), .int x]) (I' := I) (J' := J) (G' := va_up (va_up (va_up G 31 b) 32 c) 33 v) rfl ?_
      refine aw_gtN hx rfl (by omega) (by omega) (oX3_reckonFrom.dec rfl) (tgt := 110) rfl (fun h80 => absurd h80 (by omega)) (fun h80 => ?_)
      refine aw_run oX3_reckonFrom sxOk 5 (pc' := 89) (L' := [some (.ref 8), some (.int (nI fi)), some (.int (nI (setN (fun s => decide (G 24 (3 + s) = nI 0)) P))), some (.int y), some (.int z), some (.int x)]) (st' := [.int (x &&& ((nI (setN (fun s => decide (G 24 (3 + s) = nI 0)) P)) ^^^ (-nI 1)))]) (I' := I) (J' := J) (G' := va_up (va_up (va_up G 31 b) 32 c) 33 v) rfl ?_
      refine aw_0neN (anNI hx rfl (by omega) (by omega)) (Nat.lt_of_lt_of_le (anN_lt _ (by omega) _ (by omega)) (by decide)) (oX3_reckonFrom.dec rfl) (tgt := 104) rfl (fun h89 => ?_) (fun h89 => ?_)
      · refine aw_run oX3_reckonFrom sxOk 2 (pc' := 77) (L' := [some (.ref 8), some (.int (nI fi)), some (.int (nI (setN (fun s => decide (G 24 (3 + s) = nI 0)) P))), some (.int y), some (.int z), some (.int (x + (nI 1)))]) (st' := []) (I' := I) (J' := J) (G' := va_up (va_up (va_up G 31 b) 32 c) 33 v) rfl ?_
        exact ih (s + 1) _ _ _ (by omega) (addN hx rfl) hk (fun u hu hp => by rcases Nat.lt_or_ge u s with h1 | h1; exact hd u h1 hp; exact absurd hp (by rw [show u = s by omega]; exact h89))
      · have hzz := and_lt _ hpo _ (hrd w)
        have hps : -nI 1 < wor (G 24) (G 16) (G 13 w) (G 12 w) P 0 + valO (plV (fun m w => wor (G 24) (G 16) (G 13 w) (G 12 w) P m) (fun w => setN (fun s => decide (G 17 s ≤ nI w)) P) Wk (Wk - (w + 1)) (anN s 0)) := by
          rw [wor_0, an_00 s (by omega)]
          have h3 := plV_pos (wo := fun m w => wor (G 24) (G 16) (G 13 w) (G 12 w) P m) (rd := fun w => setN (fun s => decide (G 17 s ≤ nI w)) P) (Wk := Wk) (fun w => wor_0 _ _ _ _ _) hrd (Wk - (w + 1)) s (by omega)
          rw [show nI 0 + valO (plV (fun m w => wor (G 24) (G 16) (G 13 w) (G 12 w) P m) (fun w => setN (fun s => decide (G 17 s ≤ nI w)) P) Wk (Wk - (w + 1)) s) = valO (plV (fun m w => wor (G 24) (G 16) (G 13 w) (G 12 w) P m) (fun w => setN (fun s => decide (G 17 s ≤ nI w)) P) Wk (Wk - (w + 1)) s) from Int32.zero_add _]
          exact Int32.lt_of_lt_of_le (by decide) h3
        have hsm : ∀ m, m ≤ s &&& ((setN (fun s => decide (G 24 (3 + s) = nI 0)) P) &&& setN (fun s => decide (G 17 s ≤ nI w)) P) → subB m (s &&& ((setN (fun s => decide (G 24 (3 + s) = nI 0)) P) &&& setN (fun s => decide (G 17 s ≤ nI w)) P)) = true → v m + b ((w + 1) * 32 + anN s m) = wor (G 24) (G 16) (G 13 w) (G 12 w) P m + valO (plV (fun m w => wor (G 24) (G 16) (G 13 w) (G 12 w) P m) (fun w => setN (fun s => decide (G 17 s ≤ nI w)) P) Wk (Wk - (w + 1)) (anN s m)) := by
          intro m hm hsb
          have hlt := and_lt s (by omega) _ hzz
          have hm0 : anN m (s &&& ((setN (fun s => decide (G 24 (3 + s) = nI 0)) P) &&& setN (fun s => decide (G 17 s ≤ nI w)) P)) = 0 := by unfold subB at hsb; simpa using hsb
          have hmr : anN m ((setN (fun s => decide (G 24 (3 + s) = nI 0)) P) &&& setN (fun s => decide (G 17 s ≤ nI w)) P) = 0 := by
            refine an_and2 m (by omega) _ hzz ?_
            have h4 := an_and m (by omega) _ hlt hm0
            calc m &&& ((setN (fun s => decide (G 24 (3 + s) = nI 0)) P) &&& setN (fun s => decide (G 17 s ≤ nI w)) P) = (m &&& (s &&& ((setN (fun s => decide (G 24 (3 + s) = nI 0)) P) &&& setN (fun s => decide (G 17 s ≤ nI w)) P))) &&& ((setN (fun s => decide (G 24 (3 + s) = nI 0)) P) &&& setN (fun s => decide (G 17 s ≤ nI w)) P) := by rw [h4]
              _ = m &&& (s &&& ((setN (fun s => decide (G 24 (3 + s) = nI 0)) P) &&& setN (fun s => decide (G 17 s ≤ nI w)) P)) := by rw [Nat.and_assoc m, Nat.and_assoc s, Nat.and_self]
              _ = m := h4
          rw [hv m (an_le m (by omega) _ hzz hmr) (by unfold subB; rw [hmr]; rfl), (hk _ (by omega)).1, hup _ (anN_lt s (by omega) m (by omega)) (an_port (by omega) (by omega) hpo h89)]
        refine aw_run oX3_reckonFrom sxOk 6 (pc' := 101) (L' := [some (.ref 8), some (.int (nI fi)), some (.int (nI (setN (fun s => decide (G 24 (3 + s) = nI 0)) P))), some (.int y), some (.int z), some (.int x)]) (st' := [.int (x &&& z), .int x, .int y, .ref 8]) (I' := I) (J' := J) (G' := va_up (va_up (va_up G 31 b) 32 c) 33 v) rfl ?_
        refine aw_eqS (st := [.int (nI (s &&& ((setN (fun s => decide (G 24 (3 + s) = nI 0)) P) &&& setN (fun s => decide (G 17 s ≤ nI w)) P))), .int (nI s), .int (nI w), .ref 8]) (by rw [show x &&& z = nI (s &&& ((setN (fun s => decide (G 24 (3 + s) = nI 0)) P) &&& setN (fun s => decide (G 17 s ≤ nI w)) P)) from andN hx hz, show y = nI w from hy, show x = nI s from hx]) ?_
        refine aw_cVP (st := []) 8 [.int (nI w), .int (nI s), .int (nI (s &&& ((setN (fun s => decide (G 24 (3 + s) = nI 0)) P) &&& setN (fun s => decide (G 17 s ≤ nI w)) P)))] oX3_choose k3_62 rfl rfl rfl rfl rfl rfl rfl rfl (oX3_reckonFrom.dec rfl) (c_choose (I := I) (J := J) (G := va_up (va_up (va_up G 31 b) 32 c) 33 v) (sm := fun m => wor (G 24) (G 16) (G 13 w) (G 12 w) P m + valO (plV (fun m w => wor (G 24) (G 16) (G 13 w) (G 12 w) P m) (fun w => setN (fun s => decide (G 17 s ≤ nI w)) P) Wk (Wk - (w + 1)) (anN s m))) (by omega) (by omega) (and_lt _ (by omega) _ hzz) hps hsm) (fun r101 I101 J101 G101 hq101 => ?_)
        obtain ⟨hr, hI, hJ, b2, c2, hG, ho2, hb2, hc2⟩ := hq101
        obtain rfl := hr.symm; obtain rfl := hI.symm; obtain rfl := hJ.symm; obtain rfl := hG.symm
        refine aw_eqG (G' := va_up (va_up (va_up G 31 b2) 32 c2) 33 v) G3_bc ?_
        refine aw_eqS (st := []) rfl ?_
        refine aw_run oX3_reckonFrom sxOk 2 (pc' := 77) (L' := [some (.ref 8), some (.int (nI fi)), some (.int (nI (setN (fun s => decide (G 24 (3 + s) = nI 0)) P))), some (.int y), some (.int z), some (.int (x + (nI 1)))]) (st' := []) (I' := I) (J' := J) (G' := va_up (va_up (va_up G 31 b2) 32 c2) 33 v) rfl ?_
        have hfin : ffF (fun m => wor (G 24) (G 16) (G 13 w) (G 12 w) P m + valO (plV (fun m w => wor (G 24) (G 16) (G 13 w) (G 12 w) P m) (fun w => setN (fun s => decide (G 17 s ≤ nI w)) P) Wk (Wk - (w + 1)) (anN s m))) (fun m => subB m (s &&& ((setN (fun s => decide (G 24 (3 + s) = nI 0)) P) &&& setN (fun s => decide (G 17 s ≤ nI w)) P))) ((s &&& ((setN (fun s => decide (G 24 (3 + s) = nI 0)) P) &&& setN (fun s => decide (G 17 s ≤ nI w)) P)) + 1) = plV (fun m w => wor (G 24) (G 16) (G 13 w) (G 12 w) P m) (fun w => setN (fun s => decide (G 17 s ≤ nI w)) P) Wk (Wk - w) s := by
          obtain ⟨nn, hnn⟩ : ∃ nn, Wk - w = nn + 1 := ⟨Wk - w - 1, by omega⟩
          have hlt := and_lt s (by omega) _ hzz
          rw [hnn, plV_s, show Wk - (nn + 1) = w by omega, show Wk - (w + 1) = nn by omega]
          have hcut := ff_cut (sum := fun m => wor (G 24) (G 16) (G 13 w) (G 12 w) P m + valO (plV (fun m w => wor (G 24) (G 16) (G 13 w) (G 12 w) P m) (fun w => setN (fun s => decide (G 17 s ≤ nI w)) P) Wk nn (anN s m))) (sub := fun m => subB m (s &&& ((setN (fun s => decide (G 24 (3 + s) = nI 0)) P) &&& setN (fun s => decide (G 17 s ≤ nI w)) P))) (a := (s &&& ((setN (fun s => decide (G 24 (3 + s) = nI 0)) P) &&& setN (fun s => decide (G 17 s ≤ nI w)) P)) + 1) (31 - (s &&& ((setN (fun s => decide (G 24 (3 + s) = nI 0)) P) &&& setN (fun s => decide (G 17 s ≤ nI w)) P))) (fun m h1 h2 hs2 => by
            have := an_le m (by omega) _ hlt (by unfold subB at hs2; simpa using hs2)
            omega)
          rw [show (s &&& ((setN (fun s => decide (G 24 (3 + s) = nI 0)) P) &&& setN (fun s => decide (G 17 s ≤ nI w)) P)) + 1 + (31 - (s &&& ((setN (fun s => decide (G 24 (3 + s) = nI 0)) P) &&& setN (fun s => decide (G 17 s ≤ nI w)) P))) = 32 by omega] at hcut
          rw [← hcut, and_port (by omega) hpo h89]
        exact ih (s + 1) _ _ _ (by omega) (addN hx rfl) (fun i hi => by have h1 := ho2 i (by omega); exact ⟨h1.1.trans (hk i hi).1, h1.2.trans (hk i hi).2⟩) (fun u hu hp => by by_cases e : u = s; (subst e; rw [← hfin]; exact ⟨hb2, hc2⟩); (have h1 := ho2 (w * 32 + u) (by omega); have h2 := hd u (by omega) hp; exact ⟨h1.1.trans h2.1, h1.2.trans h2.2⟩))
  have outer : ∀ (d : Nat) (x : Int32) (b c v : Nat → Int32), (x = nI (fi + d) - nI 1) → (fi + d ≤ Wk) → (∀ u, u < 32 → b (Wk * 32 + u) = nI 0) → (∀ w, fi + d ≤ w → w < Wk → ∀ u, u < 32 → anN u (setN (fun s => decide (G 24 (3 + s) = nI 0)) P) = 0 → b (w * 32 + u) = valO (plV (fun m w => wor (G 24) (G 16) (G 13 w) (G 12 w) P m) (fun w => setN (fun s => decide (G 17 s ≤ nI w)) P) Wk (Wk - w) u) ∧ c (w * 32 + u) = nI (chO (plV (fun m w => wor (G 24) (G 16) (G 13 w) (G 12 w) P m) (fun w => setN (fun s => decide (G 17 s ≤ nI w)) P) Wk (Wk - w) u))) → AW SX mX3_reckonFrom 50 [some (.ref 8), some (.int (nI fi)), some (.int (nI (setN (fun s => decide (G 24 (3 + s) = nI 0)) P))), some (.int x), none, none] [] I J (va_up (va_up (va_up G 31 b) 32 c) 33 v) (fun r I' J' G' => r = none ∧ I' = I ∧ J' = J ∧ ∃ b c v, G' = va_up (va_up (va_up G 31 b) 32 c) 33 v ∧ ∀ w, fi ≤ w → w < Wk → ∀ u, u < 32 → anN u (setN (fun s => decide (G 24 (3 + s) = nI 0)) P) = 0 → b (w * 32 + u) = valO (plV (fun m w => wor (G 24) (G 16) (G 13 w) (G 12 w) P m) (fun w => setN (fun s => decide (G 17 s ≤ nI w)) P) Wk (Wk - w) u) ∧ c (w * 32 + u) = nI (chO (plV (fun m w => wor (G 24) (G 16) (G 13 w) (G 12 w) P m) (fun w => setN (fun s => decide (G 17 s ≤ nI w)) P) Wk (Wk - w) u))) := by
    intro d
    induction d with
    | zero =>
      intro x b c v hx hdW h0 htb
      refine aw_run oX3_reckonFrom sxOk 2 (pc' := 52) (L' := [some (.ref 8), some (.int (nI fi)), some (.int (nI (setN (fun s => decide (G 24 (3 + s) = nI 0)) P))), some (.int x), none, none]) (st' := [.int (nI fi), .int x]) (I' := I) (J' := J) (G' := va_up (va_up (va_up G 31 b) 32 c) 33 v) rfl ?_
      refine aw_icmp_lt (oX3_reckonFrom.dec rfl) (tgt := 116) rfl (fun h52 => ?_) (fun h52 => absurd (by rw [hx]; exact lt_pred (by omega)) h52)
      exact aw_vret rfl (oX3_reckonFrom.dec rfl) (⟨rfl, rfl, rfl, b, c, v, rfl, htb⟩)
    | succ d ih =>
      intro x b c v hx hdW h0 htb
      have hx2 : x = nI (fi + d) := by rw [hx]; exact subN rfl rfl (by omega)
      have hup9 : ∀ u, u < 32 → anN u (setN (fun s => decide (G 24 (3 + s) = nI 0)) P) = 0 → b ((fi + d + 1) * 32 + u) = valO (plV (fun m w => wor (G 24) (G 16) (G 13 w) (G 12 w) P m) (fun w => setN (fun s => decide (G 17 s ≤ nI w)) P) Wk (Wk - (fi + d + 1)) u) := by
        intro u hu hp
        by_cases e : fi + d + 1 = Wk
        · rw [e, h0 u hu, Nat.sub_self]; rfl
        · exact (htb (fi + d + 1) (by omega) (by omega) u hu hp).1
      refine aw_run oX3_reckonFrom sxOk 2 (pc' := 52) (L' := [some (.ref 8), some (.int (nI fi)), some (.int (nI (setN (fun s => decide (G 24 (3 + s) = nI 0)) P))), some (.int x), none, none]) (st' := [.int (nI fi), .int x]) (I' := I) (J' := J) (G' := va_up (va_up (va_up G 31 b) 32 c) 33 v) rfl ?_
      refine aw_ltN hx2 rfl (by omega) (by omega) (oX3_reckonFrom.dec rfl) (tgt := 116) rfl (fun h52 => absurd h52 (by omega)) (fun h52 => ?_)
      refine aw_run oX3_reckonFrom sxOk 4 (pc' := 61) (L' := [some (.ref 8), some (.int (nI fi)), some (.int (nI (setN (fun s => decide (G 24 (3 + s) = nI 0)) P))), some (.int x), none, none]) (st' := [.int x, .ref 7, .int (nI (setN (fun s => decide (G 24 (3 + s) = nI 0)) P))]) (I' := I) (J' := J) (G' := va_up (va_up (va_up G 31 b) 32 c) 33 v) rfl ?_
      refine aw_eqS (st := [.int (nI (fi + d)), .ref 7, .int (nI (setN (fun s => decide (G 24 (3 + s) = nI 0)) P))]) (by rw [show x = nI (fi + d) from hx2]) ?_
      refine aw_cV (st := [.int (nI (setN (fun s => decide (G 24 (3 + s) = nI 0)) P))]) 7 [.int (nI (fi + d))] oX0_readyIn k3_54 rfl rfl rfl rfl rfl rfl rfl rfl (oX3_reckonFrom.dec rfl) (c_readyIn (I := I) (J := J) (G := va_up (va_up (va_up G 31 b) 32 c) 33 v) hP (by omega)) ?_
      refine aw_eqS (st := [.int (nI (setN (fun s => decide (G 17 s ≤ nI (fi + d))) P)), .int (nI (setN (fun s => decide (G 24 (3 + s) = nI 0)) P))]) rfl ?_
      refine aw_run oX3_reckonFrom sxOk 5 (pc' := 71) (L' := [some (.ref 8), some (.int (nI fi)), some (.int (nI (setN (fun s => decide (G 24 (3 + s) = nI 0)) P))), some (.int x), some (.int ((nI (setN (fun s => decide (G 24 (3 + s) = nI 0)) P)) &&& (nI (setN (fun s => decide (G 17 s ≤ nI (fi + d))) P)))), none]) (st' := [.int x, .int ((nI (setN (fun s => decide (G 24 (3 + s) = nI 0)) P)) &&& (nI (setN (fun s => decide (G 17 s ≤ nI (fi + d))) P))), .ref 8]) (I' := I) (J' := J) (G' := va_up (va_up (va_up G 31 b) 32 c) 33 v) rfl ?_
      refine aw_eqS (st := [.int (nI (fi + d)), .int (nI ((setN (fun s => decide (G 24 (3 + s) = nI 0)) P) &&& (setN (fun s => decide (G 17 s ≤ nI (fi + d))) P))), .ref 8]) (by rw [show (nI (setN (fun s => decide (G 24 (3 + s) = nI 0)) P)) &&& (nI (setN (fun s => decide (G 17 s ≤ nI (fi + d))) P)) = nI ((setN (fun s => decide (G 24 (3 + s) = nI 0)) P) &&& (setN (fun s => decide (G 17 s ≤ nI (fi + d))) P)) from andN rfl rfl, show x = nI (fi + d) from hx2]) ?_
      refine aw_cVP (st := []) 8 [.int (nI ((setN (fun s => decide (G 24 (3 + s) = nI 0)) P) &&& (setN (fun s => decide (G 17 s ≤ nI (fi + d))) P))), .int (nI (fi + d))] oX3_reckonWorths k3_58 rfl rfl rfl rfl rfl rfl rfl rfl (oX3_reckonFrom.dec rfl) (c_reckonWorths (I := I) (J := J) (G := va_up (va_up (va_up G 31 b) 32 c) 33 v) hP (by omega) (and_lt _ hpo _ (hrd _)) (by omega) hsil) (fun r71 I71 J71 G71 hq71 => ?_)
      obtain ⟨hr, hI, hJ, v2, hG, hv2⟩ := hq71
      obtain rfl := hr.symm; obtain rfl := hI.symm; obtain rfl := hJ.symm; obtain rfl := hG.symm
      refine aw_eqG (G' := va_up (va_up (va_up G 31 b) 32 c) 33 v2) G3_33 ?_
      refine aw_eqS (st := []) rfl ?_
      refine aw_run oX3_reckonFrom sxOk 2 (pc' := 77) (L' := [some (.ref 8), some (.int (nI fi)), some (.int (nI (setN (fun s => decide (G 24 (3 + s) = nI 0)) P))), some (.int x), some (.int ((nI (setN (fun s => decide (G 24 (3 + s) = nI 0)) P)) &&& (nI (setN (fun s => decide (G 17 s ≤ nI (fi + d))) P)))), some (.int (nI 0))]) (st' := []) (I' := I) (J' := J) (G' := va_up (va_up (va_up G 31 b) 32 c) 33 v2) rfl ?_
      exact inner (fi + d) _ _ b c v2 (fun b2 c2 hk2 hd2 => by
        refine aw_run oX3_reckonFrom sxOk 2 (pc' := 50) (L' := [some (.ref 8), some (.int (nI fi)), some (.int (nI (setN (fun s => decide (G 24 (3 + s) = nI 0)) P))), some (.int (x + -nI 1)), none, none]) (st' := []) (I' := I) (J' := J) (G' := va_up (va_up (va_up G 31 b2) 32 c2) 33 v2) rfl ?_
        exact ih _ _ _ _ (by rw [hx2, Int32.sub_eq_add_neg]) (by omega) (fun u hu => by rw [(hk2 _ (by omega)).1]; exact h0 u hu) (fun w h1 h2 u hu hp => by
          by_cases e : w = fi + d
          · subst e; exact hd2 u hu hp
          · have h3 := hk2 (w * 32 + u) (by omega); have h4 := htb w (by omega) h2 u hu hp; exact ⟨h3.1.trans h4.1, h3.2.trans h4.2⟩)) (by omega) hx2 (andN rfl rfl) hv2 hup9 ((setN (fun s => decide (G 24 (3 + s) = nI 0)) P) + 1) 0 _ _ _ (by omega) rfl (fun i hi => ⟨rfl, rfl⟩) (fun u hu => absurd hu (by omega))
  have fill : ∀ (n s : Nat) (x : Int32) (b : Nat → Int32) (c : Nat → Int32) (v : Nat → Int32), (s + n = 32) → (x = nI s) → (∀ i, i < s → b (Wk * 32 + i) = nI 0) → AW SX mX3_reckonFrom 10 [some (.ref 8), some (.int (nI fi)), some (.int (nI (setN (fun s => decide (G 24 (3 + s) = nI 0)) P))), some (.int x), none, none] [] I J (va_up (va_up (va_up G 31 b) 32 c) 33 v) (fun r I' J' G' => r = none ∧ I' = I ∧ J' = J ∧ ∃ b c v, G' = va_up (va_up (va_up G 31 b) 32 c) 33 v ∧ ∀ w, fi ≤ w → w < Wk → ∀ u, u < 32 → anN u (setN (fun s => decide (G 24 (3 + s) = nI 0)) P) = 0 → b (w * 32 + u) = valO (plV (fun m w => wor (G 24) (G 16) (G 13 w) (G 12 w) P m) (fun w => setN (fun s => decide (G 17 s ≤ nI w)) P) Wk (Wk - w) u) ∧ c (w * 32 + u) = nI (chO (plV (fun m w => wor (G 24) (G 16) (G 13 w) (G 12 w) P m) (fun w => setN (fun s => decide (G 17 s ≤ nI w)) P) Wk (Wk - w) u))) := by
    intro n
    induction n with
    | zero =>
      intro s x b c v hsn hx hz
      refine aw_run oX3_reckonFrom sxOk 2 (pc' := 13) (L' := [some (.ref 8), some (.int (nI fi)), some (.int (nI (setN (fun s => decide (G 24 (3 + s) = nI 0)) P))), some (.int x), none, none]) (st' := [.int (nI 32), .int x]) (I' := I) (J' := J) (G' := va_up (va_up (va_up G 31 b) 32 c) 33 v) rfl ?_
      refine aw_geN hx rfl (by omega) (by omega) (oX3_reckonFrom.dec rfl) (tgt := 40) rfl (fun h13 => ?_) (fun h13 => absurd h13 (by omega))
      refine aw_run oX3_reckonFrom sxOk 6 (pc' := 50) (L' := [some (.ref 8), some (.int (nI fi)), some (.int (nI (setN (fun s => decide (G 24 (3 + s) = nI 0)) P))), some (.int ((I 2 6) - (nI 1))), none, none]) (st' := []) (I' := I) (J' := J) (G' := va_up (va_up (va_up G 31 b) 32 c) 33 v) rfl ?_
      exact outer (Wk - fi) _ _ _ _ (by rw [hW, show fi + (Wk - fi) = Wk by omega]) (by omega) (fun u hu => hz u (by omega)) (fun w h1 h2 => absurd h2 (by omega))
    | succ n ih =>
      intro s x b c v hsn hx hz
      refine aw_run oX3_reckonFrom sxOk 2 (pc' := 13) (L' := [some (.ref 8), some (.int (nI fi)), some (.int (nI (setN (fun s => decide (G 24 (3 + s) = nI 0)) P))), some (.int x), none, none]) (st' := [.int (nI 32), .int x]) (I' := I) (J' := J) (G' := va_up (va_up (va_up G 31 b) 32 c) 33 v) rfl ?_
      refine aw_geN hx rfl (by omega) (by omega) (oX3_reckonFrom.dec rfl) (tgt := 40) rfl (fun h13 => absurd h13 (by omega)) (fun h13 => ?_)
      refine aw_run oX3_reckonFrom sxOk 10 (pc' := 33) (L' := [some (.ref 8), some (.int (nI fi)), some (.int (nI (setN (fun s => decide (G 24 (3 + s) = nI 0)) P))), some (.int x), none, none]) (st' := [.int (nI 0), .int (((I 2 6) * (nI 32)) + x), .ref 31]) (I' := I) (J' := J) (G' := va_up (va_up (va_up G 31 b) 32 c) 33 v) rfl ?_
      refine aw_isN (Wk * 32 + s) sxOk rfl (addN (mulN hW rfl) hx) (by omega) (oX3_reckonFrom.dec rfl) ?_
      refine aw_eqG (G' := va_up (va_up (va_up G 31 (upd b (Wk * 32 + s) (nI 0))) 32 c) 33 v) (by funext q; simp only [va_up]; repeat' split; all_goals first | rfl | (exfalso; omega) | simp_all) ?_
      refine aw_run oX3_reckonFrom sxOk 2 (pc' := 10) (L' := [some (.ref 8), some (.int (nI fi)), some (.int (nI (setN (fun s => decide (G 24 (3 + s) = nI 0)) P))), some (.int (x + (nI 1))), none, none]) (st' := []) (I' := I) (J' := J) (G' := va_up (va_up (va_up G 31 (upd b (Wk * 32 + s) (nI 0))) 32 c) 33 v) rfl ?_
      exact ih (s + 1) _ _ _ _ (by omega) (addN hx rfl) (fun i hi => by by_cases e : i = s; (subst e; exact pk_us); (rw [pk_un (by omega)]; exact hz i (by omega)))
  refine aw_run oX3_reckonFrom sxOk 2 (pc' := 4) (L' := [some (.ref 8), some (.int (nI fi)), none, none, none, none]) (st' := [.ref 7]) (I' := I) (J' := J) (G' := G) rfl ?_
  refine aw_cV (st := []) 7 [] oX0_inPort k3_43 rfl rfl rfl rfl rfl rfl rfl rfl (oX3_reckonFrom.dec rfl) (c_inPort hP (by omega)) ?_
  refine aw_eqS (st := [.int (nI (setN (fun s => decide (G 24 (3 + s) = nI 0)) P))]) rfl ?_
  refine aw_run oX3_reckonFrom sxOk 3 (pc' := 10) (L' := [some (.ref 8), some (.int (nI fi)), some (.int (nI (setN (fun s => decide (G 24 (3 + s) = nI 0)) P))), some (.int (nI 0)), none, none]) (st' := []) (I' := I) (J' := J) (G' := G) rfl ?_
  refine aw_eqG (G3_id G).symm ?_
  exact fill 32 0 _ _ _ _ (by omega) rfl (fun i hi => absurd hi (by omega))
end
section
theorem chO_lt {wo : Nat → Nat → Int32} {rd : Nat → Nat} {Wk : Nat} (hr : ∀ w, rd w < 32) (n u : Nat) (hu : u < 32) : chO (plV wo rd Wk n u) < 32 := by
  cases n with
  | zero => show (0 : Nat) < 32; decide
  | succ n =>
    obtain ⟨q, h1, -, h2, -⟩ := ff_ge (sum := fun m => wo m (Wk - (n + 1)) + valO (plV wo rd Wk n (anN u m))) (sub := fun m => subB m (u &&& rd (Wk - (n + 1)))) (subB_0 (and_lt _ hu _ (hr _))) 31
    rw [plV_s, h1]
    show q.2 < 32
    omega
/-- who is left, week by week -/
def lfP (C : Nat → Nat → Nat) (t port : Nat) : Nat → Nat
  | 0 => port
  | k + 1 => anN (lfP C t port k) (C (t + k) (lfP C t port k))
theorem lfP_ok {C : Nat → Nat → Nat} {t port : Nat} (hp : port < 32) (hC : ∀ w u, u < 32 → C w u < 32) : ∀ k, lfP C t port k < 32 ∧ anN (lfP C t port k) port = 0 := by
  intro k
  induction k with
  | zero => exact ⟨hp, an_and2 _ hp _ hp (Nat.and_self _)⟩
  | succ k ih => exact ⟨anN_lt _ ih.1 _ (hC _ _ ih.1), an_port ih.1 (hC _ _ ih.1) hp ih.2⟩
theorem nI_nm1 {r : Nat} (h : r < 2 ^ 31) : ¬ nI r = -nI 1 := fun e => by
  have h1 : (nI r).toInt = r := nI_toInt h
  rw [e] at h1
  have h2 : (-nI 1).toInt = -1 := by decide
  omega
end
section
set_option maxRecDepth 20000 in
theorem c_mostFrom {I : II} {J : JJ} {G : II} {P : Nat} (hP : I 2 7 = nI P) (hP5 : P ≤ 5) {Wk : Nat} (hW : I 2 6 = nI Wk) (hWk : Wk ≤ 12)  {w : Nat} (hw : w < 100) (hsil : ∀ s, s < P → nI 0 ≤ sil (G 24) s) : AMet SX mX3_mostFrom [.ref 8, .int (nI w)] I J G (fun r I' J' G' => r = some (.int (valO (plV (fun m w => wor (G 24) (G 16) (G 13 w) (G 12 w) P m) (fun w => setN (fun s => decide (G 17 s ≤ nI w)) P) Wk (Wk - w) (setN (fun s => decide (G 24 (3 + s) = nI 0)) P)))) ∧ I' = I ∧ J' = J ∧ ∃ b c v, G' = va_up (va_up (va_up G 31 b) 32 c) 33 v) := by
  have hp32 : 2 ^ P ≤ 32 := Nat.pow_le_pow_right (by decide) hP5
  have hpo : setN (fun s => decide (G 24 (3 + s) = nI 0)) P < 32 := Nat.lt_of_lt_of_le (setN_lt _ _) hp32
  have hpp : anN (setN (fun s => decide (G 24 (3 + s) = nI 0)) P) (setN (fun s => decide (G 24 (3 + s) = nI 0)) P) = 0 := an_and2 _ hpo _ hpo (Nat.and_self _)
  have hrd : ∀ w, setN (fun s => decide (G 17 s ≤ nI w)) P < 32 := fun w => Nat.lt_of_lt_of_le (setN_lt _ _) hp32
  refine amet_en oX3_mostFrom rfl rfl (L := [some (.ref 8), some (.int (nI w))]) rfl ?_
  by_cases hlt : w < Wk
  · refine aw_run oX3_mostFrom sxOk 4 (pc' := 8) (L' := [some (.ref 8), some (.int (nI w))]) (st' := [.int (I 2 6), .int (nI w)]) (I' := I) (J' := J) (G' := G) rfl ?_
    refine aw_ltN rfl hW (by omega) (by omega) (oX3_mostFrom.dec rfl) (tgt := 13) rfl (fun h8 => ?_) (fun h8 => absurd h8 (by omega))
    refine aw_run oX3_mostFrom sxOk 2 (pc' := 15) (L' := [some (.ref 8), some (.int (nI w))]) (st' := [.int (nI w), .ref 8]) (I' := I) (J' := J) (G' := G) rfl ?_
    refine aw_cVP (st := []) 8 [.int (nI w)] oX3_reckonFrom k3_39 rfl rfl rfl rfl rfl rfl rfl rfl (oX3_mostFrom.dec rfl) (c_reckonFrom hP (by omega) hW (by omega) (by omega) hsil) (fun r15 I15 J15 G15 hq15 => ?_)
    obtain ⟨hr, hI, hJ, b, c, v, hG, htb⟩ := hq15
    obtain rfl := hr.symm; obtain rfl := hI.symm; obtain rfl := hJ.symm; obtain rfl := hG.symm
    refine aw_eqS (st := []) rfl ?_
    refine aw_run oX3_mostFrom sxOk 7 (pc' := 30) (L' := [some (.ref 8), some (.int (nI w))]) (st' := [.ref 7, .int ((nI w) * (nI 32)), .ref 31]) (I' := I) (J' := J) (G' := va_up (va_up (va_up G 31 b) 32 c) 33 v) rfl ?_
    refine aw_cV (st := [.int ((nI w) * (nI 32)), .ref 31]) 7 [] oX0_inPort k3_43 rfl rfl rfl rfl rfl rfl rfl rfl (oX3_mostFrom.dec rfl) (c_inPort (I := I) (J := J) (G := va_up (va_up (va_up G 31 b) 32 c) 33 v) hP (by omega)) ?_
    refine aw_eqS (st := [.int (nI (setN (fun s => decide (G 24 (3 + s) = nI 0)) P)), .int ((nI w) * (nI 32)), .ref 31]) rfl ?_
    refine aw_run oX3_mostFrom sxOk 1 (pc' := 34) (L' := [some (.ref 8), some (.int (nI w))]) (st' := [.int (((nI w) * (nI 32)) + (nI (setN (fun s => decide (G 24 (3 + s) = nI 0)) P))), .ref 31]) (I' := I) (J' := J) (G' := va_up (va_up (va_up G 31 b) 32 c) 33 v) rfl ?_
    refine aw_iaN (w * 32 + (setN (fun s => decide (G 24 (3 + s) = nI 0)) P)) sxOk rfl (addN (mulN rfl rfl) rfl) (by omega) (oX3_mostFrom.dec rfl) ?_
    refine aw_eqS (st := [.int (b (w * 32 + (setN (fun s => decide (G 24 (3 + s) = nI 0)) P)))]) rfl ?_
    exact aw_iret rfl (oX3_mostFrom.dec rfl) (⟨by rw [(htb w (by omega) hlt _ hpo hpp).1], rfl, rfl, b, c, v, rfl⟩)
  · refine aw_run oX3_mostFrom sxOk 4 (pc' := 8) (L' := [some (.ref 8), some (.int (nI w))]) (st' := [.int (I 2 6), .int (nI w)]) (I' := I) (J' := J) (G' := G) rfl ?_
    refine aw_ltN rfl hW (by omega) (by omega) (oX3_mostFrom.dec rfl) (tgt := 13) rfl (fun h8 => absurd h8 (by omega)) (fun h8 => ?_)
    refine aw_run oX3_mostFrom sxOk 1 (pc' := 12) (L' := [some (.ref 8), some (.int (nI w))]) (st' := [.int (nI 0)]) (I' := I) (J' := J) (G' := G) rfl ?_
    exact aw_iret rfl (oX3_mostFrom.dec rfl) (⟨by rw [show Wk - w = 0 by omega]; rfl, rfl, rfl, _, _, _, (G3_id G).symm⟩)
set_option maxRecDepth 20000 in
theorem c_sailingIn {I : II} {J : JJ} {G : II} {P : Nat} (hP : I 2 7 = nI P) (hP5 : P ≤ 5) {Wk : Nat} (hW : I 2 6 = nI Wk) (hWk : Wk ≤ 12)  {w t : Nat} (ht : G 24 0 = nI t) (htw : t ≤ w) (hw : w < Wk) (hsil : ∀ s, s < P → nI 0 ≤ sil (G 24) s) : AMet SX mX3_sailingIn [.ref 8, .int (nI w)] I J G (fun r I' J' G' => r = some (.int (nI (chO (plV (fun m w => wor (G 24) (G 16) (G 13 w) (G 12 w) P m) (fun w => setN (fun s => decide (G 17 s ≤ nI w)) P) Wk (Wk - w) (lfP (fun w u => chO (plV (fun m w => wor (G 24) (G 16) (G 13 w) (G 12 w) P m) (fun w => setN (fun s => decide (G 17 s ≤ nI w)) P) Wk (Wk - w) u)) t (setN (fun s => decide (G 24 (3 + s) = nI 0)) P) (w - t)))))) ∧ I' = I ∧ J' = J ∧ ∃ b c v, G' = va_up (va_up (va_up G 31 b) 32 c) 33 v) := by
  have hp32 : 2 ^ P ≤ 32 := Nat.pow_le_pow_right (by decide) hP5
  have hpo : setN (fun s => decide (G 24 (3 + s) = nI 0)) P < 32 := Nat.lt_of_lt_of_le (setN_lt _ _) hp32
  have hpp : anN (setN (fun s => decide (G 24 (3 + s) = nI 0)) P) (setN (fun s => decide (G 24 (3 + s) = nI 0)) P) = 0 := an_and2 _ hpo _ hpo (Nat.and_self _)
  have hrd : ∀ w, setN (fun s => decide (G 17 s ≤ nI w)) P < 32 := fun w => Nat.lt_of_lt_of_le (setN_lt _ _) hp32
  refine amet_en oX3_sailingIn rfl rfl (L := [some (.ref 8), some (.int (nI w)), none, none]) rfl ?_
  have hCl : ∀ w u, u < 32 → (fun w u => chO (plV (fun m w => wor (G 24) (G 16) (G 13 w) (G 12 w) P m) (fun w => setN (fun s => decide (G 17 s ≤ nI w)) P) Wk (Wk - w) u)) w u < 32 := fun w u hu => chO_lt hrd _ u hu
  have loop : ∀ (b c v : Nat → Int32) (htb : ∀ w, t ≤ w → w < Wk → ∀ u, u < 32 → anN u (setN (fun s => decide (G 24 (3 + s) = nI 0)) P) = 0 → b (w * 32 + u) = valO (plV (fun m w => wor (G 24) (G 16) (G 13 w) (G 12 w) P m) (fun w => setN (fun s => decide (G 17 s ≤ nI w)) P) Wk (Wk - w) u) ∧ c (w * 32 + u) = nI (chO (plV (fun m w => wor (G 24) (G 16) (G 13 w) (G 12 w) P m) (fun w => setN (fun s => decide (G 17 s ≤ nI w)) P) Wk (Wk - w) u))) (n k : Nat) (x y : Int32), (t + k + n = w) → (x = nI (t + k)) → (y = nI (lfP (fun w u => chO (plV (fun m w => wor (G 24) (G 16) (G 13 w) (G 12 w) P m) (fun w => setN (fun s => decide (G 17 s ≤ nI w)) P) Wk (Wk - w) u)) t (setN (fun s => decide (G 24 (3 + s) = nI 0)) P) k)) → AW SX mX3_sailingIn 27 [some (.ref 8), some (.int (nI w)), some (.int y), some (.int x)] [] I J (va_up (va_up (va_up G 31 b) 32 c) 33 v) (fun r I' J' G' => r = some (.int (nI (chO (plV (fun m w => wor (G 24) (G 16) (G 13 w) (G 12 w) P m) (fun w => setN (fun s => decide (G 17 s ≤ nI w)) P) Wk (Wk - w) (lfP (fun w u => chO (plV (fun m w => wor (G 24) (G 16) (G 13 w) (G 12 w) P m) (fun w => setN (fun s => decide (G 17 s ≤ nI w)) P) Wk (Wk - w) u)) t (setN (fun s => decide (G 24 (3 + s) = nI 0)) P) (w - t)))))) ∧ I' = I ∧ J' = J ∧ ∃ b c v, G' = va_up (va_up (va_up G 31 b) 32 c) 33 v) := by
    intro b c v htb n
    induction n with
    | zero =>
      intro k x y hkn hx hy
      have hlf := lfP_ok (C := fun w u => chO (plV (fun m w => wor (G 24) (G 16) (G 13 w) (G 12 w) P m) (fun w => setN (fun s => decide (G 17 s ≤ nI w)) P) Wk (Wk - w) u)) (t := t) hpo hCl k
      refine aw_run oX3_sailingIn sxOk 2 (pc' := 29) (L' := [some (.ref 8), some (.int (nI w)), some (.int y), some (.int x)]) (st' := [.int (nI w), .int x]) (I' := I) (J' := J) (G' := va_up (va_up (va_up G 31 b) 32 c) 33 v) rfl ?_
      refine aw_geN hx rfl (by omega) (by omega) (oX3_sailingIn.dec rfl) (tgt := 54) rfl (fun h29 => ?_) (fun h29 => absurd h29 (by omega))
      refine aw_run oX3_sailingIn sxOk 7 (pc' := 64) (L' := [some (.ref 8), some (.int (nI w)), some (.int y), some (.int x)]) (st' := [.int (((nI w) * (nI 32)) + y), .ref 32]) (I' := I) (J' := J) (G' := va_up (va_up (va_up G 31 b) 32 c) 33 v) rfl ?_
      refine aw_iaN (w * 32 + (lfP (fun w u => chO (plV (fun m w => wor (G 24) (G 16) (G 13 w) (G 12 w) P m) (fun w => setN (fun s => decide (G 17 s ≤ nI w)) P) Wk (Wk - w) u)) t (setN (fun s => decide (G 24 (3 + s) = nI 0)) P) k)) sxOk rfl (addN (mulN rfl rfl) hy) (by have := hlf.1; omega) (oX3_sailingIn.dec rfl) ?_
      refine aw_eqS (st := [.int (c (w * 32 + (lfP (fun w u => chO (plV (fun m w => wor (G 24) (G 16) (G 13 w) (G 12 w) P m) (fun w => setN (fun s => decide (G 17 s ≤ nI w)) P) Wk (Wk - w) u)) t (setN (fun s => decide (G 24 (3 + s) = nI 0)) P) k)))]) rfl ?_
      exact aw_iret rfl (oX3_sailingIn.dec rfl) (⟨by rw [(htb w (by omega) (by omega) _ hlf.1 hlf.2).2, show k = w - t by omega], rfl, rfl, b, c, v, rfl⟩)
    | succ n ih =>
      intro k x y hkn hx hy
      have hlf := lfP_ok (C := fun w u => chO (plV (fun m w => wor (G 24) (G 16) (G 13 w) (G 12 w) P m) (fun w => setN (fun s => decide (G 17 s ≤ nI w)) P) Wk (Wk - w) u)) (t := t) hpo hCl k
      have hck : c ((t + k) * 32 + (lfP (fun w u => chO (plV (fun m w => wor (G 24) (G 16) (G 13 w) (G 12 w) P m) (fun w => setN (fun s => decide (G 17 s ≤ nI w)) P) Wk (Wk - w) u)) t (setN (fun s => decide (G 24 (3 + s) = nI 0)) P) k)) = nI (chO (plV (fun m w => wor (G 24) (G 16) (G 13 w) (G 12 w) P m) (fun w => setN (fun s => decide (G 17 s ≤ nI w)) P) Wk (Wk - (t + k)) (lfP (fun w u => chO (plV (fun m w => wor (G 24) (G 16) (G 13 w) (G 12 w) P m) (fun w => setN (fun s => decide (G 17 s ≤ nI w)) P) Wk (Wk - w) u)) t (setN (fun s => decide (G 24 (3 + s) = nI 0)) P) k))) := (htb (t + k) (by omega) (by omega) _ hlf.1 hlf.2).2
      have hcl : chO (plV (fun m w => wor (G 24) (G 16) (G 13 w) (G 12 w) P m) (fun w => setN (fun s => decide (G 17 s ≤ nI w)) P) Wk (Wk - (t + k)) (lfP (fun w u => chO (plV (fun m w => wor (G 24) (G 16) (G 13 w) (G 12 w) P m) (fun w => setN (fun s => decide (G 17 s ≤ nI w)) P) Wk (Wk - w) u)) t (setN (fun s => decide (G 24 (3 + s) = nI 0)) P) k)) < 32 := chO_lt hrd _ _ hlf.1
      refine aw_run oX3_sailingIn sxOk 2 (pc' := 29) (L' := [some (.ref 8), some (.int (nI w)), some (.int y), some (.int x)]) (st' := [.int (nI w), .int x]) (I' := I) (J' := J) (G' := va_up (va_up (va_up G 31 b) 32 c) 33 v) rfl ?_
      refine aw_geN hx rfl (by omega) (by omega) (oX3_sailingIn.dec rfl) (tgt := 54) rfl (fun h29 => absurd h29 (by omega)) (fun h29 => ?_)
      refine aw_run oX3_sailingIn sxOk 8 (pc' := 43) (L' := [some (.ref 8), some (.int (nI w)), some (.int y), some (.int x)]) (st' := [.int ((x * (nI 32)) + y), .ref 32, .int y]) (I' := I) (J' := J) (G' := va_up (va_up (va_up G 31 b) 32 c) 33 v) rfl ?_
      refine aw_iaN ((t + k) * 32 + (lfP (fun w u => chO (plV (fun m w => wor (G 24) (G 16) (G 13 w) (G 12 w) P m) (fun w => setN (fun s => decide (G 17 s ≤ nI w)) P) Wk (Wk - w) u)) t (setN (fun s => decide (G 24 (3 + s) = nI 0)) P) k)) sxOk rfl (addN (mulN hx rfl) hy) (by have := hlf.1; omega) (oX3_sailingIn.dec rfl) ?_
      refine aw_eqS (st := [.int (c ((t + k) * 32 + (lfP (fun w u => chO (plV (fun m w => wor (G 24) (G 16) (G 13 w) (G 12 w) P m) (fun w => setN (fun s => decide (G 17 s ≤ nI w)) P) Wk (Wk - w) u)) t (setN (fun s => decide (G 24 (3 + s) = nI 0)) P) k))), .int y]) rfl ?_
      refine aw_run oX3_sailingIn sxOk 6 (pc' := 27) (L' := [some (.ref 8), some (.int (nI w)), some (.int (y &&& ((c ((t + k) * 32 + (lfP (fun w u => chO (plV (fun m w => wor (G 24) (G 16) (G 13 w) (G 12 w) P m) (fun w => setN (fun s => decide (G 17 s ≤ nI w)) P) Wk (Wk - w) u)) t (setN (fun s => decide (G 24 (3 + s) = nI 0)) P) k))) ^^^ (-nI 1)))), some (.int (x + (nI 1)))]) (st' := []) (I' := I) (J' := J) (G' := va_up (va_up (va_up G 31 b) 32 c) 33 v) rfl ?_
      exact ih (k + 1) _ _ (by omega) (show _ = nI (t + k + 1) from addN hx rfl) (anNI hy hck (by have := hlf.1; omega) (by omega))
  refine aw_run oX3_sailingIn sxOk 3 (pc' := 5) (L' := [some (.ref 8), some (.int (nI w)), none, none]) (st' := [.ref 4, .ref 8]) (I' := I) (J' := J) (G' := G) rfl ?_
  refine aw_cV (st := [.ref 8]) 4 [] oX2_theWeek k3_49 rfl rfl rfl rfl rfl rfl rfl rfl (oX3_sailingIn.dec rfl) c_theWeek ?_
  refine aw_eqS (st := [.int (G 24 0), .ref 8]) rfl ?_
  refine aw_eqS (st := [.int (nI t), .ref 8]) (by rw [show G 24 0 = nI t from ht]) ?_
  refine aw_cVP (st := []) 8 [.int (nI t)] oX3_reckonFrom k3_39 rfl rfl rfl rfl rfl rfl rfl rfl (oX3_sailingIn.dec rfl) (c_reckonFrom hP (by omega) hW (by omega) (by omega) hsil) (fun r8 I8 J8 G8 hq8 => ?_)
  obtain ⟨hr, hI, hJ, b, c, v, hG, htb⟩ := hq8
  obtain rfl := hr.symm; obtain rfl := hI.symm; obtain rfl := hJ.symm; obtain rfl := hG.symm
  refine aw_eqS (st := []) rfl ?_
  refine aw_run oX3_sailingIn sxOk 2 (pc' := 15) (L' := [some (.ref 8), some (.int (nI w)), none, none]) (st' := [.ref 7]) (I' := I) (J' := J) (G' := va_up (va_up (va_up G 31 b) 32 c) 33 v) rfl ?_
  refine aw_cV (st := []) 7 [] oX0_inPort k3_43 rfl rfl rfl rfl rfl rfl rfl rfl (oX3_sailingIn.dec rfl) (c_inPort (I := I) (J := J) (G := va_up (va_up (va_up G 31 b) 32 c) 33 v) hP (by omega)) ?_
  refine aw_eqS (st := [.int (nI (setN (fun s => decide (G 24 (3 + s) = nI 0)) P))]) rfl ?_
  refine aw_run oX3_sailingIn sxOk 3 (pc' := 23) (L' := [some (.ref 8), some (.int (nI w)), some (.int (nI (setN (fun s => decide (G 24 (3 + s) = nI 0)) P))), none]) (st' := [.ref 4]) (I' := I) (J' := J) (G' := va_up (va_up (va_up G 31 b) 32 c) 33 v) rfl ?_
  refine aw_cV (st := []) 4 [] oX2_theWeek k3_49 rfl rfl rfl rfl rfl rfl rfl rfl (oX3_sailingIn.dec rfl) (c_theWeek (I := I) (J := J) (G := va_up (va_up (va_up G 31 b) 32 c) 33 v) ) ?_
  refine aw_eqS (st := [.int (G 24 0)]) rfl ?_
  refine aw_run oX3_sailingIn sxOk 1 (pc' := 27) (L' := [some (.ref 8), some (.int (nI w)), some (.int (nI (setN (fun s => decide (G 24 (3 + s) = nI 0)) P))), some (.int (G 24 0))]) (st' := []) (I' := I) (J' := J) (G' := va_up (va_up (va_up G 31 b) 32 c) 33 v) rfl ?_
  exact loop b c v htb (w - t) 0 _ _ (by omega) ht rfl
set_option maxRecDepth 20000 in
theorem c_plan_all {I : II} {J : JJ} {G : II} {P : Nat} (hP : I 2 7 = nI P) (hP5 : P ≤ 5) {Wk : Nat} (hW : I 2 6 = nI Wk) (hWk : Wk ≤ 12) {t : Nat} (ht : G 24 0 = nI t) (ht12 : t ≤ 12) (hsil : ∀ s, s < P → nI 0 ≤ sil (G 24) s) : AMet SX mX6_plan [.ref 0, .int (-nI 1)] I J G (fun r I' J' G' => r = some (.int (valO (plV (fun m w => wor (G 24) (G 16) (G 13 w) (G 12 w) P m) (fun w => setN (fun s => decide (G 17 s ≤ nI w)) P) Wk (Wk - t) (setN (fun s => decide (G 24 (3 + s) = nI 0)) P)))) ∧ I' = I ∧ J' = J ∧ ∃ b c v, G' = va_up (va_up (va_up G 31 b) 32 c) 33 v) := by
  refine amet_en oX6_plan rfl rfl (L := [some (.ref 0), some (.int (-nI 1))]) rfl ?_
  refine aw_run oX6_plan sxOk 2 (pc' := 2) (L' := [some (.ref 0), some (.int (-nI 1))]) (st' := [.int (-nI 1), .int (-nI 1)]) (I' := I) (J' := J) (G' := G) rfl ?_
  refine aw_icmp_ne (oX6_plan.dec rfl) (tgt := 20) rfl (fun h2 => by first | exact absurd h2 (by assumption) | exact absurd (by assumption) h2 | (exfalso; revert h2; decide) | simp_all) (fun h2 => ?_)
  refine aw_run oX6_plan sxOk 4 (pc' := 13) (L' := [some (.ref 0), some (.int (-nI 1))]) (st' := [.ref 4, .ref 8]) (I' := I) (J' := J) (G' := G) rfl ?_
  refine aw_cV (st := [.ref 8]) 4 [] oX2_theWeek k6_126 rfl rfl rfl rfl rfl rfl rfl rfl (oX6_plan.dec rfl) c_theWeek ?_
  refine aw_eqS (st := [.int (G 24 0), .ref 8]) rfl ?_
  refine aw_eqS (st := [.int (nI t), .ref 8]) (by rw [show G 24 0 = nI t from ht]) ?_
  refine aw_cVP (st := []) 8 [.int (nI t)] oX3_mostFrom k6_181 rfl rfl rfl rfl rfl rfl rfl rfl (oX6_plan.dec rfl) (c_mostFrom hP (by omega) hW (by omega) (by omega) hsil) (fun r16 I16 J16 G16 hq16 => ?_)
  obtain ⟨hr, hI, hJ, b, c, v, hG⟩ := hq16
  obtain rfl := hr.symm; obtain rfl := hI.symm; obtain rfl := hJ.symm; obtain rfl := hG.symm
  refine aw_eqS (st := [.int (valO (plV (fun m w => wor (G 24) (G 16) (G 13 w) (G 12 w) P m) (fun w => setN (fun s => decide (G 17 s ≤ nI w)) P) Wk (Wk - t) (setN (fun s => decide (G 24 (3 + s) = nI 0)) P)))]) rfl ?_
  exact aw_iret rfl (oX6_plan.dec rfl) (⟨rfl, rfl, rfl, b, c, v, rfl⟩)
set_option maxRecDepth 20000 in
theorem c_plan_ok {I : II} {J : JJ} {G : II} {P : Nat} (hP : I 2 7 = nI P) (hP5 : P ≤ 5) {Wk : Nat} (hW : I 2 6 = nI Wk) (hWk : Wk ≤ 12) {t : Nat} (ht : G 24 0 = nI t) (ht12 : t ≤ 12) {w : Nat} (htw : t ≤ w) (hw : w < Wk) (hsil : ∀ s, s < P → nI 0 ≤ sil (G 24) s) : AMet SX mX6_plan [.ref 0, .int (nI w)] I J G (fun r I' J' G' => r = some (.int (nI (chO (plV (fun m w => wor (G 24) (G 16) (G 13 w) (G 12 w) P m) (fun w => setN (fun s => decide (G 17 s ≤ nI w)) P) Wk (Wk - w) (lfP (fun w u => chO (plV (fun m w => wor (G 24) (G 16) (G 13 w) (G 12 w) P m) (fun w => setN (fun s => decide (G 17 s ≤ nI w)) P) Wk (Wk - w) u)) t (setN (fun s => decide (G 24 (3 + s) = nI 0)) P) (w - t)))))) ∧ I' = I ∧ J' = J ∧ ∃ b c v, G' = va_up (va_up (va_up G 31 b) 32 c) 33 v) := by
  refine amet_en oX6_plan rfl rfl (L := [some (.ref 0), some (.int (nI w))]) rfl ?_
  refine aw_run oX6_plan sxOk 2 (pc' := 2) (L' := [some (.ref 0), some (.int (nI w))]) (st' := [.int (-nI 1), .int (nI w)]) (I' := I) (J' := J) (G' := G) rfl ?_
  refine aw_icmp_ne (oX6_plan.dec rfl) (tgt := 20) rfl (fun h2 => ?_) (fun h2 => absurd h2 (nI_nm1 (by omega)))
  refine aw_run oX6_plan sxOk 3 (pc' := 25) (L' := [some (.ref 0), some (.int (nI w))]) (st' := [.int (nI w), .ref 2]) (I' := I) (J' := J) (G' := G) rfl ?_
  refine aw_cV (st := []) 2 [.int (nI w)] oX4_hasWeek k6_87 rfl rfl rfl rfl rfl rfl rfl rfl (oX6_plan.dec rfl) (c_hasWeek_t hW (by omega) (by omega)) ?_
  refine aw_eqS (st := [.int (nI 1)]) rfl ?_
  refine aw_0eqN rfl (by omega) (oX6_plan.dec rfl) (tgt := 42) rfl (fun h28 => absurd h28 (by omega)) (fun h28 => ?_)
  refine aw_run oX6_plan sxOk 3 (pc' := 36) (L' := [some (.ref 0), some (.int (nI w))]) (st' := [.ref 4, .int (nI w)]) (I' := I) (J' := J) (G' := G) rfl ?_
  refine aw_cV (st := [.int (nI w)]) 4 [] oX2_theWeek k6_126 rfl rfl rfl rfl rfl rfl rfl rfl (oX6_plan.dec rfl) c_theWeek ?_
  refine aw_eqS (st := [.int (G 24 0), .int (nI w)]) rfl ?_
  refine aw_geN rfl ht (by omega) (by omega) (oX6_plan.dec rfl) (tgt := 44) rfl (fun h39 => ?_) (fun h39 => absurd h39 (by omega))
  refine aw_run oX6_plan sxOk 3 (pc' := 49) (L' := [some (.ref 0), some (.int (nI w))]) (st' := [.int (nI w), .ref 8]) (I' := I) (J' := J) (G' := G) rfl ?_
  refine aw_cVP (st := []) 8 [.int (nI w)] oX3_sailingIn k6_184 rfl rfl rfl rfl rfl rfl rfl rfl (oX6_plan.dec rfl) (c_sailingIn hP (by omega) hW (by omega) ht (by omega) (by omega) hsil) (fun r49 I49 J49 G49 hq49 => ?_)
  obtain ⟨hr, hI, hJ, b, c, v, hG⟩ := hq49
  obtain rfl := hr.symm; obtain rfl := hI.symm; obtain rfl := hJ.symm; obtain rfl := hG.symm
  refine aw_eqS (st := [.int (nI (chO (plV (fun m w => wor (G 24) (G 16) (G 13 w) (G 12 w) P m) (fun w => setN (fun s => decide (G 17 s ≤ nI w)) P) Wk (Wk - w) (lfP (fun w u => chO (plV (fun m w => wor (G 24) (G 16) (G 13 w) (G 12 w) P m) (fun w => setN (fun s => decide (G 17 s ≤ nI w)) P) Wk (Wk - w) u)) t (setN (fun s => decide (G 24 (3 + s) = nI 0)) P) (w - t)))))]) rfl ?_
  exact aw_iret rfl (oX6_plan.dec rfl) (⟨rfl, rfl, rfl, b, c, v, rfl⟩)
set_option maxRecDepth 20000 in
theorem c_plan_early {I : II} {J : JJ} {G : II} {P : Nat} (hP : I 2 7 = nI P) (hP5 : P ≤ 5) {Wk : Nat} (hW : I 2 6 = nI Wk) (hWk : Wk ≤ 12) {t : Nat} (ht : G 24 0 = nI t) (ht12 : t ≤ 12) {w : Nat} (htw : w < t) (hw : w < Wk) : AMet SX mX6_plan [.ref 0, .int (nI w)] I J G (PE (some (.int (-nI 1))) I J G) := by
  refine amet_en oX6_plan rfl rfl (L := [some (.ref 0), some (.int (nI w))]) rfl ?_
  refine aw_run oX6_plan sxOk 2 (pc' := 2) (L' := [some (.ref 0), some (.int (nI w))]) (st' := [.int (-nI 1), .int (nI w)]) (I' := I) (J' := J) (G' := G) rfl ?_
  refine aw_icmp_ne (oX6_plan.dec rfl) (tgt := 20) rfl (fun h2 => ?_) (fun h2 => absurd h2 (nI_nm1 (by omega)))
  refine aw_run oX6_plan sxOk 3 (pc' := 25) (L' := [some (.ref 0), some (.int (nI w))]) (st' := [.int (nI w), .ref 2]) (I' := I) (J' := J) (G' := G) rfl ?_
  refine aw_cV (st := []) 2 [.int (nI w)] oX4_hasWeek k6_87 rfl rfl rfl rfl rfl rfl rfl rfl (oX6_plan.dec rfl) (c_hasWeek_t hW (by omega) (by omega)) ?_
  refine aw_eqS (st := [.int (nI 1)]) rfl ?_
  refine aw_0eqN rfl (by omega) (oX6_plan.dec rfl) (tgt := 42) rfl (fun h28 => absurd h28 (by omega)) (fun h28 => ?_)
  refine aw_run oX6_plan sxOk 3 (pc' := 36) (L' := [some (.ref 0), some (.int (nI w))]) (st' := [.ref 4, .int (nI w)]) (I' := I) (J' := J) (G' := G) rfl ?_
  refine aw_cV (st := [.int (nI w)]) 4 [] oX2_theWeek k6_126 rfl rfl rfl rfl rfl rfl rfl rfl (oX6_plan.dec rfl) c_theWeek ?_
  refine aw_eqS (st := [.int (G 24 0), .int (nI w)]) rfl ?_
  refine aw_geN rfl ht (by omega) (by omega) (oX6_plan.dec rfl) (tgt := 44) rfl (fun h39 => absurd h39 (by omega)) (fun h39 => ?_)
  refine aw_run oX6_plan sxOk 1 (pc' := 43) (L' := [some (.ref 0), some (.int (nI w))]) (st' := [.int (-nI 1)]) (I' := I) (J' := J) (G' := G) rfl ?_
  exact aw_iret rfl (oX6_plan.dec rfl) pe_rfl
set_option maxRecDepth 20000 in
theorem c_plan_bad {I : II} {J : JJ} {G : II} {Wk : Nat} (hW : I 2 6 = nI Wk) (hWk : Wk ≤ 12) {x : Int32} (hx : notIn x Wk) (hx1 : ¬ x = -nI 1) : AMet SX mX6_plan [.ref 0, .int x] I J G (PE (some (.int (-nI 1))) I J G) := by
  refine amet_en oX6_plan rfl rfl (L := [some (.ref 0), some (.int x)]) rfl ?_
  refine aw_run oX6_plan sxOk 2 (pc' := 2) (L' := [some (.ref 0), some (.int x)]) (st' := [.int (-nI 1), .int x]) (I' := I) (J' := J) (G' := G) rfl ?_
  refine aw_icmp_ne (oX6_plan.dec rfl) (tgt := 20) rfl (fun h2 => ?_) (fun h2 => by first | exact absurd h2 (by assumption) | exact absurd (by assumption) h2 | (exfalso; revert h2; decide) | simp_all)
  refine aw_run oX6_plan sxOk 3 (pc' := 25) (L' := [some (.ref 0), some (.int x)]) (st' := [.int x, .ref 2]) (I' := I) (J' := J) (G' := G) rfl ?_
  refine aw_cV (st := []) 2 [.int x] oX4_hasWeek k6_87 rfl rfl rfl rfl rfl rfl rfl rfl (oX6_plan.dec rfl) (c_hasWeek_f hW (by omega) (by assumption)) ?_
  refine aw_eqS (st := [.int (nI 0)]) rfl ?_
  refine aw_0eqN rfl (by omega) (oX6_plan.dec rfl) (tgt := 42) rfl (fun h28 => ?_) (fun h28 => absurd h28 (by omega))
  refine aw_run oX6_plan sxOk 1 (pc' := 43) (L' := [some (.ref 0), some (.int x)]) (st' := [.int (-nI 1)]) (I' := I) (J' := J) (G' := G) rfl ?_
  exact aw_iret rfl (oX6_plan.dec rfl) pe_rfl
set_option maxRecDepth 20000 in
theorem c_late {I : II} {J : JJ} {G : II} {P : Nat} (hP : I 2 7 = nI P) (hP5 : P ≤ 5) {Wk : Nat} (hW : I 2 6 = nI Wk) (hWk : Wk ≤ 12) {t : Nat} (ht : G 24 0 = nI t) (ht12 : t ≤ 12) (hsil : ∀ s, s < P → nI 0 ≤ sil (G 24) s) : AMet SX mX6_late [.ref 0] I J G (fun r I' J' G' => r = some (.int (valO (plV (fun m w => wor (G 24) (G 16) (G 13 w) (G 12 w) P m) (fun w => setN (fun s => decide (G 17 s ≤ nI w)) P) Wk (Wk - (t + 1)) (setN (fun s => decide (G 24 (3 + s) = nI 0)) P)))) ∧ I' = I ∧ J' = J ∧ ∃ b c v, G' = va_up (va_up (va_up G 31 b) 32 c) 33 v) := by
  refine amet_en oX6_late rfl rfl (L := [some (.ref 0)]) rfl ?_
  refine aw_run oX6_late sxOk 4 (pc' := 8) (L' := [some (.ref 0)]) (st' := [.ref 4, .ref 8]) (I' := I) (J' := J) (G' := G) rfl ?_
  refine aw_cV (st := [.ref 8]) 4 [] oX2_theWeek k6_126 rfl rfl rfl rfl rfl rfl rfl rfl (oX6_late.dec rfl) c_theWeek ?_
  refine aw_eqS (st := [.int (G 24 0), .ref 8]) rfl ?_
  refine aw_run oX6_late sxOk 2 (pc' := 13) (L' := [some (.ref 0)]) (st' := [.int ((G 24 0) + (nI 1)), .ref 8]) (I' := I) (J' := J) (G' := G) rfl ?_
  refine aw_eqS (st := [.int (nI (t + 1)), .ref 8]) (by rw [show (G 24 0) + (nI 1) = nI (t + 1) from addN ht rfl]) ?_
  refine aw_cVP (st := []) 8 [.int (nI (t + 1))] oX3_mostFrom k6_181 rfl rfl rfl rfl rfl rfl rfl rfl (oX6_late.dec rfl) (c_mostFrom hP (by omega) hW (by omega) (by omega) hsil) (fun r13 I13 J13 G13 hq13 => ?_)
  obtain ⟨hr, hI, hJ, b, c, v, hG⟩ := hq13
  obtain rfl := hr.symm; obtain rfl := hI.symm; obtain rfl := hJ.symm; obtain rfl := hG.symm
  refine aw_eqS (st := [.int (valO (plV (fun m w => wor (G 24) (G 16) (G 13 w) (G 12 w) P m) (fun w => setN (fun s => decide (G 17 s ≤ nI w)) P) Wk (Wk - (t + 1)) (setN (fun s => decide (G 24 (3 + s) = nI 0)) P)))]) rfl ?_
  exact aw_iret rfl (oX6_late.dec rfl) (⟨rfl, rfl, rfl, b, c, v, rfl⟩)
end
section
theorem notIn_in0 {x : Int32} {m : Nat} (h : notIn x m) (h1 : 1 ≤ m) (hm : m < 2 ^ 31) : ¬ (nI 0 ≤ x ∧ x ≤ nI (m - 1)) := fun ⟨h2, h3⟩ => by
  have h0 : ¬ x < 0 := Int32.not_lt.mpr h2
  have h4 := notIn_ge h hm h0
  have h5 := Int32.le_trans h4 h3
  have h6 := (nI_leI hm (by omega)).mp h5
  omega
theorem notIn_inW {x : Int32} {m : Nat} (h : notIn x m) (hm : m < 2 ^ 31) : ¬ (nI 0 ≤ x ∧ x ≤ nI m - nI 1) := fun ⟨h2, h3⟩ => by
  have h0 : ¬ x < 0 := Int32.not_lt.mpr h2
  cases m with
  | zero =>
    have h5 := Int32.le_trans h2 h3
    exact absurd h5 (by decide)
  | succ m =>
    rw [show nI (m + 1) - nI 1 = nI m from subN rfl rfl (by omega)] at h3
    exact notIn_in0 h (by omega) hm ⟨h2, h3⟩
theorem notIn_in1 {x : Int32} {m : Nat} (h : notIn x m) (h1 : 1 ≤ m) (hm : m < 2 ^ 31) : ¬ (nI 1 ≤ x ∧ x ≤ nI (m - 1)) := fun ⟨h2, h3⟩ => notIn_in0 h h1 hm ⟨Int32.le_trans (by decide) h2, h3⟩
theorem b1_0 {b : Bool} : b1 b = 0 ↔ b = false := by cases b <;> decide
theorem cpy_step {f : Nat → Int32} {sp dp s : Nat} (h : sp + s < dp ∨ dp + s ≤ sp + s) : upd (va_cpy f f sp dp s) (dp + s) (va_cpy f f sp dp s (sp + s)) = va_cpy f f sp dp (s + 1) := by
  funext q
  rw [pk_cpy_out (j := sp + s) (by omega)]
  by_cases e : q = dp + s
  · subst e
    rw [pk_us, pk_cpy_in (by omega) (by omega)]
    congr 1
    omega
  · rw [pk_un e]
    by_cases h1 : dp ≤ q ∧ q < dp + s
    · rw [pk_cpy_in h1.1 h1.2, pk_cpy_in h1.1 (by omega)]
    · rw [pk_cpy_out (by omega), pk_cpy_out (by omega)]
theorem cpy_0 {f : Nat → Int32} {sp dp : Nat} : va_cpy f f sp dp 0 = f := by
  funext q
  exact pk_cpy_out (by omega)
/-- what is known, in the reference's one row -/
def knG (f : Nat → Int32) : Nat → Int32 := upd (va_cpy f f 37 19 162) 18 (nI 9)
def knF (f : Nat → Int32) (K : Nat) : Nat → Int32 := if K = 10 then upd (va_cpy (knG f) (knG f) 0 (19 + 18 * 9) 18) 18 (nI 10) else upd (va_cpy f f 0 (19 + 18 * K) 18) 18 (nI (K + 1))
def q1 (rdy : Nat → Int32) (σ w s : Nat) : Bool := !σ.testBit s || decide (rdy s ≤ nI w)
theorem an_iff : ∀ a, a < 32 → ∀ b, b < 32 → (anN a b = 0 ↔ ∀ i, i < 5 → a.testBit i = true → b.testBit i = true) := by decide +kernel
theorem tb_lt {σ P i : Nat} (h : σ < 2 ^ P) (hi : P ≤ i) : σ.testBit i = false := Nat.testBit_lt_two_pow (Nat.lt_of_lt_of_le h (Nat.pow_le_pow_right (by decide) hi))
theorem allB_congr {q r : Nat → Bool} {n : Nat} (h : ∀ j, j < n → q j = r j) : allB q n = allB r n := by
  induction n with
  | zero => rfl
  | succ n ih =>
    show (allB q n && q n) = (allB r n && r n)
    rw [ih (fun j hj => h j (by omega)), h n (by omega)]
theorem can_eq {f rdy : Nat → Int32} {σ t P : Nat} (hσ : σ < 2 ^ P) (hP : P ≤ 5) : (decide (anN σ (setN (fun s => decide (f (3 + s) = nI 0)) P) = 0) && allB (q1 rdy σ t) P) = allB (sq f rdy σ t) P := by
  have hp32 : 2 ^ P ≤ 32 := Nat.pow_le_pow_right (by decide) hP
  have hpo : setN (fun s => decide (f (3 + s) = nI 0)) P < 32 := Nat.lt_of_lt_of_le (setN_lt _ _) hp32
  rw [Bool.eq_iff_iff, Bool.and_eq_true, decide_eq_true_eq, allB_iff, allB_iff, an_iff σ (by omega) _ hpo]
  constructor
  · intro ⟨h1, h2⟩ j hj
    have h3 := h2 j hj
    unfold q1 at h3
    unfold sq
    cases hb : σ.testBit j with
    | false => rfl
    | true =>
      have h4 := h1 j (by omega) hb
      rw [setN_bit] at h4
      rw [hb] at h3
      simp only [Bool.not_true, Bool.false_or] at h3 ⊢
      simp only [Bool.and_eq_true] at h4 ⊢
      exact ⟨h4.2, h3⟩
  · intro h
    refine ⟨fun i hi hb => ?_, fun j hj => ?_⟩
    · rcases Nat.lt_or_ge i P with h1 | h1
      · have h2 := h i h1
        unfold sq at h2
        rw [hb] at h2
        simp only [Bool.not_true, Bool.false_or, Bool.and_eq_true] at h2
        rw [setN_bit]
        simp only [Bool.and_eq_true, decide_eq_true_eq]
        exact ⟨h1, by simpa using h2.1⟩
      · rw [tb_lt hσ h1] at hb; cases hb
    · have h2 := h j hj
      unfold sq at h2
      unfold q1
      cases hb : σ.testBit j with
      | false => rfl
      | true =>
        rw [hb] at h2
        simp only [Bool.not_true, Bool.false_or, Bool.and_eq_true] at h2 ⊢
        exact h2.2
theorem may_eq {rdy : Nat → Int32} {σ w P : Nat} (hσ : σ < 2 ^ P) (hP : P ≤ 5) : allB (q1 rdy σ w) P = decide (anN σ (setN (fun s => decide (rdy s ≤ nI w)) P) = 0) := by
  have hp32 : 2 ^ P ≤ 32 := Nat.pow_le_pow_right (by decide) hP
  have hpo : setN (fun s => decide (rdy s ≤ nI w)) P < 32 := Nat.lt_of_lt_of_le (setN_lt _ _) hp32
  rw [Bool.eq_iff_iff, decide_eq_true_eq, allB_iff, an_iff σ (by omega) _ hpo]
  constructor
  · intro h i hi hb
    rcases Nat.lt_or_ge i P with h1 | h1
    · have h2 := h i h1
      unfold q1 at h2
      rw [hb] at h2
      rw [setN_bit]
      simp only [Bool.not_true, Bool.false_or] at h2
      simp only [Bool.and_eq_true, decide_eq_true_eq] at h2 ⊢
      exact ⟨h1, h2⟩
    · rw [tb_lt hσ h1] at hb; cases hb
  · intro h j hj
    unfold q1
    cases hb : σ.testBit j with
    | false => rfl
    | true =>
      have h4 := h j (by omega) hb
      rw [setN_bit] at h4
      simp only [Bool.and_eq_true] at h4
      simp only [Bool.not_true, Bool.false_or]
      exact h4.2
/-- the reference's draw -/
theorem draw_m (z s t : Nat) (hz : z ≤ 9999) (hs : s < 5) (ht : t ≤ 12) (q : Int64) (hq : q = lN (7919 * z + 6151 * s + 12289 * t + 1)) :
    (q * q - q * q / 65521 * 65521).toInt32 = nI ((7919 * z + 6151 * s + 12289 * t + 1) * (7919 * z + 6151 * s + 12289 * t + 1) % 65521) := by
  have hl := dq_lt hz hs ht
  subst hq
  rw [lN_mul, show (65521 : Int64) = lN 65521 from rfl, pk_lRem (by omega) (by decide) (by decide), lN_i]
theorem enc_none {o : Option Nat} {r : Int32} {P : Nat} (hr : r = encO o) (h : r = -nI 9) (hl : ∀ q, o = some q → q < P) (hP : P < 2 ^ 31) : o = none := by
  cases o with
  | none => rfl
  | some q =>
    have h1 := hl q rfl
    rw [hr] at h
    exact absurd (show nI q = -nI 9 from h) (nI_n9 (by omega))
theorem rich_first {f : Nat → Int32} {σ n : Nat} (h : σ.testBit n = true) (h1 : rich f σ n = none) : rich f σ (n + 1) = some n := by
  show (if σ.testBit n = true then _ else _) = _
  rw [if_pos h, h1]
theorem rich_keep {f : Nat → Int32} {σ n r : Nat} (h : σ.testBit n = true) (h1 : rich f σ n = some r) (h2 : sil f n ≤ sil f r) : rich f σ (n + 1) = rich f σ n := by
  show (if σ.testBit n = true then _ else _) = _
  rw [if_pos h, h1]
  have h3 : ¬ sil f r < sil f n := Int32.not_lt.mpr h2
  simp [h3]
theorem rich_take {f : Nat → Int32} {σ n r : Nat} (h : σ.testBit n = true) (h1 : rich f σ n = some r) (h2 : ¬ sil f n ≤ sil f r) : rich f σ (n + 1) = some n := by
  show (if σ.testBit n = true then _ else _) = _
  rw [if_pos h, h1]
  have h3 : sil f r < sil f n := Int32.not_le.mp h2
  simp [h3]
theorem b1_01 (b : Bool) : b1 b = 0 ∨ b1 b = 1 := by cases b; exact Or.inl rfl; exact Or.inr rfl
theorem ts_nf {x : Bool} (h : ¬ x = false) : x = true := by cases x; exact absurd rfl h; rfl
end
section
set_option maxRecDepth 20000 in
theorem m_inN {I : II} {J : JJ} {G : II} {a b c : Nat} (ha : a < 2 ^ 31) (hb : b < 2 ^ 31) (hc : c < 2 ^ 31) : AMet SM mX7_in [.int (nI a), .int (nI b), .int (nI c)] I J G (PE (some (.int (b1 (decide (b ≤ a ∧ a ≤ c))))) I J G) := by
  refine amet_en oX7_in rfl rfl (L := [some (.int (nI a)), some (.int (nI b)), some (.int (nI c))]) rfl ?_
  refine aw_run oX7_in smOk 2 (pc' := 2) (L' := [some (.int (nI a)), some (.int (nI b)), some (.int (nI c))]) (st' := [.int (nI b), .int (nI a)]) (I' := I) (J' := J) (G' := G) rfl ?_
  refine aw_ltN rfl rfl (by omega) (by omega) (oX7_in.dec rfl) (tgt := 14) rfl (fun h2 => ?_) (fun h2 => ?_)
  · refine aw_run oX7_in smOk 1 (pc' := 15) (L' := [some (.int (nI a)), some (.int (nI b)), some (.int (nI c))]) (st' := [.int (nI 0)]) (I' := I) (J' := J) (G' := G) rfl ?_
    exact aw_zret rfl (by first | exact Or.inl rfl | exact Or.inr rfl) (oX7_in.dec rfl) (pe_i (b1_f (by omega)))
  · refine aw_run oX7_in smOk 2 (pc' := 7) (L' := [some (.int (nI a)), some (.int (nI b)), some (.int (nI c))]) (st' := [.int (nI c), .int (nI a)]) (I' := I) (J' := J) (G' := G) rfl ?_
    refine aw_gtN rfl rfl (by omega) (by omega) (oX7_in.dec rfl) (tgt := 14) rfl (fun h7 => ?_) (fun h7 => ?_)
    · refine aw_run oX7_in smOk 1 (pc' := 15) (L' := [some (.int (nI a)), some (.int (nI b)), some (.int (nI c))]) (st' := [.int (nI 0)]) (I' := I) (J' := J) (G' := G) rfl ?_
      exact aw_zret rfl (by first | exact Or.inl rfl | exact Or.inr rfl) (oX7_in.dec rfl) (pe_i (b1_f (by omega)))
    · refine aw_run oX7_in smOk 2 (pc' := 15) (L' := [some (.int (nI a)), some (.int (nI b)), some (.int (nI c))]) (st' := [.int (nI 1)]) (I' := I) (J' := J) (G' := G) rfl ?_
      exact aw_zret rfl (by first | exact Or.inl rfl | exact Or.inr rfl) (oX7_in.dec rfl) (pe_i (b1_t ⟨by omega, by omega⟩))
set_option maxRecDepth 20000 in
theorem m_inF {I : II} {J : JJ} {G : II} {v l h : Int32} (hn : ¬ (l ≤ v ∧ v ≤ h)) : AMet SM mX7_in [.int v, .int l, .int h] I J G (PE (some (.int (nI 0))) I J G) := by
  refine amet_en oX7_in rfl rfl (L := [some (.int v), some (.int l), some (.int h)]) rfl ?_
  refine aw_run oX7_in smOk 2 (pc' := 2) (L' := [some (.int v), some (.int l), some (.int h)]) (st' := [.int l, .int v]) (I' := I) (J' := J) (G' := G) rfl ?_
  refine aw_icmp_lt (oX7_in.dec rfl) (tgt := 14) rfl (fun h2 => ?_) (fun h2 => ?_)
  · refine aw_run oX7_in smOk 1 (pc' := 15) (L' := [some (.int v), some (.int l), some (.int h)]) (st' := [.int (nI 0)]) (I' := I) (J' := J) (G' := G) rfl ?_
    exact aw_zret rfl (by first | exact Or.inl rfl | exact Or.inr rfl) (oX7_in.dec rfl) pe_rfl
  · refine aw_run oX7_in smOk 2 (pc' := 7) (L' := [some (.int v), some (.int l), some (.int h)]) (st' := [.int h, .int v]) (I' := I) (J' := J) (G' := G) rfl ?_
    refine aw_icmp_gt (oX7_in.dec rfl) (tgt := 14) rfl (fun h7 => ?_) (fun h7 => absurd ⟨Int32.not_lt.mp h2, Int32.not_lt.mp h7⟩ hn)
    refine aw_run oX7_in smOk 1 (pc' := 15) (L' := [some (.int v), some (.int l), some (.int h)]) (st' := [.int (nI 0)]) (I' := I) (J' := J) (G' := G) rfl ?_
    exact aw_zret rfl (by first | exact Or.inl rfl | exact Or.inr rfl) (oX7_in.dec rfl) pe_rfl
set_option maxRecDepth 20000 in
theorem m_isWeek_t {I : II} {J : JJ} {G : II} {Wk : Nat} (hW : G 2 0 = nI Wk) (hWk : Wk ≤ 12) {j : Nat} (hj : j < Wk) : AMet SM mX7_isWeek [.ref 0, .int (nI j)] I J G (PE (some (.int (nI 1))) I J G) := by
  refine amet_en oX7_isWeek rfl rfl (L := [some (.ref 0), some (.int (nI j))]) rfl ?_
  refine aw_run oX7_isWeek smOk 5 (pc' := 7) (L' := [some (.ref 0), some (.int (nI j))]) (st' := [.int (nI 0), .ref 2, .int (nI 0), .int (nI j)]) (I' := I) (J' := J) (G' := G) rfl ?_
  refine aw_iaN 0 smOk rfl rfl (by omega) (oX7_isWeek.dec rfl) ?_
  refine aw_run oX7_isWeek smOk 2 (pc' := 10) (L' := [some (.ref 0), some (.int (nI j))]) (st' := [.int ((G 2 0) - (nI 1)), .int (nI 0), .int (nI j)]) (I' := I) (J' := J) (G' := G) rfl ?_
  refine aw_eqS (st := [.int (nI (Wk - 1)), .int (nI 0), .int (nI j)]) (by rw [show (G 2 0) - (nI 1) = nI (Wk - 1) from subN hW rfl (by omega)]) ?_
  refine aw_cS (st := []) [.int (nI j), .int (nI 0), .int (nI (Wk - 1))] oX7_in k7_60 rfl rfl rfl rfl rfl (oX7_isWeek.dec rfl) (m_inN (by omega) (by omega) (by omega)) ?_
  refine aw_eqS (st := [.int (b1 (decide (0 ≤ j ∧ j ≤ Wk - 1)))]) rfl ?_
  exact aw_zret rfl (by rw [← b1_t (c := 0 ≤ j ∧ j ≤ Wk - 1) ⟨by omega, by omega⟩]; exact Or.inr rfl) (oX7_isWeek.dec rfl) (pe_i (b1_t ⟨by omega, by omega⟩).symm)
set_option maxRecDepth 20000 in
theorem m_isWeek_f {I : II} {J : JJ} {G : II} {Wk : Nat} (hW : G 2 0 = nI Wk) (hWk : Wk ≤ 12) {x : Int32} (hx : notIn x Wk) : AMet SM mX7_isWeek [.ref 0, .int x] I J G (PE (some (.int (nI 0))) I J G) := by
  refine amet_en oX7_isWeek rfl rfl (L := [some (.ref 0), some (.int x)]) rfl ?_
  refine aw_run oX7_isWeek smOk 5 (pc' := 7) (L' := [some (.ref 0), some (.int x)]) (st' := [.int (nI 0), .ref 2, .int (nI 0), .int x]) (I' := I) (J' := J) (G' := G) rfl ?_
  refine aw_iaN 0 smOk rfl rfl (by omega) (oX7_isWeek.dec rfl) ?_
  refine aw_run oX7_isWeek smOk 2 (pc' := 10) (L' := [some (.ref 0), some (.int x)]) (st' := [.int ((G 2 0) - (nI 1)), .int (nI 0), .int x]) (I' := I) (J' := J) (G' := G) rfl ?_
  refine aw_cS (st := []) [.int x, .int (nI 0), .int ((G 2 0) - (nI 1))] oX7_in k7_60 rfl rfl rfl rfl rfl (oX7_isWeek.dec rfl) (m_inF (by rw [hW]; exact notIn_inW hx (by omega))) ?_
  refine aw_eqS (st := [.int (nI 0)]) rfl ?_
  exact aw_zret rfl (by first | exact Or.inl rfl | exact Or.inr rfl) (oX7_isWeek.dec rfl) pe_rfl
set_option maxRecDepth 20000 in
theorem m_isShip_t {I : II} {J : JJ} {G : II} {P : Nat} (hP : G 5 0 = nI P) (hP5 : P ≤ 5) {j : Nat} (hj : j < P) : AMet SM mX7_isShip [.ref 0, .int (nI j)] I J G (PE (some (.int (nI 1))) I J G) := by
  refine amet_en oX7_isShip rfl rfl (L := [some (.ref 0), some (.int (nI j))]) rfl ?_
  refine aw_run oX7_isShip smOk 5 (pc' := 7) (L' := [some (.ref 0), some (.int (nI j))]) (st' := [.int (nI 0), .ref 5, .int (nI 0), .int (nI j)]) (I' := I) (J' := J) (G' := G) rfl ?_
  refine aw_iaN 0 smOk rfl rfl (by omega) (oX7_isShip.dec rfl) ?_
  refine aw_run oX7_isShip smOk 2 (pc' := 10) (L' := [some (.ref 0), some (.int (nI j))]) (st' := [.int ((G 5 0) - (nI 1)), .int (nI 0), .int (nI j)]) (I' := I) (J' := J) (G' := G) rfl ?_
  refine aw_eqS (st := [.int (nI (P - 1)), .int (nI 0), .int (nI j)]) (by rw [show (G 5 0) - (nI 1) = nI (P - 1) from subN hP rfl (by omega)]) ?_
  refine aw_cS (st := []) [.int (nI j), .int (nI 0), .int (nI (P - 1))] oX7_in k7_60 rfl rfl rfl rfl rfl (oX7_isShip.dec rfl) (m_inN (by omega) (by omega) (by omega)) ?_
  refine aw_eqS (st := [.int (b1 (decide (0 ≤ j ∧ j ≤ P - 1)))]) rfl ?_
  exact aw_zret rfl (by rw [← b1_t (c := 0 ≤ j ∧ j ≤ P - 1) ⟨by omega, by omega⟩]; exact Or.inr rfl) (oX7_isShip.dec rfl) (pe_i (b1_t ⟨by omega, by omega⟩).symm)
set_option maxRecDepth 20000 in
theorem m_isShip_f {I : II} {J : JJ} {G : II} {P : Nat} (hP : G 5 0 = nI P) (hP5 : P ≤ 5) {x : Int32} (hx : notIn x P) : AMet SM mX7_isShip [.ref 0, .int x] I J G (PE (some (.int (nI 0))) I J G) := by
  refine amet_en oX7_isShip rfl rfl (L := [some (.ref 0), some (.int x)]) rfl ?_
  refine aw_run oX7_isShip smOk 5 (pc' := 7) (L' := [some (.ref 0), some (.int x)]) (st' := [.int (nI 0), .ref 5, .int (nI 0), .int x]) (I' := I) (J' := J) (G' := G) rfl ?_
  refine aw_iaN 0 smOk rfl rfl (by omega) (oX7_isShip.dec rfl) ?_
  refine aw_run oX7_isShip smOk 2 (pc' := 10) (L' := [some (.ref 0), some (.int x)]) (st' := [.int ((G 5 0) - (nI 1)), .int (nI 0), .int x]) (I' := I) (J' := J) (G' := G) rfl ?_
  refine aw_cS (st := []) [.int x, .int (nI 0), .int ((G 5 0) - (nI 1))] oX7_in k7_60 rfl rfl rfl rfl rfl (oX7_isShip.dec rfl) (m_inF (by rw [hP]; exact notIn_inW hx (by omega))) ?_
  refine aw_eqS (st := [.int (nI 0)]) rfl ?_
  exact aw_zret rfl (by first | exact Or.inl rfl | exact Or.inr rfl) (oX7_isShip.dec rfl) pe_rfl
set_option maxRecDepth 20000 in
theorem m_all {I : II} {J : JJ} {G : II} {P : Nat} (hP : G 5 0 = nI P) (hP5 : P ≤ 5) : AMet SM mX7_all [.ref 0] I J G (PE (some (.int (nI (2 ^ P - 1)))) I J G) := by
  have hp1 : 0 < 2 ^ P := Nat.pow_pos (by decide)
  refine amet_en oX7_all rfl rfl (L := [some (.ref 0)]) rfl ?_
  refine aw_run oX7_all smOk 4 (pc' := 6) (L' := [some (.ref 0)]) (st' := [.int (nI 0), .ref 5, .int (nI 1)]) (I' := I) (J' := J) (G' := G) rfl ?_
  refine aw_iaN 0 smOk rfl rfl (by omega) (oX7_all.dec rfl) ?_
  refine aw_run oX7_all smOk 3 (pc' := 10) (L' := [some (.ref 0)]) (st' := [.int (((nI 1) <<< ((G 5 0) &&& 31)) - (nI 1))]) (I' := I) (J' := J) (G' := G) rfl ?_
  exact aw_iret rfl (oX7_all.dec rfl) (pe_i (subN (shl1N hP (by omega)) rfl (by omega)))
set_option maxRecDepth 20000 in
theorem m_isOver {I : II} {J : JJ} {G : II} {Wk : Nat} (hW : G 2 0 = nI Wk) (hWk : Wk ≤ 12) {t : Nat} (ht : G 11 0 = nI t) (ht12 : t ≤ 12) (htW : t ≤ Wk) : AMet SM mX7_isOver [.ref 0] I J G (PE (some (.int (b1 (decide (Wk ≤ t))))) I J G) := by
  refine amet_en oX7_isOver rfl rfl (L := [some (.ref 0)]) rfl ?_
  refine aw_run oX7_isOver smOk 3 (pc' := 5) (L' := [some (.ref 0)]) (st' := [.int (nI 0), .ref 11]) (I' := I) (J' := J) (G' := G) rfl ?_
  refine aw_iaN 0 smOk rfl rfl (by omega) (oX7_isOver.dec rfl) ?_
  refine aw_run oX7_isOver smOk 3 (pc' := 11) (L' := [some (.ref 0)]) (st' := [.int (nI 0), .ref 2, .int (G 11 0)]) (I' := I) (J' := J) (G' := G) rfl ?_
  refine aw_iaN 0 smOk rfl rfl (by omega) (oX7_isOver.dec rfl) ?_
  refine aw_neN ht hW (by omega) (by omega) (oX7_isOver.dec rfl) (tgt := 19) rfl (fun h12 => ?_) (fun h12 => ?_)
  · refine aw_run oX7_isOver smOk 1 (pc' := 20) (L' := [some (.ref 0)]) (st' := [.int (nI 0)]) (I' := I) (J' := J) (G' := G) rfl ?_
    exact aw_zret rfl (by first | exact Or.inl rfl | exact Or.inr rfl) (oX7_isOver.dec rfl) (pe_i (b1_f (by omega)))
  · refine aw_run oX7_isOver smOk 2 (pc' := 20) (L' := [some (.ref 0)]) (st' := [.int (nI 1)]) (I' := I) (J' := J) (G' := G) rfl ?_
    exact aw_zret rfl (by first | exact Or.inl rfl | exact Or.inr rfl) (oX7_isOver.dec rfl) (pe_i (b1_t (by omega)))
set_option maxRecDepth 20000 in
theorem m_silver {I : II} {J : JJ} {G : II} {s : Nat} (hs : s < 5) : AMet SM mX7_silver [.ref 0, .int (nI s)] I J G (PE (some (.int (sil (G 11) s))) I J G) := by
  refine amet_en oX7_silver rfl rfl (L := [some (.ref 0), some (.int (nI s))]) rfl ?_
  refine aw_run oX7_silver smOk 5 (pc' := 8) (L' := [some (.ref 0), some (.int (nI s))]) (st' := [.int ((nI 8) + (nI s)), .ref 11]) (I' := I) (J' := J) (G' := G) rfl ?_
  refine aw_iaN (8 + s) smOk rfl (addN rfl rfl) (by omega) (oX7_silver.dec rfl) ?_
  refine aw_run oX7_silver smOk 5 (pc' := 17) (L' := [some (.ref 0), some (.int (nI s))]) (st' := [.int ((nI 13) + (nI s)), .ref 11, .int (G 11 (8 + s))]) (I' := I) (J' := J) (G' := G) rfl ?_
  refine aw_iaN (13 + s) smOk rfl (addN rfl rfl) (by omega) (oX7_silver.dec rfl) ?_
  refine aw_run oX7_silver smOk 1 (pc' := 19) (L' := [some (.ref 0), some (.int (nI s))]) (st' := [.int ((G 11 (8 + s)) + (G 11 (13 + s)))]) (I' := I) (J' := J) (G' := G) rfl ?_
  exact aw_iret rfl (oX7_silver.dec rfl) pe_rfl
set_option maxRecDepth 20000 in
theorem m_manyOf {I : II} {J : JJ} {G : II}  {σ : Nat} (hσ : σ < 32) : AMet SM mX7_manyOf [.int (nI σ)] I J G (PE (some (.int (nI (cntB (fun j => σ.testBit j) 5)))) I J G) := by
  refine amet_en oX7_manyOf rfl rfl (L := [some (.int (nI σ)), none, none]) rfl ?_
  have loop : ∀ (n s : Nat) (x : Int32) (acc : Int32), (s + n = 5) → (x = nI s) → (acc = nI (cntB (fun j => σ.testBit j) s)) → AW SM mX7_manyOf 4 [some (.int (nI σ)), some (.int acc), some (.int x)] [] I J G (PE (some (.int (nI (cntB (fun j => σ.testBit j) 5)))) I J G) := by
    intro n
    induction n with
    | zero =>
      intro s x acc hsn hx hacc
      refine aw_run oX7_manyOf smOk 2 (pc' := 6) (L' := [some (.int (nI σ)), some (.int acc), some (.int x)]) (st' := [.int (nI 5), .int x]) (I' := I) (J' := J) (G' := G) rfl ?_
      refine aw_geN hx rfl (by omega) (by omega) (oX7_manyOf.dec rfl) (tgt := 23) rfl (fun h6 => ?_) (fun h6 => absurd h6 (by omega))
      refine aw_run oX7_manyOf smOk 1 (pc' := 24) (L' := [some (.int (nI σ)), some (.int acc), some (.int x)]) (st' := [.int acc]) (I' := I) (J' := J) (G' := G) rfl ?_
      exact aw_iret rfl (oX7_manyOf.dec rfl) (pe_i (by rw [hacc, show s = 5 by omega]))
    | succ n ih =>
      intro s x acc hsn hx hacc
      refine aw_run oX7_manyOf smOk 2 (pc' := 6) (L' := [some (.int (nI σ)), some (.int acc), some (.int x)]) (st' := [.int (nI 5), .int x]) (I' := I) (J' := J) (G' := G) rfl ?_
      refine aw_geN hx rfl (by omega) (by omega) (oX7_manyOf.dec rfl) (tgt := 23) rfl (fun h6 => absurd h6 (by omega)) (fun h6 => ?_)
      refine aw_run oX7_manyOf smOk 10 (pc' := 4) (L' := [some (.int (nI σ)), some (.int (acc + (((nI σ) >>> (x &&& 31)) &&& (nI 1)))), some (.int (x + (nI 1)))]) (st' := []) (I' := I) (J' := J) (G' := G) rfl ?_
      exact ih (s + 1) _ _ (by omega) (addN hx rfl) ((addN hacc (bitNI rfl hx (by omega) (by omega))).trans (by rw [cntB_add]; rfl))
  refine aw_run oX7_manyOf smOk 4 (pc' := 4) (L' := [some (.int (nI σ)), some (.int (nI 0)), some (.int (nI 0))]) (st' := []) (I' := I) (J' := J) (G' := G) rfl ?_
  exact loop 5 0 _ _ (by omega) rfl rfl
set_option maxRecDepth 20000 in
theorem m_setIn {I : II} {J : JJ} {G : II} {P : Nat} (hP : G 5 0 = nI P) (hP5 : P ≤ 5) {q : Nat} : AMet SM mX7_setIn [.ref 0, .int (nI q)] I J G (PE (some (.int (nI (setN (fun s => decide (G 11 (3 + s) = nI q)) P)))) I J G) := by
  refine amet_en oX7_setIn rfl rfl (L := [some (.ref 0), some (.int (nI q)), none, none]) rfl ?_
  have loop : ∀ (n s : Nat) (x : Int32) (acc : Int32), (s + n = P) → (x = nI s) → (acc = nI (setN (fun s => decide (G 11 (3 + s) = nI q)) s)) → AW SM mX7_setIn 4 [some (.ref 0), some (.int (nI q)), some (.int acc), some (.int x)] [] I J G (PE (some (.int (nI (setN (fun s => decide (G 11 (3 + s) = nI q)) P)))) I J G) := by
    intro n
    induction n with
    | zero =>
      intro s x acc hsn hx hacc
      refine aw_run oX7_setIn smOk 4 (pc' := 10) (L' := [some (.ref 0), some (.int (nI q)), some (.int acc), some (.int x)]) (st' := [.int (nI 0), .ref 5, .int x]) (I' := I) (J' := J) (G' := G) rfl ?_
      refine aw_iaN 0 smOk rfl rfl (by omega) (oX7_setIn.dec rfl) ?_
      refine aw_geN hx hP (by omega) (by omega) (oX7_setIn.dec rfl) (tgt := 42) rfl (fun h11 => ?_) (fun h11 => absurd h11 (by omega))
      refine aw_run oX7_setIn smOk 1 (pc' := 43) (L' := [some (.ref 0), some (.int (nI q)), some (.int acc), some (.int x)]) (st' := [.int acc]) (I' := I) (J' := J) (G' := G) rfl ?_
      exact aw_iret rfl (oX7_setIn.dec rfl) (pe_i (by rw [hacc, show s = P by omega]))
    | succ n ih =>
      intro s x acc hsn hx hacc
      refine aw_run oX7_setIn smOk 4 (pc' := 10) (L' := [some (.ref 0), some (.int (nI q)), some (.int acc), some (.int x)]) (st' := [.int (nI 0), .ref 5, .int x]) (I' := I) (J' := J) (G' := G) rfl ?_
      refine aw_iaN 0 smOk rfl rfl (by omega) (oX7_setIn.dec rfl) ?_
      refine aw_geN hx hP (by omega) (by omega) (oX7_setIn.dec rfl) (tgt := 42) rfl (fun h11 => absurd h11 (by omega)) (fun h11 => ?_)
      refine aw_run oX7_setIn smOk 6 (pc' := 22) (L' := [some (.ref 0), some (.int (nI q)), some (.int acc), some (.int x)]) (st' := [.int ((nI 3) + x), .ref 11, .int acc]) (I' := I) (J' := J) (G' := G) rfl ?_
      refine aw_iaN (3 + s) smOk rfl (addN rfl hx) (by omega) (oX7_setIn.dec rfl) ?_
      refine aw_run oX7_setIn smOk 1 (pc' := 24) (L' := [some (.ref 0), some (.int (nI q)), some (.int acc), some (.int x)]) (st' := [.int (nI q), .int (G 11 (3 + s)), .int acc]) (I' := I) (J' := J) (G' := G) rfl ?_
      refine aw_icmp_ne (oX7_setIn.dec rfl) (tgt := 33) rfl (fun h24 => ?_) (fun h24 => ?_)
      · refine aw_run oX7_setIn smOk 5 (pc' := 4) (L' := [some (.ref 0), some (.int (nI q)), some (.int (acc ||| (nI 0))), some (.int (x + (nI 1)))]) (st' := []) (I' := I) (J' := J) (G' := G) rfl ?_
        exact ih (s + 1) _ _ (by omega) (addN hx rfl) ((orN hacc rfl).trans (by rw [Nat.or_zero, ← setN_no (q := fun s => decide (G 11 (3 + s) = nI q)) (by simpa using h24)]))
      · refine aw_run oX7_setIn smOk 8 (pc' := 4) (L' := [some (.ref 0), some (.int (nI q)), some (.int (acc ||| ((nI 1) <<< (x &&& 31)))), some (.int (x + (nI 1)))]) (st' := []) (I' := I) (J' := J) (G' := G) rfl ?_
        exact ih (s + 1) _ _ (by omega) (addN hx rfl) ((orN hacc (shl1N hx (by omega))).trans (by rw [setN_or (q := fun s => decide (G 11 (3 + s) = nI q)) (by simpa using h24)]))
  refine aw_run oX7_setIn smOk 4 (pc' := 4) (L' := [some (.ref 0), some (.int (nI q)), some (.int (nI 0)), some (.int (nI 0))]) (st' := []) (I' := I) (J' := J) (G' := G) rfl ?_
  exact loop P 0 _ _ (by omega) rfl rfl
set_option maxRecDepth 20000 in
theorem m_silverOf {I : II} {J : JJ} {G : II} {P : Nat} (hP : G 5 0 = nI P) (hP5 : P ≤ 5) {σ : Nat} (hσ : σ < 32) : AMet SM mX7_silverOf [.ref 0, .int (nI σ)] I J G (PE (some (.int (sumS (sil (G 11)) σ P))) I J G) := by
  refine amet_en oX7_silverOf rfl rfl (L := [some (.ref 0), some (.int (nI σ)), none, none]) rfl ?_
  have loop : ∀ (n s : Nat) (x : Int32) (acc : Int32), (s + n = P) → (x = nI s) → (acc = sumS (sil (G 11)) σ s) → AW SM mX7_silverOf 4 [some (.ref 0), some (.int (nI σ)), some (.int acc), some (.int x)] [] I J G (PE (some (.int (sumS (sil (G 11)) σ P))) I J G) := by
    intro n
    induction n with
    | zero =>
      intro s x acc hsn hx hacc
      refine aw_run oX7_silverOf smOk 4 (pc' := 10) (L' := [some (.ref 0), some (.int (nI σ)), some (.int acc), some (.int x)]) (st' := [.int (nI 0), .ref 5, .int x]) (I' := I) (J' := J) (G' := G) rfl ?_
      refine aw_iaN 0 smOk rfl rfl (by omega) (oX7_silverOf.dec rfl) ?_
      refine aw_geN hx hP (by omega) (by omega) (oX7_silverOf.dec rfl) (tgt := 41) rfl (fun h11 => ?_) (fun h11 => absurd h11 (by omega))
      refine aw_run oX7_silverOf smOk 1 (pc' := 42) (L' := [some (.ref 0), some (.int (nI σ)), some (.int acc), some (.int x)]) (st' := [.int acc]) (I' := I) (J' := J) (G' := G) rfl ?_
      exact aw_iret rfl (oX7_silverOf.dec rfl) (pe_i (by rw [hacc, show s = P by omega]))
    | succ n ih =>
      intro s x acc hsn hx hacc
      refine aw_run oX7_silverOf smOk 4 (pc' := 10) (L' := [some (.ref 0), some (.int (nI σ)), some (.int acc), some (.int x)]) (st' := [.int (nI 0), .ref 5, .int x]) (I' := I) (J' := J) (G' := G) rfl ?_
      refine aw_iaN 0 smOk rfl rfl (by omega) (oX7_silverOf.dec rfl) ?_
      refine aw_geN hx hP (by omega) (by omega) (oX7_silverOf.dec rfl) (tgt := 41) rfl (fun h11 => absurd h11 (by omega)) (fun h11 => ?_)
      refine aw_run oX7_silverOf smOk 7 (pc' := 21) (L' := [some (.ref 0), some (.int (nI σ)), some (.int acc), some (.int x)]) (st' := [.int (nI 1), .int (((nI σ) >>> (x &&& 31)) &&& (nI 1)), .int acc]) (I' := I) (J' := J) (G' := G) rfl ?_
      refine aw_neN (bitNI rfl hx (by omega) (by omega)) rfl (bitN_b _ _) (by omega) (oX7_silverOf.dec rfl) (tgt := 32) rfl (fun h21 => ?_) (fun h21 => ?_)
      · refine aw_run oX7_silverOf smOk 5 (pc' := 4) (L' := [some (.ref 0), some (.int (nI σ)), some (.int (acc + (nI 0))), some (.int (x + (nI 1)))]) (st' := []) (I' := I) (J' := J) (G' := G) rfl ?_
        exact ih (s + 1) _ _ (by omega) (addN hx rfl) (by rw [hacc, show ∀ z : Int32, z + nI 0 = z from fun z => Int32.add_zero z]; exact sumC_f (q := fun j => σ.testBit j) (by rw [bitN_n1 h21]; decide))
      · refine aw_run oX7_silverOf smOk 2 (pc' := 26) (L' := [some (.ref 0), some (.int (nI σ)), some (.int acc), some (.int x)]) (st' := [.int x, .ref 0, .int acc]) (I' := I) (J' := J) (G' := G) rfl ?_
        refine aw_eqS (st := [.int (nI s), .ref 0, .int acc]) (by rw [show x = nI s from hx]) ?_
        refine aw_cV (st := [.int acc]) 0 [.int (nI s)] oX7_silver k7_110 rfl rfl rfl rfl rfl rfl rfl rfl (oX7_silverOf.dec rfl) (m_silver (by omega)) ?_
        refine aw_eqS (st := [.int (sil (G 11) s), .int acc]) rfl ?_
        refine aw_run oX7_silverOf smOk 5 (pc' := 4) (L' := [some (.ref 0), some (.int (nI σ)), some (.int (acc + (sil (G 11) s))), some (.int (x + (nI 1)))]) (st' := []) (I' := I) (J' := J) (G' := G) rfl ?_
        exact ih (s + 1) _ _ (by omega) (addN hx rfl) (by rw [hacc]; exact sumC_t (x := sil (G 11)) (q := fun j => σ.testBit j) (bitN_1 h21))
  refine aw_run oX7_silverOf smOk 4 (pc' := 4) (L' := [some (.ref 0), some (.int (nI σ)), some (.int (nI 0)), some (.int (nI 0))]) (st' := []) (I' := I) (J' := J) (G' := G) rfl ?_
  exact loop P 0 _ _ (by omega) rfl rfl
set_option maxRecDepth 20000 in
theorem m_takenOf {I : II} {J : JJ} {G : II} {P : Nat} (hP : G 5 0 = nI P) (hP5 : P ≤ 5) {σ w : Nat} (hσ : σ < 32) (hw : w < 12) : AMet SM mX7_takenOf [.ref 0, .int (nI σ), .int (nI w)] I J G (PE (some (.int (encO (tak (G 11) (G 8) (G 4 w) P σ)))) I J G) := by
  refine amet_en oX7_takenOf rfl rfl (L := [some (.ref 0), some (.int (nI σ)), some (.int (nI w)), none, none, none]) rfl ?_
  have loop : ∀ (n s : Nat) (x : Int32) (g : Int32) (r : Int32), (s + n = P) → (x = nI s) → (g = sumS (G 8) σ s) → (r = encO (rich (G 11) σ s)) → AW SM mX7_takenOf 9 [some (.ref 0), some (.int (nI σ)), some (.int (nI w)), some (.int g), some (.int r), some (.int x)] [] I J G (PE (some (.int (encO (tak (G 11) (G 8) (G 4 w) P σ)))) I J G) := by
    intro n
    induction n with
    | zero =>
      intro s x g r hsn hx hg hr
      refine aw_run oX7_takenOf smOk 4 (pc' := 16) (L' := [some (.ref 0), some (.int (nI σ)), some (.int (nI w)), some (.int g), some (.int r), some (.int x)]) (st' := [.int (nI 0), .ref 5, .int x]) (I' := I) (J' := J) (G' := G) rfl ?_
      refine aw_iaN 0 smOk rfl rfl (by omega) (oX7_takenOf.dec rfl) ?_
      refine aw_geN hx hP (by omega) (by omega) (oX7_takenOf.dec rfl) (tgt := 77) rfl (fun h17 => ?_) (fun h17 => absurd h17 (by omega))
      refine aw_run oX7_takenOf smOk 4 (pc' := 83) (L' := [some (.ref 0), some (.int (nI σ)), some (.int (nI w)), some (.int g), some (.int r), some (.int x)]) (st' := [.int (nI w), .ref 4, .int g]) (I' := I) (J' := J) (G' := G) rfl ?_
      refine aw_iaN w smOk rfl rfl (by omega) (oX7_takenOf.dec rfl) ?_
      refine aw_icmp_ge (oX7_takenOf.dec rfl) (tgt := 92) rfl (fun h84 => ?_) (fun h84 => ?_)
      · refine aw_run oX7_takenOf smOk 1 (pc' := 94) (L' := [some (.ref 0), some (.int (nI σ)), some (.int (nI w)), some (.int g), some (.int r), some (.int x)]) (st' := [.int (-nI 9)]) (I' := I) (J' := J) (G' := G) rfl ?_
        exact aw_iret rfl (oX7_takenOf.dec rfl) (pe_i (by unfold tak; rw [if_neg (by rw [← show s = P by omega, ← hg]; exact Int32.not_lt.mpr h84)]; rfl))
      · refine aw_run oX7_takenOf smOk 2 (pc' := 94) (L' := [some (.ref 0), some (.int (nI σ)), some (.int (nI w)), some (.int g), some (.int r), some (.int x)]) (st' := [.int r]) (I' := I) (J' := J) (G' := G) rfl ?_
        exact aw_iret rfl (oX7_takenOf.dec rfl) (pe_i (by unfold tak; rw [if_pos (by rw [← show s = P by omega, ← hg]; exact Int32.not_le.mp h84), ← show s = P by omega]; exact hr))
    | succ n ih =>
      intro s x g r hsn hx hg hr
      have hnone : r = -nI 9 → rich (G 11) σ s = none := fun h => enc_none hr h (fun q hq => (rich_lt hq).1) (by omega)
      have hsome : ¬ r = -nI 9 → ∃ r0, rich (G 11) σ s = some r0 ∧ r0 < s := fun h => by
        cases hc : rich (G 11) σ s with
        | none => rw [hc] at hr; exact absurd hr h
        | some r0 => exact ⟨r0, rfl, (rich_lt hc).1⟩
      refine aw_run oX7_takenOf smOk 4 (pc' := 16) (L' := [some (.ref 0), some (.int (nI σ)), some (.int (nI w)), some (.int g), some (.int r), some (.int x)]) (st' := [.int (nI 0), .ref 5, .int x]) (I' := I) (J' := J) (G' := G) rfl ?_
      refine aw_iaN 0 smOk rfl rfl (by omega) (oX7_takenOf.dec rfl) ?_
      refine aw_geN hx hP (by omega) (by omega) (oX7_takenOf.dec rfl) (tgt := 77) rfl (fun h17 => absurd h17 (by omega)) (fun h17 => ?_)
      refine aw_run oX7_takenOf smOk 6 (pc' := 27) (L' := [some (.ref 0), some (.int (nI σ)), some (.int (nI w)), some (.int g), some (.int r), some (.int x)]) (st' := [.int (nI 1), .int (((nI σ) >>> (x &&& 31)) &&& (nI 1))]) (I' := I) (J' := J) (G' := G) rfl ?_
      refine aw_neN (bitNI rfl hx (by omega) (by omega)) rfl (bitN_b _ _) (by omega) (oX7_takenOf.dec rfl) (tgt := 71) rfl (fun h27 => ?_) (fun h27 => ?_)
      · refine aw_run oX7_takenOf smOk 2 (pc' := 9) (L' := [some (.ref 0), some (.int (nI σ)), some (.int (nI w)), some (.int g), some (.int r), some (.int (x + (nI 1)))]) (st' := []) (I' := I) (J' := J) (G' := G) rfl ?_
        exact ih (s + 1) _ _ _ (by omega) (addN hx rfl) (hg.trans (sumC_f (q := fun j => σ.testBit j) (by rw [bitN_n1 h27]; decide))) (by rw [hr, rich_no (bitN_n1 h27)])
      · refine aw_run oX7_takenOf smOk 4 (pc' := 37) (L' := [some (.ref 0), some (.int (nI σ)), some (.int (nI w)), some (.int g), some (.int r), some (.int x)]) (st' := [.int x, .ref 8, .int g]) (I' := I) (J' := J) (G' := G) rfl ?_
        refine aw_iaN s smOk rfl hx (by omega) (oX7_takenOf.dec rfl) ?_
        refine aw_run oX7_takenOf smOk 4 (pc' := 44) (L' := [some (.ref 0), some (.int (nI σ)), some (.int (nI w)), some (.int (g + (G 8 s))), some (.int r), some (.int x)]) (st' := [.int (-nI 9), .int r]) (I' := I) (J' := J) (G' := G) rfl ?_
        refine aw_icmp_eq (oX7_takenOf.dec rfl) (tgt := 62) rfl (fun h44 => ?_) (fun h44 => ?_)
        · refine aw_run oX7_takenOf smOk 5 (pc' := 9) (L' := [some (.ref 0), some (.int (nI σ)), some (.int (nI w)), some (.int (g + (G 8 s))), some (.int x), some (.int (x + (nI 1)))]) (st' := []) (I' := I) (J' := J) (G' := G) rfl ?_
          exact ih (s + 1) _ _ _ (by omega) (addN hx rfl) (by rw [hg]; exact sumC_t (x := G 8) (q := fun j => σ.testBit j) (bitN_1 h27)) (by rw [rich_first (bitN_1 h27) (hnone h44)]; exact hx)
        · obtain ⟨r0, hrr, hr0⟩ := hsome h44
          refine aw_run oX7_takenOf smOk 2 (pc' := 50) (L' := [some (.ref 0), some (.int (nI σ)), some (.int (nI w)), some (.int (g + (G 8 s))), some (.int r), some (.int x)]) (st' := [.int x, .ref 0]) (I' := I) (J' := J) (G' := G) rfl ?_
          refine aw_eqS (st := [.int (nI s), .ref 0]) (by rw [show x = nI s from hx]) ?_
          refine aw_cV (st := []) 0 [.int (nI s)] oX7_silver k7_110 rfl rfl rfl rfl rfl rfl rfl rfl (oX7_takenOf.dec rfl) (m_silver (by omega)) ?_
          refine aw_eqS (st := [.int (sil (G 11) s)]) rfl ?_
          refine aw_run oX7_takenOf smOk 2 (pc' := 56) (L' := [some (.ref 0), some (.int (nI σ)), some (.int (nI w)), some (.int (g + (G 8 s))), some (.int r), some (.int x)]) (st' := [.int r, .ref 0, .int (sil (G 11) s)]) (I' := I) (J' := J) (G' := G) rfl ?_
          refine aw_eqS (st := [.int (nI r0), .ref 0, .int (sil (G 11) s)]) (by rw [hr, hrr]; rfl) ?_
          refine aw_cV (st := [.int (sil (G 11) s)]) 0 [.int (nI r0)] oX7_silver k7_110 rfl rfl rfl rfl rfl rfl rfl rfl (oX7_takenOf.dec rfl) (m_silver (by omega)) ?_
          refine aw_eqS (st := [.int (sil (G 11) r0), .int (sil (G 11) s)]) rfl ?_
          refine aw_icmp_le (oX7_takenOf.dec rfl) (tgt := 67) rfl (fun h59 => ?_) (fun h59 => ?_)
          · refine aw_run oX7_takenOf smOk 4 (pc' := 9) (L' := [some (.ref 0), some (.int (nI σ)), some (.int (nI w)), some (.int (g + (G 8 s))), some (.int r), some (.int (x + (nI 1)))]) (st' := []) (I' := I) (J' := J) (G' := G) rfl ?_
            exact ih (s + 1) _ _ _ (by omega) (addN hx rfl) (by rw [hg]; exact sumC_t (x := G 8) (q := fun j => σ.testBit j) (bitN_1 h27)) (by rw [hr, rich_keep (bitN_1 h27) hrr h59])
          · refine aw_run oX7_takenOf smOk 5 (pc' := 9) (L' := [some (.ref 0), some (.int (nI σ)), some (.int (nI w)), some (.int (g + (G 8 s))), some (.int x), some (.int (x + (nI 1)))]) (st' := []) (I' := I) (J' := J) (G' := G) rfl ?_
            exact ih (s + 1) _ _ _ (by omega) (addN hx rfl) (by rw [hg]; exact sumC_t (x := G 8) (q := fun j => σ.testBit j) (bitN_1 h27)) (by rw [rich_take (bitN_1 h27) hrr h59]; exact hx)
  refine aw_run oX7_takenOf smOk 6 (pc' := 9) (L' := [some (.ref 0), some (.int (nI σ)), some (.int (nI w)), some (.int (nI 0)), some (.int (-nI 9)), some (.int (nI 0))]) (st' := []) (I' := I) (J' := J) (G' := G) rfl ?_
  exact loop P 0 _ _ _ (by omega) rfl rfl rfl
end
section
set_option maxRecDepth 20000 in
theorem m_worthOf {I : II} {J : JJ} {G : II} {P : Nat} (hP : G 5 0 = nI P) (hP5 : P ≤ 5) {σ w : Nat} (hσ : σ < 32) (hw : w < 12) : AMet SM mX7_worthOf [.ref 0, .int (nI σ), .int (nI w)] I J G (PE (some (.int (wor (G 11) (G 8) (G 4 w) (G 3 w) P σ))) I J G) := by
  refine amet_en oX7_worthOf rfl rfl (L := [some (.ref 0), some (.int (nI σ)), some (.int (nI w)), none]) rfl ?_
  cases htk : tak (G 11) (G 8) (G 4 w) P σ with
  | none =>
    refine aw_run oX7_worthOf smOk 3 (pc' := 3) (L' := [some (.ref 0), some (.int (nI σ)), some (.int (nI w)), none]) (st' := [.int (nI w), .int (nI σ), .ref 0]) (I' := I) (J' := J) (G' := G) rfl ?_
    refine aw_cV (st := []) 0 [.int (nI σ), .int (nI w)] oX7_takenOf k7_144 rfl rfl rfl rfl rfl rfl rfl rfl (oX7_worthOf.dec rfl) (m_takenOf hP (by omega) (by omega) (by omega)) ?_
    refine aw_eqS (st := [.int (encO (tak (G 11) (G 8) (G 4 w) P σ))]) rfl ?_
    refine aw_eqS (st := [.int (-nI 9)]) (by rw [htk]; rfl) ?_
    refine aw_run oX7_worthOf smOk 3 (pc' := 9) (L' := [some (.ref 0), some (.int (nI σ)), some (.int (nI w)), some (.int (-nI 9))]) (st' := [.int (nI σ), .ref 0]) (I' := I) (J' := J) (G' := G) rfl ?_
    refine aw_cV (st := []) 0 [.int (nI σ)] oX7_silverOf k7_154 rfl rfl rfl rfl rfl rfl rfl rfl (oX7_worthOf.dec rfl) (m_silverOf hP (by omega) (by omega)) ?_
    refine aw_eqS (st := [.int (sumS (sil (G 11)) σ P)]) rfl ?_
    refine aw_run oX7_worthOf smOk 2 (pc' := 15) (L' := [some (.ref 0), some (.int (nI σ)), some (.int (nI w)), some (.int (-nI 9))]) (st' := [.int (-nI 9), .int (-nI 9), .int (sumS (sil (G 11)) σ P)]) (I' := I) (J' := J) (G' := G) rfl ?_
    refine aw_icmp_ne (oX7_worthOf.dec rfl) (tgt := 22) rfl (fun h15 => absurd h15 (by decide)) (fun h15 => ?_)
    refine aw_run oX7_worthOf smOk 7 (pc' := 35) (L' := [some (.ref 0), some (.int (nI σ)), some (.int (nI w)), some (.int (-nI 9))]) (st' := [.int (nI w), .ref 3, .int (nI 10), .int ((sumS (sil (G 11)) σ P) - (nI 0))]) (I' := I) (J' := J) (G' := G) rfl ?_
    refine aw_iaN w smOk rfl rfl (by omega) (oX7_worthOf.dec rfl) ?_
    refine aw_run oX7_worthOf smOk 2 (pc' := 38) (L' := [some (.ref 0), some (.int (nI σ)), some (.int (nI w)), some (.int (-nI 9))]) (st' := [.int (((sumS (sil (G 11)) σ P) - (nI 0)) * ((nI 10) - (G 3 w)))]) (I' := I) (J' := J) (G' := G) rfl ?_
    exact aw_iret rfl (oX7_worthOf.dec rfl) (pe_i (by unfold wor; rw [htk]; rfl))
  | some r =>
    have hr := (tak_lt htk).1
    refine aw_run oX7_worthOf smOk 3 (pc' := 3) (L' := [some (.ref 0), some (.int (nI σ)), some (.int (nI w)), none]) (st' := [.int (nI w), .int (nI σ), .ref 0]) (I' := I) (J' := J) (G' := G) rfl ?_
    refine aw_cV (st := []) 0 [.int (nI σ), .int (nI w)] oX7_takenOf k7_144 rfl rfl rfl rfl rfl rfl rfl rfl (oX7_worthOf.dec rfl) (m_takenOf hP (by omega) (by omega) (by omega)) ?_
    refine aw_eqS (st := [.int (encO (tak (G 11) (G 8) (G 4 w) P σ))]) rfl ?_
    refine aw_eqS (st := [.int (nI r)]) (by rw [htk]; rfl) ?_
    refine aw_run oX7_worthOf smOk 3 (pc' := 9) (L' := [some (.ref 0), some (.int (nI σ)), some (.int (nI w)), some (.int (nI r))]) (st' := [.int (nI σ), .ref 0]) (I' := I) (J' := J) (G' := G) rfl ?_
    refine aw_cV (st := []) 0 [.int (nI σ)] oX7_silverOf k7_154 rfl rfl rfl rfl rfl rfl rfl rfl (oX7_worthOf.dec rfl) (m_silverOf hP (by omega) (by omega)) ?_
    refine aw_eqS (st := [.int (sumS (sil (G 11)) σ P)]) rfl ?_
    refine aw_run oX7_worthOf smOk 2 (pc' := 15) (L' := [some (.ref 0), some (.int (nI σ)), some (.int (nI w)), some (.int (nI r))]) (st' := [.int (-nI 9), .int (nI r), .int (sumS (sil (G 11)) σ P)]) (I' := I) (J' := J) (G' := G) rfl ?_
    refine aw_icmp_ne (oX7_worthOf.dec rfl) (tgt := 22) rfl (fun h15 => ?_) (fun h15 => absurd h15 (nI_n9 (by omega)))
    refine aw_run oX7_worthOf smOk 2 (pc' := 24) (L' := [some (.ref 0), some (.int (nI σ)), some (.int (nI w)), some (.int (nI r))]) (st' := [.int (nI r), .ref 0, .int (sumS (sil (G 11)) σ P)]) (I' := I) (J' := J) (G' := G) rfl ?_
    refine aw_cV (st := [.int (sumS (sil (G 11)) σ P)]) 0 [.int (nI r)] oX7_silver k7_110 rfl rfl rfl rfl rfl rfl rfl rfl (oX7_worthOf.dec rfl) (m_silver (by omega)) ?_
    refine aw_eqS (st := [.int (sil (G 11) r), .int (sumS (sil (G 11)) σ P)]) rfl ?_
    refine aw_run oX7_worthOf smOk 5 (pc' := 35) (L' := [some (.ref 0), some (.int (nI σ)), some (.int (nI w)), some (.int (nI r))]) (st' := [.int (nI w), .ref 3, .int (nI 10), .int ((sumS (sil (G 11)) σ P) - (sil (G 11) r))]) (I' := I) (J' := J) (G' := G) rfl ?_
    refine aw_iaN w smOk rfl rfl (by omega) (oX7_worthOf.dec rfl) ?_
    refine aw_run oX7_worthOf smOk 2 (pc' := 38) (L' := [some (.ref 0), some (.int (nI σ)), some (.int (nI w)), some (.int (nI r))]) (st' := [.int (((sumS (sil (G 11)) σ P) - (sil (G 11) r)) * ((nI 10) - (G 3 w)))]) (I' := I) (J' := J) (G' := G) rfl ?_
    exact aw_iret rfl (oX7_worthOf.dec rfl) (pe_i (by unfold wor; rw [htk]; rfl))
set_option maxRecDepth 20000 in
theorem m_draw {I : II} {J : JJ} {G : II} {s t z : Nat} (hs : s < 5) (ht : G 11 0 = nI t) (ht12 : t ≤ 12) (hz : z ≤ 9999) : AMet SM mX7_draw [.ref 0, .int (nI z), .int (nI s)] I J G (PE (some (.int (nI (dN z s t)))) I J G) := by
  refine amet_en oX7_draw rfl rfl (L := [some (.ref 0), some (.int (nI z)), some (.int (nI s)), none, none]) rfl ?_
  refine aw_run oX7_draw smOk 13 (pc' := 21) (L' := [some (.ref 0), some (.int (nI z)), some (.int (nI s)), none, none]) (st' := [.int (nI 0), .ref 11, .long (12289 : Int64), .long (((7919 : Int64) * ((nI z).toInt64)) + ((6151 : Int64) * ((nI s).toInt64)))]) (I' := I) (J' := J) (G' := G) rfl ?_
  refine aw_iaN 0 smOk rfl rfl (by omega) (oX7_draw.dec rfl) ?_
  refine aw_run oX7_draw smOk 10 (pc' := 34) (L' := [some (.ref 0), some (.int (nI z)), some (.int (nI s)), some (.long (((((7919 : Int64) * ((nI z).toInt64)) + ((6151 : Int64) * ((nI s).toInt64))) + ((12289 : Int64) * ((G 11 0).toInt64))) + (Int64.ofNat 1))), none]) (st' := [.long (65521 : Int64), .long ((((((7919 : Int64) * ((nI z).toInt64)) + ((6151 : Int64) * ((nI s).toInt64))) + ((12289 : Int64) * ((G 11 0).toInt64))) + (Int64.ofNat 1)) * (((((7919 : Int64) * ((nI z).toInt64)) + ((6151 : Int64) * ((nI s).toInt64))) + ((12289 : Int64) * ((G 11 0).toInt64))) + (Int64.ofNat 1)))]) (I' := I) (J' := J) (G' := G) rfl ?_
  refine aw_lrem (by decide) (oX7_draw.dec rfl) ?_
  refine aw_run oX7_draw smOk 2 (pc' := 38) (L' := [some (.ref 0), some (.int (nI z)), some (.int (nI s)), some (.long (((((7919 : Int64) * ((nI z).toInt64)) + ((6151 : Int64) * ((nI s).toInt64))) + ((12289 : Int64) * ((G 11 0).toInt64))) + (Int64.ofNat 1))), none]) (st' := [.int (nI 8), .int ((((((((7919 : Int64) * ((nI z).toInt64)) + ((6151 : Int64) * ((nI s).toInt64))) + ((12289 : Int64) * ((G 11 0).toInt64))) + (Int64.ofNat 1)) * (((((7919 : Int64) * ((nI z).toInt64)) + ((6151 : Int64) * ((nI s).toInt64))) + ((12289 : Int64) * ((G 11 0).toInt64))) + (Int64.ofNat 1))) - ((((((7919 : Int64) * ((nI z).toInt64)) + ((6151 : Int64) * ((nI s).toInt64))) + ((12289 : Int64) * ((G 11 0).toInt64))) + (Int64.ofNat 1)) * (((((7919 : Int64) * ((nI z).toInt64)) + ((6151 : Int64) * ((nI s).toInt64))) + ((12289 : Int64) * ((G 11 0).toInt64))) + (Int64.ofNat 1))) / (65521 : Int64) * (65521 : Int64)).toInt32)]) (I' := I) (J' := J) (G' := G) rfl ?_
  refine aw_idiv (by decide) (oX7_draw.dec rfl) ?_
  refine aw_run oX7_draw smOk 1 (pc' := 41) (L' := [some (.ref 0), some (.int (nI z)), some (.int (nI s)), some (.long (((((7919 : Int64) * ((nI z).toInt64)) + ((6151 : Int64) * ((nI s).toInt64))) + ((12289 : Int64) * ((G 11 0).toInt64))) + (Int64.ofNat 1))), none]) (st' := [.int (nI 10), .int (((((((((7919 : Int64) * ((nI z).toInt64)) + ((6151 : Int64) * ((nI s).toInt64))) + ((12289 : Int64) * ((G 11 0).toInt64))) + (Int64.ofNat 1)) * (((((7919 : Int64) * ((nI z).toInt64)) + ((6151 : Int64) * ((nI s).toInt64))) + ((12289 : Int64) * ((G 11 0).toInt64))) + (Int64.ofNat 1))) - ((((((7919 : Int64) * ((nI z).toInt64)) + ((6151 : Int64) * ((nI s).toInt64))) + ((12289 : Int64) * ((G 11 0).toInt64))) + (Int64.ofNat 1)) * (((((7919 : Int64) * ((nI z).toInt64)) + ((6151 : Int64) * ((nI s).toInt64))) + ((12289 : Int64) * ((G 11 0).toInt64))) + (Int64.ofNat 1))) / (65521 : Int64) * (65521 : Int64)).toInt32) / (nI 8))]) (I' := I) (J' := J) (G' := G) rfl ?_
  refine aw_irem (by decide) (oX7_draw.dec rfl) ?_
  exact aw_iret rfl (oX7_draw.dec rfl) (pe_i (remN (divN (by rw [ht]; exact draw_m z s t (by omega) (by omega) (by omega) _ (dq_eq z s t (by omega) (by omega) (by omega))) rfl (by have := Nat.mod_lt ((7919 * z + 6151 * s + 12289 * t + 1) * (7919 * z + 6151 * s + 12289 * t + 1)) (show 0 < 65521 by decide); omega) (by decide) (by decide)) rfl (by have := Nat.mod_lt ((7919 * z + 6151 * s + 12289 * t + 1) * (7919 * z + 6151 * s + 12289 * t + 1)) (show 0 < 65521 by decide); omega) (by decide) (by decide)))
set_option maxRecDepth 20000 in
theorem m_mayGo {I : II} {J : JJ} {G : II} {P : Nat} (hP : G 5 0 = nI P) (hP5 : P ≤ 5) {σ w : Nat} (hσ : σ < 32) : AMet SM mX7_mayGo [.ref 0, .int (nI σ), .int (nI w)] I J G (PE (some (.int (b1 (allB (q1 (G 9) σ w) P)))) I J G) := by
  refine amet_en oX7_mayGo rfl rfl (L := [some (.ref 0), some (.int (nI σ)), some (.int (nI w)), none, none]) rfl ?_
  have loop : ∀ (n s : Nat) (x : Int32) (y : Int32), (s + n = P) → (x = nI s) → (y = b1 (allB (q1 (G 9) σ w) s)) → AW SM mX7_mayGo 5 [some (.ref 0), some (.int (nI σ)), some (.int (nI w)), some (.int y), some (.int x)] [] I J G (PE (some (.int (b1 (allB (q1 (G 9) σ w) P)))) I J G) := by
    intro n
    induction n with
    | zero =>
      intro s x y hsn hx hy
      refine aw_run oX7_mayGo smOk 4 (pc' := 12) (L' := [some (.ref 0), some (.int (nI σ)), some (.int (nI w)), some (.int y), some (.int x)]) (st' := [.int (nI 0), .ref 5, .int x]) (I' := I) (J' := J) (G' := G) rfl ?_
      refine aw_iaN 0 smOk rfl rfl (by omega) (oX7_mayGo.dec rfl) ?_
      refine aw_geN hx hP (by omega) (by omega) (oX7_mayGo.dec rfl) (tgt := 52) rfl (fun h13 => ?_) (fun h13 => absurd h13 (by omega))
      refine aw_run oX7_mayGo smOk 1 (pc' := 53) (L' := [some (.ref 0), some (.int (nI σ)), some (.int (nI w)), some (.int y), some (.int x)]) (st' := [.int y]) (I' := I) (J' := J) (G' := G) rfl ?_
      exact aw_zret rfl (by rw [hy]; exact b1_01 _) (oX7_mayGo.dec rfl) (pe_i (by rw [hy, show s = P by omega]))
    | succ n ih =>
      intro s x y hsn hx hy
      refine aw_run oX7_mayGo smOk 4 (pc' := 12) (L' := [some (.ref 0), some (.int (nI σ)), some (.int (nI w)), some (.int y), some (.int x)]) (st' := [.int (nI 0), .ref 5, .int x]) (I' := I) (J' := J) (G' := G) rfl ?_
      refine aw_iaN 0 smOk rfl rfl (by omega) (oX7_mayGo.dec rfl) ?_
      refine aw_geN hx hP (by omega) (by omega) (oX7_mayGo.dec rfl) (tgt := 52) rfl (fun h13 => absurd h13 (by omega)) (fun h13 => ?_)
      refine aw_run oX7_mayGo smOk 1 (pc' := 17) (L' := [some (.ref 0), some (.int (nI σ)), some (.int (nI w)), some (.int y), some (.int x)]) (st' := [.int y]) (I' := I) (J' := J) (G' := G) rfl ?_
      refine aw_if_eq (oX7_mayGo.dec rfl) (tgt := 44) rfl (fun h17 => ?_) (fun h17 => ?_)
      · refine aw_run oX7_mayGo smOk 4 (pc' := 5) (L' := [some (.ref 0), some (.int (nI σ)), some (.int (nI w)), some (.int (nI 0)), some (.int (x + (nI 1)))]) (st' := []) (I' := I) (J' := J) (G' := G) rfl ?_
        exact ih (s + 1) _ _ (by omega) (addN hx rfl) (by rw [show allB (q1 (G 9) σ w) (s + 1) = false by unfold allB; rw [b1_0.mp (hy.symm.trans h17)]; rfl]; rfl)
      · refine aw_run oX7_mayGo smOk 5 (pc' := 26) (L' := [some (.ref 0), some (.int (nI σ)), some (.int (nI w)), some (.int y), some (.int x)]) (st' := [.int (((nI σ) >>> (x &&& 31)) &&& (nI 1))]) (I' := I) (J' := J) (G' := G) rfl ?_
        refine aw_0eqN (bitNI rfl hx (by omega) (by omega)) (bitN_b _ _) (oX7_mayGo.dec rfl) (tgt := 40) rfl (fun h26 => ?_) (fun h26 => ?_)
        · refine aw_run oX7_mayGo smOk 5 (pc' := 5) (L' := [some (.ref 0), some (.int (nI σ)), some (.int (nI w)), some (.int (nI 1)), some (.int (x + (nI 1)))]) (st' := []) (I' := I) (J' := J) (G' := G) rfl ?_
          exact ih (s + 1) _ _ (by omega) (addN hx rfl) (by unfold allB; rw [show allB (q1 (G 9) σ w) s = true from ts_nf (fun e => h17 (hy.trans (by rw [e]; rfl))), show q1 (G 9) σ w s = true by unfold q1; rw [bitN_0 h26]; rfl]; rfl)
        · refine aw_run oX7_mayGo smOk 3 (pc' := 35) (L' := [some (.ref 0), some (.int (nI σ)), some (.int (nI w)), some (.int y), some (.int x)]) (st' := [.int x, .ref 9]) (I' := I) (J' := J) (G' := G) rfl ?_
          refine aw_iaN s smOk rfl hx (by omega) (oX7_mayGo.dec rfl) ?_
          refine aw_run oX7_mayGo smOk 1 (pc' := 37) (L' := [some (.ref 0), some (.int (nI σ)), some (.int (nI w)), some (.int y), some (.int x)]) (st' := [.int (nI w), .int (G 9 s)]) (I' := I) (J' := J) (G' := G) rfl ?_
          refine aw_icmp_gt (oX7_mayGo.dec rfl) (tgt := 44) rfl (fun h37 => ?_) (fun h37 => ?_)
          · refine aw_run oX7_mayGo smOk 4 (pc' := 5) (L' := [some (.ref 0), some (.int (nI σ)), some (.int (nI w)), some (.int (nI 0)), some (.int (x + (nI 1)))]) (st' := []) (I' := I) (J' := J) (G' := G) rfl ?_
            exact ih (s + 1) _ _ (by omega) (addN hx rfl) (by unfold allB; rw [show allB (q1 (G 9) σ w) s = true from ts_nf (fun e => h17 (hy.trans (by rw [e]; rfl))), show q1 (G 9) σ w s = false by unfold q1; rw [bitN_n0 h26, decide_eq_false (Int32.not_le.mpr h37)]; rfl]; rfl)
          · refine aw_run oX7_mayGo smOk 5 (pc' := 5) (L' := [some (.ref 0), some (.int (nI σ)), some (.int (nI w)), some (.int (nI 1)), some (.int (x + (nI 1)))]) (st' := []) (I' := I) (J' := J) (G' := G) rfl ?_
            exact ih (s + 1) _ _ (by omega) (addN hx rfl) (by unfold allB; rw [show allB (q1 (G 9) σ w) s = true from ts_nf (fun e => h17 (hy.trans (by rw [e]; rfl))), show q1 (G 9) σ w s = true by unfold q1; rw [decide_eq_true (Int32.not_lt.mp h37)]; simp]; rfl)
  refine aw_run oX7_mayGo smOk 4 (pc' := 5) (L' := [some (.ref 0), some (.int (nI σ)), some (.int (nI w)), some (.int (nI 1)), some (.int (nI 0))]) (st' := []) (I' := I) (J' := J) (G' := G) rfl ?_
  exact loop P 0 _ _ (by omega) rfl rfl
set_option maxRecDepth 20000 in
theorem m_canSail {I : II} {J : JJ} {G : II} {P : Nat} (hP : G 5 0 = nI P) (hP5 : P ≤ 5) {Wk : Nat} (hW : G 2 0 = nI Wk) (hWk : Wk ≤ 12) {t : Nat} (ht : G 11 0 = nI t) (ht12 : t ≤ 12) (htW : t ≤ Wk) {σ : Nat} (hσ : σ < 2 ^ P) : AMet SM mX7_canSail [.ref 0, .int (nI σ)] I J G (PE (some (.int (b1 (decide (t < Wk) && allB (sq (G 11) (G 9) σ t) P)))) I J G) := by
  refine amet_en oX7_canSail rfl rfl (L := [some (.ref 0), some (.int (nI σ)), none, none]) rfl ?_
  have hp32 : 2 ^ P ≤ 32 := Nat.pow_le_pow_right (by decide) hP5
  have hpo : setN (fun s => decide (G 11 (3 + s) = nI 0)) P < 32 := Nat.lt_of_lt_of_le (setN_lt _ _) hp32
  have loop : ∀ (bb : Bool) (hbb : bb = (decide (t < Wk) && decide (anN σ (setN (fun s => decide (G 11 (3 + s) = nI 0)) P) = 0))) (n s : Nat) (x : Int32) (y : Int32), (s + n = P) → (x = nI s) → (y = b1 (bb && allB (q1 (G 9) σ t) s)) → AW SM mX7_canSail 27 [some (.ref 0), some (.int (nI σ)), some (.int y), some (.int x)] [] I J G (PE (some (.int (b1 (decide (t < Wk) && allB (sq (G 11) (G 9) σ t) P)))) I J G) := by
    intro bb hbb n
    induction n with
    | zero =>
      intro s x y hsn hx hy
      refine aw_run oX7_canSail smOk 4 (pc' := 33) (L' := [some (.ref 0), some (.int (nI σ)), some (.int y), some (.int x)]) (st' := [.int (nI 0), .ref 5, .int x]) (I' := I) (J' := J) (G' := G) rfl ?_
      refine aw_iaN 0 smOk rfl rfl (by omega) (oX7_canSail.dec rfl) ?_
      refine aw_geN hx hP (by omega) (by omega) (oX7_canSail.dec rfl) (tgt := 76) rfl (fun h34 => ?_) (fun h34 => absurd h34 (by omega))
      refine aw_run oX7_canSail smOk 1 (pc' := 77) (L' := [some (.ref 0), some (.int (nI σ)), some (.int y), some (.int x)]) (st' := [.int y]) (I' := I) (J' := J) (G' := G) rfl ?_
      exact aw_zret rfl (by rw [hy]; exact b1_01 _) (oX7_canSail.dec rfl) (pe_i (by rw [hy, show s = P by omega, hbb, Bool.and_assoc, can_eq hσ hP5]))
    | succ n ih =>
      intro s x y hsn hx hy
      refine aw_run oX7_canSail smOk 4 (pc' := 33) (L' := [some (.ref 0), some (.int (nI σ)), some (.int y), some (.int x)]) (st' := [.int (nI 0), .ref 5, .int x]) (I' := I) (J' := J) (G' := G) rfl ?_
      refine aw_iaN 0 smOk rfl rfl (by omega) (oX7_canSail.dec rfl) ?_
      refine aw_geN hx hP (by omega) (by omega) (oX7_canSail.dec rfl) (tgt := 76) rfl (fun h34 => absurd h34 (by omega)) (fun h34 => ?_)
      refine aw_run oX7_canSail smOk 1 (pc' := 38) (L' := [some (.ref 0), some (.int (nI σ)), some (.int y), some (.int x)]) (st' := [.int y]) (I' := I) (J' := J) (G' := G) rfl ?_
      refine aw_if_eq (oX7_canSail.dec rfl) (tgt := 68) rfl (fun h38 => ?_) (fun h38 => ?_)
      · refine aw_run oX7_canSail smOk 4 (pc' := 27) (L' := [some (.ref 0), some (.int (nI σ)), some (.int (nI 0)), some (.int (x + (nI 1)))]) (st' := []) (I' := I) (J' := J) (G' := G) rfl ?_
        exact ih (s + 1) _ _ (by omega) (addN hx rfl) (by rw [show (bb && allB (q1 (G 9) σ t) (s + 1)) = false by unfold allB; rw [← Bool.and_assoc, b1_0.mp (hy.symm.trans h38)]; rfl]; rfl)
      · refine aw_run oX7_canSail smOk 5 (pc' := 46) (L' := [some (.ref 0), some (.int (nI σ)), some (.int y), some (.int x)]) (st' := [.int (((nI σ) >>> (x &&& 31)) &&& (nI 1))]) (I' := I) (J' := J) (G' := G) rfl ?_
        refine aw_0eqN (bitNI rfl hx (by omega) (by omega)) (bitN_b _ _) (oX7_canSail.dec rfl) (tgt := 64) rfl (fun h46 => ?_) (fun h46 => ?_)
        · refine aw_run oX7_canSail smOk 5 (pc' := 27) (L' := [some (.ref 0), some (.int (nI σ)), some (.int (nI 1)), some (.int (x + (nI 1)))]) (st' := []) (I' := I) (J' := J) (G' := G) rfl ?_
          exact ih (s + 1) _ _ (by omega) (addN hx rfl) (by unfold allB; rw [← Bool.and_assoc, show (bb && allB (q1 (G 9) σ t) s) = true from ts_nf (fun e => h38 (hy.trans (by rw [e]; rfl))), show q1 (G 9) σ t s = true by unfold q1; rw [bitN_0 h46]; rfl]; rfl)
        · refine aw_run oX7_canSail smOk 3 (pc' := 54) (L' := [some (.ref 0), some (.int (nI σ)), some (.int y), some (.int x)]) (st' := [.int x, .ref 9]) (I' := I) (J' := J) (G' := G) rfl ?_
          refine aw_iaN s smOk rfl hx (by omega) (oX7_canSail.dec rfl) ?_
          refine aw_run oX7_canSail smOk 3 (pc' := 60) (L' := [some (.ref 0), some (.int (nI σ)), some (.int y), some (.int x)]) (st' := [.int (nI 0), .ref 11, .int (G 9 s)]) (I' := I) (J' := J) (G' := G) rfl ?_
          refine aw_iaN 0 smOk rfl rfl (by omega) (oX7_canSail.dec rfl) ?_
          refine aw_icmp_gt (oX7_canSail.dec rfl) (tgt := 68) rfl (fun h61 => ?_) (fun h61 => ?_)
          · refine aw_run oX7_canSail smOk 4 (pc' := 27) (L' := [some (.ref 0), some (.int (nI σ)), some (.int (nI 0)), some (.int (x + (nI 1)))]) (st' := []) (I' := I) (J' := J) (G' := G) rfl ?_
            exact ih (s + 1) _ _ (by omega) (addN hx rfl) (by unfold allB; rw [← Bool.and_assoc, show (bb && allB (q1 (G 9) σ t) s) = true from ts_nf (fun e => h38 (hy.trans (by rw [e]; rfl))), show q1 (G 9) σ t s = false by unfold q1; rw [bitN_n0 h46, decide_eq_false (by rw [← ht]; exact Int32.not_le.mpr h61)]; rfl]; rfl)
          · refine aw_run oX7_canSail smOk 5 (pc' := 27) (L' := [some (.ref 0), some (.int (nI σ)), some (.int (nI 1)), some (.int (x + (nI 1)))]) (st' := []) (I' := I) (J' := J) (G' := G) rfl ?_
            exact ih (s + 1) _ _ (by omega) (addN hx rfl) (by unfold allB; rw [← Bool.and_assoc, show (bb && allB (q1 (G 9) σ t) s) = true from ts_nf (fun e => h38 (hy.trans (by rw [e]; rfl))), show q1 (G 9) σ t s = true by unfold q1; rw [decide_eq_true (p := G 9 s ≤ nI t) (by rw [← ht]; exact Int32.not_lt.mp h61)]; simp]; rfl)
  refine aw_run oX7_canSail smOk 1 (pc' := 1) (L' := [some (.ref 0), some (.int (nI σ)), none, none]) (st' := [.ref 0]) (I' := I) (J' := J) (G' := G) rfl ?_
  refine aw_cV (st := []) 0 [] oX7_isOver k7_120 rfl rfl rfl rfl rfl rfl rfl rfl (oX7_canSail.dec rfl) (m_isOver hW (by omega) ht (by omega) (by omega)) ?_
  refine aw_eqS (st := [.int (b1 (decide (Wk ≤ t)))]) rfl ?_
  refine aw_0neD (oX7_canSail.dec rfl) (tgt := 23) rfl (fun h4 => ?_) (fun h4 => ?_)
  · refine aw_run oX7_canSail smOk 4 (pc' := 27) (L' := [some (.ref 0), some (.int (nI σ)), some (.int (nI 0)), some (.int (nI 0))]) (st' := []) (I' := I) (J' := J) (G' := G) rfl ?_
    exact loop false (by rw [decide_eq_false (by omega)]; rfl) P 0 _ _ (by omega) rfl rfl
  · refine aw_run oX7_canSail smOk 3 (pc' := 10) (L' := [some (.ref 0), some (.int (nI σ)), none, none]) (st' := [.int (nI 0), .ref 0, .int (nI σ)]) (I' := I) (J' := J) (G' := G) rfl ?_
    refine aw_cV (st := [.int (nI σ)]) 0 [.int (nI 0)] oX7_setIn k7_127 rfl rfl rfl rfl rfl rfl rfl rfl (oX7_canSail.dec rfl) (m_setIn hP (by omega)) ?_
    refine aw_eqS (st := [.int (nI (setN (fun s => decide (G 11 (3 + s) = nI 0)) P)), .int (nI σ)]) rfl ?_
    refine aw_run oX7_canSail smOk 3 (pc' := 16) (L' := [some (.ref 0), some (.int (nI σ)), none, none]) (st' := [.int ((nI σ) &&& ((nI (setN (fun s => decide (G 11 (3 + s) = nI 0)) P)) ^^^ (-nI 1)))]) (I' := I) (J' := J) (G' := G) rfl ?_
    refine aw_0neN (anNI rfl rfl (by omega) (by omega)) (Nat.lt_of_lt_of_le (anN_lt _ (by omega) _ (by omega)) (by decide)) (oX7_canSail.dec rfl) (tgt := 23) rfl (fun h16 => ?_) (fun h16 => ?_)
    · refine aw_run oX7_canSail smOk 4 (pc' := 27) (L' := [some (.ref 0), some (.int (nI σ)), some (.int (nI 0)), some (.int (nI 0))]) (st' := []) (I' := I) (J' := J) (G' := G) rfl ?_
      exact loop false (by rw [decide_eq_false (p := anN _ _ = 0) h16, Bool.and_false]) P 0 _ _ (by omega) rfl rfl
    · refine aw_run oX7_canSail smOk 5 (pc' := 27) (L' := [some (.ref 0), some (.int (nI σ)), some (.int (nI 1)), some (.int (nI 0))]) (st' := []) (I' := I) (J' := J) (G' := G) rfl ?_
      exact loop true (by rw [decide_eq_true (p := t < Wk) (by omega), decide_eq_true h16]; rfl) P 0 _ _ (by omega) rfl rfl
end
