section
-- ===== PART A: goes FIRST, ahead of the names: the tables' words, and 'selects' of the private methods out of them =====
/-- a private method of a class that the tables say can be made, by its rows of tables_1 -/
def lw_okq (q : MethodName × Nat) : Prop := (q.1.cls ≠ "java/lang/invoke/MethodHandle" ∧ q.1.cls ≠ "java/lang/invoke/VarHandle") ∧ Cond.instantiable q.1.cls q.2 ∈ tables_1 ∧ Cond.privateMethod q.1 ∈ tables_1 ∧ Cond.instanceMethod q.1 ∈ tables_1
theorem lw_p0 : lw_okq (⟨"SilverFleets$Text", "readInto", "(LSilverFleets$Season;)I"⟩, 7) := ⟨⟨by decide +kernel, by decide +kernel⟩, List.mem_of_getElem? (i := 20) (by decide +kernel), List.mem_of_getElem? (i := 235) (by decide +kernel), List.mem_of_getElem? (i := 236) (by decide +kernel)⟩
theorem lw_p1 : lw_okq (⟨"SilverFleets$Season", "forgetAll", "()V"⟩, 10) := ⟨⟨by decide +kernel, by decide +kernel⟩, List.mem_of_getElem? (i := 53) (by decide +kernel), List.mem_of_getElem? (i := 239) (by decide +kernel), List.mem_of_getElem? (i := 240) (by decide +kernel)⟩
theorem lw_p2 : lw_okq (⟨"SilverFleets$Text", "scan", "()V"⟩, 7) := ⟨⟨by decide +kernel, by decide +kernel⟩, List.mem_of_getElem? (i := 20) (by decide +kernel), List.mem_of_getElem? (i := 243) (by decide +kernel), List.mem_of_getElem? (i := 244) (by decide +kernel)⟩
theorem lw_p3 : lw_okq (⟨"SilverFleets$Text", "isLetterAt", "(I)Z"⟩, 7) := ⟨⟨by decide +kernel, by decide +kernel⟩, List.mem_of_getElem? (i := 20) (by decide +kernel), List.mem_of_getElem? (i := 247) (by decide +kernel), List.mem_of_getElem? (i := 248) (by decide +kernel)⟩
theorem lw_p4 : lw_okq (⟨"SilverFleets$Text", "scanLetters", "()V"⟩, 7) := ⟨⟨by decide +kernel, by decide +kernel⟩, List.mem_of_getElem? (i := 20) (by decide +kernel), List.mem_of_getElem? (i := 251) (by decide +kernel), List.mem_of_getElem? (i := 252) (by decide +kernel)⟩
theorem lw_p5 : lw_okq (⟨"SilverFleets$Text", "isDigitAt", "(I)Z"⟩, 7) := ⟨⟨by decide +kernel, by decide +kernel⟩, List.mem_of_getElem? (i := 20) (by decide +kernel), List.mem_of_getElem? (i := 255) (by decide +kernel), List.mem_of_getElem? (i := 256) (by decide +kernel)⟩
theorem lw_p6 : lw_okq (⟨"SilverFleets$Text", "scanNumber", "()V"⟩, 7) := ⟨⟨by decide +kernel, by decide +kernel⟩, List.mem_of_getElem? (i := 20) (by decide +kernel), List.mem_of_getElem? (i := 259) (by decide +kernel), List.mem_of_getElem? (i := 260) (by decide +kernel)⟩
theorem lw_p7 : lw_okq (⟨"SilverFleets$Text", "readItem", "(LSilverFleets$Season;)Z"⟩, 7) := ⟨⟨by decide +kernel, by decide +kernel⟩, List.mem_of_getElem? (i := 20) (by decide +kernel), List.mem_of_getElem? (i := 266) (by decide +kernel), List.mem_of_getElem? (i := 267) (by decide +kernel)⟩
theorem lw_p8 : lw_okq (⟨"SilverFleets$Season", "canTake", "(I)Z"⟩, 10) := ⟨⟨by decide +kernel, by decide +kernel⟩, List.mem_of_getElem? (i := 53) (by decide +kernel), List.mem_of_getElem? (i := 270) (by decide +kernel), List.mem_of_getElem? (i := 271) (by decide +kernel)⟩
theorem lw_p9 : lw_okq (⟨"SilverFleets$Text", "readNumbers", "([I)Z"⟩, 7) := ⟨⟨by decide +kernel, by decide +kernel⟩, List.mem_of_getElem? (i := 20) (by decide +kernel), List.mem_of_getElem? (i := 281) (by decide +kernel), List.mem_of_getElem? (i := 282) (by decide +kernel)⟩
theorem lw_p10 : lw_okq (⟨"SilverFleets$Season", "addWeek", "(II)V"⟩, 10) := ⟨⟨by decide +kernel, by decide +kernel⟩, List.mem_of_getElem? (i := 53) (by decide +kernel), List.mem_of_getElem? (i := 285) (by decide +kernel), List.mem_of_getElem? (i := 286) (by decide +kernel)⟩
theorem lw_p11 : lw_okq (⟨"SilverFleets$Season", "addShip", "(IIII)V"⟩, 10) := ⟨⟨by decide +kernel, by decide +kernel⟩, List.mem_of_getElem? (i := 53) (by decide +kernel), List.mem_of_getElem? (i := 289) (by decide +kernel), List.mem_of_getElem? (i := 290) (by decide +kernel)⟩
theorem lw_p12 : lw_okq (⟨"SilverFleets$Season", "setShare", "(I)V"⟩, 10) := ⟨⟨by decide +kernel, by decide +kernel⟩, List.mem_of_getElem? (i := 53) (by decide +kernel), List.mem_of_getElem? (i := 293) (by decide +kernel), List.mem_of_getElem? (i := 294) (by decide +kernel)⟩
theorem lw_p13 : lw_okq (⟨"SilverFleets$Season", "copyFrom", "(LSilverFleets$Season;)V"⟩, 10) := ⟨⟨by decide +kernel, by decide +kernel⟩, List.mem_of_getElem? (i := 53) (by decide +kernel), List.mem_of_getElem? (i := 297) (by decide +kernel), List.mem_of_getElem? (i := 298) (by decide +kernel)⟩
theorem lw_p14 : lw_okq (⟨"SilverFleets$Log", "beginWith", "(LSilverFleets$Season;)V"⟩, 4) := ⟨⟨by decide +kernel, by decide +kernel⟩, List.mem_of_getElem? (i := 108) (by decide +kernel), List.mem_of_getElem? (i := 304) (by decide +kernel), List.mem_of_getElem? (i := 305) (by decide +kernel)⟩
theorem lw_p15 : lw_okq (⟨"SilverFleets$Log", "setBars", "(III)V"⟩, 4) := ⟨⟨by decide +kernel, by decide +kernel⟩, List.mem_of_getElem? (i := 108) (by decide +kernel), List.mem_of_getElem? (i := 308) (by decide +kernel), List.mem_of_getElem? (i := 309) (by decide +kernel)⟩
def lw_privs_1 : List (MethodName × Nat) := [(⟨"SilverFleets$Text", "readInto", "(LSilverFleets$Season;)I"⟩, 7), (⟨"SilverFleets$Season", "forgetAll", "()V"⟩, 10), (⟨"SilverFleets$Text", "scan", "()V"⟩, 7), (⟨"SilverFleets$Text", "isLetterAt", "(I)Z"⟩, 7), (⟨"SilverFleets$Text", "scanLetters", "()V"⟩, 7), (⟨"SilverFleets$Text", "isDigitAt", "(I)Z"⟩, 7), (⟨"SilverFleets$Text", "scanNumber", "()V"⟩, 7), (⟨"SilverFleets$Text", "readItem", "(LSilverFleets$Season;)Z"⟩, 7), (⟨"SilverFleets$Season", "canTake", "(I)Z"⟩, 10), (⟨"SilverFleets$Text", "readNumbers", "([I)Z"⟩, 7), (⟨"SilverFleets$Season", "addWeek", "(II)V"⟩, 10), (⟨"SilverFleets$Season", "addShip", "(IIII)V"⟩, 10), (⟨"SilverFleets$Season", "setShare", "(I)V"⟩, 10), (⟨"SilverFleets$Season", "copyFrom", "(LSilverFleets$Season;)V"⟩, 10), (⟨"SilverFleets$Log", "beginWith", "(LSilverFleets$Season;)V"⟩, 4), (⟨"SilverFleets$Log", "setBars", "(III)V"⟩, 4)]
theorem lw_r1 : ∀ q ∈ lw_privs_1, lw_okq q := List.forall_mem_cons.mpr ⟨lw_p0, List.forall_mem_cons.mpr ⟨lw_p1, List.forall_mem_cons.mpr ⟨lw_p2, List.forall_mem_cons.mpr ⟨lw_p3, List.forall_mem_cons.mpr ⟨lw_p4, List.forall_mem_cons.mpr ⟨lw_p5, List.forall_mem_cons.mpr ⟨lw_p6, List.forall_mem_cons.mpr ⟨lw_p7, List.forall_mem_cons.mpr ⟨lw_p8, List.forall_mem_cons.mpr ⟨lw_p9, List.forall_mem_cons.mpr ⟨lw_p10, List.forall_mem_cons.mpr ⟨lw_p11, List.forall_mem_cons.mpr ⟨lw_p12, List.forall_mem_cons.mpr ⟨lw_p13, List.forall_mem_cons.mpr ⟨lw_p14, List.forall_mem_cons.mpr ⟨lw_p15, fun _ h => absurd h List.not_mem_nil⟩⟩⟩⟩⟩⟩⟩⟩⟩⟩⟩⟩⟩⟩⟩⟩
theorem lw_p16 : lw_okq (⟨"SilverFleets$Season", "hasWeek", "(I)Z"⟩, 10) := ⟨⟨by decide +kernel, by decide +kernel⟩, List.mem_of_getElem? (i := 53) (by decide +kernel), List.mem_of_getElem? (i := 316) (by decide +kernel), List.mem_of_getElem? (i := 317) (by decide +kernel)⟩
theorem lw_p17 : lw_okq (⟨"SilverFleets$Season", "hasShip", "(I)Z"⟩, 10) := ⟨⟨by decide +kernel, by decide +kernel⟩, List.mem_of_getElem? (i := 53) (by decide +kernel), List.mem_of_getElem? (i := 324) (by decide +kernel), List.mem_of_getElem? (i := 325) (by decide +kernel)⟩
theorem lw_p18 : lw_okq (⟨"SilverFleets$Log", "listedOf", "(I)I"⟩, 4) := ⟨⟨by decide +kernel, by decide +kernel⟩, List.mem_of_getElem? (i := 108) (by decide +kernel), List.mem_of_getElem? (i := 328) (by decide +kernel), List.mem_of_getElem? (i := 329) (by decide +kernel)⟩
theorem lw_p19 : lw_okq (⟨"SilverFleets$Log", "hiddenOf", "(I)I"⟩, 4) := ⟨⟨by decide +kernel, by decide +kernel⟩, List.mem_of_getElem? (i := 108) (by decide +kernel), List.mem_of_getElem? (i := 332) (by decide +kernel), List.mem_of_getElem? (i := 333) (by decide +kernel)⟩
theorem lw_p20 : lw_okq (⟨"SilverFleets$Log", "placeOf", "(I)I"⟩, 4) := ⟨⟨by decide +kernel, by decide +kernel⟩, List.mem_of_getElem? (i := 108) (by decide +kernel), List.mem_of_getElem? (i := 336) (by decide +kernel), List.mem_of_getElem? (i := 337) (by decide +kernel)⟩
theorem lw_p21 : lw_okq (⟨"SilverFleets", "isOver", "()Z"⟩, 9) := ⟨⟨by decide +kernel, by decide +kernel⟩, List.mem_of_getElem? (i := 12) (by decide +kernel), List.mem_of_getElem? (i := 344) (by decide +kernel), List.mem_of_getElem? (i := 345) (by decide +kernel)⟩
theorem lw_p22 : lw_okq (⟨"SilverFleets$Log", "theWeek", "()I"⟩, 4) := ⟨⟨by decide +kernel, by decide +kernel⟩, List.mem_of_getElem? (i := 108) (by decide +kernel), List.mem_of_getElem? (i := 348) (by decide +kernel), List.mem_of_getElem? (i := 349) (by decide +kernel)⟩
theorem lw_p23 : lw_okq (⟨"SilverFleets$Log", "remember", "()V"⟩, 4) := ⟨⟨by decide +kernel, by decide +kernel⟩, List.mem_of_getElem? (i := 108) (by decide +kernel), List.mem_of_getElem? (i := 352) (by decide +kernel), List.mem_of_getElem? (i := 353) (by decide +kernel)⟩
theorem lw_p24 : lw_okq (⟨"SilverFleets$Season", "hasSet", "(I)Z"⟩, 10) := ⟨⟨by decide +kernel, by decide +kernel⟩, List.mem_of_getElem? (i := 53) (by decide +kernel), List.mem_of_getElem? (i := 361) (by decide +kernel), List.mem_of_getElem? (i := 362) (by decide +kernel)⟩
theorem lw_p25 : lw_okq (⟨"SilverFleets", "canSail", "(I)Z"⟩, 9) := ⟨⟨by decide +kernel, by decide +kernel⟩, List.mem_of_getElem? (i := 12) (by decide +kernel), List.mem_of_getElem? (i := 365) (by decide +kernel), List.mem_of_getElem? (i := 366) (by decide +kernel)⟩
theorem lw_p26 : lw_okq (⟨"SilverFleets$Log", "isInPort", "(I)Z"⟩, 4) := ⟨⟨by decide +kernel, by decide +kernel⟩, List.mem_of_getElem? (i := 108) (by decide +kernel), List.mem_of_getElem? (i := 372) (by decide +kernel), List.mem_of_getElem? (i := 373) (by decide +kernel)⟩
theorem lw_p27 : lw_okq (⟨"SilverFleets$Fleet", "takenOf", "(II)I"⟩, 5) := ⟨⟨by decide +kernel, by decide +kernel⟩, List.mem_of_getElem? (i := 129) (by decide +kernel), List.mem_of_getElem? (i := 376) (by decide +kernel), List.mem_of_getElem? (i := 377) (by decide +kernel)⟩
theorem lw_p28 : lw_okq (⟨"SilverFleets$Log", "silverOf", "(I)I"⟩, 4) := ⟨⟨by decide +kernel, by decide +kernel⟩, List.mem_of_getElem? (i := 108) (by decide +kernel), List.mem_of_getElem? (i := 381) (by decide +kernel), List.mem_of_getElem? (i := 382) (by decide +kernel)⟩
theorem lw_p29 : lw_okq (⟨"SilverFleets", "sailOne", "(IZI)I"⟩, 9) := ⟨⟨by decide +kernel, by decide +kernel⟩, List.mem_of_getElem? (i := 12) (by decide +kernel), List.mem_of_getElem? (i := 385) (by decide +kernel), List.mem_of_getElem? (i := 386) (by decide +kernel)⟩
theorem lw_p30 : lw_okq (⟨"SilverFleets$Log", "goBack", "()V"⟩, 4) := ⟨⟨by decide +kernel, by decide +kernel⟩, List.mem_of_getElem? (i := 108) (by decide +kernel), List.mem_of_getElem? (i := 421) (by decide +kernel), List.mem_of_getElem? (i := 422) (by decide +kernel)⟩
theorem lw_p31 : lw_okq (⟨"SilverFleets$Fleet", "inPort", "()I"⟩, 5) := ⟨⟨by decide +kernel, by decide +kernel⟩, List.mem_of_getElem? (i := 129) (by decide +kernel), List.mem_of_getElem? (i := 429) (by decide +kernel), List.mem_of_getElem? (i := 430) (by decide +kernel)⟩
def lw_privs_2 : List (MethodName × Nat) := [(⟨"SilverFleets$Season", "hasWeek", "(I)Z"⟩, 10), (⟨"SilverFleets$Season", "hasShip", "(I)Z"⟩, 10), (⟨"SilverFleets$Log", "listedOf", "(I)I"⟩, 4), (⟨"SilverFleets$Log", "hiddenOf", "(I)I"⟩, 4), (⟨"SilverFleets$Log", "placeOf", "(I)I"⟩, 4), (⟨"SilverFleets", "isOver", "()Z"⟩, 9), (⟨"SilverFleets$Log", "theWeek", "()I"⟩, 4), (⟨"SilverFleets$Log", "remember", "()V"⟩, 4), (⟨"SilverFleets$Season", "hasSet", "(I)Z"⟩, 10), (⟨"SilverFleets", "canSail", "(I)Z"⟩, 9), (⟨"SilverFleets$Log", "isInPort", "(I)Z"⟩, 4), (⟨"SilverFleets$Fleet", "takenOf", "(II)I"⟩, 5), (⟨"SilverFleets$Log", "silverOf", "(I)I"⟩, 4), (⟨"SilverFleets", "sailOne", "(IZI)I"⟩, 9), (⟨"SilverFleets$Log", "goBack", "()V"⟩, 4), (⟨"SilverFleets$Fleet", "inPort", "()I"⟩, 5)]
theorem lw_r2 : ∀ q ∈ lw_privs_2, lw_okq q := List.forall_mem_cons.mpr ⟨lw_p16, List.forall_mem_cons.mpr ⟨lw_p17, List.forall_mem_cons.mpr ⟨lw_p18, List.forall_mem_cons.mpr ⟨lw_p19, List.forall_mem_cons.mpr ⟨lw_p20, List.forall_mem_cons.mpr ⟨lw_p21, List.forall_mem_cons.mpr ⟨lw_p22, List.forall_mem_cons.mpr ⟨lw_p23, List.forall_mem_cons.mpr ⟨lw_p24, List.forall_mem_cons.mpr ⟨lw_p25, List.forall_mem_cons.mpr ⟨lw_p26, List.forall_mem_cons.mpr ⟨lw_p27, List.forall_mem_cons.mpr ⟨lw_p28, List.forall_mem_cons.mpr ⟨lw_p29, List.forall_mem_cons.mpr ⟨lw_p30, List.forall_mem_cons.mpr ⟨lw_p31, fun _ h => absurd h List.not_mem_nil⟩⟩⟩⟩⟩⟩⟩⟩⟩⟩⟩⟩⟩⟩⟩⟩
theorem lw_p32 : lw_okq (⟨"SilverFleets$Fleet", "silverOnTheReef", "()I"⟩, 5) := ⟨⟨by decide +kernel, by decide +kernel⟩, List.mem_of_getElem? (i := 129) (by decide +kernel), List.mem_of_getElem? (i := 434) (by decide +kernel), List.mem_of_getElem? (i := 435) (by decide +kernel)⟩
theorem lw_p33 : lw_okq (⟨"SilverFleets$Fleet", "worthOf", "(II)I"⟩, 5) := ⟨⟨by decide +kernel, by decide +kernel⟩, List.mem_of_getElem? (i := 129) (by decide +kernel), List.mem_of_getElem? (i := 443) (by decide +kernel), List.mem_of_getElem? (i := 444) (by decide +kernel)⟩
theorem lw_p34 : lw_okq (⟨"SilverFleets$Fleet", "silverTogether", "(I)I"⟩, 5) := ⟨⟨by decide +kernel, by decide +kernel⟩, List.mem_of_getElem? (i := 129) (by decide +kernel), List.mem_of_getElem? (i := 448) (by decide +kernel), List.mem_of_getElem? (i := 449) (by decide +kernel)⟩
theorem lw_p35 : lw_okq (⟨"SilverFleets$Planner", "mostFrom", "(I)I"⟩, 6) := ⟨⟨by decide +kernel, by decide +kernel⟩, List.mem_of_getElem? (i := 153) (by decide +kernel), List.mem_of_getElem? (i := 456) (by decide +kernel), List.mem_of_getElem? (i := 457) (by decide +kernel)⟩
theorem lw_p36 : lw_okq (⟨"SilverFleets$Planner", "reckonFrom", "(I)V"⟩, 6) := ⟨⟨by decide +kernel, by decide +kernel⟩, List.mem_of_getElem? (i := 153) (by decide +kernel), List.mem_of_getElem? (i := 460) (by decide +kernel), List.mem_of_getElem? (i := 461) (by decide +kernel)⟩
theorem lw_p37 : lw_okq (⟨"SilverFleets$Fleet", "readyIn", "(I)I"⟩, 5) := ⟨⟨by decide +kernel, by decide +kernel⟩, List.mem_of_getElem? (i := 129) (by decide +kernel), List.mem_of_getElem? (i := 465) (by decide +kernel), List.mem_of_getElem? (i := 466) (by decide +kernel)⟩
theorem lw_p38 : lw_okq (⟨"SilverFleets$Planner", "reckonWorths", "(II)V"⟩, 6) := ⟨⟨by decide +kernel, by decide +kernel⟩, List.mem_of_getElem? (i := 153) (by decide +kernel), List.mem_of_getElem? (i := 469) (by decide +kernel), List.mem_of_getElem? (i := 470) (by decide +kernel)⟩
theorem lw_p39 : lw_okq (⟨"SilverFleets$Planner", "choose", "(III)V"⟩, 6) := ⟨⟨by decide +kernel, by decide +kernel⟩, List.mem_of_getElem? (i := 153) (by decide +kernel), List.mem_of_getElem? (i := 474) (by decide +kernel), List.mem_of_getElem? (i := 475) (by decide +kernel)⟩
theorem lw_p40 : lw_okq (⟨"SilverFleets$Planner", "sailingIn", "(I)I"⟩, 6) := ⟨⟨by decide +kernel, by decide +kernel⟩, List.mem_of_getElem? (i := 153) (by decide +kernel), List.mem_of_getElem? (i := 478) (by decide +kernel), List.mem_of_getElem? (i := 479) (by decide +kernel)⟩
theorem lw_p41 : lw_okq (⟨"SilverFleets$Fleet", "reckonGame", "(III)V"⟩, 5) := ⟨⟨by decide +kernel, by decide +kernel⟩, List.mem_of_getElem? (i := 129) (by decide +kernel), List.mem_of_getElem? (i := 494) (by decide +kernel), List.mem_of_getElem? (i := 495) (by decide +kernel)⟩
theorem lw_p42 : lw_okq (⟨"SilverFleets$Fleet", "setFraction", "(II)V"⟩, 5) := ⟨⟨by decide +kernel, by decide +kernel⟩, List.mem_of_getElem? (i := 129) (by decide +kernel), List.mem_of_getElem? (i := 503) (by decide +kernel), List.mem_of_getElem? (i := 504) (by decide +kernel)⟩
theorem lw_p43 : lw_okq (⟨"SilverFleets$Fleet", "reckonOdds", "(III)V"⟩, 5) := ⟨⟨by decide +kernel, by decide +kernel⟩, List.mem_of_getElem? (i := 129) (by decide +kernel), List.mem_of_getElem? (i := 511) (by decide +kernel), List.mem_of_getElem? (i := 512) (by decide +kernel)⟩
theorem lw_p44 : lw_okq (⟨"SilverFleets$Fleet", "beginWays", "()V"⟩, 5) := ⟨⟨by decide +kernel, by decide +kernel⟩, List.mem_of_getElem? (i := 129) (by decide +kernel), List.mem_of_getElem? (i := 515) (by decide +kernel), List.mem_of_getElem? (i := 516) (by decide +kernel)⟩
theorem lw_p45 : lw_okq (⟨"SilverFleets$Fleet", "addToWays", "(I)V"⟩, 5) := ⟨⟨by decide +kernel, by decide +kernel⟩, List.mem_of_getElem? (i := 129) (by decide +kernel), List.mem_of_getElem? (i := 519) (by decide +kernel), List.mem_of_getElem? (i := 520) (by decide +kernel)⟩
theorem lw_p46 : lw_okq (⟨"SilverFleets$Fleet", "listedTogether", "(I)I"⟩, 5) := ⟨⟨by decide +kernel, by decide +kernel⟩, List.mem_of_getElem? (i := 129) (by decide +kernel), List.mem_of_getElem? (i := 527) (by decide +kernel), List.mem_of_getElem? (i := 528) (by decide +kernel)⟩
theorem lw_p47 : lw_okq (⟨"SilverFleets$Kinds", "markAs", "(II)I"⟩, 3) := ⟨⟨by decide +kernel, by decide +kernel⟩, List.mem_of_getElem? (i := 178) (by decide +kernel), List.mem_of_getElem? (i := 537) (by decide +kernel), List.mem_of_getElem? (i := 538) (by decide +kernel)⟩
def lw_privs_3 : List (MethodName × Nat) := [(⟨"SilverFleets$Fleet", "silverOnTheReef", "()I"⟩, 5), (⟨"SilverFleets$Fleet", "worthOf", "(II)I"⟩, 5), (⟨"SilverFleets$Fleet", "silverTogether", "(I)I"⟩, 5), (⟨"SilverFleets$Planner", "mostFrom", "(I)I"⟩, 6), (⟨"SilverFleets$Planner", "reckonFrom", "(I)V"⟩, 6), (⟨"SilverFleets$Fleet", "readyIn", "(I)I"⟩, 5), (⟨"SilverFleets$Planner", "reckonWorths", "(II)V"⟩, 6), (⟨"SilverFleets$Planner", "choose", "(III)V"⟩, 6), (⟨"SilverFleets$Planner", "sailingIn", "(I)I"⟩, 6), (⟨"SilverFleets$Fleet", "reckonGame", "(III)V"⟩, 5), (⟨"SilverFleets$Fleet", "setFraction", "(II)V"⟩, 5), (⟨"SilverFleets$Fleet", "reckonOdds", "(III)V"⟩, 5), (⟨"SilverFleets$Fleet", "beginWays", "()V"⟩, 5), (⟨"SilverFleets$Fleet", "addToWays", "(I)V"⟩, 5), (⟨"SilverFleets$Fleet", "listedTogether", "(I)I"⟩, 5), (⟨"SilverFleets$Kinds", "markAs", "(II)I"⟩, 3)]
theorem lw_r3 : ∀ q ∈ lw_privs_3, lw_okq q := List.forall_mem_cons.mpr ⟨lw_p32, List.forall_mem_cons.mpr ⟨lw_p33, List.forall_mem_cons.mpr ⟨lw_p34, List.forall_mem_cons.mpr ⟨lw_p35, List.forall_mem_cons.mpr ⟨lw_p36, List.forall_mem_cons.mpr ⟨lw_p37, List.forall_mem_cons.mpr ⟨lw_p38, List.forall_mem_cons.mpr ⟨lw_p39, List.forall_mem_cons.mpr ⟨lw_p40, List.forall_mem_cons.mpr ⟨lw_p41, List.forall_mem_cons.mpr ⟨lw_p42, List.forall_mem_cons.mpr ⟨lw_p43, List.forall_mem_cons.mpr ⟨lw_p44, List.forall_mem_cons.mpr ⟨lw_p45, List.forall_mem_cons.mpr ⟨lw_p46, List.forall_mem_cons.mpr ⟨lw_p47, fun _ h => absurd h List.not_mem_nil⟩⟩⟩⟩⟩⟩⟩⟩⟩⟩⟩⟩⟩⟩⟩⟩
theorem lw_p48 : lw_okq (⟨"SilverFleets$Kinds", "markShip", "(I)I"⟩, 3) := ⟨⟨by decide +kernel, by decide +kernel⟩, List.mem_of_getElem? (i := 178) (by decide +kernel), List.mem_of_getElem? (i := 541) (by decide +kernel), List.mem_of_getElem? (i := 542) (by decide +kernel)⟩
theorem lw_p49 : lw_okq (⟨"SilverFleets$Kinds", "markDecoy", "(I)I"⟩, 3) := ⟨⟨by decide +kernel, by decide +kernel⟩, List.mem_of_getElem? (i := 178) (by decide +kernel), List.mem_of_getElem? (i := 546) (by decide +kernel), List.mem_of_getElem? (i := 547) (by decide +kernel)⟩
theorem lw_p50 : lw_okq (⟨"SilverFleets$Kinds", "markSlow", "(I)I"⟩, 3) := ⟨⟨by decide +kernel, by decide +kernel⟩, List.mem_of_getElem? (i := 178) (by decide +kernel), List.mem_of_getElem? (i := 551) (by decide +kernel), List.mem_of_getElem? (i := 552) (by decide +kernel)⟩
theorem lw_p51 : lw_okq (⟨"SilverFleets$Kinds", "markChest", "(I)I"⟩, 3) := ⟨⟨by decide +kernel, by decide +kernel⟩, List.mem_of_getElem? (i := 178) (by decide +kernel), List.mem_of_getElem? (i := 556) (by decide +kernel), List.mem_of_getElem? (i := 557) (by decide +kernel)⟩
theorem lw_p52 : lw_okq (⟨"SilverFleets$Kinds", "markLetter", "(I)I"⟩, 3) := ⟨⟨by decide +kernel, by decide +kernel⟩, List.mem_of_getElem? (i := 178) (by decide +kernel), List.mem_of_getElem? (i := 561) (by decide +kernel), List.mem_of_getElem? (i := 562) (by decide +kernel)⟩
theorem lw_p53 : lw_okq (⟨"SilverFleets$Kinds", "markPilot", "(I)I"⟩, 3) := ⟨⟨by decide +kernel, by decide +kernel⟩, List.mem_of_getElem? (i := 178) (by decide +kernel), List.mem_of_getElem? (i := 566) (by decide +kernel), List.mem_of_getElem? (i := 567) (by decide +kernel)⟩
theorem lw_p54 : lw_okq (⟨"SilverFleets", "imageOf", "(I)LSilverFleets$Log;"⟩, 9) := ⟨⟨by decide +kernel, by decide +kernel⟩, List.mem_of_getElem? (i := 12) (by decide +kernel), List.mem_of_getElem? (i := 580) (by decide +kernel), List.mem_of_getElem? (i := 581) (by decide +kernel)⟩
theorem lw_p55 : lw_okq (⟨"SilverFleets$Log", "copyFrom", "(LSilverFleets$Log;)V"⟩, 4) := ⟨⟨by decide +kernel, by decide +kernel⟩, List.mem_of_getElem? (i := 108) (by decide +kernel), List.mem_of_getElem? (i := 584) (by decide +kernel), List.mem_of_getElem? (i := 585) (by decide +kernel)⟩
theorem lw_p56 : lw_okq (⟨"SilverFleetsModel", "plain", "()V"⟩, 22) := ⟨⟨by decide +kernel, by decide +kernel⟩, List.mem_of_getElem? (i := 600) (by decide +kernel), List.mem_of_getElem? (i := 606) (by decide +kernel), List.mem_of_getElem? (i := 607) (by decide +kernel)⟩
theorem lw_p57 : lw_okq (⟨"SilverFleetsModel", "takeDraft", "()V"⟩, 22) := ⟨⟨by decide +kernel, by decide +kernel⟩, List.mem_of_getElem? (i := 600) (by decide +kernel), List.mem_of_getElem? (i := 610) (by decide +kernel), List.mem_of_getElem? (i := 611) (by decide +kernel)⟩
theorem lw_p58 : lw_okq (⟨"SilverFleetsModel", "step", "()V"⟩, 22) := ⟨⟨by decide +kernel, by decide +kernel⟩, List.mem_of_getElem? (i := 600) (by decide +kernel), List.mem_of_getElem? (i := 698) (by decide +kernel), List.mem_of_getElem? (i := 699) (by decide +kernel)⟩
theorem lw_p59 : lw_okq (⟨"SilverFleetsModel", "here", "()I"⟩, 22) := ⟨⟨by decide +kernel, by decide +kernel⟩, List.mem_of_getElem? (i := 600) (by decide +kernel), List.mem_of_getElem? (i := 702) (by decide +kernel), List.mem_of_getElem? (i := 703) (by decide +kernel)⟩
theorem lw_p60 : lw_okq (⟨"SilverFleetsModel", "mayBe", "(I)Z"⟩, 22) := ⟨⟨by decide +kernel, by decide +kernel⟩, List.mem_of_getElem? (i := 600) (by decide +kernel), List.mem_of_getElem? (i := 706) (by decide +kernel), List.mem_of_getElem? (i := 707) (by decide +kernel)⟩
theorem lw_p61 : lw_okq (⟨"SilverFleetsModel", "due", "(Z)I"⟩, 22) := ⟨⟨by decide +kernel, by decide +kernel⟩, List.mem_of_getElem? (i := 600) (by decide +kernel), List.mem_of_getElem? (i := 710) (by decide +kernel), List.mem_of_getElem? (i := 711) (by decide +kernel)⟩
theorem lw_p62 : lw_okq (⟨"SilverFleetsModel", "readRow", "(I)V"⟩, 22) := ⟨⟨by decide +kernel, by decide +kernel⟩, List.mem_of_getElem? (i := 600) (by decide +kernel), List.mem_of_getElem? (i := 714) (by decide +kernel), List.mem_of_getElem? (i := 715) (by decide +kernel)⟩
theorem lw_p63 : lw_okq (⟨"SilverFleetsModel", "number", "(II)I"⟩, 22) := ⟨⟨by decide +kernel, by decide +kernel⟩, List.mem_of_getElem? (i := 600) (by decide +kernel), List.mem_of_getElem? (i := 718) (by decide +kernel), List.mem_of_getElem? (i := 719) (by decide +kernel)⟩
def lw_privs_4 : List (MethodName × Nat) := [(⟨"SilverFleets$Kinds", "markShip", "(I)I"⟩, 3), (⟨"SilverFleets$Kinds", "markDecoy", "(I)I"⟩, 3), (⟨"SilverFleets$Kinds", "markSlow", "(I)I"⟩, 3), (⟨"SilverFleets$Kinds", "markChest", "(I)I"⟩, 3), (⟨"SilverFleets$Kinds", "markLetter", "(I)I"⟩, 3), (⟨"SilverFleets$Kinds", "markPilot", "(I)I"⟩, 3), (⟨"SilverFleets", "imageOf", "(I)LSilverFleets$Log;"⟩, 9), (⟨"SilverFleets$Log", "copyFrom", "(LSilverFleets$Log;)V"⟩, 4), (⟨"SilverFleetsModel", "plain", "()V"⟩, 22), (⟨"SilverFleetsModel", "takeDraft", "()V"⟩, 22), (⟨"SilverFleetsModel", "step", "()V"⟩, 22), (⟨"SilverFleetsModel", "here", "()I"⟩, 22), (⟨"SilverFleetsModel", "mayBe", "(I)Z"⟩, 22), (⟨"SilverFleetsModel", "due", "(Z)I"⟩, 22), (⟨"SilverFleetsModel", "readRow", "(I)V"⟩, 22), (⟨"SilverFleetsModel", "number", "(II)I"⟩, 22)]
theorem lw_r4 : ∀ q ∈ lw_privs_4, lw_okq q := List.forall_mem_cons.mpr ⟨lw_p48, List.forall_mem_cons.mpr ⟨lw_p49, List.forall_mem_cons.mpr ⟨lw_p50, List.forall_mem_cons.mpr ⟨lw_p51, List.forall_mem_cons.mpr ⟨lw_p52, List.forall_mem_cons.mpr ⟨lw_p53, List.forall_mem_cons.mpr ⟨lw_p54, List.forall_mem_cons.mpr ⟨lw_p55, List.forall_mem_cons.mpr ⟨lw_p56, List.forall_mem_cons.mpr ⟨lw_p57, List.forall_mem_cons.mpr ⟨lw_p58, List.forall_mem_cons.mpr ⟨lw_p59, List.forall_mem_cons.mpr ⟨lw_p60, List.forall_mem_cons.mpr ⟨lw_p61, List.forall_mem_cons.mpr ⟨lw_p62, List.forall_mem_cons.mpr ⟨lw_p63, fun _ h => absurd h List.not_mem_nil⟩⟩⟩⟩⟩⟩⟩⟩⟩⟩⟩⟩⟩⟩⟩⟩
theorem lw_p64 : lw_okq (⟨"SilverFleetsModel", "isWeek", "(I)Z"⟩, 22) := ⟨⟨by decide +kernel, by decide +kernel⟩, List.mem_of_getElem? (i := 600) (by decide +kernel), List.mem_of_getElem? (i := 726) (by decide +kernel), List.mem_of_getElem? (i := 727) (by decide +kernel)⟩
theorem lw_p65 : lw_okq (⟨"SilverFleetsModel", "isShip", "(I)Z"⟩, 22) := ⟨⟨by decide +kernel, by decide +kernel⟩, List.mem_of_getElem? (i := 600) (by decide +kernel), List.mem_of_getElem? (i := 734) (by decide +kernel), List.mem_of_getElem? (i := 735) (by decide +kernel)⟩
theorem lw_p66 : lw_okq (⟨"SilverFleetsModel", "isOver", "()Z"⟩, 22) := ⟨⟨by decide +kernel, by decide +kernel⟩, List.mem_of_getElem? (i := 600) (by decide +kernel), List.mem_of_getElem? (i := 742) (by decide +kernel), List.mem_of_getElem? (i := 743) (by decide +kernel)⟩
theorem lw_p67 : lw_okq (⟨"SilverFleetsModel", "know", "()V"⟩, 22) := ⟨⟨by decide +kernel, by decide +kernel⟩, List.mem_of_getElem? (i := 600) (by decide +kernel), List.mem_of_getElem? (i := 746) (by decide +kernel), List.mem_of_getElem? (i := 747) (by decide +kernel)⟩
theorem lw_p68 : lw_okq (⟨"SilverFleetsModel", "all", "()I"⟩, 22) := ⟨⟨by decide +kernel, by decide +kernel⟩, List.mem_of_getElem? (i := 600) (by decide +kernel), List.mem_of_getElem? (i := 754) (by decide +kernel), List.mem_of_getElem? (i := 755) (by decide +kernel)⟩
theorem lw_p69 : lw_okq (⟨"SilverFleetsModel", "canSail", "(I)Z"⟩, 22) := ⟨⟨by decide +kernel, by decide +kernel⟩, List.mem_of_getElem? (i := 600) (by decide +kernel), List.mem_of_getElem? (i := 758) (by decide +kernel), List.mem_of_getElem? (i := 759) (by decide +kernel)⟩
theorem lw_p70 : lw_okq (⟨"SilverFleetsModel", "setIn", "(I)I"⟩, 22) := ⟨⟨by decide +kernel, by decide +kernel⟩, List.mem_of_getElem? (i := 600) (by decide +kernel), List.mem_of_getElem? (i := 762) (by decide +kernel), List.mem_of_getElem? (i := 763) (by decide +kernel)⟩
theorem lw_p71 : lw_okq (⟨"SilverFleetsModel", "takenOf", "(II)I"⟩, 22) := ⟨⟨by decide +kernel, by decide +kernel⟩, List.mem_of_getElem? (i := 600) (by decide +kernel), List.mem_of_getElem? (i := 766) (by decide +kernel), List.mem_of_getElem? (i := 767) (by decide +kernel)⟩
theorem lw_p72 : lw_okq (⟨"SilverFleetsModel", "silver", "(I)I"⟩, 22) := ⟨⟨by decide +kernel, by decide +kernel⟩, List.mem_of_getElem? (i := 600) (by decide +kernel), List.mem_of_getElem? (i := 770) (by decide +kernel), List.mem_of_getElem? (i := 771) (by decide +kernel)⟩
theorem lw_p73 : lw_okq (⟨"SilverFleetsModel", "draw", "(II)I"⟩, 22) := ⟨⟨by decide +kernel, by decide +kernel⟩, List.mem_of_getElem? (i := 600) (by decide +kernel), List.mem_of_getElem? (i := 774) (by decide +kernel), List.mem_of_getElem? (i := 775) (by decide +kernel)⟩
theorem lw_p74 : lw_okq (⟨"SilverFleetsModel", "shift", "(IIII)I"⟩, 22) := ⟨⟨by decide +kernel, by decide +kernel⟩, List.mem_of_getElem? (i := 600) (by decide +kernel), List.mem_of_getElem? (i := 786) (by decide +kernel), List.mem_of_getElem? (i := 787) (by decide +kernel)⟩
theorem lw_p75 : lw_okq (⟨"SilverFleetsModel", "silverOf", "(I)I"⟩, 22) := ⟨⟨by decide +kernel, by decide +kernel⟩, List.mem_of_getElem? (i := 600) (by decide +kernel), List.mem_of_getElem? (i := 810) (by decide +kernel), List.mem_of_getElem? (i := 811) (by decide +kernel)⟩
theorem lw_p76 : lw_okq (⟨"SilverFleetsModel", "worthOf", "(II)I"⟩, 22) := ⟨⟨by decide +kernel, by decide +kernel⟩, List.mem_of_getElem? (i := 600) (by decide +kernel), List.mem_of_getElem? (i := 818) (by decide +kernel), List.mem_of_getElem? (i := 819) (by decide +kernel)⟩
theorem lw_p77 : lw_okq (⟨"SilverFleetsModel", "measure", "(I)V"⟩, 22) := ⟨⟨by decide +kernel, by decide +kernel⟩, List.mem_of_getElem? (i := 600) (by decide +kernel), List.mem_of_getElem? (i := 826) (by decide +kernel), List.mem_of_getElem? (i := 827) (by decide +kernel)⟩
theorem lw_p78 : lw_okq (⟨"SilverFleetsModel", "mayGo", "(II)Z"⟩, 22) := ⟨⟨by decide +kernel, by decide +kernel⟩, List.mem_of_getElem? (i := 600) (by decide +kernel), List.mem_of_getElem? (i := 830) (by decide +kernel), List.mem_of_getElem? (i := 831) (by decide +kernel)⟩
def lw_privs_5 : List (MethodName × Nat) := [(⟨"SilverFleetsModel", "isWeek", "(I)Z"⟩, 22), (⟨"SilverFleetsModel", "isShip", "(I)Z"⟩, 22), (⟨"SilverFleetsModel", "isOver", "()Z"⟩, 22), (⟨"SilverFleetsModel", "know", "()V"⟩, 22), (⟨"SilverFleetsModel", "all", "()I"⟩, 22), (⟨"SilverFleetsModel", "canSail", "(I)Z"⟩, 22), (⟨"SilverFleetsModel", "setIn", "(I)I"⟩, 22), (⟨"SilverFleetsModel", "takenOf", "(II)I"⟩, 22), (⟨"SilverFleetsModel", "silver", "(I)I"⟩, 22), (⟨"SilverFleetsModel", "draw", "(II)I"⟩, 22), (⟨"SilverFleetsModel", "shift", "(IIII)I"⟩, 22), (⟨"SilverFleetsModel", "silverOf", "(I)I"⟩, 22), (⟨"SilverFleetsModel", "worthOf", "(II)I"⟩, 22), (⟨"SilverFleetsModel", "measure", "(I)V"⟩, 22), (⟨"SilverFleetsModel", "mayGo", "(II)Z"⟩, 22)]
theorem lw_r5 : ∀ q ∈ lw_privs_5, lw_okq q := List.forall_mem_cons.mpr ⟨lw_p64, List.forall_mem_cons.mpr ⟨lw_p65, List.forall_mem_cons.mpr ⟨lw_p66, List.forall_mem_cons.mpr ⟨lw_p67, List.forall_mem_cons.mpr ⟨lw_p68, List.forall_mem_cons.mpr ⟨lw_p69, List.forall_mem_cons.mpr ⟨lw_p70, List.forall_mem_cons.mpr ⟨lw_p71, List.forall_mem_cons.mpr ⟨lw_p72, List.forall_mem_cons.mpr ⟨lw_p73, List.forall_mem_cons.mpr ⟨lw_p74, List.forall_mem_cons.mpr ⟨lw_p75, List.forall_mem_cons.mpr ⟨lw_p76, List.forall_mem_cons.mpr ⟨lw_p77, List.forall_mem_cons.mpr ⟨lw_p78, fun _ h => absurd h List.not_mem_nil⟩⟩⟩⟩⟩⟩⟩⟩⟩⟩⟩⟩⟩⟩⟩
def lw_privs : List (MethodName × Nat) := lw_privs_1 ++ (lw_privs_2 ++ (lw_privs_3 ++ (lw_privs_4 ++ (lw_privs_5))))
def lw_tbl : List Cond := k2_sels lw_privs ++ tables_1
theorem lw_privs_ok : ∀ q ∈ lw_privs, lw_okq q := by
  show ∀ q ∈ lw_privs_1 ++ (lw_privs_2 ++ (lw_privs_3 ++ (lw_privs_4 ++ (lw_privs_5)))), lw_okq q
  exact List.forall_mem_append.mpr ⟨lw_r1, List.forall_mem_append.mpr ⟨lw_r2, List.forall_mem_append.mpr ⟨lw_r3, List.forall_mem_append.mpr ⟨lw_r4, lw_r5⟩⟩⟩⟩
-- ===== names (out of the printed names) =====
def RX0 : String := "SilverFleets$Fleet"
def TX0 : u_T := fun k => match k with
  | 0 => ("SilverFleets$Fleet", "season", "LSilverFleets$Season;", true)
  | 1 => ("SilverFleets$Fleet", "log", "LSilverFleets$Log;", true)
  | 2 => ("SilverFleets$Fleet", "ways", "[I", true)
  | 3 => ("SilverFleets$Fleet", "upper", "I", false)
  | _ => ("SilverFleets$Fleet", "lower", "I", false)
def tyX0 : Nat → FieldType := fun k => match k with
  | 0 => .object "SilverFleets$Season"
  | 1 => .object "SilverFleets$Log"
  | 2 => .array .int
  | 3 => .int
  | _ => .int
theorem nmX0 : ∀ a, a < 5 → ∀ b, b < 5 → a ≠ b → (TX0 a).2.1 ≠ (TX0 b).2.1 := by decide +kernel
theorem tyX0_ok : ∀ k, k < 5 → parseFieldDescriptor (TX0 k).2.2.1 = some (tyX0 k) := by decide +kernel
abbrev cX0_init : ByteArray := prog_2_method_1_code
def yX0_init : MethodName := ⟨RX0, "<init>", "(LSilverFleets$Season;LSilverFleets$Log;)V"⟩
abbrev cX0_inPort : ByteArray := prog_2_method_2_code
def yX0_inPort : MethodName := ⟨RX0, "inPort", "()I"⟩
abbrev cX0_readyIn : ByteArray := prog_2_method_3_code
def yX0_readyIn : MethodName := ⟨RX0, "readyIn", "(I)I"⟩
abbrev cX0_silverOnTheReef : ByteArray := prog_2_method_4_code
def yX0_silverOnTheReef : MethodName := ⟨RX0, "silverOnTheReef", "()I"⟩
abbrev cX0_listedTogether : ByteArray := prog_2_method_5_code
def yX0_listedTogether : MethodName := ⟨RX0, "listedTogether", "(I)I"⟩
abbrev cX0_silverTogether : ByteArray := prog_2_method_6_code
def yX0_silverTogether : MethodName := ⟨RX0, "silverTogether", "(I)I"⟩
abbrev cX0_takenOf : ByteArray := prog_2_method_7_code
def yX0_takenOf : MethodName := ⟨RX0, "takenOf", "(II)I"⟩
abbrev cX0_worthOf : ByteArray := prog_2_method_8_code
def yX0_worthOf : MethodName := ⟨RX0, "worthOf", "(II)I"⟩
abbrev cX0_reckonGame : ByteArray := prog_2_method_9_code
def yX0_reckonGame : MethodName := ⟨RX0, "reckonGame", "(III)V"⟩
abbrev cX0_reckonOdds : ByteArray := prog_2_method_10_code
def yX0_reckonOdds : MethodName := ⟨RX0, "reckonOdds", "(III)V"⟩
abbrev cX0_beginWays : ByteArray := prog_2_method_11_code
def yX0_beginWays : MethodName := ⟨RX0, "beginWays", "()V"⟩
abbrev cX0_addToWays : ByteArray := prog_2_method_12_code
def yX0_addToWays : MethodName := ⟨RX0, "addToWays", "(I)V"⟩
abbrev cX0_setFraction : ByteArray := prog_2_method_13_code
def yX0_setFraction : MethodName := ⟨RX0, "setFraction", "(II)V"⟩
def RX1 : String := "SilverFleets$Kinds"
def TX1 : u_T := fun k => match k with
  | 0 => ("SilverFleets$Kinds", "season", "LSilverFleets$Season;", true)
  | 1 => ("SilverFleets$Kinds", "log", "LSilverFleets$Log;", true)
  | _ => ("SilverFleets$Kinds", "trace", "J", false)
def tyX1 : Nat → FieldType := fun k => match k with
  | 0 => .object "SilverFleets$Season"
  | 1 => .object "SilverFleets$Log"
  | _ => .long
theorem nmX1 : ∀ a, a < 3 → ∀ b, b < 3 → a ≠ b → (TX1 a).2.1 ≠ (TX1 b).2.1 := by decide +kernel
theorem tyX1_ok : ∀ k, k < 3 → parseFieldDescriptor (TX1 k).2.2.1 = some (tyX1 k) := by decide +kernel
abbrev cX1_init : ByteArray := prog_3_method_1_code
def yX1_init : MethodName := ⟨RX1, "<init>", "(LSilverFleets$Season;LSilverFleets$Log;)V"⟩
abbrev cX1_markAs : ByteArray := prog_3_method_2_code
def yX1_markAs : MethodName := ⟨RX1, "markAs", "(II)I"⟩
abbrev cX1_markShip : ByteArray := prog_3_method_3_code
def yX1_markShip : MethodName := ⟨RX1, "markShip", "(I)I"⟩
abbrev cX1_markDecoy : ByteArray := prog_3_method_4_code
def yX1_markDecoy : MethodName := ⟨RX1, "markDecoy", "(I)I"⟩
abbrev cX1_markSlow : ByteArray := prog_3_method_5_code
def yX1_markSlow : MethodName := ⟨RX1, "markSlow", "(I)I"⟩
abbrev cX1_markChest : ByteArray := prog_3_method_6_code
def yX1_markChest : MethodName := ⟨RX1, "markChest", "(I)I"⟩
abbrev cX1_markLetter : ByteArray := prog_3_method_7_code
def yX1_markLetter : MethodName := ⟨RX1, "markLetter", "(I)I"⟩
abbrev cX1_markPilot : ByteArray := prog_3_method_8_code
def yX1_markPilot : MethodName := ⟨RX1, "markPilot", "(I)I"⟩
def RX2 : String := "SilverFleets$Log"
def TX2 : u_T := fun k => match k with
  | 0 => ("SilverFleets$Log", "now", "[I", true)
  | 1 => ("SilverFleets$Log", "past", "[I", true)
  | 2 => ("SilverFleets$Log", "known", "I", false)
  | _ => ("SilverFleets$Log", "kept", "Z", false)
def tyX2 : Nat → FieldType := fun k => match k with
  | 0 => .array .int
  | 1 => .array .int
  | 2 => .int
  | _ => .boolean
theorem nmX2 : ∀ a, a < 4 → ∀ b, b < 4 → a ≠ b → (TX2 a).2.1 ≠ (TX2 b).2.1 := by decide +kernel
theorem tyX2_ok : ∀ k, k < 4 → parseFieldDescriptor (TX2 k).2.2.1 = some (tyX2 k) := by decide +kernel
abbrev cX2_init : ByteArray := prog_4_method_1_code
def yX2_init : MethodName := ⟨RX2, "<init>", "()V"⟩
abbrev cX2_beginWith : ByteArray := prog_4_method_2_code
def yX2_beginWith : MethodName := ⟨RX2, "beginWith", "(LSilverFleets$Season;)V"⟩
abbrev cX2_remember : ByteArray := prog_4_method_3_code
def yX2_remember : MethodName := ⟨RX2, "remember", "()V"⟩
abbrev cX2_goBack : ByteArray := prog_4_method_4_code
def yX2_goBack : MethodName := ⟨RX2, "goBack", "()V"⟩
abbrev cX2_copyFrom : ByteArray := prog_4_method_5_code
def yX2_copyFrom : MethodName := ⟨RX2, "copyFrom", "(LSilverFleets$Log;)V"⟩
abbrev cX2_theWeek : ByteArray := prog_4_method_6_code
def yX2_theWeek : MethodName := ⟨RX2, "theWeek", "()I"⟩
abbrev cX2_placeOf : ByteArray := prog_4_method_7_code
def yX2_placeOf : MethodName := ⟨RX2, "placeOf", "(I)I"⟩
abbrev cX2_isInPort : ByteArray := prog_4_method_8_code
def yX2_isInPort : MethodName := ⟨RX2, "isInPort", "(I)Z"⟩
abbrev cX2_listedOf : ByteArray := prog_4_method_9_code
def yX2_listedOf : MethodName := ⟨RX2, "listedOf", "(I)I"⟩
abbrev cX2_hiddenOf : ByteArray := prog_4_method_10_code
def yX2_hiddenOf : MethodName := ⟨RX2, "hiddenOf", "(I)I"⟩
abbrev cX2_silverOf : ByteArray := prog_4_method_11_code
def yX2_silverOf : MethodName := ⟨RX2, "silverOf", "(I)I"⟩
abbrev cX2_setBars : ByteArray := prog_4_method_12_code
def yX2_setBars : MethodName := ⟨RX2, "setBars", "(III)V"⟩
def RX3 : String := "SilverFleets$Planner"
def TX3 : u_T := fun k => match k with
  | 0 => ("SilverFleets$Planner", "season", "LSilverFleets$Season;", true)
  | 1 => ("SilverFleets$Planner", "log", "LSilverFleets$Log;", true)
  | 2 => ("SilverFleets$Planner", "fleet", "LSilverFleets$Fleet;", true)
  | 3 => ("SilverFleets$Planner", "best", "[I", true)
  | 4 => ("SilverFleets$Planner", "choice", "[I", true)
  | _ => ("SilverFleets$Planner", "worths", "[I", true)
def tyX3 : Nat → FieldType := fun k => match k with
  | 0 => .object "SilverFleets$Season"
  | 1 => .object "SilverFleets$Log"
  | 2 => .object "SilverFleets$Fleet"
  | 3 => .array .int
  | 4 => .array .int
  | _ => .array .int
theorem nmX3 : ∀ a, a < 6 → ∀ b, b < 6 → a ≠ b → (TX3 a).2.1 ≠ (TX3 b).2.1 := by decide +kernel
theorem tyX3_ok : ∀ k, k < 6 → parseFieldDescriptor (TX3 k).2.2.1 = some (tyX3 k) := by decide +kernel
abbrev cX3_init : ByteArray := prog_5_method_1_code
def yX3_init : MethodName := ⟨RX3, "<init>", "(LSilverFleets$Season;LSilverFleets$Log;LSilverFleets$Fleet;)V"⟩
abbrev cX3_mostFrom : ByteArray := prog_5_method_2_code
def yX3_mostFrom : MethodName := ⟨RX3, "mostFrom", "(I)I"⟩
abbrev cX3_sailingIn : ByteArray := prog_5_method_3_code
def yX3_sailingIn : MethodName := ⟨RX3, "sailingIn", "(I)I"⟩
abbrev cX3_reckonFrom : ByteArray := prog_5_method_4_code
def yX3_reckonFrom : MethodName := ⟨RX3, "reckonFrom", "(I)V"⟩
abbrev cX3_reckonWorths : ByteArray := prog_5_method_5_code
def yX3_reckonWorths : MethodName := ⟨RX3, "reckonWorths", "(II)V"⟩
abbrev cX3_choose : ByteArray := prog_5_method_6_code
def yX3_choose : MethodName := ⟨RX3, "choose", "(III)V"⟩
def RX4 : String := "SilverFleets$Season"
def TX4 : u_T := fun k => match k with
  | 0 => ("SilverFleets$Season", "storm", "[I", true)
  | 1 => ("SilverFleets$Season", "pirates", "[I", true)
  | 2 => ("SilverFleets$Season", "listed", "[I", true)
  | 3 => ("SilverFleets$Season", "hidden", "[I", true)
  | 4 => ("SilverFleets$Season", "guns", "[I", true)
  | 5 => ("SilverFleets$Season", "ready", "[I", true)
  | 6 => ("SilverFleets$Season", "weeks", "I", false)
  | 7 => ("SilverFleets$Season", "ships", "I", false)
  | 8 => ("SilverFleets$Season", "share", "I", false)
  | _ => ("SilverFleets$Season", "shareTold", "Z", false)
def tyX4 : Nat → FieldType := fun k => match k with
  | 0 => .array .int
  | 1 => .array .int
  | 2 => .array .int
  | 3 => .array .int
  | 4 => .array .int
  | 5 => .array .int
  | 6 => .int
  | 7 => .int
  | 8 => .int
  | _ => .boolean
theorem nmX4 : ∀ a, a < 10 → ∀ b, b < 10 → a ≠ b → (TX4 a).2.1 ≠ (TX4 b).2.1 := by decide +kernel
theorem tyX4_ok : ∀ k, k < 10 → parseFieldDescriptor (TX4 k).2.2.1 = some (tyX4 k) := by decide +kernel
abbrev cX4_init : ByteArray := prog_6_method_1_code
def yX4_init : MethodName := ⟨RX4, "<init>", "()V"⟩
abbrev cX4_forgetAll : ByteArray := prog_6_method_2_code
def yX4_forgetAll : MethodName := ⟨RX4, "forgetAll", "()V"⟩
abbrev cX4_canTake : ByteArray := prog_6_method_3_code
def yX4_canTake : MethodName := ⟨RX4, "canTake", "(I)Z"⟩
abbrev cX4_addWeek : ByteArray := prog_6_method_4_code
def yX4_addWeek : MethodName := ⟨RX4, "addWeek", "(II)V"⟩
abbrev cX4_addShip : ByteArray := prog_6_method_5_code
def yX4_addShip : MethodName := ⟨RX4, "addShip", "(IIII)V"⟩
abbrev cX4_setShare : ByteArray := prog_6_method_6_code
def yX4_setShare : MethodName := ⟨RX4, "setShare", "(I)V"⟩
abbrev cX4_copyFrom : ByteArray := prog_6_method_7_code
def yX4_copyFrom : MethodName := ⟨RX4, "copyFrom", "(LSilverFleets$Season;)V"⟩
abbrev cX4_hasWeek : ByteArray := prog_6_method_8_code
def yX4_hasWeek : MethodName := ⟨RX4, "hasWeek", "(I)Z"⟩
abbrev cX4_hasShip : ByteArray := prog_6_method_9_code
def yX4_hasShip : MethodName := ⟨RX4, "hasShip", "(I)Z"⟩
abbrev cX4_hasSet : ByteArray := prog_6_method_10_code
def yX4_hasSet : MethodName := ⟨RX4, "hasSet", "(I)Z"⟩
def RX5 : String := "SilverFleets$Text"
def TX5 : u_T := fun k => match k with
  | 0 => ("SilverFleets$Text", "bytes", "[I", true)
  | 1 => ("SilverFleets$Text", "length", "I", false)
  | 2 => ("SilverFleets$Text", "token", "I", false)
  | 3 => ("SilverFleets$Text", "place", "I", false)
  | 4 => ("SilverFleets$Text", "end", "I", false)
  | 5 => ("SilverFleets$Text", "value", "I", false)
  | _ => ("SilverFleets$Text", "told", "[I", true)
def tyX5 : Nat → FieldType := fun k => match k with
  | 0 => .array .int
  | 1 => .int
  | 2 => .int
  | 3 => .int
  | 4 => .int
  | 5 => .int
  | _ => .array .int
theorem nmX5 : ∀ a, a < 7 → ∀ b, b < 7 → a ≠ b → (TX5 a).2.1 ≠ (TX5 b).2.1 := by decide +kernel
theorem tyX5_ok : ∀ k, k < 7 → parseFieldDescriptor (TX5 k).2.2.1 = some (tyX5 k) := by decide +kernel
abbrev cX5_init : ByteArray := prog_7_method_1_code
def yX5_init : MethodName := ⟨RX5, "<init>", "()V"⟩
abbrev cX5_readInto : ByteArray := prog_7_method_2_code
def yX5_readInto : MethodName := ⟨RX5, "readInto", "(LSilverFleets$Season;)I"⟩
abbrev cX5_readItem : ByteArray := prog_7_method_3_code
def yX5_readItem : MethodName := ⟨RX5, "readItem", "(LSilverFleets$Season;)Z"⟩
abbrev cX5_readNumbers : ByteArray := prog_7_method_4_code
def yX5_readNumbers : MethodName := ⟨RX5, "readNumbers", "([I)Z"⟩
abbrev cX5_mostOf : ByteArray := prog_7_method_5_code
def yX5_mostOf : MethodName := ⟨RX5, "mostOf", "(I)[I"⟩
abbrev cX5_scan : ByteArray := prog_7_method_6_code
def yX5_scan : MethodName := ⟨RX5, "scan", "()V"⟩
abbrev cX5_scanLetters : ByteArray := prog_7_method_7_code
def yX5_scanLetters : MethodName := ⟨RX5, "scanLetters", "()V"⟩
abbrev cX5_scanNumber : ByteArray := prog_7_method_8_code
def yX5_scanNumber : MethodName := ⟨RX5, "scanNumber", "()V"⟩
abbrev cX5_isLetterAt : ByteArray := prog_7_method_9_code
def yX5_isLetterAt : MethodName := ⟨RX5, "isLetterAt", "(I)Z"⟩
abbrev cX5_isDigitAt : ByteArray := prog_7_method_10_code
def yX5_isDigitAt : MethodName := ⟨RX5, "isDigitAt", "(I)Z"⟩
def RX6 : String := "SilverFleets"
def TX6 : u_T := fun k => match k with
  | 0 => ("SilverFleets", "text", "LSilverFleets$Text;", true)
  | 1 => ("SilverFleets", "season", "LSilverFleets$Season;", true)
  | 2 => ("SilverFleets", "draft", "LSilverFleets$Season;", true)
  | 3 => ("SilverFleets", "log", "LSilverFleets$Log;", true)
  | 4 => ("SilverFleets", "firstImage", "LSilverFleets$Log;", true)
  | 5 => ("SilverFleets", "secondImage", "LSilverFleets$Log;", true)
  | 6 => ("SilverFleets", "fleet", "LSilverFleets$Fleet;", true)
  | 7 => ("SilverFleets", "planner", "LSilverFleets$Planner;", true)
  | _ => ("SilverFleets", "kinds", "LSilverFleets$Kinds;", true)
def tyX6 : Nat → FieldType := fun k => match k with
  | 0 => .object "SilverFleets$Text"
  | 1 => .object "SilverFleets$Season"
  | 2 => .object "SilverFleets$Season"
  | 3 => .object "SilverFleets$Log"
  | 4 => .object "SilverFleets$Log"
  | 5 => .object "SilverFleets$Log"
  | 6 => .object "SilverFleets$Fleet"
  | 7 => .object "SilverFleets$Planner"
  | _ => .object "SilverFleets$Kinds"
theorem nmX6 : ∀ a, a < 9 → ∀ b, b < 9 → a ≠ b → (TX6 a).2.1 ≠ (TX6 b).2.1 := by decide +kernel
theorem tyX6_ok : ∀ k, k < 9 → parseFieldDescriptor (TX6 k).2.2.1 = some (tyX6 k) := by decide +kernel
abbrev cX6_init : ByteArray := prog_1_method_1_code
def yX6_init : MethodName := ⟨RX6, "<init>", "()V"⟩
abbrev cX6_type : ByteArray := prog_1_method_2_code
def yX6_type : MethodName := ⟨RX6, "type", "(I)I"⟩
abbrev cX6_clear : ByteArray := prog_1_method_3_code
def yX6_clear : MethodName := ⟨RX6, "clear", "()I"⟩
abbrev cX6_season : ByteArray := prog_1_method_4_code
def yX6_season : MethodName := ⟨RX6, "season", "()I"⟩
abbrev cX6_week : ByteArray := prog_1_method_5_code
def yX6_week : MethodName := ⟨RX6, "week", "(II)I"⟩
abbrev cX6_ship : ByteArray := prog_1_method_6_code
def yX6_ship : MethodName := ⟨RX6, "ship", "(II)I"⟩
abbrev cX6_waits : ByteArray := prog_1_method_7_code
def yX6_waits : MethodName := ⟨RX6, "waits", "()I"⟩
abbrev cX6_sails : ByteArray := prog_1_method_8_code
def yX6_sails : MethodName := ⟨RX6, "sails", "(II)I"⟩
abbrev cX6_lists : ByteArray := prog_1_method_9_code
def yX6_lists : MethodName := ⟨RX6, "lists", "(II)I"⟩
abbrev cX6_hides : ByteArray := prog_1_method_10_code
def yX6_hides : MethodName := ⟨RX6, "hides", "(II)I"⟩
abbrev cX6_throwsOff : ByteArray := prog_1_method_11_code
def yX6_throwsOff : MethodName := ⟨RX6, "throwsOff", "(II)I"⟩
abbrev cX6_raises : ByteArray := prog_1_method_12_code
def yX6_raises : MethodName := ⟨RX6, "raises", "(I)I"⟩
abbrev cX6_undo : ByteArray := prog_1_method_13_code
def yX6_undo : MethodName := ⟨RX6, "undo", "()I"⟩
abbrev cX6_now : ByteArray := prog_1_method_14_code
def yX6_now : MethodName := ⟨RX6, "now", "(I)I"⟩
abbrev cX6_worth : ByteArray := prog_1_method_15_code
def yX6_worth : MethodName := ⟨RX6, "worth", "(II)I"⟩
abbrev cX6_plan : ByteArray := prog_1_method_16_code
def yX6_plan : MethodName := ⟨RX6, "plan", "(I)I"⟩
abbrev cX6_late : ByteArray := prog_1_method_17_code
def yX6_late : MethodName := ⟨RX6, "late", "()I"⟩
abbrev cX6_game : ByteArray := prog_1_method_18_code
def yX6_game : MethodName := ⟨RX6, "game", "(IIII)I"⟩
abbrev cX6_odds : ByteArray := prog_1_method_19_code
def yX6_odds : MethodName := ⟨RX6, "odds", "(IIII)I"⟩
abbrev cX6_register : ByteArray := prog_1_method_20_code
def yX6_register : MethodName := ⟨RX6, "register", "(II)I"⟩
abbrev cX6_mark : ByteArray := prog_1_method_21_code
def yX6_mark : MethodName := ⟨RX6, "mark", "(II)I"⟩
abbrev cX6_keep : ByteArray := prog_1_method_22_code
def yX6_keep : MethodName := ⟨RX6, "keep", "(I)I"⟩
abbrev cX6_back : ByteArray := prog_1_method_23_code
def yX6_back : MethodName := ⟨RX6, "back", "(I)I"⟩
abbrev cX6_count : ByteArray := prog_1_method_24_code
def yX6_count : MethodName := ⟨RX6, "count", "(I)I"⟩
abbrev cX6_trace : ByteArray := prog_1_method_25_code
def yX6_trace : MethodName := ⟨RX6, "trace", "()J"⟩
abbrev cX6_isOver : ByteArray := prog_1_method_26_code
def yX6_isOver : MethodName := ⟨RX6, "isOver", "()Z"⟩
abbrev cX6_canSail : ByteArray := prog_1_method_27_code
def yX6_canSail : MethodName := ⟨RX6, "canSail", "(I)Z"⟩
abbrev cX6_sailOne : ByteArray := prog_1_method_28_code
def yX6_sailOne : MethodName := ⟨RX6, "sailOne", "(IZI)I"⟩
abbrev cX6_drawOf : ByteArray := prog_1_method_29_code
def yX6_drawOf : MethodName := ⟨RX6, "drawOf", "(III)I"⟩
abbrev cX6_isIn : ByteArray := prog_1_method_30_code
def yX6_isIn : MethodName := ⟨RX6, "isIn", "(II)Z"⟩
abbrev cX6_isNoHalf : ByteArray := prog_1_method_31_code
def yX6_isNoHalf : MethodName := ⟨RX6, "isNoHalf", "(I)Z"⟩
abbrev cX6_isImage : ByteArray := prog_1_method_32_code
def yX6_isImage : MethodName := ⟨RX6, "isImage", "(I)Z"⟩
abbrev cX6_imageOf : ByteArray := prog_1_method_33_code
def yX6_imageOf : MethodName := ⟨RX6, "imageOf", "(I)LSilverFleets$Log;"⟩
def RX7 : String := "SilverFleetsModel"
def TX7 : u_T := fun k => match k with
  | 0 => ("SilverFleetsModel", "trace", "J", false)
  | 1 => ("SilverFleetsModel", "text", "[B", true)
  | 2 => ("SilverFleetsModel", "typed", "I", false)
  | 3 => ("SilverFleetsModel", "weeks", "[I", true)
  | 4 => ("SilverFleetsModel", "storm", "[I", true)
  | 5 => ("SilverFleetsModel", "pirates", "[I", true)
  | 6 => ("SilverFleetsModel", "ships", "[I", true)
  | 7 => ("SilverFleetsModel", "draftListed", "[I", true)
  | 8 => ("SilverFleetsModel", "draftHidden", "[I", true)
  | 9 => ("SilverFleetsModel", "guns", "[I", true)
  | 10 => ("SilverFleetsModel", "ready", "[I", true)
  | 11 => ("SilverFleetsModel", "share", "[I", true)
  | 12 => ("SilverFleetsModel", "shareTold", "Z", false)
  | 13 => ("SilverFleetsModel", "at", "I", false)
  | 14 => ("SilverFleetsModel", "start", "I", false)
  | 15 => ("SilverFleetsModel", "sort", "I", false)
  | 16 => ("SilverFleetsModel", "value", "I", false)
  | 17 => ("SilverFleetsModel", "fault", "I", false)
  | 18 => ("SilverFleetsModel", "now", "[I", true)
  | 19 => ("SilverFleetsModel", "isKept", "[Z", true)
  | 20 => ("SilverFleetsModel", "most", "[I", true)
  | _ => ("SilverFleetsModel", "goes", "[I", true)
def tyX7 : Nat → FieldType := fun k => match k with
  | 0 => .long
  | 1 => .array .byte
  | 2 => .int
  | 3 => .array .int
  | 4 => .array .int
  | 5 => .array .int
  | 6 => .array .int
  | 7 => .array .int
  | 8 => .array .int
  | 9 => .array .int
  | 10 => .array .int
  | 11 => .array .int
  | 12 => .boolean
  | 13 => .int
  | 14 => .int
  | 15 => .int
  | 16 => .int
  | 17 => .int
  | 18 => .array .int
  | 19 => .array .boolean
  | 20 => .array .int
  | _ => .array .int
theorem nmX7 : ∀ a, a < 22 → ∀ b, b < 22 → a ≠ b → (TX7 a).2.1 ≠ (TX7 b).2.1 := by decide +kernel
theorem tyX7_ok : ∀ k, k < 22 → parseFieldDescriptor (TX7 k).2.2.1 = some (tyX7 k) := by decide +kernel
abbrev cX7_init : ByteArray := prog_9_method_1_code
def yX7_init : MethodName := ⟨RX7, "<init>", "()V"⟩
abbrev cX7_in : ByteArray := prog_9_method_3_code
def yX7_in : MethodName := ⟨RX7, "in", "(III)Z"⟩
abbrev cX7_type : ByteArray := prog_9_method_4_code
def yX7_type : MethodName := ⟨RX7, "type", "(I)I"⟩
abbrev cX7_clear : ByteArray := prog_9_method_5_code
def yX7_clear : MethodName := ⟨RX7, "clear", "()I"⟩
abbrev cX7_here : ByteArray := prog_9_method_6_code
def yX7_here : MethodName := ⟨RX7, "here", "()I"⟩
abbrev cX7_step : ByteArray := prog_9_method_7_code
def yX7_step : MethodName := ⟨RX7, "step", "()V"⟩
abbrev cX7_due : ByteArray := prog_9_method_8_code
def yX7_due : MethodName := ⟨RX7, "due", "(Z)I"⟩
abbrev cX7_number : ByteArray := prog_9_method_9_code
def yX7_number : MethodName := ⟨RX7, "number", "(II)I"⟩
abbrev cX7_mayBe : ByteArray := prog_9_method_10_code
def yX7_mayBe : MethodName := ⟨RX7, "mayBe", "(I)Z"⟩
abbrev cX7_readRow : ByteArray := prog_9_method_11_code
def yX7_readRow : MethodName := ⟨RX7, "readRow", "(I)V"⟩
abbrev cX7_plain : ByteArray := prog_9_method_12_code
def yX7_plain : MethodName := ⟨RX7, "plain", "()V"⟩
abbrev cX7_takeDraft : ByteArray := prog_9_method_13_code
def yX7_takeDraft : MethodName := ⟨RX7, "takeDraft", "()V"⟩
abbrev cX7_season : ByteArray := prog_9_method_14_code
def yX7_season : MethodName := ⟨RX7, "season", "()I"⟩
abbrev cX7_isWeek : ByteArray := prog_9_method_15_code
def yX7_isWeek : MethodName := ⟨RX7, "isWeek", "(I)Z"⟩
abbrev cX7_isShip : ByteArray := prog_9_method_16_code
def yX7_isShip : MethodName := ⟨RX7, "isShip", "(I)Z"⟩
abbrev cX7_all : ByteArray := prog_9_method_17_code
def yX7_all : MethodName := ⟨RX7, "all", "()I"⟩
abbrev cX7_isOver : ByteArray := prog_9_method_18_code
def yX7_isOver : MethodName := ⟨RX7, "isOver", "()Z"⟩
abbrev cX7_silver : ByteArray := prog_9_method_19_code
def yX7_silver : MethodName := ⟨RX7, "silver", "(I)I"⟩
abbrev cX7_manyOf : ByteArray := prog_9_method_20_code
def yX7_manyOf : MethodName := ⟨RX7, "manyOf", "(I)I"⟩
abbrev cX7_setIn : ByteArray := prog_9_method_21_code
def yX7_setIn : MethodName := ⟨RX7, "setIn", "(I)I"⟩
abbrev cX7_silverOf : ByteArray := prog_9_method_22_code
def yX7_silverOf : MethodName := ⟨RX7, "silverOf", "(I)I"⟩
abbrev cX7_takenOf : ByteArray := prog_9_method_23_code
def yX7_takenOf : MethodName := ⟨RX7, "takenOf", "(II)I"⟩
abbrev cX7_week : ByteArray := prog_9_method_24_code
def yX7_week : MethodName := ⟨RX7, "week", "(II)I"⟩
abbrev cX7_ship : ByteArray := prog_9_method_25_code
def yX7_ship : MethodName := ⟨RX7, "ship", "(II)I"⟩
abbrev cX7_know : ByteArray := prog_9_method_26_code
def yX7_know : MethodName := ⟨RX7, "know", "()V"⟩
abbrev cX7_waits : ByteArray := prog_9_method_27_code
def yX7_waits : MethodName := ⟨RX7, "waits", "()I"⟩
abbrev cX7_canSail : ByteArray := prog_9_method_28_code
def yX7_canSail : MethodName := ⟨RX7, "canSail", "(I)Z"⟩
abbrev cX7_draw : ByteArray := prog_9_method_29_code
def yX7_draw : MethodName := ⟨RX7, "draw", "(II)I"⟩
abbrev cX7_sails : ByteArray := prog_9_method_30_code
def yX7_sails : MethodName := ⟨RX7, "sails", "(II)I"⟩
abbrev cX7_shift : ByteArray := prog_9_method_31_code
def yX7_shift : MethodName := ⟨RX7, "shift", "(IIII)I"⟩
abbrev cX7_lists : ByteArray := prog_9_method_32_code
def yX7_lists : MethodName := ⟨RX7, "lists", "(II)I"⟩
abbrev cX7_hides : ByteArray := prog_9_method_33_code
def yX7_hides : MethodName := ⟨RX7, "hides", "(II)I"⟩
abbrev cX7_throwsOff : ByteArray := prog_9_method_34_code
def yX7_throwsOff : MethodName := ⟨RX7, "throwsOff", "(II)I"⟩
abbrev cX7_raises : ByteArray := prog_9_method_35_code
def yX7_raises : MethodName := ⟨RX7, "raises", "(I)I"⟩
abbrev cX7_undo : ByteArray := prog_9_method_36_code
def yX7_undo : MethodName := ⟨RX7, "undo", "()I"⟩
abbrev cX7_now : ByteArray := prog_9_method_37_code
def yX7_now : MethodName := ⟨RX7, "now", "(I)I"⟩
abbrev cX7_worthOf : ByteArray := prog_9_method_38_code
def yX7_worthOf : MethodName := ⟨RX7, "worthOf", "(II)I"⟩
abbrev cX7_worth : ByteArray := prog_9_method_39_code
def yX7_worth : MethodName := ⟨RX7, "worth", "(II)I"⟩
abbrev cX7_mayGo : ByteArray := prog_9_method_40_code
def yX7_mayGo : MethodName := ⟨RX7, "mayGo", "(II)Z"⟩
abbrev cX7_measure : ByteArray := prog_9_method_41_code
def yX7_measure : MethodName := ⟨RX7, "measure", "(I)V"⟩
abbrev cX7_plan : ByteArray := prog_9_method_42_code
def yX7_plan : MethodName := ⟨RX7, "plan", "(I)I"⟩
abbrev cX7_late : ByteArray := prog_9_method_43_code
def yX7_late : MethodName := ⟨RX7, "late", "()I"⟩
abbrev cX7_part : ByteArray := prog_9_method_44_code
def yX7_part : MethodName := ⟨RX7, "part", "(III)I"⟩
abbrev cX7_game : ByteArray := prog_9_method_45_code
def yX7_game : MethodName := ⟨RX7, "game", "(IIII)I"⟩
abbrev cX7_odds : ByteArray := prog_9_method_46_code
def yX7_odds : MethodName := ⟨RX7, "odds", "(IIII)I"⟩
abbrev cX7_register : ByteArray := prog_9_method_47_code
def yX7_register : MethodName := ⟨RX7, "register", "(II)I"⟩
abbrev cX7_mark : ByteArray := prog_9_method_48_code
def yX7_mark : MethodName := ⟨RX7, "mark", "(II)I"⟩
abbrev cX7_keep : ByteArray := prog_9_method_49_code
def yX7_keep : MethodName := ⟨RX7, "keep", "(I)I"⟩
abbrev cX7_back : ByteArray := prog_9_method_50_code
def yX7_back : MethodName := ⟨RX7, "back", "(I)I"⟩
abbrev cX7_count : ByteArray := prog_9_method_51_code
def yX7_count : MethodName := ⟨RX7, "count", "(I)I"⟩
abbrev cX7_trace : ByteArray := prog_9_method_52_code
def yX7_trace : MethodName := ⟨RX7, "trace", "()J"⟩
def RJ9 : String := "java/lang/Math"
def RJ10 : String := "java/lang/System"
def RL : String := "SilverFleetsLaw"
abbrev cL_law : ByteArray := code
def yL_law : MethodName := ⟨RL, "law", "([I)Z"⟩
abbrev vwCl : List vw_C := [(RX0, TX0, 5), (RX1, TX1, 3), (RX2, TX2, 4), (RX3, TX3, 6), (RX4, TX4, 10), (RX5, TX5, 7), (RX6, TX6, 9), (RX7, TX7, 22)]
def Rn : Nat → String := fun k => match k with
  | 0 => RX0
  | 1 => RX1
  | 2 => RX2
  | 3 => RX3
  | 4 => RX4
  | 5 => RX5
  | 6 => RX6
  | 7 => RX7
  | _ => RL
def Tn : Nat → u_T := fun k => match k with
  | 0 => TX0
  | 1 => TX1
  | 2 => TX2
  | 3 => TX3
  | 4 => TX4
  | 5 => TX5
  | 6 => TX6
  | _ => TX7
def tyn : Nat → Nat → FieldType := fun k => match k with
  | 0 => tyX0
  | 1 => tyX1
  | 2 => tyX2
  | 3 => tyX3
  | 4 => tyX4
  | 5 => tyX5
  | 6 => tyX6
  | _ => tyX7
def Nn : Nat → Nat := fun k => match k with
  | 0 => 5
  | 1 => 3
  | 2 => 4
  | 3 => 6
  | 4 => 10
  | 5 => 7
  | 6 => 9
  | _ => 22
/-- all words that may be handed on to a callee, and the links among nest mates -/
def Wd : List Cond := lw_tbl.filter goodWord
def isNest (w : Cond) : Bool := match w with
  | .fieldLinkNest _ _ _ _ _ _ => true
  | .methodLinkNest _ _ _ _ => true
  | _ => false
def Nw : List Cond := lw_tbl.filter isNest
theorem mW (n : Nat) {w : Cond} (h : lw_tbl[n]? = some w) (g : goodWord w = true) : w ∈ Wd := List.mem_filter.mpr ⟨List.mem_of_getElem? h, g⟩
theorem mN (n : Nat) {w : Cond} (h : lw_tbl[n]? = some w) (g : isNest w = true) : w ∈ Nw := List.mem_filter.mpr ⟨List.mem_of_getElem? h, g⟩
theorem wd_tbl {w : Cond} (h : w ∈ Wd) : w ∈ lw_tbl := (List.mem_filter.mp h).1
theorem nw_tbl {w : Cond} (h : w ∈ Nw) : w ∈ lw_tbl := (List.mem_filter.mp h).1
theorem wd_good {w : Cond} (h : w ∈ Wd) : goodWord w = true := (List.mem_filter.mp h).2
theorem goodIn_wd {c : Cond} {Ts : List Cond} (hT : ∀ w ∈ Wd, w ∈ Ts) (hc : c ∈ Wd) : GoodIn Ts (c :: Wd) := fun w h => by
  rcases List.mem_cons.mp h with rfl | h
  · exact ⟨hT _ hc, good_of_word (wd_good hc)⟩
  · exact ⟨hT _ h, good_of_word (wd_good h)⟩
/-- several words by their places -/
theorem mWs (ws : List Cond) (ps : List Nat) (h : ws = ps.filterMap (fun i => lw_tbl[i]?)) (g : ws.all goodWord = true) : ∀ w ∈ ws, w ∈ Wd := fun w hw => by
  have g1 := List.all_eq_true.mp g w hw
  rw [h] at hw
  obtain ⟨i, -, hi⟩ := List.mem_filterMap.mp hw
  exact mW i hi g1
theorem mNs (ws : List Cond) (ps : List Nat) (h : ws = ps.filterMap (fun i => lw_tbl[i]?)) (g : ws.all isNest = true) : ∀ w ∈ ws, w ∈ Nw := fun w hw => by
  have g1 := List.all_eq_true.mp g w hw
  rw [h] at hw
  obtain ⟨i, -, hi⟩ := List.mem_filterMap.mp hw
  exact mN i hi g1
theorem uwX0 : ∀ w ∈ u_ws RX0 TX0 5, w ∈ Wd := mWs _ [220, 222, 224, 226, 228] (by decide +kernel) (by decide +kernel)
theorem uwX1 : ∀ w ∈ u_ws RX1 TX1 3, w ∈ Wd := mWs _ [266, 268, 270] (by decide +kernel) (by decide +kernel)
theorem uwX2 : ∀ w ∈ u_ws RX2 TX2 4, w ∈ Wd := mWs _ [198, 200, 202, 204] (by decide +kernel) (by decide +kernel)
theorem uwX3 : ∀ w ∈ u_ws RX3 TX3 6, w ∈ Wd := mWs _ [243, 245, 247, 249, 251, 253] (by decide +kernel) (by decide +kernel)
theorem uwX4 : ∀ w ∈ u_ws RX4 TX4 10, w ∈ Wd := mWs _ [165, 167, 169, 171, 173, 175, 177, 179, 181, 183] (by decide +kernel) (by decide +kernel)
theorem uwX5 : ∀ w ∈ u_ws RX5 TX5 7, w ∈ Wd := mWs _ [115, 117, 119, 121, 123, 125, 127] (by decide +kernel) (by decide +kernel)
theorem uwX6 : ∀ w ∈ u_ws RX6 TX6 9, w ∈ Wd := mWs _ [282, 284, 286, 288, 290, 292, 294, 296, 298] (by decide +kernel) (by decide +kernel)
theorem uwX7 : ∀ w ∈ u_ws RX7 TX7 22, w ∈ Wd := mWs _ [714, 716, 718, 720, 722, 724, 726, 728, 730, 732, 734, 736, 738, 740, 742, 744, 746, 748, 750, 752, 754, 756] (by decide +kernel) (by decide +kernel)
theorem uwn : ∀ k, k < 8 → ∀ w ∈ u_ws (Rn k) (Tn k) (Nn k), w ∈ Wd := fun k hk => match k, hk with
  | 0, _ => uwX0
  | 1, _ => uwX1
  | 2, _ => uwX2
  | 3, _ => uwX3
  | 4, _ => uwX4
  | 5, _ => uwX5
  | 6, _ => uwX6
  | 7, _ => uwX7
  | k + 8, h => absurd h (by omega)
theorem nmn : ∀ k, k < 8 → ∀ a, a < Nn k → ∀ b, b < Nn k → a ≠ b → (Tn k a).2.1 ≠ (Tn k b).2.1 := fun k hk => match k, hk with
  | 0, _ => nmX0
  | 1, _ => nmX1
  | 2, _ => nmX2
  | 3, _ => nmX3
  | 4, _ => nmX4
  | 5, _ => nmX5
  | 6, _ => nmX6
  | 7, _ => nmX7
  | k + 8, h => absurd h (by omega)
theorem tyn_ok : ∀ k, k < 8 → ∀ a, a < Nn k → parseFieldDescriptor (Tn k a).2.2.1 = some (tyn k a) := fun k hk => match k, hk with
  | 0, _ => tyX0_ok
  | 1, _ => tyX1_ok
  | 2, _ => tyX2_ok
  | 3, _ => tyX3_ok
  | 4, _ => tyX4_ok
  | 5, _ => tyX5_ok
  | 6, _ => tyX6_ok
  | 7, _ => tyX7_ok
  | k + 8, h => absurd h (by omega)
theorem cln : ∀ k, k < 8 → vwCl[k]? = some (Rn k, Tn k, Nn k) := fun k hk => match k, hk with
  | 0, _ => rfl
  | 1, _ => rfl
  | 2, _ => rfl
  | 3, _ => rfl
  | 4, _ => rfl
  | 5, _ => rfl
  | 6, _ => rfl
  | 7, _ => rfl
  | k + 8, h => absurd h (by omega)
theorem own_n : ∀ k, k < 8 → ∀ a, a < Nn k → (Tn k a).1 = Rn k := by decide +kernel
/-- field links: own class, index, class of the field, its place; the nest mates' apart -/
def FTl : List (Nat × Nat × Nat × Nat) := [(5, 9, 5, 0), (5, 74, 5, 1), (5, 31, 5, 2), (5, 38, 5, 3), (5, 24, 5, 4), (5, 41, 5, 5), (5, 16, 5, 6), (4, 9, 4, 0), (4, 15, 4, 1), (4, 18, 4, 2), (4, 21, 4, 3), (4, 24, 4, 4), (4, 27, 4, 5), (4, 34, 4, 6), (4, 37, 4, 7), (4, 30, 4, 8), (4, 40, 4, 9), (2, 11, 2, 0), (2, 15, 2, 1), (2, 18, 2, 2), (0, 15, 0, 0), (0, 19, 0, 1), (0, 9, 0, 2), (0, 90, 0, 3), (0, 93, 0, 4), (3, 21, 3, 0), (3, 25, 3, 1), (3, 29, 3, 2), (3, 9, 3, 3), (3, 15, 3, 4), (3, 18, 3, 5), (1, 11, 1, 0), (1, 15, 1, 1), (1, 39, 1, 2), (6, 12, 6, 0), (6, 19, 6, 1), (6, 23, 6, 2), (6, 29, 6, 3), (6, 33, 6, 4), (6, 36, 6, 5), (6, 44, 6, 6), (6, 53, 6, 7), (6, 60, 6, 8), (7, 175, 7, 0), (7, 7, 7, 1), (7, 64, 7, 2), (7, 13, 7, 3), (7, 17, 7, 4), (7, 20, 7, 5), (7, 23, 7, 6), (7, 26, 7, 7), (7, 29, 7, 8), (7, 32, 7, 9), (7, 35, 7, 10), (7, 38, 7, 11), (7, 94, 7, 12), (7, 68, 7, 13), (7, 75, 7, 14), (7, 81, 7, 15), (7, 78, 7, 16), (7, 84, 7, 17), (7, 41, 7, 18), (7, 44, 7, 19), (7, 48, 7, 20), (7, 51, 7, 21)]
def GTl : List (Nat × Nat × Nat × Nat) := [(6, 68, 5, 0), (6, 64, 5, 1), (6, 91, 4, 0), (0, 65, 4, 0), (6, 94, 4, 1), (0, 55, 4, 1), (2, 27, 4, 2), (2, 30, 4, 3), (1, 50, 4, 4), (6, 107, 4, 4), (0, 52, 4, 4), (0, 35, 4, 5), (1, 58, 4, 5), (6, 110, 4, 5), (3, 33, 4, 6), (6, 219, 4, 6), (0, 23, 4, 7), (2, 22, 4, 7), (6, 140, 4, 7), (6, 222, 4, 8), (6, 123, 2, 0), (6, 166, 2, 2), (6, 83, 2, 3), (6, 193, 0, 3), (6, 196, 0, 4), (6, 225, 1, 2)]
def fwd (q : Nat × Nat × Nat × Nat) : Cond := .fieldLink (Rn q.1) q.2.1 (Rn q.2.2.1) (Tn q.2.2.1 q.2.2.2).2.1 (Tn q.2.2.1 q.2.2.2).2.2.1
def gwd (q : Nat × Nat × Nat × Nat) : Cond := .fieldLinkNest (Rn q.1) q.2.1 (Rn q.2.2.1) (Tn q.2.2.1 q.2.2.2).2.1 (Tn q.2.2.1 q.2.2.2).2.2.1 "SilverFleets"
theorem FT_ok : ∀ w ∈ FTl.map fwd, w ∈ Wd := mWs _ [106, 109, 110, 111, 112, 113, 114, 137, 140, 143, 145, 147, 151, 155, 158, 162, 164, 192, 194, 195, 213, 214, 215, 216, 218, 237, 238, 239, 240, 241, 242, 262, 263, 264, 273, 274, 275, 276, 277, 278, 279, 280, 281, 692, 693, 694, 695, 696, 697, 698, 699, 700, 701, 702, 703, 704, 705, 706, 707, 708, 709, 710, 711, 712, 713] (by decide +kernel) (by decide +kernel)
theorem GT_ok : ∀ w ∈ GTl.map gwd, w ∈ Nw := mNs _ [107, 108, 138, 139, 141, 142, 144, 146, 148, 149, 150, 152, 153, 154, 156, 157, 159, 160, 161, 163, 193, 196, 197, 217, 219, 265] (by decide +kernel) (by decide +kernel)
theorem FT_lt : FTl.all (fun q => decide (q.2.2.1 < 8) && decide (q.2.2.2 < Nn q.2.2.1)) = true := by decide +kernel
theorem GT_lt : GTl.all (fun q => decide (q.2.2.1 < 8) && decide (q.2.2.2 < Nn q.2.2.1)) = true := by decide +kernel
def CIl : List (Nat × Nat × Int32) := [(6, 205, -1000000), (1, 38, -1000000), (7, 174, -1000000)]
def CLl : List (Nat × Nat × Int64) := [(6, 233, 7919), (6, 235, 6151), (6, 237, 12289), (6, 239, 65521), (6, 241, 8), (6, 243, 10), (1, 48, 10), (1, 56, 100), (1, 61, 1000), (1, 63, 10000), (1, 65, 100000), (7, 130, 7919), (7, 132, 6151), (7, 134, 12289), (7, 136, 65521), (7, 179, 11), (7, 181, 101), (7, 183, 1011), (7, 185, 10101), (7, 187, 100001)]
theorem CI_ok : ∀ w ∈ CIl.map (fun q => Cond.constant (Rn q.1) q.2.1 q.2.2), w ∈ Wd := mWs _ [614, 650, 938] (by decide +kernel) (by decide +kernel)
theorem CL_ok : ∀ w ∈ CLl.map (fun q => Cond.constantLong (Rn q.1) q.2.1 q.2.2), w ∈ Wd := mWs _ [470, 471, 472, 473, 474, 475, 628, 633, 638, 643, 648, 856, 857, 858, 859, 939, 940, 941, 942, 943] (by decide +kernel) (by decide +kernel)
def snm (k : Nat) : String := match k with
  | 100 => "WEEK_MOST"
  | 101 => "SHIP_MOST"
  | _ => "SHARE_MOST"
def STl : List (Nat × Nat × Nat) := [(5, 13, 101), (5, 68, 100), (5, 71, 102)]
theorem ST_ok : ∀ w ∈ STl.map (fun q => Cond.fieldLink (Rn q.1) q.2.1 RX5 (snm q.2.2) "[I"), w ∈ Wd := mWs _ [104, 355, 357] (by decide +kernel) (by decide +kernel)
end
section
/-! THE ABSTRACT MACHINE: a fixed world of cells (SH), whose refs are the cells' numbers; numbers in fields (I, J) and in arrays (G) -/
abbrev SH : Type := List ((Nat × List (Nat × Nat)) ⊕ (Nat × Nat))
abbrev II : Type := Nat → Nat → Int32
abbrev JJ : Type := Nat → Nat → Int64
abbrev LV : Type := List (Option Value)
abbrev PP : Type := Option Value → II → JJ → II → Prop
def up2 {α : Type} (f : Nat → Nat → α) (a b : Nat) (v : α) : Nat → Nat → α := fun x y => if x = a then (if y = b then v else f x y) else f x y
def ety (k : Nat) : FieldType := match k with
  | 0 => .int
  | 1 => .byte
  | _ => .boolean
/-- a field: (0, k) the cell k; (1, _) an int; (2, _) a long; (3, _) a boolean -/
def fdv (I : II) (J : JJ) (k j : Nat) (fd : Nat × Nat) : Value := match fd.1 with
  | 0 => .ref fd.2
  | 2 => .long (J k j)
  | _ => .int (I k j)
def con (ad : Nat → Nat) (v : Value) : Value := match v with
  | .ref k => .ref (ad k)
  | w => w
def cellOf (cA : Nat → ClassId) (ad : Nat → Nat) (I : II) (J : JJ) (G : II) (k : Nat) (sh : (Nat × List (Nat × Nat)) ⊕ (Nat × Nat)) : Nat × va_E := match sh with
  | .inl o => (ad k, .inr (o.1, o.2.mapIdx (fun j fd => con ad (fdv I J k j fd))))
  | .inr a => (ad k, .inl (cA a.1, a.2, .inl (G k)))
def wrl (S : SH) (cA : Nat → ClassId) (ad : Nat → Nat) (I : II) (J : JJ) (G : II) : va_W := S.mapIdx (fun k sh => cellOf cA ad I J G k sh)
theorem wrl_get {S : SH} {cA : Nat → ClassId} {ad : Nat → Nat} {I : II} {J : JJ} {G : II} {k : Nat} {sh : (Nat × List (Nat × Nat)) ⊕ (Nat × Nat)} (h : S[k]? = some sh) : (wrl S cA ad I J G)[k]? = some (cellOf cA ad I J G k sh) := by
  simp [wrl, List.getElem?_mapIdx, h]
theorem wrl_len {S : SH} {cA : Nat → ClassId} {ad : Nat → Nat} {I : II} {J : JJ} {G : II} : (wrl S cA ad I J G).length = S.length := by simp [wrl]
theorem cellOf_1 {cA : Nat → ClassId} {ad : Nat → Nat} {I : II} {J : JJ} {G : II} {k : Nat} (sh : (Nat × List (Nat × Nat)) ⊕ (Nat × Nat)) : (cellOf cA ad I J G k sh).1 = ad k := by
  cases sh <;> rfl
/-- which cells are the world's own, or new -/
def AA (S : SH) (ad : Nat → Nat) (sz : Nat) : Nat → Prop := fun q => (∃ k, k < S.length ∧ q = ad k) ∨ sz ≤ q
def AdI (S : SH) (ad : Nat → Nat) : Prop := ∀ i j, i < S.length → j < S.length → ad i = ad j → i = j
theorem wrl_at {S : SH} {cA : Nat → ClassId} {ad : Nat → Nat} {I : II} {J : JJ} {G : II} {k : Nat} {q : Nat × va_E} (h : (wrl S cA ad I J G)[k]? = some q) : k < S.length ∧ q.1 = ad k := by
  have hk : k < S.length := by
    have := (List.getElem?_eq_some_iff.mp h).1
    rwa [wrl_len] at this
  refine ⟨hk, ?_⟩
  have h2 := wrl_get (cA := cA) (ad := ad) (I := I) (J := J) (G := G) (List.getElem?_eq_getElem hk)
  rw [h2] at h
  cases h
  exact cellOf_1 _
theorem AdI.D {S : SH} {cA : Nat → ClassId} {ad : Nat → Nat} {I : II} {J : JJ} {G : II} {sz : Nat} (h : AdI S ad) : va_D (AA S ad sz) (wrl S cA ad I J G) := by
  refine ⟨fun i j p q hi hj hpq => ?_, fun k q hk => ?_⟩
  · obtain ⟨a1, a2⟩ := wrl_at hi
    obtain ⟨b1, b2⟩ := wrl_at hj
    exact h i j a1 b1 (by rw [← a2, ← b2]; exact hpq)
  · obtain ⟨a1, a2⟩ := wrl_at hk
    exact Or.inl ⟨k, a1, a2⟩
theorem AA.le {S : SH} {ad : Nat → Nat} {a b : Nat} (h : a ≤ b) : ∀ q, AA S ad b q → AA S ad a q := fun q hq => hq.elim Or.inl (fun g => Or.inr (Nat.le_trans h g))
/-- an int or boolean field is written -/
theorem wrl_setI {S : SH} {cA : Nat → ClassId} {ad : Nat → Nat} {I : II} {J : JJ} {G : II} {k j ci : Nat} {fds : List (Nat × Nat)} {fd : Nat × Nat} {v : Int32} (h : S[k]? = some (.inl (ci, fds))) (hj : fds[j]? = some fd) (h0 : fd.1 ≠ 0) (h2 : fd.1 ≠ 2) :
    (wrl S cA ad I J G).set k (ad k, .inr (ci, (fds.mapIdx (fun j fd => con ad (fdv I J k j fd))).set j (.int v))) = wrl S cA ad (up2 I k j v) J G := by
  refine List.ext_getElem? (fun n => ?_)
  rw [List.getElem?_set, wrl_len]
  by_cases hn : k = n
  · subst hn
    have hl : k < S.length := (List.getElem?_eq_some_iff.mp h).1
    rw [if_pos rfl, if_pos hl, wrl_get h]
    show some (ad k, _) = some (ad k, _)
    refine congrArg some (congrArg (Prod.mk (ad k)) (congrArg Sum.inr (congrArg (Prod.mk ci) ?_)))
    refine List.ext_getElem? (fun i => ?_)
    rw [List.getElem?_set]
    simp only [List.getElem?_mapIdx, List.length_mapIdx]
    by_cases hi : j = i
    · subst hi
      have hjl : j < fds.length := (List.getElem?_eq_some_iff.mp hj).1
      rw [if_pos rfl, if_pos hjl, hj]
      obtain ⟨f1, f2⟩ := fd
      match f1, h0, h2 with
      | 1, _, _ => simp [fdv, con, up2]
      | n + 3, _, _ => simp [fdv, con, up2]
    · rw [if_neg hi]
      cases hf : fds[i]? with
      | none => rfl
      | some g =>
        obtain ⟨g1, g2⟩ := g
        have hne : ¬ i = j := fun e => hi e.symm
        match g1 with
        | 0 => simp [fdv, con]
        | 1 => simp [fdv, con, up2, hne]
        | 2 => simp [fdv, con]
        | n + 3 => simp [fdv, con, up2, hne]
  · rw [if_neg hn]
    simp only [wrl, List.getElem?_mapIdx]
    cases hs : S[n]? with
    | none => rfl
    | some sh =>
      have hne : ¬ n = k := fun e => hn e.symm
      cases sh with
      | inr a => rfl
      | inl o =>
        simp only [Option.map_some, cellOf]
        refine congrArg some (congrArg (Prod.mk (ad n)) (congrArg Sum.inr (congrArg (Prod.mk o.1) ?_)))
        refine List.ext_getElem? (fun i => ?_)
        simp only [List.getElem?_mapIdx]
        cases hf : o.2[i]? with
        | none => rfl
        | some g =>
          obtain ⟨g1, g2⟩ := g
          match g1 with
          | 0 => simp [fdv, con]
          | 1 => simp [fdv, con, up2, hne]
          | 2 => simp [fdv, con]
          | n + 3 => simp [fdv, con, up2, hne]
theorem wrl_setJ {S : SH} {cA : Nat → ClassId} {ad : Nat → Nat} {I : II} {J : JJ} {G : II} {k j ci : Nat} {fds : List (Nat × Nat)} {fd : Nat × Nat} {v : Int64} (h : S[k]? = some (.inl (ci, fds))) (hj : fds[j]? = some fd) (h2 : fd.1 = 2) :
    (wrl S cA ad I J G).set k (ad k, .inr (ci, (fds.mapIdx (fun j fd => con ad (fdv I J k j fd))).set j (.long v))) = wrl S cA ad I (up2 J k j v) G := by
  refine List.ext_getElem? (fun n => ?_)
  rw [List.getElem?_set, wrl_len]
  by_cases hn : k = n
  · subst hn
    have hl : k < S.length := (List.getElem?_eq_some_iff.mp h).1
    rw [if_pos rfl, if_pos hl, wrl_get h]
    show some (ad k, _) = some (ad k, _)
    refine congrArg some (congrArg (Prod.mk (ad k)) (congrArg Sum.inr (congrArg (Prod.mk ci) ?_)))
    refine List.ext_getElem? (fun i => ?_)
    rw [List.getElem?_set]
    simp only [List.getElem?_mapIdx, List.length_mapIdx]
    by_cases hi : j = i
    · subst hi
      have hjl : j < fds.length := (List.getElem?_eq_some_iff.mp hj).1
      rw [if_pos rfl, if_pos hjl, hj]
      obtain ⟨f1, f2⟩ := fd
      dsimp only at h2
      subst h2
      simp [fdv, con, up2]
    · rw [if_neg hi]
      cases hf : fds[i]? with
      | none => rfl
      | some g =>
        obtain ⟨g1, g2⟩ := g
        have hne : ¬ i = j := fun e => hi e.symm
        match g1 with
        | 0 => simp [fdv, con]
        | 1 => simp [fdv, con]
        | 2 => simp [fdv, con, up2, hne]
        | n + 3 => simp [fdv, con]
  · rw [if_neg hn]
    simp only [wrl, List.getElem?_mapIdx]
    cases hs : S[n]? with
    | none => rfl
    | some sh =>
      have hne : ¬ n = k := fun e => hn e.symm
      cases sh with
      | inr a => rfl
      | inl o =>
        simp only [Option.map_some, cellOf]
        refine congrArg some (congrArg (Prod.mk (ad n)) (congrArg Sum.inr (congrArg (Prod.mk o.1) ?_)))
        refine List.ext_getElem? (fun i => ?_)
        simp only [List.getElem?_mapIdx]
        cases hf : o.2[i]? with
        | none => rfl
        | some g =>
          obtain ⟨g1, g2⟩ := g
          match g1 with
          | 0 => simp [fdv, con]
          | 1 => simp [fdv, con]
          | 2 => simp [fdv, con, up2, hne]
          | n + 3 => simp [fdv, con]
theorem wrl_setG {S : SH} {cA : Nat → ClassId} {ad : Nat → Nat} {I : II} {J : JJ} {G : II} {k : Nat} {a : Nat × Nat} {f : Nat → Int32} (h : S[k]? = some (.inr a)) :
    (wrl S cA ad I J G).set k (ad k, .inl (cA a.1, a.2, .inl f)) = wrl S cA ad I J (va_up G k f) := by
  refine List.ext_getElem? (fun n => ?_)
  rw [List.getElem?_set, wrl_len]
  by_cases hn : k = n
  · subst hn
    have hl : k < S.length := (List.getElem?_eq_some_iff.mp h).1
    rw [if_pos rfl, if_pos hl, wrl_get h]
    simp [cellOf, va_up]
  · rw [if_neg hn]
    simp only [wrl, List.getElem?_mapIdx]
    cases hs : S[n]? with
    | none => rfl
    | some sh =>
      have hne : ¬ n = k := fun e => hn e.symm
      cases sh with
      | inr a => simp [cellOf, va_up, hne]
      | inl o => rfl
theorem con_cat (ad : Nat → Nat) (v : Value) : (con ad v).category = v.category := by cases v <;> rfl
/-- the frame's locals, by their places -/
def lvP (ad : Nat → Nat) (ls : Array Slot) (nL : Nat) (L : LV) : Prop := ls.size = nL ∧ lv_wf ls ∧ ∀ (i : Nat) (v : Value), L[i]? = some (some v) → ls[i]? = some (.val (con ad v))
def isTwo (o : Option (Option Value)) : Bool := match o with
  | some (some (.long _)) => true
  | some (some (.double _)) => true
  | _ => false
/-- a two-slot value just ahead of the place i is lost when i is written -/
def lose (L : LV) (i : Nat) : LV := match i with
  | 0 => L
  | j + 1 => if isTwo L[j]? = true then L.set j none else L
def st1 (L : LV) (i : Nat) (v : Value) : LV := (lose L i).set i (some v)
def st2 (L : LV) (i : Nat) (v : Value) : LV := ((lose L i).set (i + 1) none).set i (some v)
theorem isTwo_of {L : LV} {j : Nat} {v : Value} (h : L[j]? = some (some v)) (hc : v.category = 2) : isTwo L[j]? = true := by
  rw [h]
  cases v <;> first | rfl | (simp [Value.category] at hc)
theorem lose_sub {L : LV} {i n : Nat} {v : Value} (h : (lose L i)[n]? = some (some v)) : L[n]? = some (some v) ∧ (n + 1 = i → v.category ≠ 2) := by
  unfold lose at h
  cases i with
  | zero => exact ⟨h, fun e => absurd e (by omega)⟩
  | succ j =>
    dsimp only at h
    by_cases ht : isTwo L[j]? = true
    · rw [if_pos ht, List.getElem?_set] at h
      by_cases hj : j = n
      · rw [if_pos hj] at h
        split at h <;> simp at h
      · rw [if_neg hj] at h
        exact ⟨h, fun e => absurd e (by omega)⟩
    · rw [if_neg ht] at h
      refine ⟨h, fun e hc => ht ?_⟩
      have : n = j := by omega
      subst this
      exact isTwo_of h hc
def lvl (ad : Nat → Nat) (nL : Nat) (L : LV) : List (Nat × Value) := (List.range nL).filterMap (fun n => (L[n]?.join).map (fun w => (n, con ad w)))
theorem lvP.has {ad : Nat → Nat} {ls : Array Slot} {nL : Nat} {L : LV} (h : lvP ad ls nL L) : lv_has ls nL (lvl ad nL L) := by
  obtain ⟨h1, h2, h3⟩ := h
  refine ⟨h1, h2, fun q hq => ?_⟩
  obtain ⟨n, -, hn⟩ := List.mem_filterMap.mp hq
  cases hw : L[n]? with
  | none => rw [hw] at hn; cases hn
  | some o =>
    cases o with
    | none => rw [hw] at hn; cases hn
    | some w =>
      rw [hw] at hn
      cases hn
      exact h3 n w hw
theorem lvP_1 {ad : Nat → Nat} {ls ls' : Array Slot} {nL : Nat} {L : LV} {i : Nat} {v : Value} (h : lvP ad ls nL L) (h' : lv_has ls' nL ((i, con ad v) :: (lvl ad nL L).filter (fun q => !(q.1 == i) && !(q.1 + 1 == i && q.2.category == 2)))) : lvP ad ls' nL (st1 L i v) := by
  obtain ⟨h1, h2, h3⟩ := h
  obtain ⟨e2, e3, e4⟩ := h'
  refine ⟨e2, e3, fun n w hw => ?_⟩
  unfold st1 at hw
  rw [List.getElem?_set] at hw
  by_cases hn : i = n
  · subst hn
    rw [if_pos rfl] at hw
    split at hw
    · cases hw
      exact e4 _ List.mem_cons_self
    · cases hw
  · rw [if_neg hn] at hw
    obtain ⟨g1, g2⟩ := lose_sub hw
    have hlt : n < ls.size := by
      have := h3 n w g1
      exact (Array.getElem?_eq_some_iff.mp this).1
    refine e4 (n, con ad w) (List.mem_cons_of_mem _ (List.mem_filter.mpr ⟨List.mem_filterMap.mpr ⟨n, List.mem_range.mpr (by omega), by rw [g1]; rfl⟩, ?_⟩))
    simp only [con_cat, Bool.and_eq_true, Bool.not_eq_true', beq_eq_false_iff_ne, Bool.and_eq_false_imp, beq_iff_eq]
    exact ⟨fun e => hn e.symm, fun e => g2 e⟩
theorem lvP_2 {ad : Nat → Nat} {ls ls' : Array Slot} {nL : Nat} {L : LV} {i : Nat} {v : Value} (h : lvP ad ls nL L) (h' : lv_has ls' nL ((i, con ad v) :: (lvl ad nL L).filter (fun q => !(q.1 == i) && (!(q.1 == i + 1) && !(q.1 + 1 == i && q.2.category == 2))))) : lvP ad ls' nL (st2 L i v) := by
  obtain ⟨h1, h2, h3⟩ := h
  obtain ⟨e2, e3, e4⟩ := h'
  refine ⟨e2, e3, fun n w hw => ?_⟩
  unfold st2 at hw
  rw [List.getElem?_set] at hw
  by_cases hn : i = n
  · subst hn
    rw [if_pos rfl] at hw
    split at hw
    · cases hw
      exact e4 _ List.mem_cons_self
    · cases hw
  · rw [if_neg hn, List.getElem?_set] at hw
    by_cases hn2 : i + 1 = n
    · rw [if_pos hn2] at hw
      split at hw <;> simp at hw
    · rw [if_neg hn2] at hw
      obtain ⟨g1, g2⟩ := lose_sub hw
      have hlt : n < ls.size := by
        have := h3 n w g1
        exact (Array.getElem?_eq_some_iff.mp this).1
      refine e4 (n, con ad w) (List.mem_cons_of_mem _ (List.mem_filter.mpr ⟨List.mem_filterMap.mpr ⟨n, List.mem_range.mpr (by omega), by rw [g1]; rfl⟩, ?_⟩))
      simp only [con_cat, Bool.and_eq_true, Bool.not_eq_true', beq_eq_false_iff_ne, Bool.and_eq_false_imp, beq_iff_eq]
      exact ⟨fun e => hn e.symm, fun e => hn2 e.symm, fun e => g2 e⟩
theorem lvP.get {ad : Nat → Nat} {ls : Array Slot} {nL : Nat} {L : LV} {i : Nat} {v : Value} (h : lvP ad ls nL L) (hi : L[i]? = some (some v)) : ls[i]? = some (.val (con ad v)) := h.2.2 i v hi
end
section
/-! methods, contexts, the abstract judgements -/
/-- a method: name, bytes, max locals, return, own class, depth, static?, parameters, its instructions -/
abbrev MI : Type := MethodName × ByteArray × Nat × Option FieldType × Nat × Nat × Bool × Nat × List (Nat × Instr × Nat)
abbrev miY (M : MI) : MethodName := M.1
abbrev miB (M : MI) : ByteArray := M.2.1
abbrev miX (M : MI) : Nat := M.2.2.1
abbrev miR (M : MI) : Option FieldType := M.2.2.2.1
abbrev miO (M : MI) : Nat := M.2.2.2.2.1
abbrev miD (M : MI) : Nat := M.2.2.2.2.2.1
abbrev miS (M : MI) : Bool := M.2.2.2.2.2.2.1
abbrev miN (M : MI) : Nat := M.2.2.2.2.2.2.2.1
abbrev miT (M : MI) : List (Nat × Instr × Nat) := M.2.2.2.2.2.2.2.2
def wds (M : MI) : List Cond := Cond.code (miY M) (miB M) (miX M) (miR M) :: Wd
def rmM (M : MI) : Room := { frames := miD M, cells := 0, slots := 0, locals := 36 * miD M }
def MOk (M : MI) : Prop := plainName (miY M).cls = true ∧ (miY M).cls = Rn (miO M) ∧ Cond.code (miY M) (miB M) (miX M) (miR M) ∈ Wd ∧ Cond.initialized (miY M).cls ∈ Wd ∧ (if miS M = true then Cond.static (miY M) ∈ Wd else Cond.instanceMethod (miY M) ∈ Wd ∧ Cond.selects (miY M).cls (miY M) (miY M) ∈ Wd) ∧
  ((miY M).cls ≠ "java/lang/invoke/MethodHandle" ∧ (miY M).cls ≠ "java/lang/invoke/VarHandle" ∧ (parseMethodDescriptor (miY M).desc).map (fun d => d.parameters.length) = some (miN M)) ∧ miX M ≤ 17 ∧ ∀ q ∈ miT M, decode (miB M) q.1 = .ok (q.2.1, q.2.2)
def snl (k : Nat) : List Int32 := match k with
  | 100 => [10, 40]
  | 101 => [60, 60, 9, 11]
  | _ => [10]
def isSt (k : Nat) : Bool := k == 100 || k == 101 || k == 102
def tyl (cA : Nat → ClassId) : List (ClassId × FieldType) := [(cA 0, .int), (cA 1, .byte), (cA 2, .boolean)]
def MC (M : MI) (p : Program) (s : State) (m : MethodId) (args : Array Value) (meth : Method) (c : Code) : Prop :=
  p.tables.exec = Jvm.exec ∧ c.code = miB M ∧ meth.sig.returnType = miR M ∧ c.maxLocals = miX M ∧ s.vm.findClass (Rn (miO M)) = some m.cls ∧ (∀ w ∈ Wd, w.before args s = true) ∧ meth.locks = false
def SZ (S : SH) (ad : Nat → Nat) (sz : Nat) (U : State) (H : Heap) : Prop := ∀ k, isSt k = true → va_Z RX5 (snm k) "[I" (.ref (ad k)) (AA S ad sz) U H ∧ va_T .int (ad k) (snl k).length (fun j => .int ((snl k).getD j 0)) (AA S ad sz) U H
def CX (S : SH) (D : va_G) (cA : Nat → ClassId) (ad : Nat → Nat) (sz : Nat) (U : State) (H : Heap) : Prop :=
  AdI S ad ∧ va_K D vwCl (tyl cA) U ∧ (∀ w ∈ Nw, va_Nw w U) ∧ SZ S ad sz U H
def QG (S : SH) (D : va_G) (cA : Nat → ClassId) (ad : Nat → Nat) (P : PP) (sz : Nat) : Array Value → State → Outcome → State → Prop := fun _ st oc t =>
  (∃ r I J G, oc = .returned (Option.map (con ad) r) ∧ P r I J G ∧ va_P D vwCl (wrl S cA ad I J G) t.heap) ∧ va_F (AA S ad sz) st t
def AW (S : SH) (M : MI) (pc : Nat) (L : LV) (st : List Value) (I : II) (J : JJ) (G : II) (P : PP) : Prop :=
  ∀ (p : Program) (l : Launch) (e : Env) (s : State) (m : MethodId) (args : Array Value) (below : List Frame) (meth : Method) (c : Code) (D : va_G) (cA : Nat → ClassId) (ad : Nat → Nat) (H : Heap) (locs : List Loc) (ls : Array Slot),
  MC M p s m args meth c → CX S D cA ad s.heap.size s s.heap → va_P D vwCl (wrl S cA ad I J G) H → va_S (AA S ad s.heap.size) s.heap H locs → lvP ad ls (miX M) L →
  W p l e (rmM M) s m args below meth c H locs 0 0 (MQ below (QG S D cA ad P s.heap.size) args s 0 0 (AA S ad s.heap.size)) (F0 m pc ls (st.map (con ad)))
def APc (S : SH) (D : va_G) (cA : Nat → ClassId) (ad : Nat → Nat) (sz : Nat) (as : List Value) (I : II) (J : JJ) (G : II) : Array Value → State → Prop := fun v U => v = (as.map (con ad)).toArray ∧ U.heap.size = sz ∧ CX S D cA ad sz U U.heap ∧ va_P D vwCl (wrl S cA ad I J G) U.heap
def AMet (S : SH) (M : MI) (as : List Value) (I : II) (J : JJ) (G : II) (P : PP) : Prop :=
  ∀ (l : Launch) (D : va_G) (cA : Nat → ClassId) (ad : Nat → Nat) (sz : Nat), Met l (miY M) (wds M) (rmM M) (APc S D cA ad sz as I J G) (QG S D cA ad P sz) 0 0 (AA S ad sz)
/-- links -/
def lkOk (o idx : Nat) (M : MI) : Prop := Cond.methodLink (Rn o) idx (miY M) ∈ Wd ∨ Cond.methodLinkNest (Rn o) idx (miY M) "SilverFleets" ∈ Nw
def flk (o idx : Nat) : Option (Bool × Nat × Nat) := match FTl.find? (fun q => q.1 == o && q.2.1 == idx) with
  | some q => some (false, q.2.2)
  | none => match GTl.find? (fun q => q.1 == o && q.2.1 == idx) with
    | some q => some (true, q.2.2)
    | none => none
theorem flk_F {o idx ci j : Nat} (h : flk o idx = some (false, ci, j)) : Cond.fieldLink (Rn o) idx (Rn ci) (Tn ci j).2.1 (Tn ci j).2.2.1 ∈ Wd ∧ ci < 8 ∧ j < Nn ci := by
  unfold flk at h
  split at h
  · rename_i q hq
    obtain ⟨q1, q2, q3, q4⟩ := q
    cases h
    have h1 := List.mem_of_find?_eq_some hq
    have h2 := List.find?_some hq
    simp only [Bool.and_eq_true, beq_iff_eq] at h2
    have h3 := FT_ok _ (List.mem_map_of_mem (f := fwd) h1)
    have h4 := List.all_eq_true.mp FT_lt _ h1
    simp only [Bool.and_eq_true, decide_eq_true_eq] at h4
    rw [← h2.1, ← h2.2]
    exact ⟨h3, h4.1, h4.2⟩
  · split at h <;> cases h
theorem flk_G {o idx ci j : Nat} (h : flk o idx = some (true, ci, j)) : Cond.fieldLinkNest (Rn o) idx (Rn ci) (Tn ci j).2.1 (Tn ci j).2.2.1 "SilverFleets" ∈ Nw ∧ ci < 8 ∧ j < Nn ci := by
  unfold flk at h
  split at h
  · cases h
  · split at h
    · rename_i q hq
      obtain ⟨q1, q2, q3, q4⟩ := q
      cases h
      have h1 := List.mem_of_find?_eq_some hq
      have h2 := List.find?_some hq
      simp only [Bool.and_eq_true, beq_iff_eq] at h2
      have h3 := GT_ok _ (List.mem_map_of_mem (f := gwd) h1)
      have h4 := List.all_eq_true.mp GT_lt _ h1
      simp only [Bool.and_eq_true, decide_eq_true_eq] at h4
      rw [← h2.1, ← h2.2]
      exact ⟨h3, h4.1, h4.2⟩
    · cases h
/-- a world's shape fits the classes -/
def fdOk (ci j : Nat) (fd : Nat × Nat) : Bool := match fd.1 with
  | 0 => true
  | 1 => decide (tyn ci j = .int) && !(Tn ci j).2.2.2
  | 2 => decide (tyn ci j = .long) && !(Tn ci j).2.2.2
  | 3 => decide (tyn ci j = .boolean) && !(Tn ci j).2.2.2
  | _ => false
def shOk (sh : (Nat × List (Nat × Nat)) ⊕ (Nat × Nat)) : Bool := match sh with
  | .inl o => decide (o.1 < 8) && decide (o.2.length = Nn o.1) && (o.2.mapIdx (fun j fd => fdOk o.1 j fd)).all id
  | .inr a => decide (a.1 < 3) && decide (a.2 < 65536)
def SOk (S : SH) : Prop := S.all shOk = true
theorem SOk.obj {S : SH} (h : SOk S) {k ci j : Nat} {fds : List (Nat × Nat)} {fd : Nat × Nat} (hk : S[k]? = some (.inl (ci, fds))) (hj : fds[j]? = some fd) : ci < 8 ∧ fds.length = Nn ci ∧ fdOk ci j fd = true := by
  have h1 := List.all_eq_true.mp h _ (List.mem_of_getElem? hk)
  simp only [shOk, Bool.and_eq_true, decide_eq_true_eq] at h1
  refine ⟨h1.1.1, h1.1.2, ?_⟩
  have h2 := List.all_eq_true.mp h1.2 (fdOk ci j fd) (List.mem_of_getElem? (i := j) (by rw [List.getElem?_mapIdx, hj]; rfl))
  exact h2
theorem SOk.arr {S : SH} (h : SOk S) {k e n : Nat} (hk : S[k]? = some (.inr (e, n))) : e < 3 ∧ n < 65536 := by
  have h1 := List.all_eq_true.mp h _ (List.mem_of_getElem? hk)
  simpa [shOk] using h1
theorem fdOk_ty {ci j : Nat} {fd : Nat × Nat} (h : fdOk ci j fd = true) : (fd.1 = 1 → tyn ci j = .int ∧ (Tn ci j).2.2.2 = false) ∧ (fd.1 = 2 → tyn ci j = .long ∧ (Tn ci j).2.2.2 = false) ∧ (fd.1 = 3 → tyn ci j = .boolean ∧ (Tn ci j).2.2.2 = false) := by
  obtain ⟨a, b⟩ := fd
  refine ⟨?_, ?_, ?_⟩ <;> intro e <;> dsimp only at e <;> subst e <;> simpa [fdOk] using h
theorem tyl_get {cA : Nat → ClassId} {e : Nat} (h : e < 3) : (tyl cA)[e]? = some (cA e, ety e) := by
  match e, h with
  | 0, _ => rfl
  | 1, _ => rfl
  | 2, _ => rfl
theorem SZ.at {S : SH} {ad : Nat → Nat} {sz sz' : Nat} {u U : State} {H H1 : Heap} (h : SZ S ad sz u H) (hvm : u.vm.Alike U.vm) (hq : ∀ a : Nat, a < H.size → ¬ AA S ad sz a → H1[a]? = H[a]?) (hs : sz ≤ sz') : SZ S ad sz' U H1 := fun k hk =>
  ⟨((((h k hk).1.kept hq).moved hvm).narrow (AA.le hs)), ((((h k hk).2.kept hq).moved hvm).narrow (AA.le hs))⟩
section AWR
variable {S : SH} {M : MI} {pc : Nat} {L : LV} {st : List Value} {I : II} {J : JJ} {G : II} {P : PP}
/-- entering a method -/
theorem amet_of {as : List Value} (hM : MOk M) (hl : as.length ≤ miX M) (hc : ∀ v ∈ as, v.category = 1) (h : AW S M 0 (as.map some ++ List.replicate (miX M - as.length) none) [] I J G P) : AMet S M as I J G P := by
  intro l D cA ad sz
  refine Met.ofW (cc := miB M) (maxL := miX M) (ret := miR M) hM.1 rfl ?_
  intro p e s m args below meth c s₁ B hml hv
  obtain ⟨rfl, rfl, hC, hP⟩ := hv
  have hts := atoms_spec (ws := wds M) B.pre
  have hown : s.vm.findClass (Rn (miO M)) = some m.cls := by rw [← hM.2.1]; exact findClass_of_methodNamed B.named
  have hsl : ∀ vs : List Value, (∀ v ∈ vs, v.category = 1) → (lg_sl vs).length = vs.length := by
    intro vs
    induction vs with
    | nil => intro _; rfl
    | cons v vs ih =>
      intro hv
      have h1 := hv v List.mem_cons_self
      have h2 := ih (fun x hx => hv x (List.mem_cons_of_mem _ hx))
      simp only [lg_sl, List.flatMap_cons] at h2 ⊢
      rw [List.length_append, h2, if_neg (by omega)]
      simp; omega
  have hcc : ∀ v ∈ as.map (con ad), v.category = 1 := by
    intro v hv
    obtain ⟨w, hw, rfl⟩ := List.mem_map.mp hv
    rw [con_cat]; exact hc w hw
  have hent := lv_entry (as.map (con ad)) (n := miX M) (by rw [hsl _ hcc]; simpa using hl)
  rw [lg_entry_eq]
  generalize hge : (lg_sl (as.map (con ad)) ++ List.replicate (miX M - (lg_sl (as.map (con ad))).length) Slot.unset).toArray = ls at hent ⊢
  have hargs : ∀ (vs : List Value) (i : Nat), (∀ v ∈ vs, v.category = 1) → ∀ (n : Nat) (v : Value), vs[n]? = some v → (i + n, v) ∈ lv_args i vs := by
    intro vs
    induction vs with
    | nil => intro i _ n v h; simp at h
    | cons w vs ih =>
      intro i hv n v h
      have h1 := hv w List.mem_cons_self
      unfold lv_args
      rw [if_neg (by omega)]
      cases n with
      | zero => simp at h; subst h; exact List.mem_cons_self
      | succ n =>
        have := ih (i + 1) (fun x hx => hv x (List.mem_cons_of_mem _ hx)) n v (by simpa using h)
        rw [show i + (n + 1) = i + 1 + n by omega]
        exact List.mem_cons_of_mem _ this
  have hlv : lvP ad ls (miX M) (as.map some ++ List.replicate (miX M - as.length) none) := by
    refine ⟨hent.1, hent.2.1, fun i v hi => ?_⟩
    rcases Nat.lt_or_ge i as.length with h1 | h1
    · rw [List.getElem?_append_left (by simpa using h1), List.getElem?_map] at hi
      cases hai : as[i]? with
      | none => rw [hai] at hi; cases hi
      | some w =>
        rw [hai] at hi
        cases hi
        have := hargs (as.map (con ad)) 0 hcc i (con ad v) (by rw [List.getElem?_map, hai]; rfl)
        rw [Nat.zero_add] at this
        exact hent.2.2 _ this
    · rw [List.getElem?_append_right (by simpa using h1)] at hi
      have := List.mem_of_getElem? hi
      simp [List.mem_replicate] at this
  exact h p l e s m (as.map (con ad)).toArray below meth c D cA ad s.heap [] ls ⟨B.exec, B.bytes, B.returns, hml, hown, fun w hw => hts w (List.mem_cons_of_mem _ hw), B.notSynchronized⟩ hC hP va_S.rf hlv
theorem aw_iconst {n : Int} (hd : decode (miB M) pc = .ok (.iconst n, 1)) (k : AW S M (pc + 1) L (.int (Int32.ofInt n) :: st) I J G P) : AW S M pc L (st) I J G P := by
  intro p l e s m args below meth c D cA ad H locs ls hM hC hP hS hl
  exact lv_iconst hM.1 hM.2.1 hd rfl (k _ _ _ _ _ _ _ _ _ _ _ _ _ _ _ hM hC hP hS hl)
theorem aw_bipush {n : Int} (hd : decode (miB M) pc = .ok (.bipush n, 2)) (k : AW S M (pc + 2) L (.int (Int8.ofInt n).toInt32 :: st) I J G P) : AW S M pc L (st) I J G P := by
  intro p l e s m args below meth c D cA ad H locs ls hM hC hP hS hl
  exact lv_bipush hM.1 hM.2.1 hd rfl (k _ _ _ _ _ _ _ _ _ _ _ _ _ _ _ hM hC hP hS hl)
theorem aw_sipush {n : Int} (hd : decode (miB M) pc = .ok (.sipush n, 3)) (k : AW S M (pc + 3) L (.int (Int16.ofInt n).toInt32 :: st) I J G P) : AW S M pc L (st) I J G P := by
  intro p l e s m args below meth c D cA ad H locs ls hM hC hP hS hl
  exact lv_sipush hM.1 hM.2.1 hd rfl (k _ _ _ _ _ _ _ _ _ _ _ _ _ _ _ hM hC hP hS hl)
theorem aw_lconst {n : Fin 2} (hd : decode (miB M) pc = .ok (.lconst n, 1)) (k : AW S M (pc + 1) L (.long (Int64.ofNat (n : Nat)) :: st) I J G P) : AW S M pc L (st) I J G P := by
  intro p l e s m args below meth c D cA ad H locs ls hM hC hP hS hl
  exact lv_lconst hM.1 hM.2.1 hd rfl (k _ _ _ _ _ _ _ _ _ _ _ _ _ _ _ hM hC hP hS hl)
theorem aw_ldc {idx : Nat} {v : Int32} (hv : (miO M, idx, v) ∈ CIl) (hd : decode (miB M) pc = .ok (.ldc idx, 2)) (k : AW S M (pc + 2) L (.int v :: st) I J G P) : AW S M pc L (st) I J G P := by
  intro p l e s m args below meth c D cA ad H locs ls hM hC hP hS hl
  exact lv_ldc hM.1 hM.2.1 hM.2.2.2.2.1 (hM.2.2.2.2.2.1 _ (CI_ok _ (List.mem_map_of_mem (f := fun q : Nat × Nat × Int32 => Cond.constant (Rn q.1) q.2.1 q.2.2) hv))) hd (k _ _ _ _ _ _ _ _ _ _ _ _ _ _ _ hM hC hP hS hl)
theorem aw_ldc2 {idx : Nat} {v : Int64} (hv : (miO M, idx, v) ∈ CLl) (hd : decode (miB M) pc = .ok (.ldc2_w idx, 3)) (k : AW S M (pc + 3) L (.long v :: st) I J G P) : AW S M pc L (st) I J G P := by
  intro p l e s m args below meth c D cA ad H locs ls hM hC hP hS hl
  exact lv_ldc2 hM.1 hM.2.1 hM.2.2.2.2.1 (hM.2.2.2.2.2.1 _ (CL_ok _ (List.mem_map_of_mem (f := fun q : Nat × Nat × Int64 => Cond.constantLong (Rn q.1) q.2.1 q.2.2) hv))) hd (k _ _ _ _ _ _ _ _ _ _ _ _ _ _ _ hM hC hP hS hl)
theorem aw_iload_n {n : Fin 4} {x : Int32} (hx : L[n.val]? = some (some (.int x))) (hd : decode (miB M) pc = .ok (.iload_n n, 1)) (k : AW S M (pc + 1) L (.int x :: st) I J G P) : AW S M pc L (st) I J G P := by
  intro p l e s m args below meth c D cA ad H locs ls hM hC hP hS hl
  exact lv_iload_n hM.1 hM.2.1 hd rfl (hl.get hx) (k _ _ _ _ _ _ _ _ _ _ _ _ _ _ _ hM hC hP hS hl)
theorem aw_iload {n : Nat} {x : Int32} (hx : L[n]? = some (some (.int x))) (hd : decode (miB M) pc = .ok (.iload n, 2)) (k : AW S M (pc + 2) L (.int x :: st) I J G P) : AW S M pc L (st) I J G P := by
  intro p l e s m args below meth c D cA ad H locs ls hM hC hP hS hl
  exact lv_iload hM.1 hM.2.1 hd (hl.get hx) (k _ _ _ _ _ _ _ _ _ _ _ _ _ _ _ hM hC hP hS hl)
theorem aw_lload_n {n : Fin 4} {x : Int64} (hx : L[n.val]? = some (some (.long x))) (hd : decode (miB M) pc = .ok (.lload_n n, 1)) (k : AW S M (pc + 1) L (.long x :: st) I J G P) : AW S M pc L (st) I J G P := by
  intro p l e s m args below meth c D cA ad H locs ls hM hC hP hS hl
  exact lv_lload_n hM.1 hM.2.1 hd rfl (hl.get hx) (k _ _ _ _ _ _ _ _ _ _ _ _ _ _ _ hM hC hP hS hl)
theorem aw_aload_n {n : Fin 4} {x : Nat} (hx : L[n.val]? = some (some (.ref x))) (hd : decode (miB M) pc = .ok (.aload_n n, 1)) (k : AW S M (pc + 1) L (.ref x :: st) I J G P) : AW S M pc L (st) I J G P := by
  intro p l e s m args below meth c D cA ad H locs ls hM hC hP hS hl
  exact lv_aload_n hM.1 hM.2.1 hd rfl (hl.get hx) (k _ _ _ _ _ _ _ _ _ _ _ _ _ _ _ hM hC hP hS hl)
theorem aw_aload {n : Nat} {x : Nat} (hx : L[n]? = some (some (.ref x))) (hd : decode (miB M) pc = .ok (.aload n, 2)) (k : AW S M (pc + 2) L (.ref x :: st) I J G P) : AW S M pc L (st) I J G P := by
  intro p l e s m args below meth c D cA ad H locs ls hM hC hP hS hl
  exact lv_aload hM.1 hM.2.1 hd (hl.get hx) (k _ _ _ _ _ _ _ _ _ _ _ _ _ _ _ hM hC hP hS hl)
theorem aw_istore_n {n : Fin 4} {x : Int32} (hn : n.val < miX M) (hd : decode (miB M) pc = .ok (.istore_n n, 1)) (k : AW S M (pc + 1) (st1 L n.val (.int x)) st I J G P) : AW S M pc L (.int x :: st) I J G P := by
  intro p l e s m args below meth c D cA ad H locs ls hM hC hP hS hl
  exact lv_istore_n hM.1 hM.2.1 hd rfl hl.has hn rfl (fun ls hl1 => k _ _ _ _ _ _ _ _ _ _ _ _ _ _ _ hM hC hP hS (lvP_1 hl hl1))
theorem aw_istore {n : Nat} {x : Int32} (hn : n < miX M) (hd : decode (miB M) pc = .ok (.istore n, 2)) (k : AW S M (pc + 2) (st1 L n (.int x)) st I J G P) : AW S M pc L (.int x :: st) I J G P := by
  intro p l e s m args below meth c D cA ad H locs ls hM hC hP hS hl
  exact lv_istore hM.1 hM.2.1 hd hl.has hn rfl (fun ls hl1 => k _ _ _ _ _ _ _ _ _ _ _ _ _ _ _ hM hC hP hS (lvP_1 hl hl1))
theorem aw_lstore_n {n : Fin 4} {x : Int64} (hn : n.val + 1 < miX M) (hd : decode (miB M) pc = .ok (.lstore_n n, 1)) (k : AW S M (pc + 1) (st2 L n.val (.long x)) st I J G P) : AW S M pc L (.long x :: st) I J G P := by
  intro p l e s m args below meth c D cA ad H locs ls hM hC hP hS hl
  exact lv_lstore_n hM.1 hM.2.1 hd rfl hl.has hn rfl (fun ls hl1 => k _ _ _ _ _ _ _ _ _ _ _ _ _ _ _ hM hC hP hS (lvP_2 hl hl1))
theorem aw_lstore {n : Nat} {x : Int64} (hn : n + 1 < miX M) (hd : decode (miB M) pc = .ok (.lstore n, 2)) (k : AW S M (pc + 2) (st2 L n (.long x)) st I J G P) : AW S M pc L (.long x :: st) I J G P := by
  intro p l e s m args below meth c D cA ad H locs ls hM hC hP hS hl
  exact lv_lstore hM.1 hM.2.1 hd hl.has hn rfl (fun ls hl1 => k _ _ _ _ _ _ _ _ _ _ _ _ _ _ _ hM hC hP hS (lvP_2 hl hl1))
theorem aw_astore_n {n : Fin 4} {x : Nat} (hn : n.val < miX M) (hd : decode (miB M) pc = .ok (.astore_n n, 1)) (k : AW S M (pc + 1) (st1 L n.val (.ref x)) st I J G P) : AW S M pc L (.ref x :: st) I J G P := by
  intro p l e s m args below meth c D cA ad H locs ls hM hC hP hS hl
  exact lv_astore_n hM.1 hM.2.1 hd rfl hl.has hn rfl (fun ls hl1 => k _ _ _ _ _ _ _ _ _ _ _ _ _ _ _ hM hC hP hS (lvP_1 hl hl1))
theorem aw_astore {n : Nat} {x : Nat} (hn : n < miX M) (hd : decode (miB M) pc = .ok (.astore n, 2)) (k : AW S M (pc + 2) (st1 L n (.ref x)) st I J G P) : AW S M pc L (.ref x :: st) I J G P := by
  intro p l e s m args below meth c D cA ad H locs ls hM hC hP hS hl
  exact lv_astore hM.1 hM.2.1 hd hl.has hn rfl (fun ls hl1 => k _ _ _ _ _ _ _ _ _ _ _ _ _ _ _ hM hC hP hS (lvP_1 hl hl1))
theorem lvl_at {ad : Nat → Nat} {nL : Nat} {L : LV} {n : Nat} {v : Value} (hn : n < nL) (h : L[n]? = some (some v)) : ∃ k : Nat, (lvl ad nL L)[k]? = some (n, con ad v) :=
  List.getElem?_of_mem (List.mem_filterMap.mpr ⟨n, List.mem_range.mpr hn, by rw [h]; rfl⟩)
theorem aw_iinc {i : Nat} {n : Int} {x : Int32} (hn : i < miX M) (hx : L[i]? = some (some (.int x))) (hd : decode (miB M) pc = .ok (.iinc i n, 3)) (k : AW S M (pc + 3) (st1 L i (.int (x + Int32.ofInt n))) st I J G P) : AW S M pc L st I J G P := by
  intro p l e s m args below meth c D cA ad H locs ls hM hC hP hS hl
  obtain ⟨j, hj⟩ := lvl_at (ad := ad) hn hx
  exact lv_iinc hM.1 hM.2.1 hd hl.has hj rfl hn rfl (fun ls hl1 => k _ _ _ _ _ _ _ _ _ _ _ _ _ _ _ hM hC hP hS (lvP_1 (v := .int (x + Int32.ofInt n)) hl hl1))
theorem aw_iadd {x y : Int32} (hd : decode (miB M) pc = .ok (.iadd, 1)) (k : AW S M (pc + 1) L (.int (x + y) :: st) I J G P) : AW S M pc L (.int y :: .int x :: st) I J G P := by
  intro p l e s m args below meth c D cA ad H locs ls hM hC hP hS hl
  exact lv_iadd hM.1 hM.2.1 hd (k _ _ _ _ _ _ _ _ _ _ _ _ _ _ _ hM hC hP hS hl)
theorem aw_isub {x y : Int32} (hd : decode (miB M) pc = .ok (.isub, 1)) (k : AW S M (pc + 1) L (.int (x - y) :: st) I J G P) : AW S M pc L (.int y :: .int x :: st) I J G P := by
  intro p l e s m args below meth c D cA ad H locs ls hM hC hP hS hl
  exact lv_isub hM.1 hM.2.1 hd (k _ _ _ _ _ _ _ _ _ _ _ _ _ _ _ hM hC hP hS hl)
theorem aw_imul {x y : Int32} (hd : decode (miB M) pc = .ok (.imul, 1)) (k : AW S M (pc + 1) L (.int (x * y) :: st) I J G P) : AW S M pc L (.int y :: .int x :: st) I J G P := by
  intro p l e s m args below meth c D cA ad H locs ls hM hC hP hS hl
  exact lv_imul hM.1 hM.2.1 hd (k _ _ _ _ _ _ _ _ _ _ _ _ _ _ _ hM hC hP hS hl)
theorem aw_iand {x y : Int32} (hd : decode (miB M) pc = .ok (.iand, 1)) (k : AW S M (pc + 1) L (.int (x &&& y) :: st) I J G P) : AW S M pc L (.int y :: .int x :: st) I J G P := by
  intro p l e s m args below meth c D cA ad H locs ls hM hC hP hS hl
  exact lv_iand hM.1 hM.2.1 hd (k _ _ _ _ _ _ _ _ _ _ _ _ _ _ _ hM hC hP hS hl)
theorem aw_ior {x y : Int32} (hd : decode (miB M) pc = .ok (.ior, 1)) (k : AW S M (pc + 1) L (.int (x ||| y) :: st) I J G P) : AW S M pc L (.int y :: .int x :: st) I J G P := by
  intro p l e s m args below meth c D cA ad H locs ls hM hC hP hS hl
  exact lv_ior hM.1 hM.2.1 hd (k _ _ _ _ _ _ _ _ _ _ _ _ _ _ _ hM hC hP hS hl)
theorem aw_ixor {x y : Int32} (hd : decode (miB M) pc = .ok (.ixor, 1)) (k : AW S M (pc + 1) L (.int (x ^^^ y) :: st) I J G P) : AW S M pc L (.int y :: .int x :: st) I J G P := by
  intro p l e s m args below meth c D cA ad H locs ls hM hC hP hS hl
  exact lv_ixor hM.1 hM.2.1 hd (k _ _ _ _ _ _ _ _ _ _ _ _ _ _ _ hM hC hP hS hl)
theorem aw_ishl {x y : Int32} (hd : decode (miB M) pc = .ok (.ishl, 1)) (k : AW S M (pc + 1) L (.int (x <<< (y &&& 31)) :: st) I J G P) : AW S M pc L (.int y :: .int x :: st) I J G P := by
  intro p l e s m args below meth c D cA ad H locs ls hM hC hP hS hl
  exact lv_ishl hM.1 hM.2.1 hd (k _ _ _ _ _ _ _ _ _ _ _ _ _ _ _ hM hC hP hS hl)
theorem aw_ishr {x y : Int32} (hd : decode (miB M) pc = .ok (.ishr, 1)) (k : AW S M (pc + 1) L (.int (x >>> (y &&& 31)) :: st) I J G P) : AW S M pc L (.int y :: .int x :: st) I J G P := by
  intro p l e s m args below meth c D cA ad H locs ls hM hC hP hS hl
  exact lv_ishr hM.1 hM.2.1 hd (k _ _ _ _ _ _ _ _ _ _ _ _ _ _ _ hM hC hP hS hl)
theorem aw_ladd {x y : Int64} (hd : decode (miB M) pc = .ok (.ladd, 1)) (k : AW S M (pc + 1) L (.long (x + y) :: st) I J G P) : AW S M pc L (.long y :: .long x :: st) I J G P := by
  intro p l e s m args below meth c D cA ad H locs ls hM hC hP hS hl
  exact lv_ladd hM.1 hM.2.1 hd (k _ _ _ _ _ _ _ _ _ _ _ _ _ _ _ hM hC hP hS hl)
theorem aw_lmul {x y : Int64} (hd : decode (miB M) pc = .ok (.lmul, 1)) (k : AW S M (pc + 1) L (.long (x * y) :: st) I J G P) : AW S M pc L (.long y :: .long x :: st) I J G P := by
  intro p l e s m args below meth c D cA ad H locs ls hM hC hP hS hl
  exact lv_lmul hM.1 hM.2.1 hd (k _ _ _ _ _ _ _ _ _ _ _ _ _ _ _ hM hC hP hS hl)
theorem aw_idiv {x y : Int32} (hy : ¬ y = 0) (hd : decode (miB M) pc = .ok (.idiv, 1)) (k : AW S M (pc + 1) L (.int (x / y) :: st) I J G P) : AW S M pc L (.int y :: .int x :: st) I J G P := by
  intro p l e s m args below meth c D cA ad H locs ls hM hC hP hS hl
  exact lv_idiv hM.1 hM.2.1 hd hy (k _ _ _ _ _ _ _ _ _ _ _ _ _ _ _ hM hC hP hS hl)
theorem aw_irem {x y : Int32} (hy : ¬ y = 0) (hd : decode (miB M) pc = .ok (.irem, 1)) (k : AW S M (pc + 1) L (.int (x - x / y * y) :: st) I J G P) : AW S M pc L (.int y :: .int x :: st) I J G P := by
  intro p l e s m args below meth c D cA ad H locs ls hM hC hP hS hl
  exact lv_irem hM.1 hM.2.1 hd hy (k _ _ _ _ _ _ _ _ _ _ _ _ _ _ _ hM hC hP hS hl)
theorem aw_ldiv {x y : Int64} (hy : ¬ y = 0) (hd : decode (miB M) pc = .ok (.ldiv, 1)) (k : AW S M (pc + 1) L (.long (x / y) :: st) I J G P) : AW S M pc L (.long y :: .long x :: st) I J G P := by
  intro p l e s m args below meth c D cA ad H locs ls hM hC hP hS hl
  exact lv_ldiv hM.1 hM.2.1 hd hy (k _ _ _ _ _ _ _ _ _ _ _ _ _ _ _ hM hC hP hS hl)
theorem aw_lrem {x y : Int64} (hy : ¬ y = 0) (hd : decode (miB M) pc = .ok (.lrem, 1)) (k : AW S M (pc + 1) L (.long (x - x / y * y) :: st) I J G P) : AW S M pc L (.long y :: .long x :: st) I J G P := by
  intro p l e s m args below meth c D cA ad H locs ls hM hC hP hS hl
  exact lv_lrem hM.1 hM.2.1 hd hy (k _ _ _ _ _ _ _ _ _ _ _ _ _ _ _ hM hC hP hS hl)
theorem aw_i2l {x : Int32} (hd : decode (miB M) pc = .ok (.i2l, 1)) (k : AW S M (pc + 1) L (.long x.toInt64 :: st) I J G P) : AW S M pc L (.int x :: st) I J G P := by
  intro p l e s m args below meth c D cA ad H locs ls hM hC hP hS hl
  exact lv_i2l hM.1 hM.2.1 hd rfl (k _ _ _ _ _ _ _ _ _ _ _ _ _ _ _ hM hC hP hS hl)
theorem aw_l2i {x : Int64} (hd : decode (miB M) pc = .ok (.l2i, 1)) (k : AW S M (pc + 1) L (.int x.toInt32 :: st) I J G P) : AW S M pc L (.long x :: st) I J G P := by
  intro p l e s m args below meth c D cA ad H locs ls hM hC hP hS hl
  exact lv_l2i hM.1 hM.2.1 hd rfl (k _ _ _ _ _ _ _ _ _ _ _ _ _ _ _ hM hC hP hS hl)
theorem aw_i2b {x : Int32} (hd : decode (miB M) pc = .ok (.i2b, 1)) (k : AW S M (pc + 1) L (.int x.toInt8.toInt32 :: st) I J G P) : AW S M pc L (.int x :: st) I J G P := by
  intro p l e s m args below meth c D cA ad H locs ls hM hC hP hS hl
  exact lv_i2b hM.1 hM.2.1 hd rfl (k _ _ _ _ _ _ _ _ _ _ _ _ _ _ _ hM hC hP hS hl)
theorem aw_lcmp {x y : Int64} (hd : decode (miB M) pc = .ok (.lcmp, 1)) (k : AW S M (pc + 1) L (.int (lg_cmp x y) :: st) I J G P) : AW S M pc L (.long y :: .long x :: st) I J G P := by
  intro p l e s m args below meth c D cA ad H locs ls hM hC hP hS hl
  exact W.lcmp hM.1 hM.2.1 hd (k _ _ _ _ _ _ _ _ _ _ _ _ _ _ _ hM hC hP hS hl)
theorem aw_dup {v : Value} (hv : v.category = 1) (hd : decode (miB M) pc = .ok (.dup, 1)) (k : AW S M (pc + 1) L (v :: v :: st) I J G P) : AW S M pc L (v :: st) I J G P := by
  intro p l e s m args below meth c D cA ad H locs ls hM hC hP hS hl
  exact lv_dup hM.1 hM.2.1 hd (by rw [con_cat]; exact hv) (k _ _ _ _ _ _ _ _ _ _ _ _ _ _ _ hM hC hP hS hl)
theorem aw_dup2 {v u : Value} (hv : v.category = 1) (hu : u.category = 1) (hd : decode (miB M) pc = .ok (.dup2, 1)) (k : AW S M (pc + 1) L (v :: u :: v :: u :: st) I J G P) : AW S M pc L (v :: u :: st) I J G P := by
  intro p l e s m args below meth c D cA ad H locs ls hM hC hP hS hl
  exact lv_dup2_11 hM.1 hM.2.1 hd (by rw [con_cat]; exact hv) (by rw [con_cat]; exact hu) (k _ _ _ _ _ _ _ _ _ _ _ _ _ _ _ hM hC hP hS hl)
theorem aw_pop {v : Value} (hv : v.category = 1) (hd : decode (miB M) pc = .ok (.pop, 1)) (k : AW S M (pc + 1) L (st) I J G P) : AW S M pc L (v :: st) I J G P := by
  intro p l e s m args below meth c D cA ad H locs ls hM hC hP hS hl
  exact lv_pop hM.1 hM.2.1 hd (by rw [con_cat]; exact hv) (k _ _ _ _ _ _ _ _ _ _ _ _ _ _ _ hM hC hP hS hl)
theorem aw_goto {off : Int} {tgt : Nat} (ht : (pc : Int) + off = (tgt : Int)) (hd : decode (miB M) pc = .ok (.goto off, 3)) (k : AW S M tgt L st I J G P) : AW S M pc L st I J G P := by
  intro p l e s m args below meth c D cA ad H locs ls hM hC hP hS hl
  exact lv_goto hM.1 hM.2.1 hd ht (k _ _ _ _ _ _ _ _ _ _ _ _ _ _ _ hM hC hP hS hl)
theorem aw_icmp_eq {x y : Int32} {off : Int} {tgt : Nat} (hd : decode (miB M) pc = .ok (.if_icmp .eq off, 3)) (ht : (pc : Int) + off = (tgt : Int)) (kt : x = y → AW S M tgt L st I J G P) (kf : ¬ x = y → AW S M (pc + 3) L st I J G P) : AW S M pc L (.int y :: .int x :: st) I J G P := by
  intro p l e s m args below meth c D cA ad H locs ls hM hC hP hS hl
  exact lv_icmp_eq hM.1 hM.2.1 hd ht (fun h => kt h _ _ _ _ _ _ _ _ _ _ _ _ _ _ _ hM hC hP hS hl) (fun h => kf h _ _ _ _ _ _ _ _ _ _ _ _ _ _ _ hM hC hP hS hl)
theorem aw_if_eq {x : Int32} {off : Int} {tgt : Nat} (hd : decode (miB M) pc = .ok (.ifCond .eq off, 3)) (ht : (pc : Int) + off = (tgt : Int)) (kt : x = 0 → AW S M tgt L st I J G P) (kf : ¬ x = 0 → AW S M (pc + 3) L st I J G P) : AW S M pc L (.int x :: st) I J G P := by
  intro p l e s m args below meth c D cA ad H locs ls hM hC hP hS hl
  exact lv_if_eq hM.1 hM.2.1 hd ht (fun h => kt h _ _ _ _ _ _ _ _ _ _ _ _ _ _ _ hM hC hP hS hl) (fun h => kf h _ _ _ _ _ _ _ _ _ _ _ _ _ _ _ hM hC hP hS hl)
theorem aw_icmp_ne {x y : Int32} {off : Int} {tgt : Nat} (hd : decode (miB M) pc = .ok (.if_icmp .ne off, 3)) (ht : (pc : Int) + off = (tgt : Int)) (kt : ¬ x = y → AW S M tgt L st I J G P) (kf : x = y → AW S M (pc + 3) L st I J G P) : AW S M pc L (.int y :: .int x :: st) I J G P := by
  intro p l e s m args below meth c D cA ad H locs ls hM hC hP hS hl
  exact lv_icmp_ne hM.1 hM.2.1 hd ht (fun h => kt h _ _ _ _ _ _ _ _ _ _ _ _ _ _ _ hM hC hP hS hl) (fun h => kf h _ _ _ _ _ _ _ _ _ _ _ _ _ _ _ hM hC hP hS hl)
theorem aw_if_ne {x : Int32} {off : Int} {tgt : Nat} (hd : decode (miB M) pc = .ok (.ifCond .ne off, 3)) (ht : (pc : Int) + off = (tgt : Int)) (kt : ¬ x = 0 → AW S M tgt L st I J G P) (kf : x = 0 → AW S M (pc + 3) L st I J G P) : AW S M pc L (.int x :: st) I J G P := by
  intro p l e s m args below meth c D cA ad H locs ls hM hC hP hS hl
  exact lv_if_ne hM.1 hM.2.1 hd ht (fun h => kt h _ _ _ _ _ _ _ _ _ _ _ _ _ _ _ hM hC hP hS hl) (fun h => kf h _ _ _ _ _ _ _ _ _ _ _ _ _ _ _ hM hC hP hS hl)
theorem aw_icmp_lt {x y : Int32} {off : Int} {tgt : Nat} (hd : decode (miB M) pc = .ok (.if_icmp .lt off, 3)) (ht : (pc : Int) + off = (tgt : Int)) (kt : x < y → AW S M tgt L st I J G P) (kf : ¬ x < y → AW S M (pc + 3) L st I J G P) : AW S M pc L (.int y :: .int x :: st) I J G P := by
  intro p l e s m args below meth c D cA ad H locs ls hM hC hP hS hl
  exact lv_icmp_lt hM.1 hM.2.1 hd ht (fun h => kt h _ _ _ _ _ _ _ _ _ _ _ _ _ _ _ hM hC hP hS hl) (fun h => kf h _ _ _ _ _ _ _ _ _ _ _ _ _ _ _ hM hC hP hS hl)
theorem aw_if_lt {x : Int32} {off : Int} {tgt : Nat} (hd : decode (miB M) pc = .ok (.ifCond .lt off, 3)) (ht : (pc : Int) + off = (tgt : Int)) (kt : x < 0 → AW S M tgt L st I J G P) (kf : ¬ x < 0 → AW S M (pc + 3) L st I J G P) : AW S M pc L (.int x :: st) I J G P := by
  intro p l e s m args below meth c D cA ad H locs ls hM hC hP hS hl
  exact lv_if_lt hM.1 hM.2.1 hd ht (fun h => kt h _ _ _ _ _ _ _ _ _ _ _ _ _ _ _ hM hC hP hS hl) (fun h => kf h _ _ _ _ _ _ _ _ _ _ _ _ _ _ _ hM hC hP hS hl)
theorem aw_icmp_ge {x y : Int32} {off : Int} {tgt : Nat} (hd : decode (miB M) pc = .ok (.if_icmp .ge off, 3)) (ht : (pc : Int) + off = (tgt : Int)) (kt : y ≤ x → AW S M tgt L st I J G P) (kf : ¬ y ≤ x → AW S M (pc + 3) L st I J G P) : AW S M pc L (.int y :: .int x :: st) I J G P := by
  intro p l e s m args below meth c D cA ad H locs ls hM hC hP hS hl
  exact lv_icmp_ge hM.1 hM.2.1 hd ht (fun h => kt h _ _ _ _ _ _ _ _ _ _ _ _ _ _ _ hM hC hP hS hl) (fun h => kf h _ _ _ _ _ _ _ _ _ _ _ _ _ _ _ hM hC hP hS hl)
theorem aw_if_ge {x : Int32} {off : Int} {tgt : Nat} (hd : decode (miB M) pc = .ok (.ifCond .ge off, 3)) (ht : (pc : Int) + off = (tgt : Int)) (kt : 0 ≤ x → AW S M tgt L st I J G P) (kf : ¬ 0 ≤ x → AW S M (pc + 3) L st I J G P) : AW S M pc L (.int x :: st) I J G P := by
  intro p l e s m args below meth c D cA ad H locs ls hM hC hP hS hl
  exact lv_if_ge hM.1 hM.2.1 hd ht (fun h => kt h _ _ _ _ _ _ _ _ _ _ _ _ _ _ _ hM hC hP hS hl) (fun h => kf h _ _ _ _ _ _ _ _ _ _ _ _ _ _ _ hM hC hP hS hl)
theorem aw_icmp_gt {x y : Int32} {off : Int} {tgt : Nat} (hd : decode (miB M) pc = .ok (.if_icmp .gt off, 3)) (ht : (pc : Int) + off = (tgt : Int)) (kt : y < x → AW S M tgt L st I J G P) (kf : ¬ y < x → AW S M (pc + 3) L st I J G P) : AW S M pc L (.int y :: .int x :: st) I J G P := by
  intro p l e s m args below meth c D cA ad H locs ls hM hC hP hS hl
  exact lv_icmp_gt hM.1 hM.2.1 hd ht (fun h => kt h _ _ _ _ _ _ _ _ _ _ _ _ _ _ _ hM hC hP hS hl) (fun h => kf h _ _ _ _ _ _ _ _ _ _ _ _ _ _ _ hM hC hP hS hl)
theorem aw_if_gt {x : Int32} {off : Int} {tgt : Nat} (hd : decode (miB M) pc = .ok (.ifCond .gt off, 3)) (ht : (pc : Int) + off = (tgt : Int)) (kt : 0 < x → AW S M tgt L st I J G P) (kf : ¬ 0 < x → AW S M (pc + 3) L st I J G P) : AW S M pc L (.int x :: st) I J G P := by
  intro p l e s m args below meth c D cA ad H locs ls hM hC hP hS hl
  exact lv_if_gt hM.1 hM.2.1 hd ht (fun h => kt h _ _ _ _ _ _ _ _ _ _ _ _ _ _ _ hM hC hP hS hl) (fun h => kf h _ _ _ _ _ _ _ _ _ _ _ _ _ _ _ hM hC hP hS hl)
theorem aw_icmp_le {x y : Int32} {off : Int} {tgt : Nat} (hd : decode (miB M) pc = .ok (.if_icmp .le off, 3)) (ht : (pc : Int) + off = (tgt : Int)) (kt : x ≤ y → AW S M tgt L st I J G P) (kf : ¬ x ≤ y → AW S M (pc + 3) L st I J G P) : AW S M pc L (.int y :: .int x :: st) I J G P := by
  intro p l e s m args below meth c D cA ad H locs ls hM hC hP hS hl
  exact lv_icmp_le hM.1 hM.2.1 hd ht (fun h => kt h _ _ _ _ _ _ _ _ _ _ _ _ _ _ _ hM hC hP hS hl) (fun h => kf h _ _ _ _ _ _ _ _ _ _ _ _ _ _ _ hM hC hP hS hl)
theorem aw_if_le {x : Int32} {off : Int} {tgt : Nat} (hd : decode (miB M) pc = .ok (.ifCond .le off, 3)) (ht : (pc : Int) + off = (tgt : Int)) (kt : x ≤ 0 → AW S M tgt L st I J G P) (kf : ¬ x ≤ 0 → AW S M (pc + 3) L st I J G P) : AW S M pc L (.int x :: st) I J G P := by
  intro p l e s m args below meth c D cA ad H locs ls hM hC hP hS hl
  exact lv_if_le hM.1 hM.2.1 hd ht (fun h => kt h _ _ _ _ _ _ _ _ _ _ _ _ _ _ _ hM hC hP hS hl) (fun h => kf h _ _ _ _ _ _ _ _ _ _ _ _ _ _ _ hM hC hP hS hl)
end AWR
end
section
section AWS
variable {S : SH} {M : MI} {pc : Nat} {L : LV} {st : List Value} {I : II} {J : JJ} {G : II} {P : PP}
theorem aw_get {idx k0 ci j : Nat} {nst : Bool} {fds : List (Nat × Nat)} {fd : Nat × Nat} (hf : flk (miO M) idx = some (nst, ci, j)) (hk : S[k0]? = some (.inl (ci, fds))) (hj : fds[j]? = some fd) (hd : decode (miB M) pc = .ok (.getfield idx, 3)) (k : AW S M (pc + 3) L (fdv I J k0 j fd :: st) I J G P) : AW S M pc L (.ref k0 :: st) I J G P := by
  intro p l e s m args below meth c D cA ad H locs ls hM hC hP hS hl
  have hv : (fds.mapIdx (fun j fd => con ad (fdv I J k0 j fd)))[j]? = some (con ad (fdv I J k0 j fd)) := by rw [List.getElem?_mapIdx, hj]; rfl
  have hw := wrl_get (cA := cA) (ad := ad) (I := I) (J := J) (G := G) hk
  cases nst with
  | false =>
    obtain ⟨h1, h2, h3⟩ := flk_F hf
    exact va_get hM.1 hM.2.1 hM.2.2.2.2.2.1 (uwn ci h2) hM.2.2.2.2.1 hC.2.1 hP k0 hw (cln ci h2) j h3 (hM.2.2.2.2.2.1 _ h1) (by rw [own_n ci h2 j h3]; exact fun _ h => h) hv hd (k _ _ _ _ _ _ _ _ _ _ _ _ _ _ _ hM hC hP hS hl)
  | true =>
    obtain ⟨h1, h2, h3⟩ := flk_G hf
    exact va_getN hM.1 hM.2.1 hM.2.2.2.2.2.1 (uwn ci h2) hM.2.2.2.2.1 hC.2.1 hP k0 hw (cln ci h2) j h3 ((hC.2.2.1 _ h1).use rfl) (by rw [own_n ci h2 j h3]; exact fun _ h => h) hv hd (k _ _ _ _ _ _ _ _ _ _ _ _ _ _ _ hM hC hP hS hl)
theorem aw_putI {idx k0 ci j : Nat} {nst : Bool} {fds : List (Nat × Nat)} {fd : Nat × Nat} {x : Int32} (hS0 : SOk S) (hf : flk (miO M) idx = some (nst, ci, j)) (hk : S[k0]? = some (.inl (ci, fds))) (hj : fds[j]? = some fd) (hfd : fd.1 = 1) (hd : decode (miB M) pc = .ok (.putfield idx, 3)) (k : AW S M (pc + 3) L st (up2 I k0 j x) J G P) : AW S M pc L (.int x :: .ref k0 :: st) I J G P := by
  intro p l e s m args below meth c D cA ad H locs ls hM hC hP hS hl
  have hw := wrl_get (cA := cA) (ad := ad) (I := I) (J := J) (G := G) hk
  have hty := (fdOk_ty (hS0.obj hk hj).2.2).1 hfd
  have hjl : j < fds.length := (List.getElem?_eq_some_iff.mp hj).1
  cases nst with
  | false =>
    obtain ⟨h1, h2, h3⟩ := flk_F hf
    refine va_put hM.1 hM.2.1 hM.2.2.2.2.2.1 (uwn ci h2) (tyn ci) (tyn_ok ci h2) (nmn ci h2) hM.2.2.2.2.1 hC.2.1 hP hC.1.D hS k0 hw (cln ci h2) j h3 (hM.2.2.2.2.2.1 _ h1) (by rw [own_n ci h2 j h3]; exact fun _ h => h) hty.2 (ty := .int) (by rw [tyn_ok ci h2 j h3, hty.1]) (rfl) (rfl) (by rw [List.length_mapIdx]; exact hjl) hd (fun H locs hP hD hS => ?_)
    exact k _ _ _ _ _ _ _ _ _ _ _ _ _ _ _ hM hC (wrl_setI hk hj (by rw [hfd]; decide) (by rw [hfd]; decide) ▸ hP) hS hl
  | true =>
    obtain ⟨h1, h2, h3⟩ := flk_G hf
    refine va_putN hM.1 hM.2.1 hM.2.2.2.2.2.1 (uwn ci h2) (tyn ci) (tyn_ok ci h2) (nmn ci h2) hM.2.2.2.2.1 hC.2.1 hP hC.1.D hS k0 hw (cln ci h2) j h3 ((hC.2.2.1 _ h1).use rfl) (by rw [own_n ci h2 j h3]; exact fun _ h => h) hty.2 (ty := .int) (by rw [tyn_ok ci h2 j h3, hty.1]) (rfl) (rfl) (by rw [List.length_mapIdx]; exact hjl) hd (fun H locs hP hD hS => ?_)
    exact k _ _ _ _ _ _ _ _ _ _ _ _ _ _ _ hM hC (wrl_setI hk hj (by rw [hfd]; decide) (by rw [hfd]; decide) ▸ hP) hS hl
theorem aw_putJ {idx k0 ci j : Nat} {nst : Bool} {fds : List (Nat × Nat)} {fd : Nat × Nat} {x : Int64} (hS0 : SOk S) (hf : flk (miO M) idx = some (nst, ci, j)) (hk : S[k0]? = some (.inl (ci, fds))) (hj : fds[j]? = some fd) (hfd : fd.1 = 2) (hd : decode (miB M) pc = .ok (.putfield idx, 3)) (k : AW S M (pc + 3) L st I (up2 J k0 j x) G P) : AW S M pc L (.long x :: .ref k0 :: st) I J G P := by
  intro p l e s m args below meth c D cA ad H locs ls hM hC hP hS hl
  have hw := wrl_get (cA := cA) (ad := ad) (I := I) (J := J) (G := G) hk
  have hty := (fdOk_ty (hS0.obj hk hj).2.2).2.1 hfd
  have hjl : j < fds.length := (List.getElem?_eq_some_iff.mp hj).1
  cases nst with
  | false =>
    obtain ⟨h1, h2, h3⟩ := flk_F hf
    refine va_put hM.1 hM.2.1 hM.2.2.2.2.2.1 (uwn ci h2) (tyn ci) (tyn_ok ci h2) (nmn ci h2) hM.2.2.2.2.1 hC.2.1 hP hC.1.D hS k0 hw (cln ci h2) j h3 (hM.2.2.2.2.2.1 _ h1) (by rw [own_n ci h2 j h3]; exact fun _ h => h) hty.2 (ty := .long) (by rw [tyn_ok ci h2 j h3, hty.1]) (rfl) (rfl) (by rw [List.length_mapIdx]; exact hjl) hd (fun H locs hP hD hS => ?_)
    exact k _ _ _ _ _ _ _ _ _ _ _ _ _ _ _ hM hC (wrl_setJ hk hj hfd ▸ hP) hS hl
  | true =>
    obtain ⟨h1, h2, h3⟩ := flk_G hf
    refine va_putN hM.1 hM.2.1 hM.2.2.2.2.2.1 (uwn ci h2) (tyn ci) (tyn_ok ci h2) (nmn ci h2) hM.2.2.2.2.1 hC.2.1 hP hC.1.D hS k0 hw (cln ci h2) j h3 ((hC.2.2.1 _ h1).use rfl) (by rw [own_n ci h2 j h3]; exact fun _ h => h) hty.2 (ty := .long) (by rw [tyn_ok ci h2 j h3, hty.1]) (rfl) (rfl) (by rw [List.length_mapIdx]; exact hjl) hd (fun H locs hP hD hS => ?_)
    exact k _ _ _ _ _ _ _ _ _ _ _ _ _ _ _ hM hC (wrl_setJ hk hj hfd ▸ hP) hS hl
theorem aw_putZ {idx k0 ci j : Nat} {nst : Bool} {fds : List (Nat × Nat)} {fd : Nat × Nat} {x : Int32} (hx : x = 0 ∨ x = 1) (hS0 : SOk S) (hf : flk (miO M) idx = some (nst, ci, j)) (hk : S[k0]? = some (.inl (ci, fds))) (hj : fds[j]? = some fd) (hfd : fd.1 = 3) (hd : decode (miB M) pc = .ok (.putfield idx, 3)) (k : AW S M (pc + 3) L st (up2 I k0 j x) J G P) : AW S M pc L (.int x :: .ref k0 :: st) I J G P := by
  intro p l e s m args below meth c D cA ad H locs ls hM hC hP hS hl
  have hw := wrl_get (cA := cA) (ad := ad) (I := I) (J := J) (G := G) hk
  have hty := (fdOk_ty (hS0.obj hk hj).2.2).2.2 hfd
  have hjl : j < fds.length := (List.getElem?_eq_some_iff.mp hj).1
  cases nst with
  | false =>
    obtain ⟨h1, h2, h3⟩ := flk_F hf
    refine va_put hM.1 hM.2.1 hM.2.2.2.2.2.1 (uwn ci h2) (tyn ci) (tyn_ok ci h2) (nmn ci h2) hM.2.2.2.2.1 hC.2.1 hP hC.1.D hS k0 hw (cln ci h2) j h3 (hM.2.2.2.2.2.1 _ h1) (by rw [own_n ci h2 j h3]; exact fun _ h => h) hty.2 (ty := .boolean) (by rw [tyn_ok ci h2 j h3, hty.1]) (by rcases hx with rfl | rfl <;> rfl) (by rcases hx with rfl | rfl <;> rfl) (by rw [List.length_mapIdx]; exact hjl) hd (fun H locs hP hD hS => ?_)
    exact k _ _ _ _ _ _ _ _ _ _ _ _ _ _ _ hM hC (wrl_setI hk hj (by rw [hfd]; decide) (by rw [hfd]; decide) ▸ hP) hS hl
  | true =>
    obtain ⟨h1, h2, h3⟩ := flk_G hf
    refine va_putN hM.1 hM.2.1 hM.2.2.2.2.2.1 (uwn ci h2) (tyn ci) (tyn_ok ci h2) (nmn ci h2) hM.2.2.2.2.1 hC.2.1 hP hC.1.D hS k0 hw (cln ci h2) j h3 ((hC.2.2.1 _ h1).use rfl) (by rw [own_n ci h2 j h3]; exact fun _ h => h) hty.2 (ty := .boolean) (by rw [tyn_ok ci h2 j h3, hty.1]) (by rcases hx with rfl | rfl <;> rfl) (by rcases hx with rfl | rfl <;> rfl) (by rw [List.length_mapIdx]; exact hjl) hd (fun H locs hP hD hS => ?_)
    exact k _ _ _ _ _ _ _ _ _ _ _ _ _ _ _ hM hC (wrl_setI hk hj (by rw [hfd]; decide) (by rw [hfd]; decide) ▸ hP) hS hl
theorem aw_iald {k0 n : Nat} {i : Int32} (hk : S[k0]? = some (.inr (0, n))) (hi : vp_in i n) (hd : decode (miB M) pc = .ok (.iaload, 1)) (k : AW S M (pc + 1) L (.int (G k0 i.toNatClampNeg) :: st) I J G P) : AW S M pc L (.int i :: .ref k0 :: st) I J G P := by
  intro p l e s m args below meth c D cA ad H locs ls hM hC hP hS hl
  exact va_iald hM.1 hM.2.1 hC.2.1 hP k0 0 (wrl_get hk) (tyl_get (by decide)) hi hd (k _ _ _ _ _ _ _ _ _ _ _ _ _ _ _ hM hC hP hS hl)
theorem aw_bald {k0 n : Nat} {i : Int32} (hk : S[k0]? = some (.inr (1, n))) (hi : vp_in i n) (hd : decode (miB M) pc = .ok (.baload, 1)) (k : AW S M (pc + 1) L (.int (G k0 i.toNatClampNeg) :: st) I J G P) : AW S M pc L (.int i :: .ref k0 :: st) I J G P := by
  intro p l e s m args below meth c D cA ad H locs ls hM hC hP hS hl
  exact va_bald hM.1 hM.2.1 hC.2.1 hP k0 1 (wrl_get hk) (tyl_get (by decide)) hi hd (k _ _ _ _ _ _ _ _ _ _ _ _ _ _ _ hM hC hP hS hl)
theorem aw_zald {k0 n : Nat} {i : Int32} (hk : S[k0]? = some (.inr (2, n))) (hi : vp_in i n) (hd : decode (miB M) pc = .ok (.baload, 1)) (k : AW S M (pc + 1) L (.int (G k0 i.toNatClampNeg) :: st) I J G P) : AW S M pc L (.int i :: .ref k0 :: st) I J G P := by
  intro p l e s m args below meth c D cA ad H locs ls hM hC hP hS hl
  exact va_zald hM.1 hM.2.1 hC.2.1 hP k0 2 (wrl_get hk) (tyl_get (by decide)) hi hd (k _ _ _ _ _ _ _ _ _ _ _ _ _ _ _ hM hC hP hS hl)
theorem aw_iast {k0 n : Nat} {i x : Int32} (hk : S[k0]? = some (.inr (0, n))) (hi : vp_in i n) (hd : decode (miB M) pc = .ok (.iastore, 1)) (k : AW S M (pc + 1) L st I J (va_up G k0 (upd (G k0) i.toNatClampNeg (x))) P) : AW S M pc L (.int x :: .int i :: .ref k0 :: st) I J G P := by
  intro p l e s m args below meth c D cA ad H locs ls hM hC hP hS hl
  refine va_iast hM.1 hM.2.1 hC.2.1 hP hC.1.D hS k0 0 (wrl_get hk) (tyl_get (by decide)) hi hd (fun H locs hP hD hS => ?_)
  exact k _ _ _ _ _ _ _ _ _ _ _ _ _ _ _ hM hC (wrl_setG hk ▸ hP) hS hl
theorem aw_bast {k0 n : Nat} {i x : Int32} (hk : S[k0]? = some (.inr (1, n))) (hi : vp_in i n) (hd : decode (miB M) pc = .ok (.bastore, 1)) (k : AW S M (pc + 1) L st I J (va_up G k0 (upd (G k0) i.toNatClampNeg (vp_nar .byte x))) P) : AW S M pc L (.int x :: .int i :: .ref k0 :: st) I J G P := by
  intro p l e s m args below meth c D cA ad H locs ls hM hC hP hS hl
  refine va_bast hM.1 hM.2.1 hC.2.1 hP hC.1.D hS k0 1 (wrl_get hk) (tyl_get (by decide)) hi hd (fun H locs hP hD hS => ?_)
  exact k _ _ _ _ _ _ _ _ _ _ _ _ _ _ _ hM hC (wrl_setG hk ▸ hP) hS hl
theorem aw_zast {k0 n : Nat} {i x : Int32} (hk : S[k0]? = some (.inr (2, n))) (hi : vp_in i n) (hd : decode (miB M) pc = .ok (.bastore, 1)) (k : AW S M (pc + 1) L st I J (va_up G k0 (upd (G k0) i.toNatClampNeg (vp_nar .boolean x))) P) : AW S M pc L (.int x :: .int i :: .ref k0 :: st) I J G P := by
  intro p l e s m args below meth c D cA ad H locs ls hM hC hP hS hl
  refine va_zast hM.1 hM.2.1 hC.2.1 hP hC.1.D hS k0 2 (wrl_get hk) (tyl_get (by decide)) hi hd (fun H locs hP hD hS => ?_)
  exact k _ _ _ _ _ _ _ _ _ _ _ _ _ _ _ hM hC (wrl_setG hk ▸ hP) hS hl
theorem aw_alen {k0 n et : Nat} (hS0 : SOk S) (hk : S[k0]? = some (.inr (et, n))) (hd : decode (miB M) pc = .ok (.arraylength, 1)) (k : AW S M (pc + 1) L (.int (Int32.ofNat n) :: st) I J G P) : AW S M pc L (.ref k0 :: st) I J G P := by
  intro p l e s m args below meth c D cA ad H locs ls hM hC hP hS hl
  exact va_alen hM.1 hM.2.1 hC.2.1 hP k0 et (wrl_get hk) (tyl_get (hS0.arr hk).1) rfl hd (k _ _ _ _ _ _ _ _ _ _ _ _ _ _ _ hM hC hP hS hl)
theorem aw_tlen {k0 : Nat} (hk : isSt k0 = true) (hd : decode (miB M) pc = .ok (.arraylength, 1)) (k : AW S M (pc + 1) L (.int (Int32.ofNat (snl k0).length) :: st) I J G P) : AW S M pc L (.ref k0 :: st) I J G P := by
  intro p l e s m args below meth c D cA ad H locs ls hM hC hP hS hl
  exact va_tlen hM.1 hM.2.1 (hC.2.2.2 k0 hk).2 hS rfl hd (k _ _ _ _ _ _ _ _ _ _ _ _ _ _ _ hM hC hP hS hl)
theorem aw_tald {k0 : Nat} {i : Int32} (hk : isSt k0 = true) (hi : vp_in i (snl k0).length) (hd : decode (miB M) pc = .ok (.iaload, 1)) (k : AW S M (pc + 1) L (.int ((snl k0).getD i.toNatClampNeg 0) :: st) I J G P) : AW S M pc L (.int i :: .ref k0 :: st) I J G P := by
  intro p l e s m args below meth c D cA ad H locs ls hM hC hP hS hl
  exact va_ti hM.1 hM.2.1 (hC.2.2.2 k0 hk).2 hS hi rfl hd (k _ _ _ _ _ _ _ _ _ _ _ _ _ _ _ hM hC hP hS hl)
theorem aw_gets {idx k0 : Nat} (hf : (miO M, idx, k0) ∈ STl) (hk : isSt k0 = true) (hd : decode (miB M) pc = .ok (.getstatic idx, 3)) (k : AW S M (pc + 3) L (.ref k0 :: st) I J G P) : AW S M pc L st I J G P := by
  intro p l e s m args below meth c D cA ad H locs ls hM hC hP hS hl
  exact va_gets hM.1 hM.2.1 (hC.2.2.2 k0 hk).1 hS hM.2.2.2.2.1 (hM.2.2.2.2.2.1 _ (ST_ok _ (List.mem_map_of_mem (f := fun q : Nat × Nat × Nat => Cond.fieldLink (Rn q.1) q.2.1 RX5 (snm q.2.2) "[I") hf))) (fun _ h => h) hd (k _ _ _ _ _ _ _ _ _ _ _ _ _ _ _ hM hC hP hS hl)
/-- returns -/
theorem qg_ret {D : va_G} {cA : Nat → ClassId} {ad : Nat → Nat} {s : State} {H : Heap} {locs : List Loc} {args : Array Value} {r : Option Value} (hP : va_P D vwCl (wrl S cA ad I J G) H) (hS : va_S (AA S ad s.heap.size) s.heap H locs) (h : P r I J G) : ∀ t : State, t.heap = H → s.WarmedH t.vm → QG S D cA ad P s.heap.size args s (.returned (r.map (con ad))) t := fun t ht hW =>
  ⟨⟨r, I, J, G, rfl, h, by rw [ht]; exact hP⟩, hS.F ht⟩
theorem aw_iret {x : Int32} (hr : miR M = some .int) (hd : decode (miB M) pc = .ok (.ireturn, 1)) (h : P (some (.int x)) I J G) : AW S M pc L [.int x] I J G P := by
  intro p l e s m args below meth c D cA ad H locs ls hM hC hP hS hl
  exact W.iret hM.1 hM.2.1 (by rw [hM.2.2.1, hr]) (qg_ret (r := some (.int x)) hP hS h) hS.2.2 hd (hlocks := hM.2.2.2.2.2.2)
theorem aw_zret {x : Int32} (hr : miR M = some .boolean) (hx : x = 0 ∨ x = 1) (hd : decode (miB M) pc = .ok (.ireturn, 1)) (h : P (some (.int x)) I J G) : AW S M pc L [.int x] I J G P := by
  intro p l e s m args below meth c D cA ad H locs ls hM hC hP hS hl
  exact W.zret hM.1 hM.2.1 (by rw [hM.2.2.1, hr]) (by rcases hx with rfl | rfl <;> decide) (qg_ret (r := some (.int x)) hP hS h) hS.2.2 hd (hlocks := hM.2.2.2.2.2.2)
theorem aw_lret {x : Int64} (hr : miR M = some .long) (hd : decode (miB M) pc = .ok (.lreturn, 1)) (h : P (some (.long x)) I J G) : AW S M pc L [.long x] I J G P := by
  intro p l e s m args below meth c D cA ad H locs ls hM hC hP hS hl
  exact W.lret hM.1 hM.2.1 (by rw [hM.2.2.1, hr]) (qg_ret (r := some (.long x)) hP hS h) hS.2.2 hd (hlocks := hM.2.2.2.2.2.2)
theorem aw_vret (hr : miR M = none) (hd : decode (miB M) pc = .ok (.return_, 1)) (h : P none I J G) : AW S M pc L [] I J G P := by
  intro p l e s m args below meth c D cA ad H locs ls hM hC hP hS hl
  exact W.vret hM.1 hM.2.1 (by rw [hM.2.2.1, hr]) (qg_ret (r := none) hP hS h) hS.2.2 hd (hlocks := hM.2.2.2.2.2.2)
theorem aw_aret {k0 : Nat} {rt : FieldType} (hr : miR M = some rt) (hrt : (∃ n, rt = .object n) ∨ ∃ t, rt = .array t) (hd : decode (miB M) pc = .ok (.areturn, 1)) (h : P (some (.ref k0)) I J G) : AW S M pc L [.ref k0] I J G P := by
  intro p l e s m args below meth c D cA ad H locs ls hM hC hP hS hl
  exact W.aret hM.1 hM.2.1 (by rw [hM.2.2.1, hr]) hrt (Or.inr ⟨_, rfl⟩) (qg_ret (r := some (.ref k0)) hP hS h) hS.2.2 hd (hlocks := hM.2.2.2.2.2.2)
/-- calls -/
theorem CX.at {D : va_G} {cA : Nat → ClassId} {ad : Nat → Nat} {s U : State} {H : Heap} {locs : List Loc} (h : CX S D cA ad s.heap.size s s.heap) (hS : va_S (AA S ad s.heap.size) s.heap H locs) (hW : s.WarmedH U.vm) : CX S D cA ad H.size U H := by
  obtain ⟨h1, h2, h3, h4⟩ := h
  refine ⟨h1, h2.moved hW.alike, fun w hw => ?_, h4.at hW.alike (fun a ha hn => hS.2.1 a ha hn) hS.1⟩
  have hn := (List.mem_filter.mp hw).2
  have hZ := h3 w hw
  unfold isNest at hn
  split at hn
  · exact hZ.warmF hW
  · exact hZ.warmM hW
  · cases hn
theorem APc.blind {D : va_G} {cA : Nat → ClassId} {ad : Nat → Nat} {sz : Nat} {as : List Value} : FrameBlind (APc S D cA ad sz as I J G) := by
  intro a U g mk ⟨q0, q1, ⟨c1, c2, c3, c4⟩, qP⟩
  refine ⟨q0, q1, ⟨c1, va_K.moved (u := U) (U := U.calling g mk a) (Vm.Alike.refl U.vm) c2, fun w hw => ?_, ?_⟩, qP⟩
  · have hn := (List.mem_filter.mp hw).2
    refine va_Nw.same ?_ (u := U) (U := U.calling g mk a) rfl (c3 w hw)
    unfold isNest at hn
    split at hn
    · rfl
    · rfl
    · cases hn
  · exact SZ.at (u := U) (U := U.calling g mk a) c4 (Vm.Alike.refl U.vm) (fun _ _ _ => rfl) (Nat.le_refl _)
theorem va_callG {p : Program} {l : Launch} {e : Env} {s : State} {m : MethodId} {args a : Array Value} {below : List Frame} {meth : Method} {c : Code} {D : va_G} {cA : Nat → ClassId} {ad : Nat → Nat} {H : Heap} {locs : List Loc} {ls : Array Slot} {st0 : List Value} {Q : PP}
    (hM : MC M p s m args meth c) (hC : CX S D cA ad s.heap.size s s.heap) (hS : va_S (AA S ad s.heap.size) s.heap H locs) (hl : lvP ad ls (miX M) L)
    (hr : va_Run p l e (rmM M) s m args below meth c H locs 0 0 0 0 (F0 m pc ls st0) (st.map (con ad)) (QG S D cA ad Q H.size a) (AA S ad H.size))
    (kk : ∀ r I' J' G', Q r I' J' G' → AW S M (pc + 3) L (r.toList ++ st) I' J' G' P) :
    W p l e (rmM M) s m args below meth c H locs 0 0 (MQ below (QG S D cA ad P s.heap.size) args s 0 0 (AA S ad s.heap.size)) (F0 m pc ls st0) := by
  intro T hT X
  obtain ⟨v, st₀, t, T', Lc, h0, X', hL, e1, e2, ⟨⟨r, I', J', G', hv, hq, hp⟩, hz, hk⟩, stp⟩ := hr T hT X
  cases hv
  rw [h0] at hz hk
  have hS' : va_S (AA S ad s.heap.size) s.heap T'.heap (locs ++ Lc) := by
    refine ⟨Nat.le_trans hS.1 (by rw [e1]; exact hz), fun q h1 h2 => ?_, fun q hq => ?_⟩
    · rw [e1, hk q (Nat.lt_of_lt_of_le h1 hS.1) (fun z => h2 (AA.le hS.1 q z))]
      exact hS.2.1 q h1 h2
    · rcases List.mem_append.mp hq with h | h
      · exact hS.2.2 q h
      · exact AA.le hS.1 _ (hL q h)
  obtain ⟨t2, a1, b1⟩ := kk r I' J' G' hq p l e s m args below meth c D cA ad T'.heap (locs ++ Lc) ls hM hC (by rw [e1]; exact hp) hS' hl T' rfl X'
  refine ⟨t2, stp t2 ?_, b1⟩
  have he : (r.toList ++ st).map (con ad) = (Option.map (con ad) r).toList ++ st.map (con ad) := by
    cases r <;> rfl
  rw [he] at a1
  exact a1
theorem con_sum (ad : Nat → Nat) (vs : List Value) : ((vs.map (con ad)).map fun v => v.category).sum = (vs.map fun v => v.category).sum := by
  rw [List.map_map]
  congr 1
  exact List.map_congr_left (fun v _ => con_cat ad v)
/-- an instance method of the world's -/
theorem aw_callV {M' : MI} {idx k0 ci : Nat} {fds : List (Nat × Nat)} {as stk : List Value} {Q : PP} (hM' : MOk M') (hs : miS M' = false) (lk : lkOk (miO M) idx M') (hdep : miD M' < miD M) (hk : S[k0]? = some (.inl (ci, fds))) (hci : ci < 8) (hcn : (miY M').cls = Rn ci) (hn : as.length = miN M') (hroom : (st.map fun v => v.category).sum ≤ 8) (hstk : stk = as.reverse ++ .ref k0 :: st) (hd : decode (miB M) pc = .ok (.invokevirtual idx, 3))
    (hA : AMet S M' (.ref k0 :: as) I J G Q) (kk : ∀ r I' J' G', Q r I' J' G' → AW S M (pc + 3) L (r.toList ++ st) I' J' G' P) : AW S M pc L stk I J G P := by
  intro p l e s m args below meth c D cA ad H locs ls hM hC hP hS hl
  subst hstk
  obtain ⟨o1, o2, o3, o4, o5, o6, o7, o8⟩ := hM'
  rw [hs] at o5
  simp only [Bool.false_eq_true, if_false] at o5
  have hts : ∀ w ∈ Wd, w.before args s = true := hM.2.2.2.2.2.1
  have hpre : PreV s H (Rn ci) (ad k0) (APc S D cA ad H.size (.ref k0 :: as) I J G) (as.map (con ad)) :=
    ⟨APc.blind, va_recv hC.2.1 hP (cln ci hci) (q0 := k0) (wrl_get hk), fun U hU hW => ⟨rfl, by rw [hU], by rw [hU]; exact hC.at hS hW, by rw [hU]; exact hP⟩⟩
  have hdm : (rmM M').frames + 1 ≤ (rmM M).frames ∧ 8 + (miX M' + 11) + (rmM M').locals ≤ (rmM M).locals := by
    show miD M' + 1 ≤ miD M ∧ 8 + (miX M' + 11) + 36 * miD M' ≤ 36 * miD M
    omega
  have hstack : (F0 m pc ls ((as.reverse ++ .ref k0 :: st).map (con ad))).stack = (as.map (con ad)).reverse ++ .ref (ad k0) :: st.map (con ad) := by
    show (as.reverse ++ .ref k0 :: st).map (con ad) = _
    rw [List.map_append, List.map_reverse]; rfl
  have hrm : 2 * (F0 m pc ls ((as.reverse ++ .ref k0 :: st).map (con ad))).monitorRoom + ((st.map (con ad)).map fun v => v.category).sum ≤ 8 := lv_room (by rw [con_sum]; exact hroom)
  refine va_callG (a := (Value.ref (ad k0) :: as.map (con ad)).toArray) hM hC hS hl ?_ kk
  rcases lk with lk | lk
  · have cw : CallW (rmM M) s args (Rn (miO M)) (Rn ci) idx (miY M') (miB M') (miX M') (miR M') (wds M') (rmM M') 0 0 (miN M') :=
      ⟨callB_of (miN M') hts (goodIn_wd (fun _ h => h) o3) rfl rfl rfl (hts _ o4) (hts _ lk) o6 hdm, hts _ o5.1, by rw [← hcn]; exact hts _ o5.2⟩
    exact va_runV (As := as.map (con ad)) ⟨hM.1, hM.2.1, hM.2.2.2.1, hM.2.2.2.2.1, hts⟩ (hA l D cA ad H.size) cw hpre rfl (by simpa using hn) hl.1 hstack hrm hd ⟨Nat.zero_le _, Nat.zero_le _⟩
  · have cw : va_CN (rmM M) s args (Rn (miO M)) idx (miY M') "SilverFleets" (miB M') (miX M') (miR M') (wds M') (rmM M') 0 0 (miN M') :=
      va_cnB (miN M') hts (goodIn_wd (fun _ h => h) o3) rfl rfl rfl (hC.2.2.1 _ lk) (hts _ o4) o6 hdm
    exact va_runVN (As := as.map (con ad)) ⟨hM.1, hM.2.1, hM.2.2.2.1, hM.2.2.2.2.1, hts⟩ (hA l D cA ad H.size) ⟨cw, hts _ o5.1, by rw [← hcn]; exact hts _ o5.2⟩ hpre rfl (by simpa using hn) hl.1 hstack hrm hd ⟨Nat.zero_le _, Nat.zero_le _⟩
/-- a static method -/
theorem aw_callS {M' : MI} {idx : Nat} {as stk : List Value} {Q : PP} (hM' : MOk M') (hs : miS M' = true) (lk : lkOk (miO M) idx M') (hdep : miD M' < miD M) (hn : as.length = miN M') (hroom : (st.map fun v => v.category).sum ≤ 8) (hstk : stk = as.reverse ++ st) (hd : decode (miB M) pc = .ok (.invokestatic idx, 3))
    (hA : AMet S M' as I J G Q) (kk : ∀ r I' J' G', Q r I' J' G' → AW S M (pc + 3) L (r.toList ++ st) I' J' G' P) : AW S M pc L stk I J G P := by
  intro p l e s m args below meth c D cA ad H locs ls hM hC hP hS hl
  subst hstk
  obtain ⟨o1, o2, o3, o4, o5, o6, o7, o8⟩ := hM'
  rw [hs] at o5
  simp only [if_true] at o5
  have hts : ∀ w ∈ Wd, w.before args s = true := hM.2.2.2.2.2.1
  have hpre : PreS s H (APc S D cA ad H.size as I J G) (as.map (con ad)) :=
    ⟨APc.blind, fun U hU hW => ⟨rfl, by rw [hU], by rw [hU]; exact hC.at hS hW, by rw [hU]; exact hP⟩⟩
  have hdm : (rmM M').frames + 1 ≤ (rmM M).frames ∧ 8 + (miX M' + 11) + (rmM M').locals ≤ (rmM M).locals := by
    show miD M' + 1 ≤ miD M ∧ 8 + (miX M' + 11) + 36 * miD M' ≤ 36 * miD M
    omega
  have hstack : (F0 m pc ls ((as.reverse ++ st).map (con ad))).stack = (as.map (con ad)).reverse ++ st.map (con ad) := by
    show (as.reverse ++ st).map (con ad) = _
    rw [List.map_append, List.map_reverse]
  have hrm : 2 * (F0 m pc ls ((as.reverse ++ st).map (con ad))).monitorRoom + ((st.map (con ad)).map fun v => v.category).sum ≤ 8 := lv_room (by rw [con_sum]; exact hroom)
  refine va_callG (a := (as.map (con ad)).toArray) hM hC hS hl ?_ kk
  rcases lk with lk | lk
  · have cw : CallB (rmM M) s args (Rn (miO M)) idx (miY M') (miB M') (miX M') (miR M') (wds M') (rmM M') 0 0 (miN M') :=
      callB_of (miN M') hts (goodIn_wd (fun _ h => h) o3) rfl rfl rfl (hts _ o4) (hts _ lk) o6 hdm
    exact va_runS (As := as.map (con ad)) ⟨hM.1, hM.2.1, hM.2.2.2.1, hM.2.2.2.2.1, hts⟩ (hA l D cA ad H.size) ⟨cw, hts _ o5⟩ hpre rfl (by simpa using hn) hl.1 hstack hrm hd ⟨Nat.zero_le _, Nat.zero_le _⟩
  · have cw : va_CN (rmM M) s args (Rn (miO M)) idx (miY M') "SilverFleets" (miB M') (miX M') (miR M') (wds M') (rmM M') 0 0 (miN M') :=
      va_cnB (miN M') hts (goodIn_wd (fun _ h => h) o3) rfl rfl rfl (hC.2.2.1 _ lk) (hts _ o4) o6 hdm
    exact va_runSN (As := as.map (con ad)) ⟨hM.1, hM.2.1, hM.2.2.2.1, hM.2.2.2.2.1, hts⟩ (hA l D cA ad H.size) ⟨cw, hts _ o5, trivial⟩ hpre rfl (by simpa using hn) hl.1 hstack hrm hd ⟨Nat.zero_le _, Nat.zero_le _⟩
theorem aw_min {idx : Nat} {x y : Int32} (hin : ∀ w ∈ [Cond.methodLink (Rn (miO M)) idx Lib.Math.min.name, Cond.static Lib.Math.min.name, Cond.initialized "java/lang/Math", Cond.code Lib.Math.min.name Lib.Math.min.code 2 (some .int)], w ∈ Wd) (hdep : 1 ≤ miD M) (hroom : (st.map fun v => v.category).sum ≤ 8) (hd : decode (miB M) pc = .ok (.invokestatic idx, 3)) (k : AW S M (pc + 3) L (.int (if y < x then y else x) :: st) I J G P) : AW S M pc L (.int y :: .int x :: st) I J G P := by
  intro p l e s m args below meth c D cA ad H locs ls hM hC hP hS hl
  have hts : ∀ w ∈ Wd, w.before args s = true := hM.2.2.2.2.2.1
  exact va_mmin hM.1 hM.2.1 (by rw [hM.2.2.2.1, hl.1]) hM.2.2.2.2.1 (hts _ (hin _ (by simp))) (hts _ (hin _ (by simp))) (hts _ (hin _ (by simp))) (hts _ (hin _ (by simp))) hdep (by show _ ≤ 36 * miD M; rw [con_sum]; omega) (Nat.zero_le _) (Nat.zero_le _) hd (k _ _ _ _ _ _ _ _ _ _ _ _ _ _ _ hM hC hP hS hl)
theorem aw_max {idx : Nat} {x y : Int32} (hin : ∀ w ∈ [Cond.methodLink (Rn (miO M)) idx Lib.Math.max.name, Cond.static Lib.Math.max.name, Cond.initialized "java/lang/Math", Cond.code Lib.Math.max.name Lib.Math.max.code 2 (some .int)], w ∈ Wd) (hdep : 1 ≤ miD M) (hroom : (st.map fun v => v.category).sum ≤ 8) (hd : decode (miB M) pc = .ok (.invokestatic idx, 3)) (k : AW S M (pc + 3) L (.int (if x < y then y else x) :: st) I J G P) : AW S M pc L (.int y :: .int x :: st) I J G P := by
  intro p l e s m args below meth c D cA ad H locs ls hM hC hP hS hl
  have hts : ∀ w ∈ Wd, w.before args s = true := hM.2.2.2.2.2.1
  exact va_mmax hM.1 hM.2.1 (by rw [hM.2.2.2.1, hl.1]) hM.2.2.2.2.1 (hts _ (hin _ (by simp))) (hts _ (hin _ (by simp))) (hts _ (hin _ (by simp))) (hts _ (hin _ (by simp))) hdep (by show _ ≤ 36 * miD M; rw [con_sum]; omega) (Nat.zero_le _) (Nat.zero_le _) hd (k _ _ _ _ _ _ _ _ _ _ _ _ _ _ _ hM hC hP hS hl)
theorem aw_copy {idx k0 k1 n0 n1 : Nat} {sp dp n : Int32} (hin : ∀ w ∈ [Cond.methodLink (Rn (miO M)) idx arraycopyName, Cond.native arraycopyName, Cond.static arraycopyName, Cond.initialized "java/lang/System"], w ∈ Wd) (hdep : 1 ≤ miD M) (hk0 : S[k0]? = some (.inr (0, n0))) (hk1 : S[k1]? = some (.inr (0, n1))) (h1 : ¬ sp < 0) (h2 : ¬ dp < 0) (h3 : ¬ n < 0) (h4 : sp.toNatClampNeg + n.toNatClampNeg ≤ n0) (h5 : dp.toNatClampNeg + n.toNatClampNeg ≤ n1) (hroom : (st.map fun v => v.category).sum ≤ 8) (hd : decode (miB M) pc = .ok (.invokestatic idx, 3))
    (k : AW S M (pc + 3) L st I J (va_up G k1 (va_cpy (G k0) (G k1) sp.toNatClampNeg dp.toNatClampNeg n.toNatClampNeg)) P) : AW S M pc L (.int n :: .int dp :: .ref k1 :: .int sp :: .ref k0 :: st) I J G P := by
  intro p l e s m args below meth c D cA ad H locs ls hM hC hP hS hl
  have hts : ∀ w ∈ Wd, w.before args s = true := hM.2.2.2.2.2.1
  have hlc : ((st.map (con ad)).map fun v => v.category).sum + (nativeFrameWords "java/lang/System" "arraycopy" 5 + 11) ≤ (rmM M).locals := by
    have h9 : nativeFrameWords "java/lang/System" "arraycopy" 5 + 11 ≤ 28 := by decide +kernel
    show _ ≤ 36 * miD M
    rw [con_sum]
    omega
  refine va_copyi hM.1 hM.2.1 (by rw [hM.2.2.2.1, hl.1]) hM.2.2.2.2.1 (hts _ (hin _ (by simp))) (hts _ (hin _ (by simp))) (hts _ (hin _ (by simp))) (hts _ (hin _ (by simp))) hC.2.1 hP hC.1.D hS k0 k1 0 0 (wrl_get hk0) (wrl_get hk1) (tyl_get (by decide)) (tyl_get (by decide)) rfl h1 h2 h3 h4 h5 (fun _ _ => rfl) hdep hlc hd (fun H locs hP hD hS => ?_)
  exact k _ _ _ _ _ _ _ _ _ _ _ _ _ _ _ hM hC (wrl_setG hk1 ▸ hP) hS hl
theorem aw_lookup {dflt : Int} {ps : Array (Int × Int)} {len : Nat} {x : Int32} {off : Int} {tgt : Nat} (hd : decode (miB M) pc = .ok (.lookupswitch dflt ps, len)) (hp : (ps.toList.zip (ps.toList.drop 1)).all (fun (a, next) => a.1 < next.1) = true) (ho : Op.lookupswitch.offset ps.toList dflt x.toInt = off) (ht : (pc : Int) + off = (tgt : Int)) (k : AW S M tgt L st I J G P) : AW S M pc L (.int x :: st) I J G P := by
  intro p l e s m args below meth c D cA ad H locs ls hM hC hP hS hl
  exact lv_lookup hM.1 hM.2.1 hd hp ho ht (k _ _ _ _ _ _ _ _ _ _ _ _ _ _ _ hM hC hP hS hl)
theorem aw_tableOut {dflt lo hi : Int} {offs : Array Int} {len : Nat} {x : Int32} {tgt : Nat} (hd : decode (miB M) pc = .ok (.tableswitch dflt lo hi offs, len)) (h : x.toInt < lo ∨ hi < x.toInt) (ht : (pc : Int) + dflt = (tgt : Int)) (k : AW S M tgt L st I J G P) : AW S M pc L (.int x :: st) I J G P := by
  intro p l e s m args below meth c D cA ad H locs ls hM hC hP hS hl
  exact lv_tableOut hM.1 hM.2.1 hd h ht (k _ _ _ _ _ _ _ _ _ _ _ _ _ _ _ hM hC hP hS hl)
theorem aw_tableIn {dflt lo hi : Int} {offs : Array Int} {len : Nat} {x : Int32} {off : Int} {tgt : Nat} (hd : decode (miB M) pc = .ok (.tableswitch dflt lo hi offs, len)) (h1 : ¬ x.toInt < lo) (h2 : ¬ hi < x.toInt) (ho : offs[(x.toInt - lo).toNat]? = some off) (ht : (pc : Int) + off = (tgt : Int)) (k : AW S M tgt L st I J G P) : AW S M pc L (.int x :: st) I J G P := by
  intro p l e s m args below meth c D cA ad H locs ls hM hC hP hS hl
  exact lv_tableIn hM.1 hM.2.1 hd h1 h2 ho ht (k _ _ _ _ _ _ _ _ _ _ _ _ _ _ _ hM hC hP hS hl)
/-- what is no longer known of the locals -/
theorem aw_forget {L' : LV} (h : ∀ (i : Nat) (v : Value), L'[i]? = some (some v) → L[i]? = some (some v)) (k : AW S M pc L' st I J G P) : AW S M pc L st I J G P := by
  intro p l e s m args below meth c D cA ad H locs ls hM hC hP hS hl
  exact k _ _ _ _ _ _ _ _ _ _ _ _ _ _ _ hM hC hP hS ⟨hl.1, hl.2.1, fun i v hi => hl.2.2 i v (h i v hi)⟩
theorem qg_mono {D : va_G} {cA : Nat → ClassId} {ad : Nat → Nat} {sz : Nat} {P Q : PP} (h : ∀ r I J G, P r I J G → Q r I J G) {a : Array Value} {s : State} {oc : Outcome} {t : State} (hq : QG S D cA ad P sz a s oc t) : QG S D cA ad Q sz a s oc t := by
  obtain ⟨⟨r, I, J, G, h1, h2, h3⟩, h4⟩ := hq
  exact ⟨⟨r, I, J, G, h1, h _ _ _ _ h2, h3⟩, h4⟩
end AWS
end
