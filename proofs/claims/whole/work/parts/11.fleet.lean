set_option maxRecDepth 20000 in
theorem c_isIn {I : II} {J : JJ} {G : II} {s σ : Nat} (hs : s < 32) (hσ : σ < 2 ^ 31) : AMet SX mX6_isIn [.int (nI s), .int (nI σ)] I J G (PE (some (.int (nI (bitN σ s)))) I J G) := by
  refine amet_en oX6_isIn rfl rfl (L := [some (.int (nI s)), some (.int (nI σ))]) rfl ?_
  refine aw_run oX6_isIn sxOk 6 (pc' := 6) (L' := [some (.int (nI s)), some (.int (nI σ))]) (st' := [.int (nI 1), .int (((nI σ) >>> ((nI s) &&& 31)) &&& (nI 1))]) (I' := I) (J' := J) (G' := G) rfl ?_
  refine aw_neN (bitNI rfl rfl (by omega) (by omega)) rfl (bitN_b _ _) (by omega) (oX6_isIn.dec rfl) (tgt := 13) rfl (fun h6 => ?_) (fun h6 => ?_)
  · refine aw_run oX6_isIn sxOk 1 (pc' := 14) (L' := [some (.int (nI s)), some (.int (nI σ))]) (st' := [.int (nI 0)]) (I' := I) (J' := J) (G' := G) rfl ?_
    exact aw_zret rfl (by first | exact Or.inl rfl | exact Or.inr rfl) (oX6_isIn.dec rfl) (pe_i (by rcases bitN_or σ s with h | h; rw [h]; exact absurd h h6))
  · refine aw_run oX6_isIn sxOk 2 (pc' := 14) (L' := [some (.int (nI s)), some (.int (nI σ))]) (st' := [.int (nI 1)]) (I' := I) (J' := J) (G' := G) rfl ?_
    exact aw_zret rfl (by first | exact Or.inl rfl | exact Or.inr rfl) (oX6_isIn.dec rfl) (pe_i (by rw [h6]))
set_option maxRecDepth 20000 in
theorem c_hasWeek_t {I : II} {J : JJ} {G : II} {Wk : Nat} (hW : I 2 6 = nI Wk) (hWk : Wk ≤ 12) {j : Nat} (hj : j < Wk) : AMet SX mX4_hasWeek [.ref 2, .int (nI j)] I J G (PE (some (.int (nI 1))) I J G) := by
  refine amet_en oX4_hasWeek rfl rfl (L := [some (.ref 2), some (.int (nI j))]) rfl ?_
  refine aw_run oX4_hasWeek sxOk 1 (pc' := 1) (L' := [some (.ref 2), some (.int (nI j))]) (st' := [.int (nI j)]) (I' := I) (J' := J) (G' := G) rfl ?_
  refine aw_0ltN rfl (by omega) (oX4_hasWeek.dec rfl) (tgt := 16) rfl ?_
  refine aw_run oX4_hasWeek sxOk 3 (pc' := 9) (L' := [some (.ref 2), some (.int (nI j))]) (st' := [.int (I 2 6), .int (nI j)]) (I' := I) (J' := J) (G' := G) rfl ?_
  refine aw_geN rfl hW (by omega) (by omega) (oX4_hasWeek.dec rfl) (tgt := 16) rfl (fun h9 => absurd h9 (by omega)) (fun h9 => ?_)
  refine aw_run oX4_hasWeek sxOk 2 (pc' := 17) (L' := [some (.ref 2), some (.int (nI j))]) (st' := [.int (nI 1)]) (I' := I) (J' := J) (G' := G) rfl ?_
  exact aw_zret rfl (by first | exact Or.inl rfl | exact Or.inr rfl) (oX4_hasWeek.dec rfl) pe_rfl
set_option maxRecDepth 20000 in
theorem c_hasWeek_f {I : II} {J : JJ} {G : II} {Wk : Nat} (hW : I 2 6 = nI Wk) (hWk : Wk ≤ 12) {x : Int32} (hx : notIn x Wk) : AMet SX mX4_hasWeek [.ref 2, .int x] I J G (PE (some (.int (nI 0))) I J G) := by
  refine amet_en oX4_hasWeek rfl rfl (L := [some (.ref 2), some (.int x)]) rfl ?_
  refine aw_run oX4_hasWeek sxOk 1 (pc' := 1) (L' := [some (.ref 2), some (.int x)]) (st' := [.int x]) (I' := I) (J' := J) (G' := G) rfl ?_
  refine aw_if_lt (oX4_hasWeek.dec rfl) (tgt := 16) rfl (fun h1 => ?_) (fun h1 => ?_)
  · refine aw_run oX4_hasWeek sxOk 1 (pc' := 17) (L' := [some (.ref 2), some (.int x)]) (st' := [.int (nI 0)]) (I' := I) (J' := J) (G' := G) rfl ?_
    exact aw_zret rfl (by first | exact Or.inl rfl | exact Or.inr rfl) (oX4_hasWeek.dec rfl) pe_rfl
  · refine aw_run oX4_hasWeek sxOk 3 (pc' := 9) (L' := [some (.ref 2), some (.int x)]) (st' := [.int (I 2 6), .int x]) (I' := I) (J' := J) (G' := G) rfl ?_
    refine aw_icmp_ge (oX4_hasWeek.dec rfl) (tgt := 16) rfl (fun h9 => ?_) (fun h9 => absurd (by rw [hW]; exact notIn_ge hx (by omega) h1) h9)
    refine aw_run oX4_hasWeek sxOk 1 (pc' := 17) (L' := [some (.ref 2), some (.int x)]) (st' := [.int (nI 0)]) (I' := I) (J' := J) (G' := G) rfl ?_
    exact aw_zret rfl (by first | exact Or.inl rfl | exact Or.inr rfl) (oX4_hasWeek.dec rfl) pe_rfl
set_option maxRecDepth 20000 in
theorem c_hasShip_t {I : II} {J : JJ} {G : II} {P : Nat} (hP : I 2 7 = nI P) (hP5 : P ≤ 5) {j : Nat} (hj : j < P) : AMet SX mX4_hasShip [.ref 2, .int (nI j)] I J G (PE (some (.int (nI 1))) I J G) := by
  refine amet_en oX4_hasShip rfl rfl (L := [some (.ref 2), some (.int (nI j))]) rfl ?_
  refine aw_run oX4_hasShip sxOk 1 (pc' := 1) (L' := [some (.ref 2), some (.int (nI j))]) (st' := [.int (nI j)]) (I' := I) (J' := J) (G' := G) rfl ?_
  refine aw_0ltN rfl (by omega) (oX4_hasShip.dec rfl) (tgt := 16) rfl ?_
  refine aw_run oX4_hasShip sxOk 3 (pc' := 9) (L' := [some (.ref 2), some (.int (nI j))]) (st' := [.int (I 2 7), .int (nI j)]) (I' := I) (J' := J) (G' := G) rfl ?_
  refine aw_geN rfl hP (by omega) (by omega) (oX4_hasShip.dec rfl) (tgt := 16) rfl (fun h9 => absurd h9 (by omega)) (fun h9 => ?_)
  refine aw_run oX4_hasShip sxOk 2 (pc' := 17) (L' := [some (.ref 2), some (.int (nI j))]) (st' := [.int (nI 1)]) (I' := I) (J' := J) (G' := G) rfl ?_
  exact aw_zret rfl (by first | exact Or.inl rfl | exact Or.inr rfl) (oX4_hasShip.dec rfl) pe_rfl
set_option maxRecDepth 20000 in
theorem c_hasShip_f {I : II} {J : JJ} {G : II} {P : Nat} (hP : I 2 7 = nI P) (hP5 : P ≤ 5) {x : Int32} (hx : notIn x P) : AMet SX mX4_hasShip [.ref 2, .int x] I J G (PE (some (.int (nI 0))) I J G) := by
  refine amet_en oX4_hasShip rfl rfl (L := [some (.ref 2), some (.int x)]) rfl ?_
  refine aw_run oX4_hasShip sxOk 1 (pc' := 1) (L' := [some (.ref 2), some (.int x)]) (st' := [.int x]) (I' := I) (J' := J) (G' := G) rfl ?_
  refine aw_if_lt (oX4_hasShip.dec rfl) (tgt := 16) rfl (fun h1 => ?_) (fun h1 => ?_)
  · refine aw_run oX4_hasShip sxOk 1 (pc' := 17) (L' := [some (.ref 2), some (.int x)]) (st' := [.int (nI 0)]) (I' := I) (J' := J) (G' := G) rfl ?_
    exact aw_zret rfl (by first | exact Or.inl rfl | exact Or.inr rfl) (oX4_hasShip.dec rfl) pe_rfl
  · refine aw_run oX4_hasShip sxOk 3 (pc' := 9) (L' := [some (.ref 2), some (.int x)]) (st' := [.int (I 2 7), .int x]) (I' := I) (J' := J) (G' := G) rfl ?_
    refine aw_icmp_ge (oX4_hasShip.dec rfl) (tgt := 16) rfl (fun h9 => ?_) (fun h9 => absurd (by rw [hP]; exact notIn_ge hx (by omega) h1) h9)
    refine aw_run oX4_hasShip sxOk 1 (pc' := 17) (L' := [some (.ref 2), some (.int x)]) (st' := [.int (nI 0)]) (I' := I) (J' := J) (G' := G) rfl ?_
    exact aw_zret rfl (by first | exact Or.inl rfl | exact Or.inr rfl) (oX4_hasShip.dec rfl) pe_rfl
set_option maxRecDepth 20000 in
theorem c_hasSet_t {I : II} {J : JJ} {G : II} {P : Nat} (hP : I 2 7 = nI P) (hP5 : P ≤ 5) {j : Nat} (hj : j < 2 ^ P) : AMet SX mX4_hasSet [.ref 2, .int (nI j)] I J G (PE (some (.int (nI 1))) I J G) := by
  have hp : 2 ^ P ≤ 32 := Nat.pow_le_pow_right (by decide) hP5
  refine amet_en oX4_hasSet rfl rfl (L := [some (.ref 2), some (.int (nI j))]) rfl ?_
  refine aw_run oX4_hasSet sxOk 1 (pc' := 1) (L' := [some (.ref 2), some (.int (nI j))]) (st' := [.int (nI j)]) (I' := I) (J' := J) (G' := G) rfl ?_
  refine aw_0ltN rfl (by omega) (oX4_hasSet.dec rfl) (tgt := 18) rfl ?_
  refine aw_run oX4_hasSet sxOk 5 (pc' := 11) (L' := [some (.ref 2), some (.int (nI j))]) (st' := [.int ((nI 1) <<< ((I 2 7) &&& 31)), .int (nI j)]) (I' := I) (J' := J) (G' := G) rfl ?_
  refine aw_geN rfl (shl1N hP (by omega)) (by omega) (by omega) (oX4_hasSet.dec rfl) (tgt := 18) rfl (fun h11 => absurd h11 (by omega)) (fun h11 => ?_)
  refine aw_run oX4_hasSet sxOk 2 (pc' := 19) (L' := [some (.ref 2), some (.int (nI j))]) (st' := [.int (nI 1)]) (I' := I) (J' := J) (G' := G) rfl ?_
  exact aw_zret rfl (by first | exact Or.inl rfl | exact Or.inr rfl) (oX4_hasSet.dec rfl) pe_rfl
set_option maxRecDepth 20000 in
theorem c_hasSet_f {I : II} {J : JJ} {G : II} {P : Nat} (hP : I 2 7 = nI P) (hP5 : P ≤ 5) {x : Int32} (hx : notIn x (2 ^ P)) : AMet SX mX4_hasSet [.ref 2, .int x] I J G (PE (some (.int (nI 0))) I J G) := by
  have hp : 2 ^ P ≤ 32 := Nat.pow_le_pow_right (by decide) hP5
  refine amet_en oX4_hasSet rfl rfl (L := [some (.ref 2), some (.int x)]) rfl ?_
  refine aw_run oX4_hasSet sxOk 1 (pc' := 1) (L' := [some (.ref 2), some (.int x)]) (st' := [.int x]) (I' := I) (J' := J) (G' := G) rfl ?_
  refine aw_if_lt (oX4_hasSet.dec rfl) (tgt := 18) rfl (fun h1 => ?_) (fun h1 => ?_)
  · refine aw_run oX4_hasSet sxOk 1 (pc' := 19) (L' := [some (.ref 2), some (.int x)]) (st' := [.int (nI 0)]) (I' := I) (J' := J) (G' := G) rfl ?_
    exact aw_zret rfl (by first | exact Or.inl rfl | exact Or.inr rfl) (oX4_hasSet.dec rfl) pe_rfl
  · refine aw_run oX4_hasSet sxOk 5 (pc' := 11) (L' := [some (.ref 2), some (.int x)]) (st' := [.int ((nI 1) <<< ((I 2 7) &&& 31)), .int x]) (I' := I) (J' := J) (G' := G) rfl ?_
    refine aw_icmp_ge (oX4_hasSet.dec rfl) (tgt := 18) rfl (fun h11 => ?_) (fun h11 => absurd (by rw [shl1N hP (by omega)]; exact notIn_ge hx (by omega) h1) h11)
    refine aw_run oX4_hasSet sxOk 1 (pc' := 19) (L' := [some (.ref 2), some (.int x)]) (st' := [.int (nI 0)]) (I' := I) (J' := J) (G' := G) rfl ?_
    exact aw_zret rfl (by first | exact Or.inl rfl | exact Or.inr rfl) (oX4_hasSet.dec rfl) pe_rfl
set_option maxRecDepth 20000 in
theorem c_inPort {I : II} {J : JJ} {G : II} {P : Nat} (hP : I 2 7 = nI P) (hP5 : P ≤ 5) : AMet SX mX0_inPort [.ref 7] I J G (PE (some (.int (nI (setN (fun s => decide (G 24 (3 + s) = nI 0)) P)))) I J G) := by
  refine amet_en oX0_inPort rfl rfl (L := [some (.ref 7), none, none]) rfl ?_
  have loop : ∀ (n s : Nat) (x : Int32) (acc : Int32), s + n = P → x = nI s → acc = nI (setN (fun s => decide (G 24 (3 + s) = nI 0)) s) → AW SX mX0_inPort 4 [some (.ref 7), some (.int acc), some (.int x)] [] I J G (PE (some (.int (nI (setN (fun s => decide (G 24 (3 + s) = nI 0)) P)))) I J G) := by
    intro n
    induction n with
    | zero =>
      intro s x acc hsn hx hacc
      refine aw_run oX0_inPort sxOk 4 (pc' := 12) (L' := [some (.ref 7), some (.int acc), some (.int x)]) (st' := [.int (I 2 7), .int x]) (I' := I) (J' := J) (G' := G) rfl ?_
      refine aw_geN hx hP (by omega) (by omega) (oX0_inPort.dec rfl) (tgt := 38) rfl (fun h12 => ?_) (fun h12 => absurd h12 (by omega))
      refine aw_run oX0_inPort sxOk 1 (pc' := 39) (L' := [some (.ref 7), some (.int acc), some (.int x)]) (st' := [.int acc]) (I' := I) (J' := J) (G' := G) rfl ?_
      exact aw_iret rfl (oX0_inPort.dec rfl) (pe_i (by rw [hacc, show s = P by omega]))
    | succ n ih =>
      intro s x acc hsn hx hacc
      refine aw_run oX0_inPort sxOk 4 (pc' := 12) (L' := [some (.ref 7), some (.int acc), some (.int x)]) (st' := [.int (I 2 7), .int x]) (I' := I) (J' := J) (G' := G) rfl ?_
      refine aw_geN hx hP (by omega) (by omega) (oX0_inPort.dec rfl) (tgt := 38) rfl (fun h12 => absurd h12 (by omega)) (fun h12 => ?_)
      refine aw_run oX0_inPort sxOk 3 (pc' := 20) (L' := [some (.ref 7), some (.int acc), some (.int x)]) (st' := [.int x, .ref 4]) (I' := I) (J' := J) (G' := G) rfl ?_
      refine aw_eqS (st := [.int (nI s), .ref 4]) (by rw [show x = nI s from hx]) ?_
      refine aw_cV (st := []) 4 [.int (nI s)] oX2_isInPort k0_29 rfl rfl rfl rfl rfl rfl rfl rfl (oX0_inPort.dec rfl) (c_isInPort (by omega)) ?_
      refine aw_eqS (st := [.int (b1 (decide (G 24 (3 + s) = nI 0)))]) rfl ?_
      refine aw_0eqD (oX0_inPort.dec rfl) (tgt := 32) rfl (fun h23 => ?_) (fun h23 => ?_)
      · refine aw_run oX0_inPort sxOk 2 (pc' := 4) (L' := [some (.ref 7), some (.int acc), some (.int (x + (nI 1)))]) (st' := []) (I' := I) (J' := J) (G' := G) rfl ?_
        exact ih (s + 1) _ _ (by omega) (addN hx rfl) (hacc.trans (by rw [← setN_no (q := fun s => decide (G 24 (3 + s) = nI 0)) (by simpa using h23)]))
      · refine aw_run oX0_inPort sxOk 8 (pc' := 4) (L' := [some (.ref 7), some (.int (acc ||| ((nI 1) <<< (x &&& 31)))), some (.int (x + (nI 1)))]) (st' := []) (I' := I) (J' := J) (G' := G) rfl ?_
        exact ih (s + 1) _ _ (by omega) (addN hx rfl) ((orN hacc (shl1N hx (by omega))).trans (by rw [setN_or (q := fun s => decide (G 24 (3 + s) = nI 0)) (by simpa using h23)]))
  refine aw_run oX0_inPort sxOk 4 (pc' := 4) (L' := [some (.ref 7), some (.int (nI 0)), some (.int (nI 0))]) (st' := []) (I' := I) (J' := J) (G' := G) rfl ?_
  exact loop P 0 _ _ (by omega) rfl rfl
set_option maxRecDepth 20000 in
theorem c_readyIn {I : II} {J : JJ} {G : II} {P : Nat} (hP : I 2 7 = nI P) (hP5 : P ≤ 5) {w : Nat} : AMet SX mX0_readyIn [.ref 7, .int (nI w)] I J G (PE (some (.int (nI (setN (fun s => decide (G 17 s ≤ nI w)) P)))) I J G) := by
  refine amet_en oX0_readyIn rfl rfl (L := [some (.ref 7), some (.int (nI w)), none, none]) rfl ?_
  have loop : ∀ (n s : Nat) (x : Int32) (acc : Int32), s + n = P → x = nI s → acc = nI (setN (fun s => decide (G 17 s ≤ nI w)) s) → AW SX mX0_readyIn 4 [some (.ref 7), some (.int (nI w)), some (.int acc), some (.int x)] [] I J G (PE (some (.int (nI (setN (fun s => decide (G 17 s ≤ nI w)) P)))) I J G) := by
    intro n
    induction n with
    | zero =>
      intro s x acc hsn hx hacc
      refine aw_run oX0_readyIn sxOk 4 (pc' := 12) (L' := [some (.ref 7), some (.int (nI w)), some (.int acc), some (.int x)]) (st' := [.int (I 2 7), .int x]) (I' := I) (J' := J) (G' := G) rfl ?_
      refine aw_geN hx hP (by omega) (by omega) (oX0_readyIn.dec rfl) (tgt := 40) rfl (fun h12 => ?_) (fun h12 => absurd h12 (by omega))
      refine aw_run oX0_readyIn sxOk 1 (pc' := 41) (L' := [some (.ref 7), some (.int (nI w)), some (.int acc), some (.int x)]) (st' := [.int acc]) (I' := I) (J' := J) (G' := G) rfl ?_
      exact aw_iret rfl (oX0_readyIn.dec rfl) (pe_i (by rw [hacc, show s = P by omega]))
    | succ n ih =>
      intro s x acc hsn hx hacc
      refine aw_run oX0_readyIn sxOk 4 (pc' := 12) (L' := [some (.ref 7), some (.int (nI w)), some (.int acc), some (.int x)]) (st' := [.int (I 2 7), .int x]) (I' := I) (J' := J) (G' := G) rfl ?_
      refine aw_geN hx hP (by omega) (by omega) (oX0_readyIn.dec rfl) (tgt := 40) rfl (fun h12 => absurd h12 (by omega)) (fun h12 => ?_)
      refine aw_run oX0_readyIn sxOk 4 (pc' := 23) (L' := [some (.ref 7), some (.int (nI w)), some (.int acc), some (.int x)]) (st' := [.int x, .ref 17]) (I' := I) (J' := J) (G' := G) rfl ?_
      refine aw_iaN s sxOk rfl hx (by omega) (oX0_readyIn.dec rfl) ?_
      refine aw_run oX0_readyIn sxOk 1 (pc' := 25) (L' := [some (.ref 7), some (.int (nI w)), some (.int acc), some (.int x)]) (st' := [.int (nI w), .int (G 17 s)]) (I' := I) (J' := J) (G' := G) rfl ?_
      refine aw_icmp_gt (oX0_readyIn.dec rfl) (tgt := 34) rfl (fun h25 => ?_) (fun h25 => ?_)
      · refine aw_run oX0_readyIn sxOk 2 (pc' := 4) (L' := [some (.ref 7), some (.int (nI w)), some (.int acc), some (.int (x + (nI 1)))]) (st' := []) (I' := I) (J' := J) (G' := G) rfl ?_
        exact ih (s + 1) _ _ (by omega) (addN hx rfl) (hacc.trans (by rw [← setN_no (q := fun s => decide (G 17 s ≤ nI w)) (by simpa [Int32.not_le] using h25)]))
      · refine aw_run oX0_readyIn sxOk 8 (pc' := 4) (L' := [some (.ref 7), some (.int (nI w)), some (.int (acc ||| ((nI 1) <<< (x &&& 31)))), some (.int (x + (nI 1)))]) (st' := []) (I' := I) (J' := J) (G' := G) rfl ?_
        exact ih (s + 1) _ _ (by omega) (addN hx rfl) ((orN hacc (shl1N hx (by omega))).trans (by rw [setN_or (q := fun s => decide (G 17 s ≤ nI w)) (by simpa [Int32.not_lt] using h25)]))
  refine aw_run oX0_readyIn sxOk 4 (pc' := 4) (L' := [some (.ref 7), some (.int (nI w)), some (.int (nI 0)), some (.int (nI 0))]) (st' := []) (I' := I) (J' := J) (G' := G) rfl ?_
  exact loop P 0 _ _ (by omega) rfl rfl
set_option maxRecDepth 20000 in
theorem c_reef {I : II} {J : JJ} {G : II} {P : Nat} (hP : I 2 7 = nI P) (hP5 : P ≤ 5) : AMet SX mX0_silverOnTheReef [.ref 7] I J G (PE (some (.int (sumC (sil (G 24)) (fun s => decide (G 24 (3 + s) = nI 3)) P))) I J G) := by
  refine amet_en oX0_silverOnTheReef rfl rfl (L := [some (.ref 7), none, none]) rfl ?_
  have loop : ∀ (n s : Nat) (x : Int32) (acc : Int32), s + n = P → x = nI s → acc = sumC (sil (G 24)) (fun s => decide (G 24 (3 + s) = nI 3)) s → AW SX mX0_silverOnTheReef 4 [some (.ref 7), some (.int acc), some (.int x)] [] I J G (PE (some (.int (sumC (sil (G 24)) (fun s => decide (G 24 (3 + s) = nI 3)) P))) I J G) := by
    intro n
    induction n with
    | zero =>
      intro s x acc hsn hx hacc
      refine aw_run oX0_silverOnTheReef sxOk 4 (pc' := 12) (L' := [some (.ref 7), some (.int acc), some (.int x)]) (st' := [.int (I 2 7), .int x]) (I' := I) (J' := J) (G' := G) rfl ?_
      refine aw_geN hx hP (by omega) (by omega) (oX0_silverOnTheReef.dec rfl) (tgt := 44) rfl (fun h12 => ?_) (fun h12 => absurd h12 (by omega))
      refine aw_run oX0_silverOnTheReef sxOk 1 (pc' := 45) (L' := [some (.ref 7), some (.int acc), some (.int x)]) (st' := [.int acc]) (I' := I) (J' := J) (G' := G) rfl ?_
      exact aw_iret rfl (oX0_silverOnTheReef.dec rfl) (pe_i (by rw [hacc, show s = P by omega]))
    | succ n ih =>
      intro s x acc hsn hx hacc
      refine aw_run oX0_silverOnTheReef sxOk 4 (pc' := 12) (L' := [some (.ref 7), some (.int acc), some (.int x)]) (st' := [.int (I 2 7), .int x]) (I' := I) (J' := J) (G' := G) rfl ?_
      refine aw_geN hx hP (by omega) (by omega) (oX0_silverOnTheReef.dec rfl) (tgt := 44) rfl (fun h12 => absurd h12 (by omega)) (fun h12 => ?_)
      refine aw_run oX0_silverOnTheReef sxOk 3 (pc' := 20) (L' := [some (.ref 7), some (.int acc), some (.int x)]) (st' := [.int x, .ref 4]) (I' := I) (J' := J) (G' := G) rfl ?_
      refine aw_eqS (st := [.int (nI s), .ref 4]) (by rw [show x = nI s from hx]) ?_
      refine aw_cV (st := []) 4 [.int (nI s)] oX2_placeOf k0_38 rfl rfl rfl rfl rfl rfl rfl rfl (oX0_silverOnTheReef.dec rfl) (c_placeOf (by omega)) ?_
      refine aw_eqS (st := [.int (G 24 (3 + s))]) rfl ?_
      refine aw_run oX0_silverOnTheReef sxOk 1 (pc' := 24) (L' := [some (.ref 7), some (.int acc), some (.int x)]) (st' := [.int (nI 3), .int (G 24 (3 + s))]) (I' := I) (J' := J) (G' := G) rfl ?_
      refine aw_icmp_ne (oX0_silverOnTheReef.dec rfl) (tgt := 38) rfl (fun h24 => ?_) (fun h24 => ?_)
      · refine aw_run oX0_silverOnTheReef sxOk 2 (pc' := 4) (L' := [some (.ref 7), some (.int acc), some (.int (x + (nI 1)))]) (st' := []) (I' := I) (J' := J) (G' := G) rfl ?_
        exact ih (s + 1) _ _ (by omega) (addN hx rfl) (hacc.trans (sumC_f (q := fun s => decide (G 24 (3 + s) = nI 3)) (by simpa using h24)))
      · refine aw_run oX0_silverOnTheReef sxOk 4 (pc' := 33) (L' := [some (.ref 7), some (.int acc), some (.int x)]) (st' := [.int x, .ref 4, .int acc]) (I' := I) (J' := J) (G' := G) rfl ?_
        refine aw_eqS (st := [.int (nI s), .ref 4, .int acc]) (by rw [show x = nI s from hx]) ?_
        refine aw_cV (st := [.int acc]) 4 [.int (nI s)] oX2_silverOf k0_42 rfl rfl rfl rfl rfl rfl rfl rfl (oX0_silverOnTheReef.dec rfl) (c_silverOf (by omega)) ?_
        refine aw_eqS (st := [.int (sil (G 24) s), .int acc]) rfl ?_
        refine aw_run oX0_silverOnTheReef sxOk 4 (pc' := 4) (L' := [some (.ref 7), some (.int (acc + (sil (G 24) s))), some (.int (x + (nI 1)))]) (st' := []) (I' := I) (J' := J) (G' := G) rfl ?_
        exact ih (s + 1) _ _ (by omega) (addN hx rfl) (by rw [hacc, sumC_t (x := sil (G 24)) (q := fun s => decide (G 24 (3 + s) = nI 3)) (by simpa using h24)])
  refine aw_run oX0_silverOnTheReef sxOk 4 (pc' := 4) (L' := [some (.ref 7), some (.int (nI 0)), some (.int (nI 0))]) (st' := []) (I' := I) (J' := J) (G' := G) rfl ?_
  exact loop P 0 _ _ (by omega) rfl rfl
set_option maxRecDepth 20000 in
theorem c_listedTogether {I : II} {J : JJ} {G : II} {P : Nat} (hP : I 2 7 = nI P) (hP5 : P ≤ 5) {σ : Nat} (hσ : σ < 32) : AMet SX mX0_listedTogether [.ref 7, .int (nI σ)] I J G (PE (some (.int (sumS (fun s => G 24 (8 + s)) σ P))) I J G) := by
  refine amet_en oX0_listedTogether rfl rfl (L := [some (.ref 7), some (.int (nI σ)), none, none]) rfl ?_
  have loop : ∀ (n s : Nat) (x : Int32) (acc : Int32), s + n = P → x = nI s → acc = sumS (fun s => G 24 (8 + s)) σ s → AW SX mX0_listedTogether 4 [some (.ref 7), some (.int (nI σ)), some (.int acc), some (.int x)] [] I J G (PE (some (.int (sumS (fun s => G 24 (8 + s)) σ P))) I J G) := by
    intro n
    induction n with
    | zero =>
      intro s x acc hsn hx hacc
      refine aw_run oX0_listedTogether sxOk 4 (pc' := 12) (L' := [some (.ref 7), some (.int (nI σ)), some (.int acc), some (.int x)]) (st' := [.int (I 2 7), .int x]) (I' := I) (J' := J) (G' := G) rfl ?_
      refine aw_geN hx hP (by omega) (by omega) (oX0_listedTogether.dec rfl) (tgt := 40) rfl (fun h12 => ?_) (fun h12 => absurd h12 (by omega))
      refine aw_run oX0_listedTogether sxOk 1 (pc' := 41) (L' := [some (.ref 7), some (.int (nI σ)), some (.int acc), some (.int x)]) (st' := [.int acc]) (I' := I) (J' := J) (G' := G) rfl ?_
      exact aw_iret rfl (oX0_listedTogether.dec rfl) (pe_i (by rw [hacc, show s = P by omega]))
    | succ n ih =>
      intro s x acc hsn hx hacc
      refine aw_run oX0_listedTogether sxOk 4 (pc' := 12) (L' := [some (.ref 7), some (.int (nI σ)), some (.int acc), some (.int x)]) (st' := [.int (I 2 7), .int x]) (I' := I) (J' := J) (G' := G) rfl ?_
      refine aw_geN hx hP (by omega) (by omega) (oX0_listedTogether.dec rfl) (tgt := 40) rfl (fun h12 => absurd h12 (by omega)) (fun h12 => ?_)
      refine aw_run oX0_listedTogether sxOk 2 (pc' := 17) (L' := [some (.ref 7), some (.int (nI σ)), some (.int acc), some (.int x)]) (st' := [.int (nI σ), .int x]) (I' := I) (J' := J) (G' := G) rfl ?_
      refine aw_eqS (st := [.int (nI σ), .int (nI s)]) (by rw [show x = nI s from hx]) ?_
      refine aw_cS (st := []) [.int (nI s), .int (nI σ)] oX6_isIn k0_45 rfl rfl rfl rfl rfl (oX0_listedTogether.dec rfl) (c_isIn (by omega) (by omega)) ?_
      refine aw_eqS (st := [.int (nI (bitN σ s))]) rfl ?_
      refine aw_0eqN rfl (bitN_b _ _) (oX0_listedTogether.dec rfl) (tgt := 34) rfl (fun h20 => ?_) (fun h20 => ?_)
      · refine aw_run oX0_listedTogether sxOk 2 (pc' := 4) (L' := [some (.ref 7), some (.int (nI σ)), some (.int acc), some (.int (x + (nI 1)))]) (st' := []) (I' := I) (J' := J) (G' := G) rfl ?_
        exact ih (s + 1) _ _ (by omega) (addN hx rfl) (hacc.trans (sumC_f (q := fun j => σ.testBit j) (by rw [bitN_0 h20]; decide)))
      · refine aw_run oX0_listedTogether sxOk 4 (pc' := 29) (L' := [some (.ref 7), some (.int (nI σ)), some (.int acc), some (.int x)]) (st' := [.int x, .ref 4, .int acc]) (I' := I) (J' := J) (G' := G) rfl ?_
        refine aw_eqS (st := [.int (nI s), .ref 4, .int acc]) (by rw [show x = nI s from hx]) ?_
        refine aw_cV (st := [.int acc]) 4 [.int (nI s)] oX2_listedOf k0_49 rfl rfl rfl rfl rfl rfl rfl rfl (oX0_listedTogether.dec rfl) (c_listedOf (by omega)) ?_
        refine aw_eqS (st := [.int (G 24 (8 + s)), .int acc]) rfl ?_
        refine aw_run oX0_listedTogether sxOk 4 (pc' := 4) (L' := [some (.ref 7), some (.int (nI σ)), some (.int (acc + (G 24 (8 + s)))), some (.int (x + (nI 1)))]) (st' := []) (I' := I) (J' := J) (G' := G) rfl ?_
        exact ih (s + 1) _ _ (by omega) (addN hx rfl) (by rw [hacc]; exact sumC_t (x := fun s => G 24 (8 + s)) (q := fun j => σ.testBit j) (bitN_n0 h20))
  refine aw_run oX0_listedTogether sxOk 4 (pc' := 4) (L' := [some (.ref 7), some (.int (nI σ)), some (.int (nI 0)), some (.int (nI 0))]) (st' := []) (I' := I) (J' := J) (G' := G) rfl ?_
  exact loop P 0 _ _ (by omega) rfl rfl
set_option maxRecDepth 20000 in
theorem c_silverTogether {I : II} {J : JJ} {G : II} {P : Nat} (hP : I 2 7 = nI P) (hP5 : P ≤ 5) {σ : Nat} (hσ : σ < 32) : AMet SX mX0_silverTogether [.ref 7, .int (nI σ)] I J G (PE (some (.int (sumS (sil (G 24)) σ P))) I J G) := by
  refine amet_en oX0_silverTogether rfl rfl (L := [some (.ref 7), some (.int (nI σ)), none, none]) rfl ?_
  have loop : ∀ (n s : Nat) (x : Int32) (acc : Int32), s + n = P → x = nI s → acc = sumS (sil (G 24)) σ s → AW SX mX0_silverTogether 4 [some (.ref 7), some (.int (nI σ)), some (.int acc), some (.int x)] [] I J G (PE (some (.int (sumS (sil (G 24)) σ P))) I J G) := by
    intro n
    induction n with
    | zero =>
      intro s x acc hsn hx hacc
      refine aw_run oX0_silverTogether sxOk 4 (pc' := 12) (L' := [some (.ref 7), some (.int (nI σ)), some (.int acc), some (.int x)]) (st' := [.int (I 2 7), .int x]) (I' := I) (J' := J) (G' := G) rfl ?_
      refine aw_geN hx hP (by omega) (by omega) (oX0_silverTogether.dec rfl) (tgt := 40) rfl (fun h12 => ?_) (fun h12 => absurd h12 (by omega))
      refine aw_run oX0_silverTogether sxOk 1 (pc' := 41) (L' := [some (.ref 7), some (.int (nI σ)), some (.int acc), some (.int x)]) (st' := [.int acc]) (I' := I) (J' := J) (G' := G) rfl ?_
      exact aw_iret rfl (oX0_silverTogether.dec rfl) (pe_i (by rw [hacc, show s = P by omega]))
    | succ n ih =>
      intro s x acc hsn hx hacc
      refine aw_run oX0_silverTogether sxOk 4 (pc' := 12) (L' := [some (.ref 7), some (.int (nI σ)), some (.int acc), some (.int x)]) (st' := [.int (I 2 7), .int x]) (I' := I) (J' := J) (G' := G) rfl ?_
      refine aw_geN hx hP (by omega) (by omega) (oX0_silverTogether.dec rfl) (tgt := 40) rfl (fun h12 => absurd h12 (by omega)) (fun h12 => ?_)
      refine aw_run oX0_silverTogether sxOk 2 (pc' := 17) (L' := [some (.ref 7), some (.int (nI σ)), some (.int acc), some (.int x)]) (st' := [.int (nI σ), .int x]) (I' := I) (J' := J) (G' := G) rfl ?_
      refine aw_eqS (st := [.int (nI σ), .int (nI s)]) (by rw [show x = nI s from hx]) ?_
      refine aw_cS (st := []) [.int (nI s), .int (nI σ)] oX6_isIn k0_45 rfl rfl rfl rfl rfl (oX0_silverTogether.dec rfl) (c_isIn (by omega) (by omega)) ?_
      refine aw_eqS (st := [.int (nI (bitN σ s))]) rfl ?_
      refine aw_0eqN rfl (bitN_b _ _) (oX0_silverTogether.dec rfl) (tgt := 34) rfl (fun h20 => ?_) (fun h20 => ?_)
      · refine aw_run oX0_silverTogether sxOk 2 (pc' := 4) (L' := [some (.ref 7), some (.int (nI σ)), some (.int acc), some (.int (x + (nI 1)))]) (st' := []) (I' := I) (J' := J) (G' := G) rfl ?_
        exact ih (s + 1) _ _ (by omega) (addN hx rfl) (hacc.trans (sumC_f (q := fun j => σ.testBit j) (by rw [bitN_0 h20]; decide)))
      · refine aw_run oX0_silverTogether sxOk 4 (pc' := 29) (L' := [some (.ref 7), some (.int (nI σ)), some (.int acc), some (.int x)]) (st' := [.int x, .ref 4, .int acc]) (I' := I) (J' := J) (G' := G) rfl ?_
        refine aw_eqS (st := [.int (nI s), .ref 4, .int acc]) (by rw [show x = nI s from hx]) ?_
        refine aw_cV (st := [.int acc]) 4 [.int (nI s)] oX2_silverOf k0_42 rfl rfl rfl rfl rfl rfl rfl rfl (oX0_silverTogether.dec rfl) (c_silverOf (by omega)) ?_
        refine aw_eqS (st := [.int (sil (G 24) s), .int acc]) rfl ?_
        refine aw_run oX0_silverTogether sxOk 4 (pc' := 4) (L' := [some (.ref 7), some (.int (nI σ)), some (.int (acc + (sil (G 24) s))), some (.int (x + (nI 1)))]) (st' := []) (I' := I) (J' := J) (G' := G) rfl ?_
        exact ih (s + 1) _ _ (by omega) (addN hx rfl) (by rw [hacc]; exact sumC_t (x := sil (G 24)) (q := fun j => σ.testBit j) (bitN_n0 h20))
  refine aw_run oX0_silverTogether sxOk 4 (pc' := 4) (L' := [some (.ref 7), some (.int (nI σ)), some (.int (nI 0)), some (.int (nI 0))]) (st' := []) (I' := I) (J' := J) (G' := G) rfl ?_
  exact loop P 0 _ _ (by omega) rfl rfl
set_option maxRecDepth 20000 in
theorem c_takenOf {I : II} {J : JJ} {G : II} {P : Nat} (hP : I 2 7 = nI P) (hP5 : P ≤ 5) {σ w : Nat} (hσ : σ < 32) (hw : w < 12) (hsil : ∀ s, s < P → nI 0 ≤ sil (G 24) s) : AMet SX mX0_takenOf [.ref 7, .int (nI σ), .int (nI w)] I J G (PE (some (.int (encO (tak (G 24) (G 16) (G 13 w) P σ)))) I J G) := by
  refine amet_en oX0_takenOf rfl rfl (L := [some (.ref 7), some (.int (nI σ)), some (.int (nI w)), none, none, none, none]) rfl ?_
  have loop : ∀ (n s : Nat) (x : Int32) (g : Int32) (r : Int32) (t : Int32), s + n = P → x = nI s → g = sumS (G 16) σ s → r = encO (rich (G 24) σ s) → t = mostO (G 24) (rich (G 24) σ s) → AW SX mX0_takenOf 12 [some (.ref 7), some (.int (nI σ)), some (.int (nI w)), some (.int g), some (.int r), some (.int t), some (.int x)] [] I J G (PE (some (.int (encO (tak (G 24) (G 16) (G 13 w) P σ)))) I J G) := by
    intro n
    induction n with
    | zero =>
      intro s x g r t hsn hx hg hr ht
      refine aw_run oX0_takenOf sxOk 4 (pc' := 21) (L' := [some (.ref 7), some (.int (nI σ)), some (.int (nI w)), some (.int g), some (.int r), some (.int t), some (.int x)]) (st' := [.int (I 2 7), .int x]) (I' := I) (J' := J) (G' := G) rfl ?_
      refine aw_geN hx hP (by omega) (by omega) (oX0_takenOf.dec rfl) (tgt := 81) rfl (fun h21 => ?_) (fun h21 => absurd h21 (by omega))
      refine aw_run oX0_takenOf sxOk 5 (pc' := 90) (L' := [some (.ref 7), some (.int (nI σ)), some (.int (nI w)), some (.int g), some (.int r), some (.int t), some (.int x)]) (st' := [.int (nI w), .ref 13, .int g]) (I' := I) (J' := J) (G' := G) rfl ?_
      refine aw_iaN w sxOk rfl rfl (by omega) (oX0_takenOf.dec rfl) ?_
      refine aw_icmp_ge (oX0_takenOf.dec rfl) (tgt := 99) rfl (fun h91 => ?_) (fun h91 => ?_)
      · refine aw_run oX0_takenOf sxOk 1 (pc' := 101) (L' := [some (.ref 7), some (.int (nI σ)), some (.int (nI w)), some (.int g), some (.int r), some (.int t), some (.int x)]) (st' := [.int (-nI 9)]) (I' := I) (J' := J) (G' := G) rfl ?_
        exact aw_iret rfl (oX0_takenOf.dec rfl) (pe_i (by unfold tak; rw [if_neg (by rw [← show s = P by omega, ← hg]; exact Int32.not_lt.mpr h91)]; rfl))
      · refine aw_run oX0_takenOf sxOk 2 (pc' := 101) (L' := [some (.ref 7), some (.int (nI σ)), some (.int (nI w)), some (.int g), some (.int r), some (.int t), some (.int x)]) (st' := [.int r]) (I' := I) (J' := J) (G' := G) rfl ?_
        exact aw_iret rfl (oX0_takenOf.dec rfl) (pe_i (by unfold tak; rw [if_pos (by rw [← show s = P by omega, ← hg]; exact Int32.not_le.mp h91), ← show s = P by omega]; exact hr))
    | succ n ih =>
      intro s x g r t hsn hx hg hr ht
      refine aw_run oX0_takenOf sxOk 4 (pc' := 21) (L' := [some (.ref 7), some (.int (nI σ)), some (.int (nI w)), some (.int g), some (.int r), some (.int t), some (.int x)]) (st' := [.int (I 2 7), .int x]) (I' := I) (J' := J) (G' := G) rfl ?_
      refine aw_geN hx hP (by omega) (by omega) (oX0_takenOf.dec rfl) (tgt := 81) rfl (fun h21 => absurd h21 (by omega)) (fun h21 => ?_)
      refine aw_run oX0_takenOf sxOk 2 (pc' := 27) (L' := [some (.ref 7), some (.int (nI σ)), some (.int (nI w)), some (.int g), some (.int r), some (.int t), some (.int x)]) (st' := [.int (nI σ), .int x]) (I' := I) (J' := J) (G' := G) rfl ?_
      refine aw_eqS (st := [.int (nI σ), .int (nI s)]) (by rw [show x = nI s from hx]) ?_
      refine aw_cS (st := []) [.int (nI s), .int (nI σ)] oX6_isIn k0_45 rfl rfl rfl rfl rfl (oX0_takenOf.dec rfl) (c_isIn (by omega) (by omega)) ?_
      refine aw_eqS (st := [.int (nI (bitN σ s))]) rfl ?_
      refine aw_0eqN rfl (bitN_b _ _) (oX0_takenOf.dec rfl) (tgt := 75) rfl (fun h30 => ?_) (fun h30 => ?_)
      · refine aw_run oX0_takenOf sxOk 2 (pc' := 12) (L' := [some (.ref 7), some (.int (nI σ)), some (.int (nI w)), some (.int g), some (.int r), some (.int t), some (.int (x + (nI 1)))]) (st' := []) (I' := I) (J' := J) (G' := G) rfl ?_
        exact ih (s + 1) _ _ _ _ (by omega) (addN hx rfl) (hg.trans (sumC_f (q := fun j => σ.testBit j) (by rw [bitN_0 h30]; decide))) (by rw [hr, rich_no (bitN_0 h30)]) (by rw [ht, rich_no (bitN_0 h30)])
      · refine aw_run oX0_takenOf sxOk 5 (pc' := 43) (L' := [some (.ref 7), some (.int (nI σ)), some (.int (nI w)), some (.int g), some (.int r), some (.int t), some (.int x)]) (st' := [.int x, .ref 16, .int g]) (I' := I) (J' := J) (G' := G) rfl ?_
        refine aw_iaN s sxOk rfl hx (by omega) (oX0_takenOf.dec rfl) ?_
        refine aw_run oX0_takenOf sxOk 5 (pc' := 52) (L' := [some (.ref 7), some (.int (nI σ)), some (.int (nI w)), some (.int (g + (G 16 s))), some (.int r), some (.int t), some (.int x)]) (st' := [.int x, .ref 4]) (I' := I) (J' := J) (G' := G) rfl ?_
        refine aw_eqS (st := [.int (nI s), .ref 4]) (by rw [show x = nI s from hx]) ?_
        refine aw_cV (st := []) 4 [.int (nI s)] oX2_silverOf k0_42 rfl rfl rfl rfl rfl rfl rfl rfl (oX0_takenOf.dec rfl) (c_silverOf (by omega)) ?_
        refine aw_eqS (st := [.int (sil (G 24) s)]) rfl ?_
        refine aw_run oX0_takenOf sxOk 1 (pc' := 57) (L' := [some (.ref 7), some (.int (nI σ)), some (.int (nI w)), some (.int (g + (G 16 s))), some (.int r), some (.int t), some (.int x)]) (st' := [.int t, .int (sil (G 24) s)]) (I' := I) (J' := J) (G' := G) rfl ?_
        refine aw_icmp_le (oX0_takenOf.dec rfl) (tgt := 75) rfl (fun h57 => ?_) (fun h57 => ?_)
        · refine aw_run oX0_takenOf sxOk 2 (pc' := 12) (L' := [some (.ref 7), some (.int (nI σ)), some (.int (nI w)), some (.int (g + (G 16 s))), some (.int r), some (.int t), some (.int (x + (nI 1)))]) (st' := []) (I' := I) (J' := J) (G' := G) rfl ?_
          exact ih (s + 1) _ _ _ _ (by omega) (addN hx rfl) (by rw [hg]; exact sumC_t (x := G 16) (q := fun j => σ.testBit j) (bitN_n0 h30)) (by rw [hr, rich_old (bitN_n0 h30) (hsil s (by omega)) (by rw [← ht]; exact h57)]) (by rw [ht, rich_old (bitN_n0 h30) (hsil s (by omega)) (by rw [← ht]; exact h57)])
        · refine aw_run oX0_takenOf sxOk 3 (pc' := 66) (L' := [some (.ref 7), some (.int (nI σ)), some (.int (nI w)), some (.int (g + (G 16 s))), some (.int r), some (.int t), some (.int x)]) (st' := [.int x, .ref 4]) (I' := I) (J' := J) (G' := G) rfl ?_
          refine aw_eqS (st := [.int (nI s), .ref 4]) (by rw [show x = nI s from hx]) ?_
          refine aw_cV (st := []) 4 [.int (nI s)] oX2_silverOf k0_42 rfl rfl rfl rfl rfl rfl rfl rfl (oX0_takenOf.dec rfl) (c_silverOf (by omega)) ?_
          refine aw_eqS (st := [.int (sil (G 24) s)]) rfl ?_
          refine aw_run oX0_takenOf sxOk 5 (pc' := 12) (L' := [some (.ref 7), some (.int (nI σ)), some (.int (nI w)), some (.int (g + (G 16 s))), some (.int x), some (.int (sil (G 24) s)), some (.int (x + (nI 1)))]) (st' := []) (I' := I) (J' := J) (G' := G) rfl ?_
          exact ih (s + 1) _ _ _ _ (by omega) (addN hx rfl) (by rw [hg]; exact sumC_t (x := G 16) (q := fun j => σ.testBit j) (bitN_n0 h30)) (by rw [rich_new (bitN_n0 h30) (by rw [← ht]; exact h57)]; exact hx) (by rw [rich_new (bitN_n0 h30) (by rw [← ht]; exact h57)]; rfl)
  refine aw_run oX0_takenOf sxOk 8 (pc' := 12) (L' := [some (.ref 7), some (.int (nI σ)), some (.int (nI w)), some (.int (nI 0)), some (.int (-nI 9)), some (.int (-nI 1)), some (.int (nI 0))]) (st' := []) (I' := I) (J' := J) (G' := G) rfl ?_
  exact loop P 0 _ _ _ _ (by omega) rfl rfl rfl rfl
