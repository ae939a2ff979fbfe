set_option maxRecDepth 20000 in
theorem m_inN {I : II} {J : JJ} {G : II} {a b c : Nat} (ha : a < 2 ^ 31) (hb : b < 2 ^ 31) (hc : c < 2 ^ 31) : AMet SM mX7_in [.int (nI a), .int (nI b), .int (nI c)] I J G (PE (some (.int (b1 (decide (b ≤ a ∧ a ≤ c))))) I J G) := by
  refine amet_en oX7_in rfl rfl (L := [some (.int (nI a)), some (.int (nI b)), some (.int (nI c))]) rfl ?_
  refine aw_run oX7_in smOk 2 (pc' := 2) (L' := [some (.int (nI a)), some (.int (nI b)), some (.int (nI c))]) (st' := [.int (nI b), .int (nI a)]) (I' := I) (J' := J) (G' := G) rfl ?_
  refine aw_ltN rfl rfl (by omega) (by omega) (oX7_in.dec rfl) (tgt := 14) rfl (fun h2 => ?_) (fun h2 => ?_)
  · refine aw_run oX7_in smOk 1 (pc' := 15) (L' := [some (.int (nI a)), some (.int (nI b)), some (.int (nI c))]) (st' := [.int (nI 0)]) (I' := I) (J' := J) (G' := G) rfl ?_
    exact aw_zret rfl (by first | exact Or.inl rfl | exact Or.inr rfl) (oX7_in.dec rfl) (pe_i (b1_f (by omega)))
  · refine aw_run oX7_in smOk 2 (pc' := 7) (L' := [some (.int (nI a)), some (.int (nI b)), some (.int (nI c))]) (st' := [.int (nI c), .int (nI a)]) (I' := I) (J' := J) (G' := G) rfl ?_
    refine aw_gtN rfl rfl (by omega) (by omega) (oX7_in.dec rfl) (tgt := 14) rfl (fun h7 => ?_) (fun h7 => ?_)
    · refine aw_run oX7_in smOk 1 (pc' := 15) (L' := [some (.int (nI a)), some (.int (nI b)), some (.int (nI c))]) (st' := [.int (nI 0)]) (I' := I) (J' := J) (G' := G) rfl ?_
      exact aw_zret rfl (by first | exact Or.inl rfl | exact Or.inr rfl) (oX7_in.dec rfl) (pe_i (b1_f (by omega)))
    · refine aw_run oX7_in smOk 2 (pc' := 15) (L' := [some (.int (nI a)), some (.int (nI b)), some (.int (nI c))]) (st' := [.int (nI 1)]) (I' := I) (J' := J) (G' := G) rfl ?_
      exact aw_zret rfl (by first | exact Or.inl rfl | exact Or.inr rfl) (oX7_in.dec rfl) (pe_i (b1_t ⟨by omega, by omega⟩))
set_option maxRecDepth 20000 in
theorem m_inF {I : II} {J : JJ} {G : II} {v l h : Int32} (hn : ¬ (l ≤ v ∧ v ≤ h)) : AMet SM mX7_in [.int v, .int l, .int h] I J G (PE (some (.int (nI 0))) I J G) := by
  refine amet_en oX7_in rfl rfl (L := [some (.int v), some (.int l), some (.int h)]) rfl ?_
  refine aw_run oX7_in smOk 2 (pc' := 2) (L' := [some (.int v), some (.int l), some (.int h)]) (st' := [.int l, .int v]) (I' := I) (J' := J) (G' := G) rfl ?_
  refine aw_icmp_lt (oX7_in.dec rfl) (tgt := 14) rfl (fun h2 => ?_) (fun h2 => ?_)
  · refine aw_run oX7_in smOk 1 (pc' := 15) (L' := [some (.int v), some (.int l), some (.int h)]) (st' := [.int (nI 0)]) (I' := I) (J' := J) (G' := G) rfl ?_
    exact aw_zret rfl (by first | exact Or.inl rfl | exact Or.inr rfl) (oX7_in.dec rfl) pe_rfl
  · refine aw_run oX7_in smOk 2 (pc' := 7) (L' := [some (.int v), some (.int l), some (.int h)]) (st' := [.int h, .int v]) (I' := I) (J' := J) (G' := G) rfl ?_
    refine aw_icmp_gt (oX7_in.dec rfl) (tgt := 14) rfl (fun h7 => ?_) (fun h7 => absurd ⟨Int32.not_lt.mp h2, Int32.not_lt.mp h7⟩ hn)
    refine aw_run oX7_in smOk 1 (pc' := 15) (L' := [some (.int v), some (.int l), some (.int h)]) (st' := [.int (nI 0)]) (I' := I) (J' := J) (G' := G) rfl ?_
    exact aw_zret rfl (by first | exact Or.inl rfl | exact Or.inr rfl) (oX7_in.dec rfl) pe_rfl
set_option maxRecDepth 20000 in
theorem m_isWeek_t {I : II} {J : JJ} {G : II} {Wk : Nat} (hW : G 2 0 = nI Wk) (hWk : Wk ≤ 12) {j : Nat} (hj : j < Wk) : AMet SM mX7_isWeek [.ref 0, .int (nI j)] I J G (PE (some (.int (nI 1))) I J G) := by
  refine amet_en oX7_isWeek rfl rfl (L := [some (.ref 0), some (.int (nI j))]) rfl ?_
  refine aw_run oX7_isWeek smOk 5 (pc' := 7) (L' := [some (.ref 0), some (.int (nI j))]) (st' := [.int (nI 0), .ref 2, .int (nI 0), .int (nI j)]) (I' := I) (J' := J) (G' := G) rfl ?_
  refine aw_iaN 0 smOk rfl rfl (by omega) (oX7_isWeek.dec rfl) ?_
  refine aw_run oX7_isWeek smOk 2 (pc' := 10) (L' := [some (.ref 0), some (.int (nI j))]) (st' := [.int ((G 2 0) - (nI 1)), .int (nI 0), .int (nI j)]) (I' := I) (J' := J) (G' := G) rfl ?_
  refine aw_eqS (st := [.int (nI (Wk - 1)), .int (nI 0), .int (nI j)]) (by rw [show (G 2 0) - (nI 1) = nI (Wk - 1) from subN hW rfl (by omega)]) ?_
  refine aw_cS (st := []) [.int (nI j), .int (nI 0), .int (nI (Wk - 1))] oX7_in k7_60 rfl rfl rfl rfl rfl (oX7_isWeek.dec rfl) (m_inN (by omega) (by omega) (by omega)) ?_
  refine aw_eqS (st := [.int (b1 (decide (0 ≤ j ∧ j ≤ Wk - 1)))]) rfl ?_
  exact aw_zret rfl (by rw [← b1_t (c := 0 ≤ j ∧ j ≤ Wk - 1) ⟨by omega, by omega⟩]; exact Or.inr rfl) (oX7_isWeek.dec rfl) (pe_i (b1_t ⟨by omega, by omega⟩).symm)
set_option maxRecDepth 20000 in
theorem m_isWeek_f {I : II} {J : JJ} {G : II} {Wk : Nat} (hW : G 2 0 = nI Wk) (hWk : Wk ≤ 12) {x : Int32} (hx : notIn x Wk) : AMet SM mX7_isWeek [.ref 0, .int x] I J G (PE (some (.int (nI 0))) I J G) := by
  refine amet_en oX7_isWeek rfl rfl (L := [some (.ref 0), some (.int x)]) rfl ?_
  refine aw_run oX7_isWeek smOk 5 (pc' := 7) (L' := [some (.ref 0), some (.int x)]) (st' := [.int (nI 0), .ref 2, .int (nI 0), .int x]) (I' := I) (J' := J) (G' := G) rfl ?_
  refine aw_iaN 0 smOk rfl rfl (by omega) (oX7_isWeek.dec rfl) ?_
  refine aw_run oX7_isWeek smOk 2 (pc' := 10) (L' := [some (.ref 0), some (.int x)]) (st' := [.int ((G 2 0) - (nI 1)), .int (nI 0), .int x]) (I' := I) (J' := J) (G' := G) rfl ?_
  refine aw_cS (st := []) [.int x, .int (nI 0), .int ((G 2 0) - (nI 1))] oX7_in k7_60 rfl rfl rfl rfl rfl (oX7_isWeek.dec rfl) (m_inF (by rw [hW]; exact notIn_inW hx (by omega))) ?_
  refine aw_eqS (st := [.int (nI 0)]) rfl ?_
  exact aw_zret rfl (by first | exact Or.inl rfl | exact Or.inr rfl) (oX7_isWeek.dec rfl) pe_rfl
set_option maxRecDepth 20000 in
theorem m_isShip_t {I : II} {J : JJ} {G : II} {P : Nat} (hP : G 5 0 = nI P) (hP5 : P ≤ 5) {j : Nat} (hj : j < P) : AMet SM mX7_isShip [.ref 0, .int (nI j)] I J G (PE (some (.int (nI 1))) I J G) := by
  refine amet_en oX7_isShip rfl rfl (L := [some (.ref 0), some (.int (nI j))]) rfl ?_
  refine aw_run oX7_isShip smOk 5 (pc' := 7) (L' := [some (.ref 0), some (.int (nI j))]) (st' := [.int (nI 0), .ref 5, .int (nI 0), .int (nI j)]) (I' := I) (J' := J) (G' := G) rfl ?_
  refine aw_iaN 0 smOk rfl rfl (by omega) (oX7_isShip.dec rfl) ?_
  refine aw_run oX7_isShip smOk 2 (pc' := 10) (L' := [some (.ref 0), some (.int (nI j))]) (st' := [.int ((G 5 0) - (nI 1)), .int (nI 0), .int (nI j)]) (I' := I) (J' := J) (G' := G) rfl ?_
  refine aw_eqS (st := [.int (nI (P - 1)), .int (nI 0), .int (nI j)]) (by rw [show (G 5 0) - (nI 1) = nI (P - 1) from subN hP rfl (by omega)]) ?_
  refine aw_cS (st := []) [.int (nI j), .int (nI 0), .int (nI (P - 1))] oX7_in k7_60 rfl rfl rfl rfl rfl (oX7_isShip.dec rfl) (m_inN (by omega) (by omega) (by omega)) ?_
  refine aw_eqS (st := [.int (b1 (decide (0 ≤ j ∧ j ≤ P - 1)))]) rfl ?_
  exact aw_zret rfl (by rw [← b1_t (c := 0 ≤ j ∧ j ≤ P - 1) ⟨by omega, by omega⟩]; exact Or.inr rfl) (oX7_isShip.dec rfl) (pe_i (b1_t ⟨by omega, by omega⟩).symm)
set_option maxRecDepth 20000 in
theorem m_isShip_f {I : II} {J : JJ} {G : II} {P : Nat} (hP : G 5 0 = nI P) (hP5 : P ≤ 5) {x : Int32} (hx : notIn x P) : AMet SM mX7_isShip [.ref 0, .int x] I J G (PE (some (.int (nI 0))) I J G) := by
  refine amet_en oX7_isShip rfl rfl (L := [some (.ref 0), some (.int x)]) rfl ?_
  refine aw_run oX7_isShip smOk 5 (pc' := 7) (L' := [some (.ref 0), some (.int x)]) (st' := [.int (nI 0), .ref 5, .int (nI 0), .int x]) (I' := I) (J' := J) (G' := G) rfl ?_
  refine aw_iaN 0 smOk rfl rfl (by omega) (oX7_isShip.dec rfl) ?_
  refine aw_run oX7_isShip smOk 2 (pc' := 10) (L' := [some (.ref 0), some (.int x)]) (st' := [.int ((G 5 0) - (nI 1)), .int (nI 0), .int x]) (I' := I) (J' := J) (G' := G) rfl ?_
  refine aw_cS (st := []) [.int x, .int (nI 0), .int ((G 5 0) - (nI 1))] oX7_in k7_60 rfl rfl rfl rfl rfl (oX7_isShip.dec rfl) (m_inF (by rw [hP]; exact notIn_inW hx (by omega))) ?_
  refine aw_eqS (st := [.int (nI 0)]) rfl ?_
  exact aw_zret rfl (by first | exact Or.inl rfl | exact Or.inr rfl) (oX7_isShip.dec rfl) pe_rfl
set_option maxRecDepth 20000 in
theorem m_all {I : II} {J : JJ} {G : II} {P : Nat} (hP : G 5 0 = nI P) (hP5 : P ≤ 5) : AMet SM mX7_all [.ref 0] I J G (PE (some (.int (nI (2 ^ P - 1)))) I J G) := by
  have hp1 : 0 < 2 ^ P := Nat.pow_pos (by decide)
  refine amet_en oX7_all rfl rfl (L := [some (.ref 0)]) rfl ?_
  refine aw_run oX7_all smOk 4 (pc' := 6) (L' := [some (.ref 0)]) (st' := [.int (nI 0), .ref 5, .int (nI 1)]) (I' := I) (J' := J) (G' := G) rfl ?_
  refine aw_iaN 0 smOk rfl rfl (by omega) (oX7_all.dec rfl) ?_
  refine aw_run oX7_all smOk 3 (pc' := 10) (L' := [some (.ref 0)]) (st' := [.int (((nI 1) <<< ((G 5 0) &&& 31)) - (nI 1))]) (I' := I) (J' := J) (G' := G) rfl ?_
  exact aw_iret rfl (oX7_all.dec rfl) (pe_i (subN (shl1N hP (by omega)) rfl (by omega)))
set_option maxRecDepth 20000 in
theorem m_isOver {I : II} {J : JJ} {G : II} {Wk : Nat} (hW : G 2 0 = nI Wk) (hWk : Wk ≤ 12) {t : Nat} (ht : G 11 0 = nI t) (ht12 : t ≤ 12) (htW : t ≤ Wk) : AMet SM mX7_isOver [.ref 0] I J G (PE (some (.int (b1 (decide (Wk ≤ t))))) I J G) := by
  refine amet_en oX7_isOver rfl rfl (L := [some (.ref 0)]) rfl ?_
  refine aw_run oX7_isOver smOk 3 (pc' := 5) (L' := [some (.ref 0)]) (st' := [.int (nI 0), .ref 11]) (I' := I) (J' := J) (G' := G) rfl ?_
  refine aw_iaN 0 smOk rfl rfl (by omega) (oX7_isOver.dec rfl) ?_
  refine aw_run oX7_isOver smOk 3 (pc' := 11) (L' := [some (.ref 0)]) (st' := [.int (nI 0), .ref 2, .int (G 11 0)]) (I' := I) (J' := J) (G' := G) rfl ?_
  refine aw_iaN 0 smOk rfl rfl (by omega) (oX7_isOver.dec rfl) ?_
  refine aw_neN ht hW (by omega) (by omega) (oX7_isOver.dec rfl) (tgt := 19) rfl (fun h12 => ?_) (fun h12 => ?_)
  · refine aw_run oX7_isOver smOk 1 (pc' := 20) (L' := [some (.ref 0)]) (st' := [.int (nI 0)]) (I' := I) (J' := J) (G' := G) rfl ?_
    exact aw_zret rfl (by first | exact Or.inl rfl | exact Or.inr rfl) (oX7_isOver.dec rfl) (pe_i (b1_f (by omega)))
  · refine aw_run oX7_isOver smOk 2 (pc' := 20) (L' := [some (.ref 0)]) (st' := [.int (nI 1)]) (I' := I) (J' := J) (G' := G) rfl ?_
    exact aw_zret rfl (by first | exact Or.inl rfl | exact Or.inr rfl) (oX7_isOver.dec rfl) (pe_i (b1_t (by omega)))
set_option maxRecDepth 20000 in
theorem m_silver {I : II} {J : JJ} {G : II} {s : Nat} (hs : s < 5) : AMet SM mX7_silver [.ref 0, .int (nI s)] I J G (PE (some (.int (sil (G 11) s))) I J G) := by
  refine amet_en oX7_silver rfl rfl (L := [some (.ref 0), some (.int (nI s))]) rfl ?_
  refine aw_run oX7_silver smOk 5 (pc' := 8) (L' := [some (.ref 0), some (.int (nI s))]) (st' := [.int ((nI 8) + (nI s)), .ref 11]) (I' := I) (J' := J) (G' := G) rfl ?_
  refine aw_iaN (8 + s) smOk rfl (addN rfl rfl) (by omega) (oX7_silver.dec rfl) ?_
  refine aw_run oX7_silver smOk 5 (pc' := 17) (L' := [some (.ref 0), some (.int (nI s))]) (st' := [.int ((nI 13) + (nI s)), .ref 11, .int (G 11 (8 + s))]) (I' := I) (J' := J) (G' := G) rfl ?_
  refine aw_iaN (13 + s) smOk rfl (addN rfl rfl) (by omega) (oX7_silver.dec rfl) ?_
  refine aw_run oX7_silver smOk 1 (pc' := 19) (L' := [some (.ref 0), some (.int (nI s))]) (st' := [.int ((G 11 (8 + s)) + (G 11 (13 + s)))]) (I' := I) (J' := J) (G' := G) rfl ?_
  exact aw_iret rfl (oX7_silver.dec rfl) pe_rfl
set_option maxRecDepth 20000 in
theorem m_manyOf {I : II} {J : JJ} {G : II}  {σ : Nat} (hσ : σ < 32) : AMet SM mX7_manyOf [.int (nI σ)] I J G (PE (some (.int (nI (cntB (fun j => σ.testBit j) 5)))) I J G) := by
  refine amet_en oX7_manyOf rfl rfl (L := [some (.int (nI σ)), none, none]) rfl ?_
  have loop : ∀ (n s : Nat) (x : Int32) (acc : Int32), (s + n = 5) → (x = nI s) → (acc = nI (cntB (fun j => σ.testBit j) s)) → AW SM mX7_manyOf 4 [some (.int (nI σ)), some (.int acc), some (.int x)] [] I J G (PE (some (.int (nI (cntB (fun j => σ.testBit j) 5)))) I J G) := by
    intro n
    induction n with
    | zero =>
      intro s x acc hsn hx hacc
      refine aw_run oX7_manyOf smOk 2 (pc' := 6) (L' := [some (.int (nI σ)), some (.int acc), some (.int x)]) (st' := [.int (nI 5), .int x]) (I' := I) (J' := J) (G' := G) rfl ?_
      refine aw_geN hx rfl (by omega) (by omega) (oX7_manyOf.dec rfl) (tgt := 23) rfl (fun h6 => ?_) (fun h6 => absurd h6 (by omega))
      refine aw_run oX7_manyOf smOk 1 (pc' := 24) (L' := [some (.int (nI σ)), some (.int acc), some (.int x)]) (st' := [.int acc]) (I' := I) (J' := J) (G' := G) rfl ?_
      exact aw_iret rfl (oX7_manyOf.dec rfl) (pe_i (by rw [hacc, show s = 5 by omega]))
    | succ n ih =>
      intro s x acc hsn hx hacc
      refine aw_run oX7_manyOf smOk 2 (pc' := 6) (L' := [some (.int (nI σ)), some (.int acc), some (.int x)]) (st' := [.int (nI 5), .int x]) (I' := I) (J' := J) (G' := G) rfl ?_
      refine aw_geN hx rfl (by omega) (by omega) (oX7_manyOf.dec rfl) (tgt := 23) rfl (fun h6 => absurd h6 (by omega)) (fun h6 => ?_)
      refine aw_run oX7_manyOf smOk 10 (pc' := 4) (L' := [some (.int (nI σ)), some (.int (acc + (((nI σ) >>> (x &&& 31)) &&& (nI 1)))), some (.int (x + (nI 1)))]) (st' := []) (I' := I) (J' := J) (G' := G) rfl ?_
      exact ih (s + 1) _ _ (by omega) (addN hx rfl) ((addN hacc (bitNI rfl hx (by omega) (by omega))).trans (by rw [cntB_add]; rfl))
  refine aw_run oX7_manyOf smOk 4 (pc' := 4) (L' := [some (.int (nI σ)), some (.int (nI 0)), some (.int (nI 0))]) (st' := []) (I' := I) (J' := J) (G' := G) rfl ?_
  exact loop 5 0 _ _ (by omega) rfl rfl
set_option maxRecDepth 20000 in
theorem m_setIn {I : II} {J : JJ} {G : II} {P : Nat} (hP : G 5 0 = nI P) (hP5 : P ≤ 5) {q : Nat} : AMet SM mX7_setIn [.ref 0, .int (nI q)] I J G (PE (some (.int (nI (setN (fun s => decide (G 11 (3 + s) = nI q)) P)))) I J G) := by
  refine amet_en oX7_setIn rfl rfl (L := [some (.ref 0), some (.int (nI q)), none, none]) rfl ?_
  have loop : ∀ (n s : Nat) (x : Int32) (acc : Int32), (s + n = P) → (x = nI s) → (acc = nI (setN (fun s => decide (G 11 (3 + s) = nI q)) s)) → AW SM mX7_setIn 4 [some (.ref 0), some (.int (nI q)), some (.int acc), some (.int x)] [] I J G (PE (some (.int (nI (setN (fun s => decide (G 11 (3 + s) = nI q)) P)))) I J G) := by
    intro n
    induction n with
    | zero =>
      intro s x acc hsn hx hacc
      refine aw_run oX7_setIn smOk 4 (pc' := 10) (L' := [some (.ref 0), some (.int (nI q)), some (.int acc), some (.int x)]) (st' := [.int (nI 0), .ref 5, .int x]) (I' := I) (J' := J) (G' := G) rfl ?_
      refine aw_iaN 0 smOk rfl rfl (by omega) (oX7_setIn.dec rfl) ?_
      refine aw_geN hx hP (by omega) (by omega) (oX7_setIn.dec rfl) (tgt := 42) rfl (fun h11 => ?_) (fun h11 => absurd h11 (by omega))
      refine aw_run oX7_setIn smOk 1 (pc' := 43) (L' := [some (.ref 0), some (.int (nI q)), some (.int acc), some (.int x)]) (st' := [.int acc]) (I' := I) (J' := J) (G' := G) rfl ?_
      exact aw_iret rfl (oX7_setIn.dec rfl) (pe_i (by rw [hacc, show s = P by omega]))
    | succ n ih =>
      intro s x acc hsn hx hacc
      refine aw_run oX7_setIn smOk 4 (pc' := 10) (L' := [some (.ref 0), some (.int (nI q)), some (.int acc), some (.int x)]) (st' := [.int (nI 0), .ref 5, .int x]) (I' := I) (J' := J) (G' := G) rfl ?_
      refine aw_iaN 0 smOk rfl rfl (by omega) (oX7_setIn.dec rfl) ?_
      refine aw_geN hx hP (by omega) (by omega) (oX7_setIn.dec rfl) (tgt := 42) rfl (fun h11 => absurd h11 (by omega)) (fun h11 => ?_)
      refine aw_run oX7_setIn smOk 6 (pc' := 22) (L' := [some (.ref 0), some (.int (nI q)), some (.int acc), some (.int x)]) (st' := [.int ((nI 3) + x), .ref 11, .int acc]) (I' := I) (J' := J) (G' := G) rfl ?_
      refine aw_iaN (3 + s) smOk rfl (addN rfl hx) (by omega) (oX7_setIn.dec rfl) ?_
      refine aw_run oX7_setIn smOk 1 (pc' := 24) (L' := [some (.ref 0), some (.int (nI q)), some (.int acc), some (.int x)]) (st' := [.int (nI q), .int (G 11 (3 + s)), .int acc]) (I' := I) (J' := J) (G' := G) rfl ?_
      refine aw_icmp_ne (oX7_setIn.dec rfl) (tgt := 33) rfl (fun h24 => ?_) (fun h24 => ?_)
      · refine aw_run oX7_setIn smOk 5 (pc' := 4) (L' := [some (.ref 0), some (.int (nI q)), some (.int (acc ||| (nI 0))), some (.int (x + (nI 1)))]) (st' := []) (I' := I) (J' := J) (G' := G) rfl ?_
        exact ih (s + 1) _ _ (by omega) (addN hx rfl) ((orN hacc rfl).trans (by rw [Nat.or_zero, ← setN_no (q := fun s => decide (G 11 (3 + s) = nI q)) (by simpa using h24)]))
      · refine aw_run oX7_setIn smOk 8 (pc' := 4) (L' := [some (.ref 0), some (.int (nI q)), some (.int (acc ||| ((nI 1) <<< (x &&& 31)))), some (.int (x + (nI 1)))]) (st' := []) (I' := I) (J' := J) (G' := G) rfl ?_
        exact ih (s + 1) _ _ (by omega) (addN hx rfl) ((orN hacc (shl1N hx (by omega))).trans (by rw [setN_or (q := fun s => decide (G 11 (3 + s) = nI q)) (by simpa using h24)]))
  refine aw_run oX7_setIn smOk 4 (pc' := 4) (L' := [some (.ref 0), some (.int (nI q)), some (.int (nI 0)), some (.int (nI 0))]) (st' := []) (I' := I) (J' := J) (G' := G) rfl ?_
  exact loop P 0 _ _ (by omega) rfl rfl
set_option maxRecDepth 20000 in
theorem m_silverOf {I : II} {J : JJ} {G : II} {P : Nat} (hP : G 5 0 = nI P) (hP5 : P ≤ 5) {σ : Nat} (hσ : σ < 32) : AMet SM mX7_silverOf [.ref 0, .int (nI σ)] I J G (PE (some (.int (sumS (sil (G 11)) σ P))) I J G) := by
  refine amet_en oX7_silverOf rfl rfl (L := [some (.ref 0), some (.int (nI σ)), none, none]) rfl ?_
  have loop : ∀ (n s : Nat) (x : Int32) (acc : Int32), (s + n = P) → (x = nI s) → (acc = sumS (sil (G 11)) σ s) → AW SM mX7_silverOf 4 [some (.ref 0), some (.int (nI σ)), some (.int acc), some (.int x)] [] I J G (PE (some (.int (sumS (sil (G 11)) σ P))) I J G) := by
    intro n
    induction n with
    | zero =>
      intro s x acc hsn hx hacc
      refine aw_run oX7_silverOf smOk 4 (pc' := 10) (L' := [some (.ref 0), some (.int (nI σ)), some (.int acc), some (.int x)]) (st' := [.int (nI 0), .ref 5, .int x]) (I' := I) (J' := J) (G' := G) rfl ?_
      refine aw_iaN 0 smOk rfl rfl (by omega) (oX7_silverOf.dec rfl) ?_
      refine aw_geN hx hP (by omega) (by omega) (oX7_silverOf.dec rfl) (tgt := 41) rfl (fun h11 => ?_) (fun h11 => absurd h11 (by omega))
      refine aw_run oX7_silverOf smOk 1 (pc' := 42) (L' := [some (.ref 0), some (.int (nI σ)), some (.int acc), some (.int x)]) (st' := [.int acc]) (I' := I) (J' := J) (G' := G) rfl ?_
      exact aw_iret rfl (oX7_silverOf.dec rfl) (pe_i (by rw [hacc, show s = P by omega]))
    | succ n ih =>
      intro s x acc hsn hx hacc
      refine aw_run oX7_silverOf smOk 4 (pc' := 10) (L' := [some (.ref 0), some (.int (nI σ)), some (.int acc), some (.int x)]) (st' := [.int (nI 0), .ref 5, .int x]) (I' := I) (J' := J) (G' := G) rfl ?_
      refine aw_iaN 0 smOk rfl rfl (by omega) (oX7_silverOf.dec rfl) ?_
      refine aw_geN hx hP (by omega) (by omega) (oX7_silverOf.dec rfl) (tgt := 41) rfl (fun h11 => absurd h11 (by omega)) (fun h11 => ?_)
      refine aw_run oX7_silverOf smOk 7 (pc' := 21) (L' := [some (.ref 0), some (.int (nI σ)), some (.int acc), some (.int x)]) (st' := [.int (nI 1), .int (((nI σ) >>> (x &&& 31)) &&& (nI 1)), .int acc]) (I' := I) (J' := J) (G' := G) rfl ?_
      refine aw_neN (bitNI rfl hx (by omega) (by omega)) rfl (bitN_b _ _) (by omega) (oX7_silverOf.dec rfl) (tgt := 32) rfl (fun h21 => ?_) (fun h21 => ?_)
      · refine aw_run oX7_silverOf smOk 5 (pc' := 4) (L' := [some (.ref 0), some (.int (nI σ)), some (.int (acc + (nI 0))), some (.int (x + (nI 1)))]) (st' := []) (I' := I) (J' := J) (G' := G) rfl ?_
        exact ih (s + 1) _ _ (by omega) (addN hx rfl) (by rw [hacc, show ∀ z : Int32, z + nI 0 = z from fun z => Int32.add_zero z]; exact sumC_f (q := fun j => σ.testBit j) (by rw [bitN_n1 h21]; decide))
      · refine aw_run oX7_silverOf smOk 2 (pc' := 26) (L' := [some (.ref 0), some (.int (nI σ)), some (.int acc), some (.int x)]) (st' := [.int x, .ref 0, .int acc]) (I' := I) (J' := J) (G' := G) rfl ?_
        refine aw_eqS (st := [.int (nI s), .ref 0, .int acc]) (by rw [show x = nI s from hx]) ?_
        refine aw_cV (st := [.int acc]) 0 [.int (nI s)] oX7_silver k7_110 rfl rfl rfl rfl rfl rfl rfl rfl (oX7_silverOf.dec rfl) (m_silver (by omega)) ?_
        refine aw_eqS (st := [.int (sil (G 11) s), .int acc]) rfl ?_
        refine aw_run oX7_silverOf smOk 5 (pc' := 4) (L' := [some (.ref 0), some (.int (nI σ)), some (.int (acc + (sil (G 11) s))), some (.int (x + (nI 1)))]) (st' := []) (I' := I) (J' := J) (G' := G) rfl ?_
        exact ih (s + 1) _ _ (by omega) (addN hx rfl) (by rw [hacc]; exact sumC_t (x := sil (G 11)) (q := fun j => σ.testBit j) (bitN_1 h21))
  refine aw_run oX7_silverOf smOk 4 (pc' := 4) (L' := [some (.ref 0), some (.int (nI σ)), some (.int (nI 0)), some (.int (nI 0))]) (st' := []) (I' := I) (J' := J) (G' := G) rfl ?_
  exact loop P 0 _ _ (by omega) rfl rfl
set_option maxRecDepth 20000 in
theorem m_takenOf {I : II} {J : JJ} {G : II} {P : Nat} (hP : G 5 0 = nI P) (hP5 : P ≤ 5) {σ w : Nat} (hσ : σ < 32) (hw : w < 12) : AMet SM mX7_takenOf [.ref 0, .int (nI σ), .int (nI w)] I J G (PE (some (.int (encO (tak (G 11) (G 8) (G 4 w) P σ)))) I J G) := by
  refine amet_en oX7_takenOf rfl rfl (L := [some (.ref 0), some (.int (nI σ)), some (.int (nI w)), none, none, none]) rfl ?_
  have loop : ∀ (n s : Nat) (x : Int32) (g : Int32) (r : Int32), (s + n = P) → (x = nI s) → (g = sumS (G 8) σ s) → (r = encO (rich (G 11) σ s)) → AW SM mX7_takenOf 9 [some (.ref 0), some (.int (nI σ)), some (.int (nI w)), some (.int g), some (.int r), some (.int x)] [] I J G (PE (some (.int (encO (tak (G 11) (G 8) (G 4 w) P σ)))) I J G) := by
    intro n
    induction n with
    | zero =>
      intro s x g r hsn hx hg hr
      refine aw_run oX7_takenOf smOk 4 (pc' := 16) (L' := [some (.ref 0), some (.int (nI σ)), some (.int (nI w)), some (.int g), some (.int r), some (.int x)]) (st' := [.int (nI 0), .ref 5, .int x]) (I' := I) (J' := J) (G' := G) rfl ?_
      refine aw_iaN 0 smOk rfl rfl (by omega) (oX7_takenOf.dec rfl) ?_
      refine aw_geN hx hP (by omega) (by omega) (oX7_takenOf.dec rfl) (tgt := 77) rfl (fun h17 => ?_) (fun h17 => absurd h17 (by omega))
      refine aw_run oX7_takenOf smOk 4 (pc' := 83) (L' := [some (.ref 0), some (.int (nI σ)), some (.int (nI w)), some (.int g), some (.int r), some (.int x)]) (st' := [.int (nI w), .ref 4, .int g]) (I' := I) (J' := J) (G' := G) rfl ?_
      refine aw_iaN w smOk rfl rfl (by omega) (oX7_takenOf.dec rfl) ?_
      refine aw_icmp_ge (oX7_takenOf.dec rfl) (tgt := 92) rfl (fun h84 => ?_) (fun h84 => ?_)
      · refine aw_run oX7_takenOf smOk 1 (pc' := 94) (L' := [some (.ref 0), some (.int (nI σ)), some (.int (nI w)), some (.int g), some (.int r), some (.int x)]) (st' := [.int (-nI 9)]) (I' := I) (J' := J) (G' := G) rfl ?_
        exact aw_iret rfl (oX7_takenOf.dec rfl) (pe_i (by unfold tak; rw [if_neg (by rw [← show s = P by omega, ← hg]; exact Int32.not_lt.mpr h84)]; rfl))
      · refine aw_run oX7_takenOf smOk 2 (pc' := 94) (L' := [some (.ref 0), some (.int (nI σ)), some (.int (nI w)), some (.int g), some (.int r), some (.int x)]) (st' := [.int r]) (I' := I) (J' := J) (G' := G) rfl ?_
        exact aw_iret rfl (oX7_takenOf.dec rfl) (pe_i (by unfold tak; rw [if_pos (by rw [← show s = P by omega, ← hg]; exact Int32.not_le.mp h84), ← show s = P by omega]; exact hr))
    | succ n ih =>
      intro s x g r hsn hx hg hr
      have hnone : r = -nI 9 → rich (G 11) σ s = none := fun h => enc_none hr h (fun q hq => (rich_lt hq).1) (by omega)
      have hsome : ¬ r = -nI 9 → ∃ r0, rich (G 11) σ s = some r0 ∧ r0 < s := fun h => by
        cases hc : rich (G 11) σ s with
        | none => rw [hc] at hr; exact absurd hr h
        | some r0 => exact ⟨r0, rfl, (rich_lt hc).1⟩
      refine aw_run oX7_takenOf smOk 4 (pc' := 16) (L' := [some (.ref 0), some (.int (nI σ)), some (.int (nI w)), some (.int g), some (.int r), some (.int x)]) (st' := [.int (nI 0), .ref 5, .int x]) (I' := I) (J' := J) (G' := G) rfl ?_
      refine aw_iaN 0 smOk rfl rfl (by omega) (oX7_takenOf.dec rfl) ?_
      refine aw_geN hx hP (by omega) (by omega) (oX7_takenOf.dec rfl) (tgt := 77) rfl (fun h17 => absurd h17 (by omega)) (fun h17 => ?_)
      refine aw_run oX7_takenOf smOk 6 (pc' := 27) (L' := [some (.ref 0), some (.int (nI σ)), some (.int (nI w)), some (.int g), some (.int r), some (.int x)]) (st' := [.int (nI 1), .int (((nI σ) >>> (x &&& 31)) &&& (nI 1))]) (I' := I) (J' := J) (G' := G) rfl ?_
      refine aw_neN (bitNI rfl hx (by omega) (by omega)) rfl (bitN_b _ _) (by omega) (oX7_takenOf.dec rfl) (tgt := 71) rfl (fun h27 => ?_) (fun h27 => ?_)
      · refine aw_run oX7_takenOf smOk 2 (pc' := 9) (L' := [some (.ref 0), some (.int (nI σ)), some (.int (nI w)), some (.int g), some (.int r), some (.int (x + (nI 1)))]) (st' := []) (I' := I) (J' := J) (G' := G) rfl ?_
        exact ih (s + 1) _ _ _ (by omega) (addN hx rfl) (hg.trans (sumC_f (q := fun j => σ.testBit j) (by rw [bitN_n1 h27]; decide))) (by rw [hr, rich_no (bitN_n1 h27)])
      · refine aw_run oX7_takenOf smOk 4 (pc' := 37) (L' := [some (.ref 0), some (.int (nI σ)), some (.int (nI w)), some (.int g), some (.int r), some (.int x)]) (st' := [.int x, .ref 8, .int g]) (I' := I) (J' := J) (G' := G) rfl ?_
        refine aw_iaN s smOk rfl hx (by omega) (oX7_takenOf.dec rfl) ?_
        refine aw_run oX7_takenOf smOk 4 (pc' := 44) (L' := [some (.ref 0), some (.int (nI σ)), some (.int (nI w)), some (.int (g + (G 8 s))), some (.int r), some (.int x)]) (st' := [.int (-nI 9), .int r]) (I' := I) (J' := J) (G' := G) rfl ?_
        refine aw_icmp_eq (oX7_takenOf.dec rfl) (tgt := 62) rfl (fun h44 => ?_) (fun h44 => ?_)
        · refine aw_run oX7_takenOf smOk 5 (pc' := 9) (L' := [some (.ref 0), some (.int (nI σ)), some (.int (nI w)), some (.int (g + (G 8 s))), some (.int x), some (.int (x + (nI 1)))]) (st' := []) (I' := I) (J' := J) (G' := G) rfl ?_
          exact ih (s + 1) _ _ _ (by omega) (addN hx rfl) (by rw [hg]; exact sumC_t (x := G 8) (q := fun j => σ.testBit j) (bitN_1 h27)) (by rw [rich_first (bitN_1 h27) (hnone h44)]; exact hx)
        · obtain ⟨r0, hrr, hr0⟩ := hsome h44
          refine aw_run oX7_takenOf smOk 2 (pc' := 50) (L' := [some (.ref 0), some (.int (nI σ)), some (.int (nI w)), some (.int (g + (G 8 s))), some (.int r), some (.int x)]) (st' := [.int x, .ref 0]) (I' := I) (J' := J) (G' := G) rfl ?_
          refine aw_eqS (st := [.int (nI s), .ref 0]) (by rw [show x = nI s from hx]) ?_
          refine aw_cV (st := []) 0 [.int (nI s)] oX7_silver k7_110 rfl rfl rfl rfl rfl rfl rfl rfl (oX7_takenOf.dec rfl) (m_silver (by omega)) ?_
          refine aw_eqS (st := [.int (sil (G 11) s)]) rfl ?_
          refine aw_run oX7_takenOf smOk 2 (pc' := 56) (L' := [some (.ref 0), some (.int (nI σ)), some (.int (nI w)), some (.int (g + (G 8 s))), some (.int r), some (.int x)]) (st' := [.int r, .ref 0, .int (sil (G 11) s)]) (I' := I) (J' := J) (G' := G) rfl ?_
          refine aw_eqS (st := [.int (nI r0), .ref 0, .int (sil (G 11) s)]) (by rw [hr, hrr]; rfl) ?_
          refine aw_cV (st := [.int (sil (G 11) s)]) 0 [.int (nI r0)] oX7_silver k7_110 rfl rfl rfl rfl rfl rfl rfl rfl (oX7_takenOf.dec rfl) (m_silver (by omega)) ?_
          refine aw_eqS (st := [.int (sil (G 11) r0), .int (sil (G 11) s)]) rfl ?_
          refine aw_icmp_le (oX7_takenOf.dec rfl) (tgt := 67) rfl (fun h59 => ?_) (fun h59 => ?_)
          · refine aw_run oX7_takenOf smOk 4 (pc' := 9) (L' := [some (.ref 0), some (.int (nI σ)), some (.int (nI w)), some (.int (g + (G 8 s))), some (.int r), some (.int (x + (nI 1)))]) (st' := []) (I' := I) (J' := J) (G' := G) rfl ?_
            exact ih (s + 1) _ _ _ (by omega) (addN hx rfl) (by rw [hg]; exact sumC_t (x := G 8) (q := fun j => σ.testBit j) (bitN_1 h27)) (by rw [hr, rich_keep (bitN_1 h27) hrr h59])
          · refine aw_run oX7_takenOf smOk 5 (pc' := 9) (L' := [some (.ref 0), some (.int (nI σ)), some (.int (nI w)), some (.int (g + (G 8 s))), some (.int x), some (.int (x + (nI 1)))]) (st' := []) (I' := I) (J' := J) (G' := G) rfl ?_
            exact ih (s + 1) _ _ _ (by omega) (addN hx rfl) (by rw [hg]; exact sumC_t (x := G 8) (q := fun j => σ.testBit j) (bitN_1 h27)) (by rw [rich_take (bitN_1 h27) hrr h59]; exact hx)
  refine aw_run oX7_takenOf smOk 6 (pc' := 9) (L' := [some (.ref 0), some (.int (nI σ)), some (.int (nI w)), some (.int (nI 0)), some (.int (-nI 9)), some (.int (nI 0))]) (st' := []) (I' := I) (J' := J) (G' := G) rfl ?_
  exact loop P 0 _ _ _ (by omega) rfl rfl rfl
