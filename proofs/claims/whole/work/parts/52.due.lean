set_option maxRecDepth 20000 in
theorem m_due_1 {I : II} {J : JJ} {G : II} {bt : Nat → Nat} {n p : Nat} {x : Int32} (hp : p ≤ 180) : AMet SM mX7_due [.ref 0, .int x] (up2 (up2 (up2 (up2 (up2 I 0 17 (nI p)) 0 13 (nI (msE bt n p))) 0 14 (nI p)) 0 15 (nI (msK bt n p))) 0 16 (nI (msV bt n p))) J G (PE (some (.int (nI (msV bt n p)))) (up2 (up2 (up2 (up2 (up2 I 0 17 (nI p)) 0 13 (nI (msE bt n p))) 0 14 (nI p)) 0 15 (nI (msK bt n p))) 0 16 (nI (msV bt n p))) J G) := by
  refine amet_en oX7_due rfl rfl (L := [some (.ref 0), some (.int x), none]) rfl ?_
  refine aw_run oX7_due smOk 6 (pc' := 11) (L' := [some (.ref 0), some (.int x), some (.int (nI (msV bt n p)))]) (st' := [.int (-nI 9), .int (nI p)]) (I' := up2 (up2 (up2 (up2 (up2 I 0 17 (nI p)) 0 13 (nI (msE bt n p))) 0 14 (nI p)) 0 15 (nI (msK bt n p))) 0 16 (nI (msV bt n p))) (J' := J) (G' := G) rfl ?_
  refine aw_icmp_ne (oX7_due.dec rfl) (tgt := 33) rfl (fun h11 => ?_) (fun h11 => (ne9 (by omega) h11).elim)
  refine aw_run oX7_due smOk 1 (pc' := 34) (L' := [some (.ref 0), some (.int x), some (.int (nI (msV bt n p)))]) (st' := [.int (nI (msV bt n p))]) (I' := up2 (up2 (up2 (up2 (up2 I 0 17 (nI p)) 0 13 (nI (msE bt n p))) 0 14 (nI p)) 0 15 (nI (msK bt n p))) 0 16 (nI (msV bt n p))) (J' := J) (G' := G) rfl ?_
  exact aw_iret rfl (oX7_due.dec rfl) pe_rfl
set_option maxRecDepth 20000 in
theorem m_due_f {I : II} {J : JJ} {G : II} {bt : Nat → Nat} {n p : Nat} : AMet SM mX7_due [.ref 0, .int (nI 0)] (up2 (up2 (up2 (up2 (up2 I 0 17 (-nI 9)) 0 13 (nI (msE bt n p))) 0 14 (nI p)) 0 15 (nI (msK bt n p))) 0 16 (nI (msV bt n p))) J G (PE (some (.int (nI (msV bt n p)))) (up2 (up2 (up2 (up2 (up2 I 0 17 (nI p)) 0 13 (nI (msE bt n p))) 0 14 (nI p)) 0 15 (nI (msK bt n p))) 0 16 (nI (msV bt n p))) J G) := by
  refine amet_en oX7_due rfl rfl (L := [some (.ref 0), some (.int (nI 0)), none]) rfl ?_
  refine aw_run oX7_due smOk 6 (pc' := 11) (L' := [some (.ref 0), some (.int (nI 0)), some (.int (nI (msV bt n p)))]) (st' := [.int (-nI 9), .int (-nI 9)]) (I' := up2 (up2 (up2 (up2 (up2 I 0 17 (-nI 9)) 0 13 (nI (msE bt n p))) 0 14 (nI p)) 0 15 (nI (msK bt n p))) 0 16 (nI (msV bt n p))) (J' := J) (G' := G) rfl ?_
  refine aw_icmp_ne (oX7_due.dec rfl) (tgt := 33) rfl (fun h11 => absurd rfl h11) (fun h11 => ?_)
  refine aw_run oX7_due smOk 1 (pc' := 15) (L' := [some (.ref 0), some (.int (nI 0)), some (.int (nI (msV bt n p)))]) (st' := [.int (nI 0)]) (I' := up2 (up2 (up2 (up2 (up2 I 0 17 (-nI 9)) 0 13 (nI (msE bt n p))) 0 14 (nI p)) 0 15 (nI (msK bt n p))) 0 16 (nI (msV bt n p))) (J' := J) (G' := G) rfl ?_
  refine aw_0eqN rfl (by omega) (oX7_due.dec rfl) (tgt := 25) rfl (fun h15 => ?_) (fun h15 => absurd h15 (by omega))
  refine aw_run oX7_due smOk 5 (pc' := 34) (L' := [some (.ref 0), some (.int (nI 0)), some (.int (nI (msV bt n p)))]) (st' := [.int (nI (msV bt n p))]) (I' := up2 (up2 (up2 (up2 (up2 (up2 I 0 17 (-nI 9)) 0 13 (nI (msE bt n p))) 0 14 (nI p)) 0 15 (nI (msK bt n p))) 0 16 (nI (msV bt n p))) 0 17 (nI p)) (J' := J) (G' := G) rfl ?_
  refine aw_eqI (I' := up2 (up2 (up2 (up2 (up2 I 0 17 (nI p)) 0 13 (nI (msE bt n p))) 0 14 (nI p)) 0 15 (nI (msK bt n p))) 0 16 (nI (msV bt n p))) (by funext q z; simp only [up2]; repeat' split; all_goals first | rfl | (exfalso; omega) | simp_all) ?_
  exact aw_iret rfl (oX7_due.dec rfl) pe_rfl
set_option maxRecDepth 20000 in
theorem m_due_t {I : II} {J : JJ} {G : II} {bt : Nat → Nat} {n : Nat} (hbt : ∀ i, i < 180 → G 1 i &&& nI 255 = nI (bt i) ∧ bt i < 256) (hn : I 0 2 = nI n) (hn180 : n ≤ 180) {p : Nat} (hp : p ≤ n) : AMet SM mX7_due [.ref 0, .int (nI 1)] (up2 (up2 (up2 (up2 (up2 I 0 17 (-nI 9)) 0 13 (nI (msE bt n p))) 0 14 (nI p)) 0 15 (nI (msK bt n p))) 0 16 (nI (msV bt n p))) J G (PE (some (.int (nI (msV bt n p)))) (up2 (up2 (up2 (up2 (up2 I 0 17 (-nI 9)) 0 13 (nI (msE bt n (skp bt n (msE bt n p))))) 0 14 (nI (skp bt n (msE bt n p)))) 0 15 (nI (msK bt n (skp bt n (msE bt n p))))) 0 16 (nI (msV bt n (skp bt n (msE bt n p))))) J G) := by
  refine amet_en oX7_due rfl rfl (L := [some (.ref 0), some (.int (nI 1)), none]) rfl ?_
  refine aw_run oX7_due smOk 6 (pc' := 11) (L' := [some (.ref 0), some (.int (nI 1)), some (.int (nI (msV bt n p)))]) (st' := [.int (-nI 9), .int (-nI 9)]) (I' := up2 (up2 (up2 (up2 (up2 I 0 17 (-nI 9)) 0 13 (nI (msE bt n p))) 0 14 (nI p)) 0 15 (nI (msK bt n p))) 0 16 (nI (msV bt n p))) (J' := J) (G' := G) rfl ?_
  refine aw_icmp_ne (oX7_due.dec rfl) (tgt := 33) rfl (fun h11 => absurd rfl h11) (fun h11 => ?_)
  refine aw_run oX7_due smOk 1 (pc' := 15) (L' := [some (.ref 0), some (.int (nI 1)), some (.int (nI (msV bt n p)))]) (st' := [.int (nI 1)]) (I' := up2 (up2 (up2 (up2 (up2 I 0 17 (-nI 9)) 0 13 (nI (msE bt n p))) 0 14 (nI p)) 0 15 (nI (msK bt n p))) 0 16 (nI (msV bt n p))) (J' := J) (G' := G) rfl ?_
  refine aw_0eqN rfl (by omega) (oX7_due.dec rfl) (tgt := 25) rfl (fun h15 => absurd h15 (by omega)) (fun h15 => ?_)
  refine aw_run oX7_due smOk 1 (pc' := 19) (L' := [some (.ref 0), some (.int (nI 1)), some (.int (nI (msV bt n p)))]) (st' := [.ref 0]) (I' := up2 (up2 (up2 (up2 (up2 I 0 17 (-nI 9)) 0 13 (nI (msE bt n p))) 0 14 (nI p)) 0 15 (nI (msK bt n p))) 0 16 (nI (msV bt n p))) (J' := J) (G' := G) rfl ?_
  refine aw_cVP (st := []) 0 [] oX7_step k7_87 rfl rfl rfl rfl rfl rfl rfl rfl (oX7_due.dec rfl) (m_step (I := up2 I 0 17 (-nI 9)) (J := J) (G := G) (s0 := nI p) (k0 := nI (msK bt n p)) (v0 := nI (msV bt n p)) (e0 := msE bt n p) hbt hn hn180 (msE_n hp)) (fun r19 I19 J19 G19 hq19 => ?_)
  obtain ⟨hr, hJ, hG, hI⟩ := hq19
  obtain rfl := hr.symm; obtain rfl := hI.symm; obtain rfl := hJ.symm; obtain rfl := hG.symm
  refine aw_eqS (st := []) rfl ?_
  refine aw_run oX7_due smOk 2 (pc' := 34) (L' := [some (.ref 0), some (.int (nI 1)), some (.int (nI (msV bt n p)))]) (st' := [.int (nI (msV bt n p))]) (I' := up2 (up2 (up2 (up2 (up2 I 0 17 (-nI 9)) 0 13 (nI (msE bt n (skp bt n (msE bt n p))))) 0 14 (nI (skp bt n (msE bt n p)))) 0 15 (nI (msK bt n (skp bt n (msE bt n p))))) 0 16 (nI (msV bt n (skp bt n (msE bt n p))))) (J' := J) (G' := G) rfl ?_
  exact aw_iret rfl (oX7_due.dec rfl) pe_rfl
theorem m_due {I : II} {J : JJ} {G : II} {bt : Nat → Nat} {n : Nat} (hbt : ∀ i, i < 180 → G 1 i &&& nI 255 = nI (bt i) ∧ bt i < 256) (hn : I 0 2 = nI n) (hn180 : n ≤ 180) {s : Bool × Nat} {ok : Bool} (hs : s.2 ≤ n) : AMet SM mX7_due [.ref 0, .int (b1 ok)] (RI bt n I s) J G (PE (some (.int (nI (msV bt n s.2)))) (RI bt n I (dst bt n ok s)) J G) := by
  obtain ⟨b, p⟩ := s
  cases b with
  | true => exact m_due_1 (I := I) (J := J) (G := G) (bt := bt) (n := n) (p := p) (x := b1 ok) (Nat.le_trans hs hn180)
  | false =>
    cases ok with
    | true => exact m_due_t (I := I) (J := J) (G := G) hbt hn hn180 hs
    | false => exact m_due_f (I := I) (J := J) (G := G) (bt := bt) (n := n) (p := p)
set_option maxRecDepth 20000 in
theorem m_number {I : II} {J : JJ} {G : II} {bt : Nat → Nat} {n : Nat} (hbt : ∀ i, i < 180 → G 1 i &&& nI 255 = nI (bt i) ∧ bt i < 256) (hn : I 0 2 = nI n) (hn180 : n ≤ 180) {s : Bool × Nat} {m : Nat} (hm : m < 100) (hs : s.2 ≤ n) : AMet SM mX7_number [.ref 0, .int (nI 0), .int (nI m)] (RI bt n I s) J G (PE (some (.int (nI (msV bt n s.2)))) (RI bt n I (nst bt n m s)) J G) := by
  refine amet_en oX7_number rfl rfl (L := [some (.ref 0), some (.int (nI 0)), some (.int (nI m))]) rfl ?_
  refine aw_run oX7_number smOk 4 (pc' := 6) (L' := [some (.ref 0), some (.int (nI 0)), some (.int (nI m))]) (st' := [.int (nI 1), .int ((RI bt n I s) 0 15), .ref 0]) (I' := RI bt n I s) (J' := J) (G' := G) rfl ?_
  refine aw_neN rfl rfl (Nat.lt_trans (msK_b (fun i hi => (hbt i hi).2) hn180) (by decide)) (by omega) (oX7_number.dec rfl) (tgt := 25) rfl (fun h6 => ?_) (fun h6 => ?_)
  · refine aw_run oX7_number smOk 1 (pc' := 26) (L' := [some (.ref 0), some (.int (nI 0)), some (.int (nI m))]) (st' := [.int (nI 0), .ref 0]) (I' := RI bt n I s) (J' := J) (G' := G) rfl ?_
    refine aw_cV (st := []) 0 [.int (nI 0)] oX7_due k7_90 rfl rfl rfl rfl rfl rfl rfl rfl (oX7_number.dec rfl) (m_due (I := I) (J := J) (G := G) (s := s) (ok := false) hbt hn hn180 (by first | assumption | exact dst_n (by assumption))) ?_
    refine aw_eqS (st := [.int (nI (msV bt n s.2))]) rfl ?_
    exact aw_iret rfl (oX7_number.dec rfl) (⟨rfl, by rw [show nst bt n m s = dst bt n false s by unfold nst; rw [decide_eq_false (show ¬ (msK bt n s.2 = 1 ∧ msV bt n s.2 ≤ m) from fun h => h6 h.1)]], rfl, rfl⟩)
  · refine aw_run oX7_number smOk 4 (pc' := 15) (L' := [some (.ref 0), some (.int (nI 0)), some (.int (nI m))]) (st' := [.int (nI m), .int (nI 0), .int ((RI bt n I s) 0 16), .ref 0]) (I' := RI bt n I s) (J' := J) (G' := G) rfl ?_
    refine aw_eqS (st := [.int (nI m), .int (nI 0), .int (nI (msV bt n s.2)), .ref 0]) (by rw [show (RI bt n I s) 0 16 = nI (msV bt n s.2) from rfl]) ?_
    refine aw_cS (st := [.ref 0]) [.int (nI (msV bt n s.2)), .int (nI 0), .int (nI m)] oX7_in k7_60 rfl rfl rfl rfl rfl (oX7_number.dec rfl) (m_inN (Nat.lt_trans msV_b (by decide)) (by omega) (by omega)) ?_
    refine aw_eqS (st := [.int (b1 (decide (0 ≤ msV bt n s.2 ∧ msV bt n s.2 ≤ m))), .ref 0]) rfl ?_
    refine aw_0eqD (oX7_number.dec rfl) (tgt := 25) rfl (fun h18 => ?_) (fun h18 => ?_)
    · refine aw_run oX7_number smOk 1 (pc' := 26) (L' := [some (.ref 0), some (.int (nI 0)), some (.int (nI m))]) (st' := [.int (nI 0), .ref 0]) (I' := RI bt n I s) (J' := J) (G' := G) rfl ?_
      refine aw_cV (st := []) 0 [.int (nI 0)] oX7_due k7_90 rfl rfl rfl rfl rfl rfl rfl rfl (oX7_number.dec rfl) (m_due (I := I) (J := J) (G := G) (s := s) (ok := false) hbt hn hn180 (by first | assumption | exact dst_n (by assumption))) ?_
      refine aw_eqS (st := [.int (nI (msV bt n s.2))]) rfl ?_
      exact aw_iret rfl (oX7_number.dec rfl) (⟨rfl, by rw [show nst bt n m s = dst bt n false s by unfold nst; rw [decide_eq_false (show ¬ (msK bt n s.2 = 1 ∧ msV bt n s.2 ≤ m) from fun h => h18 ⟨Nat.zero_le _, h.2⟩)]], rfl, rfl⟩)
    · refine aw_run oX7_number smOk 2 (pc' := 26) (L' := [some (.ref 0), some (.int (nI 0)), some (.int (nI m))]) (st' := [.int (nI 1), .ref 0]) (I' := RI bt n I s) (J' := J) (G' := G) rfl ?_
      refine aw_cV (st := []) 0 [.int (nI 1)] oX7_due k7_90 rfl rfl rfl rfl rfl rfl rfl rfl (oX7_number.dec rfl) (m_due (I := I) (J := J) (G := G) (s := s) (ok := true) hbt hn hn180 (by first | assumption | exact dst_n (by assumption))) ?_
      refine aw_eqS (st := [.int (nI (msV bt n s.2))]) rfl ?_
      exact aw_iret rfl (oX7_number.dec rfl) (⟨rfl, by rw [show nst bt n m s = dst bt n true s by unfold nst; rw [decide_eq_true (show msK bt n s.2 = 1 ∧ msV bt n s.2 ≤ m from ⟨h6, h18.2⟩)]], rfl, rfl⟩)
set_option maxRecDepth 20000 in
theorem m_mayBe_w {I : II} {J : JJ} {G : II} {W : Nat} (hW : G 2 1 = nI W) (hW12 : W ≤ 12) : AMet SM mX7_mayBe [.ref 0, .int (nI 119)] I J G (PE (some (.int (b1 (decide (W < 12))))) I J G) := by
  refine amet_en oX7_mayBe rfl rfl (L := [some (.ref 0), some (.int (nI 119))]) rfl ?_
  refine aw_run oX7_mayBe smOk 1 (pc' := 1) (L' := [some (.ref 0), some (.int (nI 119))]) (st' := [.int (nI 119)]) (I' := I) (J' := J) (G' := G) rfl ?_
  refine aw_lookup (x := nI 119) (oX7_mayBe.dec rfl) (by decide) (off := 35) (by decide) (tgt := 36) rfl ?_
  refine aw_run oX7_mayBe smOk 3 (pc' := 41) (L' := [some (.ref 0), some (.int (nI 119))]) (st' := [.int (nI 1), .ref 2]) (I' := I) (J' := J) (G' := G) rfl ?_
  refine aw_iaN 1 smOk rfl rfl (by omega) (oX7_mayBe.dec rfl) ?_
  refine aw_run oX7_mayBe smOk 1 (pc' := 44) (L' := [some (.ref 0), some (.int (nI 119))]) (st' := [.int (nI 12), .int (G 2 1)]) (I' := I) (J' := J) (G' := G) rfl ?_
  refine aw_geN hW rfl (by omega) (by omega) (oX7_mayBe.dec rfl) (tgt := 51) rfl (fun h44 => ?_) (fun h44 => ?_)
  · refine aw_run oX7_mayBe smOk 1 (pc' := 52) (L' := [some (.ref 0), some (.int (nI 119))]) (st' := [.int (nI 0)]) (I' := I) (J' := J) (G' := G) rfl ?_
    exact aw_zret rfl (by first | exact Or.inl rfl | exact Or.inr rfl) (oX7_mayBe.dec rfl) (pe_i (by rw [decide_eq_false (show ¬ (W < 12) by omega)]; rfl))
  · refine aw_run oX7_mayBe smOk 2 (pc' := 52) (L' := [some (.ref 0), some (.int (nI 119))]) (st' := [.int (nI 1)]) (I' := I) (J' := J) (G' := G) rfl ?_
    exact aw_zret rfl (by first | exact Or.inl rfl | exact Or.inr rfl) (oX7_mayBe.dec rfl) (pe_i (by rw [decide_eq_true (show W < 12 by omega)]; rfl))
set_option maxRecDepth 20000 in
theorem m_mayBe_s {I : II} {J : JJ} {G : II} {P : Nat} (hP : G 5 1 = nI P) (hP5 : P ≤ 5) : AMet SM mX7_mayBe [.ref 0, .int (nI 115)] I J G (PE (some (.int (b1 (decide (P < 5))))) I J G) := by
  refine amet_en oX7_mayBe rfl rfl (L := [some (.ref 0), some (.int (nI 115))]) rfl ?_
  refine aw_run oX7_mayBe smOk 1 (pc' := 1) (L' := [some (.ref 0), some (.int (nI 115))]) (st' := [.int (nI 115)]) (I' := I) (J' := J) (G' := G) rfl ?_
  refine aw_lookup (x := nI 115) (oX7_mayBe.dec rfl) (by decide) (off := 52) (by decide) (tgt := 53) rfl ?_
  refine aw_run oX7_mayBe smOk 3 (pc' := 58) (L' := [some (.ref 0), some (.int (nI 115))]) (st' := [.int (nI 1), .ref 5]) (I' := I) (J' := J) (G' := G) rfl ?_
  refine aw_iaN 1 smOk rfl rfl (by omega) (oX7_mayBe.dec rfl) ?_
  refine aw_run oX7_mayBe smOk 1 (pc' := 60) (L' := [some (.ref 0), some (.int (nI 115))]) (st' := [.int (nI 5), .int (G 5 1)]) (I' := I) (J' := J) (G' := G) rfl ?_
  refine aw_geN hP rfl (by omega) (by omega) (oX7_mayBe.dec rfl) (tgt := 67) rfl (fun h60 => ?_) (fun h60 => ?_)
  · refine aw_run oX7_mayBe smOk 1 (pc' := 68) (L' := [some (.ref 0), some (.int (nI 115))]) (st' := [.int (nI 0)]) (I' := I) (J' := J) (G' := G) rfl ?_
    exact aw_zret rfl (by first | exact Or.inl rfl | exact Or.inr rfl) (oX7_mayBe.dec rfl) (pe_i (by rw [decide_eq_false (show ¬ (P < 5) by omega)]; rfl))
  · refine aw_run oX7_mayBe smOk 2 (pc' := 68) (L' := [some (.ref 0), some (.int (nI 115))]) (st' := [.int (nI 1)]) (I' := I) (J' := J) (G' := G) rfl ?_
    exact aw_zret rfl (by first | exact Or.inl rfl | exact Or.inr rfl) (oX7_mayBe.dec rfl) (pe_i (by rw [decide_eq_true (show P < 5 by omega)]; rfl))
set_option maxRecDepth 20000 in
theorem m_mayBe_k1 {I : II} {J : JJ} {G : II} (hT : I 0 12 = nI 1) : AMet SM mX7_mayBe [.ref 0, .int (nI 107)] I J G (PE (some (.int (nI 0))) I J G) := by
  refine amet_en oX7_mayBe rfl rfl (L := [some (.ref 0), some (.int (nI 107))]) rfl ?_
  refine aw_run oX7_mayBe smOk 1 (pc' := 1) (L' := [some (.ref 0), some (.int (nI 107))]) (st' := [.int (nI 107)]) (I' := I) (J' := J) (G' := G) rfl ?_
  refine aw_lookup (x := nI 107) (oX7_mayBe.dec rfl) (by decide) (off := 68) (by decide) (tgt := 69) rfl ?_
  refine aw_run oX7_mayBe smOk 2 (pc' := 73) (L' := [some (.ref 0), some (.int (nI 107))]) (st' := [.int (I 0 12)]) (I' := I) (J' := J) (G' := G) rfl ?_
  refine aw_if_ne (oX7_mayBe.dec rfl) (tgt := 80) rfl (fun h73 => ?_) (fun h73 => absurd h73 (by rw [hT]; decide))
  refine aw_run oX7_mayBe smOk 1 (pc' := 81) (L' := [some (.ref 0), some (.int (nI 107))]) (st' := [.int (nI 0)]) (I' := I) (J' := J) (G' := G) rfl ?_
  exact aw_zret rfl (by first | exact Or.inl rfl | exact Or.inr rfl) (oX7_mayBe.dec rfl) (pe_i rfl)
set_option maxRecDepth 20000 in
theorem m_mayBe_k0 {I : II} {J : JJ} {G : II} (hT : I 0 12 = nI 0) : AMet SM mX7_mayBe [.ref 0, .int (nI 107)] I J G (PE (some (.int (nI 1))) I J G) := by
  refine amet_en oX7_mayBe rfl rfl (L := [some (.ref 0), some (.int (nI 107))]) rfl ?_
  refine aw_run oX7_mayBe smOk 1 (pc' := 1) (L' := [some (.ref 0), some (.int (nI 107))]) (st' := [.int (nI 107)]) (I' := I) (J' := J) (G' := G) rfl ?_
  refine aw_lookup (x := nI 107) (oX7_mayBe.dec rfl) (by decide) (off := 68) (by decide) (tgt := 69) rfl ?_
  refine aw_run oX7_mayBe smOk 2 (pc' := 73) (L' := [some (.ref 0), some (.int (nI 107))]) (st' := [.int (I 0 12)]) (I' := I) (J' := J) (G' := G) rfl ?_
  refine aw_if_ne (oX7_mayBe.dec rfl) (tgt := 80) rfl (fun h73 => absurd hT h73) (fun h73 => ?_)
  refine aw_run oX7_mayBe smOk 2 (pc' := 81) (L' := [some (.ref 0), some (.int (nI 107))]) (st' := [.int (nI 1)]) (I' := I) (J' := J) (G' := G) rfl ?_
  exact aw_zret rfl (by first | exact Or.inl rfl | exact Or.inr rfl) (oX7_mayBe.dec rfl) (pe_i rfl)
set_option maxRecDepth 20000 in
theorem m_mayBe_no {I : II} {J : JJ} {G : II} {c : Nat} (hc : Op.lookupswitch.offset [(107, 68), (115, 52), (119, 35)] 81 (nI c).toInt = 81) : AMet SM mX7_mayBe [.ref 0, .int (nI c)] I J G (PE (some (.int (nI 0))) I J G) := by
  refine amet_en oX7_mayBe rfl rfl (L := [some (.ref 0), some (.int (nI c))]) rfl ?_
  refine aw_run oX7_mayBe smOk 1 (pc' := 1) (L' := [some (.ref 0), some (.int (nI c))]) (st' := [.int (nI c)]) (I' := I) (J' := J) (G' := G) rfl ?_
  refine aw_lookup (x := nI c) (oX7_mayBe.dec rfl) (by decide) (off := 81) (hc) (tgt := 82) rfl ?_
  refine aw_run oX7_mayBe smOk 1 (pc' := 83) (L' := [some (.ref 0), some (.int (nI c))]) (st' := [.int (nI 0)]) (I' := I) (J' := J) (G' := G) rfl ?_
  exact aw_zret rfl (by first | exact Or.inl rfl | exact Or.inr rfl) (oX7_mayBe.dec rfl) (pe_i rfl)
theorem m_mayBe {I : II} {J : JJ} {G : II} {W P c : Nat} {tl : Bool} (hW : G 2 1 = nI W) (hW12 : W ≤ 12) (hP : G 5 1 = nI P) (hP5 : P ≤ 5) (hT : I 0 12 = b1 tl) (hc : c < 256) {ok : Bool} (hok : ok = true ↔ mayT c W P tl) : AMet SM mX7_mayBe [.ref 0, .int (nI c)] I J G (PE (some (.int (b1 ok))) I J G) := by
  by_cases h1 : c = 119
  · subst h1
    have h := m_mayBe_w (I := I) (J := J) (G := G) hW hW12
    rw [show ok = decide (W < 12) from Bool.eq_iff_iff.mpr (hok.trans (by unfold mayT; simp))]
    exact h
  · by_cases h2 : c = 115
    · subst h2
      have h := m_mayBe_s (I := I) (J := J) (G := G) hP hP5
      rw [show ok = decide (P < 5) from Bool.eq_iff_iff.mpr (hok.trans (by unfold mayT; simp))]
      exact h
    · by_cases h3 : c = 107
      · subst h3
        cases tl with
        | true =>
          rw [show ok = false from Bool.eq_false_iff.mpr (fun h => by have := hok.mp h; unfold mayT at this; simp at this)]
          exact m_mayBe_k1 (I := I) (J := J) (G := G) hT
        | false =>
          rw [show ok = true from hok.mpr (by unfold mayT; simp)]
          exact m_mayBe_k0 (I := I) (J := J) (G := G) hT
      · rw [show ok = false from Bool.eq_false_iff.mpr (fun h => by have := hok.mp h; unfold mayT at this; simp [h1, h2, h3] at this)]
        exact m_mayBe_no (I := I) (J := J) (G := G) (lkN81 c hc h3 h2 h1)
set_option maxRecDepth 20000 in
theorem m_readRow_w {I : II} {J : JJ} {G : II} {bt : Nat → Nat} {n : Nat} (hbt : ∀ i, i < 180 → G 1 i &&& nI 255 = nI (bt i) ∧ bt i < 256) (hn : I 0 2 = nI n) (hn180 : n ≤ 180) {s : Bool × Nat} (hs : s.2 ≤ n) {W : Nat} (hW : G 2 1 = nI W) (hW12 : W < 12) : AMet SM mX7_readRow [.ref 0, .int (nI 119)] (RI bt n I s) J G (PE none (RI bt n I (nst bt n 40 (nst bt n 10 s))) J (va_up (va_up (va_up G 3 (upd (G 3) (12 + W) (nI (msV bt n s.2)))) 4 (upd (G 4) (12 + W) (nI (msV bt n (nst bt n 10 s).2)))) 2 (upd (G 2) 1 ((G 2 1) + (nI 1))))) := by
  refine amet_en oX7_readRow rfl rfl (L := [some (.ref 0), some (.int (nI 119))]) rfl ?_
  refine aw_run oX7_readRow smOk 1 (pc' := 1) (L' := [some (.ref 0), some (.int (nI 119))]) (st' := [.int (nI 119)]) (I' := RI bt n I s) (J' := J) (G' := G) rfl ?_
  refine aw_lookup (x := nI 119) (oX7_readRow.dec rfl) (by decide) (off := 27) (by decide) (tgt := 28) rfl ?_
  refine aw_run oX7_readRow smOk 6 (pc' := 39) (L' := [some (.ref 0), some (.int (nI 119))]) (st' := [.int (nI 1), .ref 2, .int (nI 12), .ref 3]) (I' := RI bt n I s) (J' := J) (G' := G) rfl ?_
  refine aw_iaN 1 smOk rfl rfl (by omega) (oX7_readRow.dec rfl) ?_
  refine aw_run oX7_readRow smOk 4 (pc' := 45) (L' := [some (.ref 0), some (.int (nI 119))]) (st' := [.int (nI 10), .int (nI 0), .ref 0, .int ((nI 12) + (G 2 1)), .ref 3]) (I' := RI bt n I s) (J' := J) (G' := G) rfl ?_
  refine aw_cV (st := [.int ((nI 12) + (G 2 1)), .ref 3]) 0 [.int (nI 0), .int (nI 10)] oX7_number k7_98 rfl rfl rfl rfl rfl rfl rfl rfl (oX7_readRow.dec rfl) (m_number (I := I) (J := J) (G := G) (s := s) (m := 10) hbt hn hn180 (by decide) (by first | assumption | exact nst_n (by assumption) | exact nst_n (nst_n (by assumption)) | exact nst_n (nst_n (nst_n (by assumption))))) ?_
  refine aw_eqS (st := [.int (nI (msV bt n s.2)), .int ((nI 12) + (G 2 1)), .ref 3]) rfl ?_
  refine aw_isN (12 + W) smOk rfl (addN rfl hW) (by omega) (oX7_readRow.dec rfl) ?_
  refine aw_eqG (G' := va_up G 3 (upd (G 3) (12 + W) (nI (msV bt n s.2)))) (rfl) ?_
  refine aw_run oX7_readRow smOk 6 (pc' := 60) (L' := [some (.ref 0), some (.int (nI 119))]) (st' := [.int (nI 1), .ref 2, .int (nI 12), .ref 4]) (I' := RI bt n I (nst bt n 10 s)) (J' := J) (G' := va_up G 3 (upd (G 3) (12 + W) (nI (msV bt n s.2)))) rfl ?_
  refine aw_iaN 1 smOk rfl rfl (by omega) (oX7_readRow.dec rfl) ?_
  refine aw_eqS (st := [.int (G 2 1), .int (nI 12), .ref 4]) rfl ?_
  refine aw_run oX7_readRow smOk 4 (pc' := 66) (L' := [some (.ref 0), some (.int (nI 119))]) (st' := [.int (nI 40), .int (nI 0), .ref 0, .int ((nI 12) + (G 2 1)), .ref 4]) (I' := RI bt n I (nst bt n 10 s)) (J' := J) (G' := va_up G 3 (upd (G 3) (12 + W) (nI (msV bt n s.2)))) rfl ?_
  refine aw_cV (st := [.int ((nI 12) + (G 2 1)), .ref 4]) 0 [.int (nI 0), .int (nI 40)] oX7_number k7_98 rfl rfl rfl rfl rfl rfl rfl rfl (oX7_readRow.dec rfl) (m_number (I := I) (J := J) (G := va_up G 3 (upd (G 3) (12 + W) (nI (msV bt n s.2)))) (s := nst bt n 10 s) (m := 40) hbt hn hn180 (by decide) (by first | assumption | exact nst_n (by assumption) | exact nst_n (nst_n (by assumption)) | exact nst_n (nst_n (nst_n (by assumption))))) ?_
  refine aw_eqS (st := [.int (nI (msV bt n (nst bt n 10 s).2)), .int ((nI 12) + (G 2 1)), .ref 4]) rfl ?_
  refine aw_isN (12 + W) smOk rfl (addN rfl hW) (by omega) (oX7_readRow.dec rfl) ?_
  refine aw_eqG (G' := va_up (va_up G 3 (upd (G 3) (12 + W) (nI (msV bt n s.2)))) 4 (upd (G 4) (12 + W) (nI (msV bt n (nst bt n 10 s).2)))) (rfl) ?_
  refine aw_run oX7_readRow smOk 4 (pc' := 76) (L' := [some (.ref 0), some (.int (nI 119))]) (st' := [.int (nI 1), .ref 2, .int (nI 1), .ref 2]) (I' := RI bt n I (nst bt n 40 (nst bt n 10 s))) (J' := J) (G' := va_up (va_up G 3 (upd (G 3) (12 + W) (nI (msV bt n s.2)))) 4 (upd (G 4) (12 + W) (nI (msV bt n (nst bt n 10 s).2)))) rfl ?_
  refine aw_iaN 1 smOk rfl rfl (by omega) (oX7_readRow.dec rfl) ?_
  refine aw_eqS (st := [.int (G 2 1), .int (nI 1), .ref 2]) rfl ?_
  refine aw_run oX7_readRow smOk 2 (pc' := 79) (L' := [some (.ref 0), some (.int (nI 119))]) (st' := [.int ((G 2 1) + (nI 1)), .int (nI 1), .ref 2]) (I' := RI bt n I (nst bt n 40 (nst bt n 10 s))) (J' := J) (G' := va_up (va_up G 3 (upd (G 3) (12 + W) (nI (msV bt n s.2)))) 4 (upd (G 4) (12 + W) (nI (msV bt n (nst bt n 10 s).2)))) rfl ?_
  refine aw_isN 1 smOk rfl rfl (by omega) (oX7_readRow.dec rfl) ?_
  refine aw_eqG (G' := va_up (va_up (va_up G 3 (upd (G 3) (12 + W) (nI (msV bt n s.2)))) 4 (upd (G 4) (12 + W) (nI (msV bt n (nst bt n 10 s).2)))) 2 (upd (G 2) 1 ((G 2 1) + (nI 1)))) (rfl) ?_
  refine aw_run oX7_readRow smOk 1 (pc' := 190) (L' := [some (.ref 0), some (.int (nI 119))]) (st' := []) (I' := RI bt n I (nst bt n 40 (nst bt n 10 s))) (J' := J) (G' := va_up (va_up (va_up G 3 (upd (G 3) (12 + W) (nI (msV bt n s.2)))) 4 (upd (G 4) (12 + W) (nI (msV bt n (nst bt n 10 s).2)))) 2 (upd (G 2) 1 ((G 2 1) + (nI 1)))) rfl ?_
  exact aw_vret rfl (oX7_readRow.dec rfl) pe_rfl
set_option maxRecDepth 20000 in
theorem m_readRow_s {I : II} {J : JJ} {G : II} {bt : Nat → Nat} {n : Nat} (hbt : ∀ i, i < 180 → G 1 i &&& nI 255 = nI (bt i) ∧ bt i < 256) (hn : I 0 2 = nI n) (hn180 : n ≤ 180) {s : Bool × Nat} (hs : s.2 ≤ n) {P : Nat} (hP : G 5 1 = nI P) (hP5 : P < 5) : AMet SM mX7_readRow [.ref 0, .int (nI 115)] (RI bt n I s) J G (PE none (RI bt n I (nst bt n 11 (nst bt n 9 (nst bt n 60 (nst bt n 60 s))))) J (va_up (va_up (va_up (va_up (va_up G 6 (upd (G 6) P (nI (msV bt n s.2)))) 7 (upd (G 7) P (nI (msV bt n (nst bt n 60 s).2)))) 8 (upd (G 8) (5 + P) (nI (msV bt n (nst bt n 60 (nst bt n 60 s)).2)))) 9 (upd (G 9) (5 + P) (nI (msV bt n (nst bt n 9 (nst bt n 60 (nst bt n 60 s))).2)))) 5 (upd (G 5) 1 ((G 5 1) + (nI 1))))) := by
  refine amet_en oX7_readRow rfl rfl (L := [some (.ref 0), some (.int (nI 115))]) rfl ?_
  refine aw_run oX7_readRow smOk 1 (pc' := 1) (L' := [some (.ref 0), some (.int (nI 115))]) (st' := [.int (nI 115)]) (I' := RI bt n I s) (J' := J) (G' := G) rfl ?_
  refine aw_lookup (x := nI 115) (oX7_readRow.dec rfl) (by decide) (off := 82) (by decide) (tgt := 83) rfl ?_
  refine aw_run oX7_readRow smOk 5 (pc' := 92) (L' := [some (.ref 0), some (.int (nI 115))]) (st' := [.int (nI 1), .ref 5, .ref 6]) (I' := RI bt n I s) (J' := J) (G' := G) rfl ?_
  refine aw_iaN 1 smOk rfl rfl (by omega) (oX7_readRow.dec rfl) ?_
  refine aw_run oX7_readRow smOk 3 (pc' := 97) (L' := [some (.ref 0), some (.int (nI 115))]) (st' := [.int (nI 60), .int (nI 0), .ref 0, .int (G 5 1), .ref 6]) (I' := RI bt n I s) (J' := J) (G' := G) rfl ?_
  refine aw_cV (st := [.int (G 5 1), .ref 6]) 0 [.int (nI 0), .int (nI 60)] oX7_number k7_98 rfl rfl rfl rfl rfl rfl rfl rfl (oX7_readRow.dec rfl) (m_number (I := I) (J := J) (G := G) (s := s) (m := 60) hbt hn hn180 (by decide) (by first | assumption | exact nst_n (by assumption) | exact nst_n (nst_n (by assumption)) | exact nst_n (nst_n (nst_n (by assumption))))) ?_
  refine aw_eqS (st := [.int (nI (msV bt n s.2)), .int (G 5 1), .ref 6]) rfl ?_
  refine aw_isN P smOk rfl hP (by omega) (oX7_readRow.dec rfl) ?_
  refine aw_eqG (G' := va_up G 6 (upd (G 6) P (nI (msV bt n s.2)))) (rfl) ?_
  refine aw_run oX7_readRow smOk 5 (pc' := 110) (L' := [some (.ref 0), some (.int (nI 115))]) (st' := [.int (nI 1), .ref 5, .ref 7]) (I' := RI bt n I (nst bt n 60 s)) (J' := J) (G' := va_up G 6 (upd (G 6) P (nI (msV bt n s.2)))) rfl ?_
  refine aw_iaN 1 smOk rfl rfl (by omega) (oX7_readRow.dec rfl) ?_
  refine aw_eqS (st := [.int (G 5 1), .ref 7]) rfl ?_
  refine aw_run oX7_readRow smOk 3 (pc' := 115) (L' := [some (.ref 0), some (.int (nI 115))]) (st' := [.int (nI 60), .int (nI 0), .ref 0, .int (G 5 1), .ref 7]) (I' := RI bt n I (nst bt n 60 s)) (J' := J) (G' := va_up G 6 (upd (G 6) P (nI (msV bt n s.2)))) rfl ?_
  refine aw_cV (st := [.int (G 5 1), .ref 7]) 0 [.int (nI 0), .int (nI 60)] oX7_number k7_98 rfl rfl rfl rfl rfl rfl rfl rfl (oX7_readRow.dec rfl) (m_number (I := I) (J := J) (G := va_up G 6 (upd (G 6) P (nI (msV bt n s.2)))) (s := nst bt n 60 s) (m := 60) hbt hn hn180 (by decide) (by first | assumption | exact nst_n (by assumption) | exact nst_n (nst_n (by assumption)) | exact nst_n (nst_n (nst_n (by assumption))))) ?_
  refine aw_eqS (st := [.int (nI (msV bt n (nst bt n 60 s).2)), .int (G 5 1), .ref 7]) rfl ?_
  refine aw_isN P smOk rfl hP (by omega) (oX7_readRow.dec rfl) ?_
  refine aw_eqG (G' := va_up (va_up G 6 (upd (G 6) P (nI (msV bt n s.2)))) 7 (upd (G 7) P (nI (msV bt n (nst bt n 60 s).2)))) (rfl) ?_
  refine aw_run oX7_readRow smOk 6 (pc' := 129) (L' := [some (.ref 0), some (.int (nI 115))]) (st' := [.int (nI 1), .ref 5, .int (nI 5), .ref 8]) (I' := RI bt n I (nst bt n 60 (nst bt n 60 s))) (J' := J) (G' := va_up (va_up G 6 (upd (G 6) P (nI (msV bt n s.2)))) 7 (upd (G 7) P (nI (msV bt n (nst bt n 60 s).2)))) rfl ?_
  refine aw_iaN 1 smOk rfl rfl (by omega) (oX7_readRow.dec rfl) ?_
  refine aw_eqS (st := [.int (G 5 1), .int (nI 5), .ref 8]) rfl ?_
  refine aw_run oX7_readRow smOk 4 (pc' := 135) (L' := [some (.ref 0), some (.int (nI 115))]) (st' := [.int (nI 9), .int (nI 0), .ref 0, .int ((nI 5) + (G 5 1)), .ref 8]) (I' := RI bt n I (nst bt n 60 (nst bt n 60 s))) (J' := J) (G' := va_up (va_up G 6 (upd (G 6) P (nI (msV bt n s.2)))) 7 (upd (G 7) P (nI (msV bt n (nst bt n 60 s).2)))) rfl ?_
  refine aw_cV (st := [.int ((nI 5) + (G 5 1)), .ref 8]) 0 [.int (nI 0), .int (nI 9)] oX7_number k7_98 rfl rfl rfl rfl rfl rfl rfl rfl (oX7_readRow.dec rfl) (m_number (I := I) (J := J) (G := va_up (va_up G 6 (upd (G 6) P (nI (msV bt n s.2)))) 7 (upd (G 7) P (nI (msV bt n (nst bt n 60 s).2)))) (s := nst bt n 60 (nst bt n 60 s)) (m := 9) hbt hn hn180 (by decide) (by first | assumption | exact nst_n (by assumption) | exact nst_n (nst_n (by assumption)) | exact nst_n (nst_n (nst_n (by assumption))))) ?_
  refine aw_eqS (st := [.int (nI (msV bt n (nst bt n 60 (nst bt n 60 s)).2)), .int ((nI 5) + (G 5 1)), .ref 8]) rfl ?_
  refine aw_isN (5 + P) smOk rfl (addN rfl hP) (by omega) (oX7_readRow.dec rfl) ?_
  refine aw_eqG (G' := va_up (va_up (va_up G 6 (upd (G 6) P (nI (msV bt n s.2)))) 7 (upd (G 7) P (nI (msV bt n (nst bt n 60 s).2)))) 8 (upd (G 8) (5 + P) (nI (msV bt n (nst bt n 60 (nst bt n 60 s)).2)))) (rfl) ?_
  refine aw_run oX7_readRow smOk 6 (pc' := 149) (L' := [some (.ref 0), some (.int (nI 115))]) (st' := [.int (nI 1), .ref 5, .int (nI 5), .ref 9]) (I' := RI bt n I (nst bt n 9 (nst bt n 60 (nst bt n 60 s)))) (J' := J) (G' := va_up (va_up (va_up G 6 (upd (G 6) P (nI (msV bt n s.2)))) 7 (upd (G 7) P (nI (msV bt n (nst bt n 60 s).2)))) 8 (upd (G 8) (5 + P) (nI (msV bt n (nst bt n 60 (nst bt n 60 s)).2)))) rfl ?_
  refine aw_iaN 1 smOk rfl rfl (by omega) (oX7_readRow.dec rfl) ?_
  refine aw_eqS (st := [.int (G 5 1), .int (nI 5), .ref 9]) rfl ?_
  refine aw_run oX7_readRow smOk 4 (pc' := 155) (L' := [some (.ref 0), some (.int (nI 115))]) (st' := [.int (nI 11), .int (nI 0), .ref 0, .int ((nI 5) + (G 5 1)), .ref 9]) (I' := RI bt n I (nst bt n 9 (nst bt n 60 (nst bt n 60 s)))) (J' := J) (G' := va_up (va_up (va_up G 6 (upd (G 6) P (nI (msV bt n s.2)))) 7 (upd (G 7) P (nI (msV bt n (nst bt n 60 s).2)))) 8 (upd (G 8) (5 + P) (nI (msV bt n (nst bt n 60 (nst bt n 60 s)).2)))) rfl ?_
  refine aw_cV (st := [.int ((nI 5) + (G 5 1)), .ref 9]) 0 [.int (nI 0), .int (nI 11)] oX7_number k7_98 rfl rfl rfl rfl rfl rfl rfl rfl (oX7_readRow.dec rfl) (m_number (I := I) (J := J) (G := va_up (va_up (va_up G 6 (upd (G 6) P (nI (msV bt n s.2)))) 7 (upd (G 7) P (nI (msV bt n (nst bt n 60 s).2)))) 8 (upd (G 8) (5 + P) (nI (msV bt n (nst bt n 60 (nst bt n 60 s)).2)))) (s := nst bt n 9 (nst bt n 60 (nst bt n 60 s))) (m := 11) hbt hn hn180 (by decide) (by first | assumption | exact nst_n (by assumption) | exact nst_n (nst_n (by assumption)) | exact nst_n (nst_n (nst_n (by assumption))))) ?_
  refine aw_eqS (st := [.int (nI (msV bt n (nst bt n 9 (nst bt n 60 (nst bt n 60 s))).2)), .int ((nI 5) + (G 5 1)), .ref 9]) rfl ?_
  refine aw_isN (5 + P) smOk rfl (addN rfl hP) (by omega) (oX7_readRow.dec rfl) ?_
  refine aw_eqG (G' := va_up (va_up (va_up (va_up G 6 (upd (G 6) P (nI (msV bt n s.2)))) 7 (upd (G 7) P (nI (msV bt n (nst bt n 60 s).2)))) 8 (upd (G 8) (5 + P) (nI (msV bt n (nst bt n 60 (nst bt n 60 s)).2)))) 9 (upd (G 9) (5 + P) (nI (msV bt n (nst bt n 9 (nst bt n 60 (nst bt n 60 s))).2)))) (rfl) ?_
  refine aw_run oX7_readRow smOk 4 (pc' := 165) (L' := [some (.ref 0), some (.int (nI 115))]) (st' := [.int (nI 1), .ref 5, .int (nI 1), .ref 5]) (I' := RI bt n I (nst bt n 11 (nst bt n 9 (nst bt n 60 (nst bt n 60 s))))) (J' := J) (G' := va_up (va_up (va_up (va_up G 6 (upd (G 6) P (nI (msV bt n s.2)))) 7 (upd (G 7) P (nI (msV bt n (nst bt n 60 s).2)))) 8 (upd (G 8) (5 + P) (nI (msV bt n (nst bt n 60 (nst bt n 60 s)).2)))) 9 (upd (G 9) (5 + P) (nI (msV bt n (nst bt n 9 (nst bt n 60 (nst bt n 60 s))).2)))) rfl ?_
  refine aw_iaN 1 smOk rfl rfl (by omega) (oX7_readRow.dec rfl) ?_
  refine aw_eqS (st := [.int (G 5 1), .int (nI 1), .ref 5]) rfl ?_
  refine aw_run oX7_readRow smOk 2 (pc' := 168) (L' := [some (.ref 0), some (.int (nI 115))]) (st' := [.int ((G 5 1) + (nI 1)), .int (nI 1), .ref 5]) (I' := RI bt n I (nst bt n 11 (nst bt n 9 (nst bt n 60 (nst bt n 60 s))))) (J' := J) (G' := va_up (va_up (va_up (va_up G 6 (upd (G 6) P (nI (msV bt n s.2)))) 7 (upd (G 7) P (nI (msV bt n (nst bt n 60 s).2)))) 8 (upd (G 8) (5 + P) (nI (msV bt n (nst bt n 60 (nst bt n 60 s)).2)))) 9 (upd (G 9) (5 + P) (nI (msV bt n (nst bt n 9 (nst bt n 60 (nst bt n 60 s))).2)))) rfl ?_
  refine aw_isN 1 smOk rfl rfl (by omega) (oX7_readRow.dec rfl) ?_
  refine aw_eqG (G' := va_up (va_up (va_up (va_up (va_up G 6 (upd (G 6) P (nI (msV bt n s.2)))) 7 (upd (G 7) P (nI (msV bt n (nst bt n 60 s).2)))) 8 (upd (G 8) (5 + P) (nI (msV bt n (nst bt n 60 (nst bt n 60 s)).2)))) 9 (upd (G 9) (5 + P) (nI (msV bt n (nst bt n 9 (nst bt n 60 (nst bt n 60 s))).2)))) 5 (upd (G 5) 1 ((G 5 1) + (nI 1)))) (rfl) ?_
  refine aw_run oX7_readRow smOk 1 (pc' := 190) (L' := [some (.ref 0), some (.int (nI 115))]) (st' := []) (I' := RI bt n I (nst bt n 11 (nst bt n 9 (nst bt n 60 (nst bt n 60 s))))) (J' := J) (G' := va_up (va_up (va_up (va_up (va_up G 6 (upd (G 6) P (nI (msV bt n s.2)))) 7 (upd (G 7) P (nI (msV bt n (nst bt n 60 s).2)))) 8 (upd (G 8) (5 + P) (nI (msV bt n (nst bt n 60 (nst bt n 60 s)).2)))) 9 (upd (G 9) (5 + P) (nI (msV bt n (nst bt n 9 (nst bt n 60 (nst bt n 60 s))).2)))) 5 (upd (G 5) 1 ((G 5 1) + (nI 1)))) rfl ?_
  exact aw_vret rfl (oX7_readRow.dec rfl) pe_rfl
set_option maxRecDepth 20000 in
theorem m_readRow_k {I : II} {J : JJ} {G : II} {bt : Nat → Nat} {n : Nat} (hbt : ∀ i, i < 180 → G 1 i &&& nI 255 = nI (bt i) ∧ bt i < 256) (hn : I 0 2 = nI n) (hn180 : n ≤ 180) {s : Bool × Nat} (hs : s.2 ≤ n)  : AMet SM mX7_readRow [.ref 0, .int (nI 107)] (RI bt n I s) J G (PE none (up2 (RI bt n I (nst bt n 10 s)) 0 12 (nI 1)) J (va_up G 10 (upd (G 10) 1 (nI (msV bt n s.2))))) := by
  refine amet_en oX7_readRow rfl rfl (L := [some (.ref 0), some (.int (nI 107))]) rfl ?_
  refine aw_run oX7_readRow smOk 1 (pc' := 1) (L' := [some (.ref 0), some (.int (nI 107))]) (st' := [.int (nI 107)]) (I' := RI bt n I s) (J' := J) (G' := G) rfl ?_
  refine aw_lookup (x := nI 107) (oX7_readRow.dec rfl) (by decide) (off := 171) (by decide) (tgt := 172) rfl ?_
  refine aw_run oX7_readRow smOk 6 (pc' := 181) (L' := [some (.ref 0), some (.int (nI 107))]) (st' := [.int (nI 10), .int (nI 0), .ref 0, .int (nI 1), .ref 10]) (I' := RI bt n I s) (J' := J) (G' := G) rfl ?_
  refine aw_cV (st := [.int (nI 1), .ref 10]) 0 [.int (nI 0), .int (nI 10)] oX7_number k7_98 rfl rfl rfl rfl rfl rfl rfl rfl (oX7_readRow.dec rfl) (m_number (I := I) (J := J) (G := G) (s := s) (m := 10) hbt hn hn180 (by decide) (by first | assumption | exact nst_n (by assumption) | exact nst_n (nst_n (by assumption)) | exact nst_n (nst_n (nst_n (by assumption))))) ?_
  refine aw_eqS (st := [.int (nI (msV bt n s.2)), .int (nI 1), .ref 10]) rfl ?_
  refine aw_isN 1 smOk rfl rfl (by omega) (oX7_readRow.dec rfl) ?_
  refine aw_eqG (G' := va_up G 10 (upd (G 10) 1 (nI (msV bt n s.2)))) (rfl) ?_
  refine aw_run oX7_readRow smOk 3 (pc' := 190) (L' := [some (.ref 0), some (.int (nI 107))]) (st' := []) (I' := up2 (RI bt n I (nst bt n 10 s)) 0 12 (nI 1)) (J' := J) (G' := va_up G 10 (upd (G 10) 1 (nI (msV bt n s.2)))) rfl ?_
  exact aw_vret rfl (oX7_readRow.dec rfl) pe_rfl
set_option maxRecDepth 20000 in
theorem m_plain {I : II} {J : JJ} {G : II}  : AMet SM mX7_plain [.ref 0] I J G (PE none (up2 I 0 12 (nI 0)) J (va_up (va_up (va_up G 2 (upd (G 2) 1 (nI 0))) 5 (upd (G 5) 1 (nI 0))) 10 (upd (G 10) 1 (nI 2)))) := by
  refine amet_en oX7_plain rfl rfl (L := [some (.ref 0)]) rfl ?_
  refine aw_run oX7_plain smOk 4 (pc' := 6) (L' := [some (.ref 0)]) (st' := [.int (nI 0), .int (nI 1), .ref 2]) (I' := I) (J' := J) (G' := G) rfl ?_
  refine aw_isN 1 smOk rfl rfl (by omega) (oX7_plain.dec rfl) ?_
  refine aw_eqG (G' := va_up G 2 (upd (G 2) 1 (nI 0))) (rfl) ?_
  refine aw_run oX7_plain smOk 4 (pc' := 13) (L' := [some (.ref 0)]) (st' := [.int (nI 0), .int (nI 1), .ref 5]) (I' := I) (J' := J) (G' := va_up G 2 (upd (G 2) 1 (nI 0))) rfl ?_
  refine aw_isN 1 smOk rfl rfl (by omega) (oX7_plain.dec rfl) ?_
  refine aw_eqG (G' := va_up (va_up G 2 (upd (G 2) 1 (nI 0))) 5 (upd (G 5) 1 (nI 0))) (rfl) ?_
  refine aw_run oX7_plain smOk 4 (pc' := 20) (L' := [some (.ref 0)]) (st' := [.int (nI 2), .int (nI 1), .ref 10]) (I' := I) (J' := J) (G' := va_up (va_up G 2 (upd (G 2) 1 (nI 0))) 5 (upd (G 5) 1 (nI 0))) rfl ?_
  refine aw_isN 1 smOk rfl rfl (by omega) (oX7_plain.dec rfl) ?_
  refine aw_eqG (G' := va_up (va_up (va_up G 2 (upd (G 2) 1 (nI 0))) 5 (upd (G 5) 1 (nI 0))) 10 (upd (G 10) 1 (nI 2))) (rfl) ?_
  refine aw_run oX7_plain smOk 3 (pc' := 26) (L' := [some (.ref 0)]) (st' := []) (I' := up2 I 0 12 (nI 0)) (J' := J) (G' := va_up (va_up (va_up G 2 (upd (G 2) 1 (nI 0))) 5 (upd (G 5) 1 (nI 0))) 10 (upd (G 10) 1 (nI 2))) rfl ?_
  exact aw_vret rfl (oX7_plain.dec rfl) pe_rfl
