set_option maxRecDepth 20000 in
theorem m_takeDraft {I : II} {J : JJ} {G : II} {W P : Nat} (hW : G 2 1 = nI W) (hP : G 5 1 = nI P) (hP5 : P ≤ 5) : AMet SM mX7_takeDraft [.ref 0] I J G (fun r I' J' G' => r = none ∧ I' = I ∧ J' = J ∧ G' 2 0 = nI W ∧ G' 5 0 = nI P ∧ G' 10 0 = G 10 1 ∧ (∀ w, w < 12 → G' 3 w = G 3 (12 + w) ∧ G' 4 w = G 4 (12 + w)) ∧ (∀ s, s < P → G' 8 s = G 8 (5 + s) ∧ G' 9 s = G 9 (5 + s)) ∧ (∀ j, j < 18 → G' 11 j = begR (G 6) (G 7) P j) ∧ G' 11 18 = nI 0 ∧ G' 12 0 = nI 0 ∧ G' 12 1 = nI 0 ∧ G' 1 = G 1) := by
  refine amet_en oX7_takeDraft rfl rfl (L := [some (.ref 0), none]) rfl ?_
  have loop3 : ∀ (n s : Nat) (x : Int32) (f : Nat → Int32) (g : Nat → Int32) (h : Nat → Int32) (a : Nat → Int32) (b : Nat → Int32), (s + n = P) → (x = nI s) → ((∀ j, j < 12 → f j = G 3 (12 + j)) ∧ ∀ j, 12 ≤ j → f j = G 3 j) → ((∀ j, j < 12 → g j = G 4 (12 + j)) ∧ ∀ j, 12 ≤ j → g j = G 4 j) → (∀ j, j < 18 → h j = begR (G 6) (G 7) s j) → ((∀ j, j < s → a j = G 8 (5 + j)) ∧ ∀ j, 5 ≤ j → a j = G 8 j) → ((∀ j, j < s → b j = G 9 (5 + j)) ∧ ∀ j, 5 ≤ j → b j = G 9 j) → AW SM mX7_takeDraft 103 [some (.ref 0), some (.int x)] [] I J (va_up (va_up (va_up (va_up (va_up (va_up (va_up (va_up G 2 (upd (G 2) 0 (G 2 1))) 5 (upd (G 5) 0 (G 5 1))) 10 (upd (G 10) 0 (G 10 1))) 3 f) 4 g) 11 h) 8 a) 9 b) (fun r I' J' G' => r = none ∧ I' = I ∧ J' = J ∧ G' 2 0 = nI W ∧ G' 5 0 = nI P ∧ G' 10 0 = G 10 1 ∧ (∀ w, w < 12 → G' 3 w = G 3 (12 + w) ∧ G' 4 w = G 4 (12 + w)) ∧ (∀ s, s < P → G' 8 s = G 8 (5 + s) ∧ G' 9 s = G 9 (5 + s)) ∧ (∀ j, j < 18 → G' 11 j = begR (G 6) (G 7) P j) ∧ G' 11 18 = nI 0 ∧ G' 12 0 = nI 0 ∧ G' 12 1 = nI 0 ∧ G' 1 = G 1) := by
    intro n
    induction n with
    | zero =>
      intro s x f g h a b hsn hx hf hg hh ha hb
      obtain rfl : P = s := by omega
      refine aw_run oX7_takeDraft smOk 4 (pc' := 109) (L' := [some (.ref 0), some (.int x)]) (st' := [.int (nI 0), .ref 5, .int x]) (I' := I) (J' := J) (G' := va_up (va_up (va_up (va_up (va_up (va_up (va_up (va_up G 2 (upd (G 2) 0 (G 2 1))) 5 (upd (G 5) 0 (G 5 1))) 10 (upd (G 10) 0 (G 10 1))) 3 f) 4 g) 11 h) 8 a) 9 b) rfl ?_
      refine aw_iaN 0 smOk rfl rfl (by omega) (oX7_takeDraft.dec rfl) ?_
      refine aw_eqS (st := [.int ((upd (G 5) 0 (G 5 1)) 0), .int x]) rfl ?_
      refine aw_eqS (st := [.int (G 5 1), .int x]) (by rw [pk_us]) ?_
      refine aw_geN hx hP (by omega) (by omega) (oX7_takeDraft.dec rfl) (tgt := 177) rfl (fun h110 => ?_) (fun h110 => absurd h110 (by omega))
      refine aw_run oX7_takeDraft smOk 4 (pc' := 184) (L' := [some (.ref 0), some (.int x)]) (st' := [.int (nI 0), .int (nI 18), .ref 11]) (I' := I) (J' := J) (G' := va_up (va_up (va_up (va_up (va_up (va_up (va_up (va_up G 2 (upd (G 2) 0 (G 2 1))) 5 (upd (G 5) 0 (G 5 1))) 10 (upd (G 10) 0 (G 10 1))) 3 f) 4 g) 11 h) 8 a) 9 b) rfl ?_
      refine aw_isN 18 smOk rfl rfl (by omega) (oX7_takeDraft.dec rfl) ?_
      refine aw_eqG (G' := va_up (va_up (va_up (va_up (va_up (va_up (va_up (va_up G 2 (upd (G 2) 0 (G 2 1))) 5 (upd (G 5) 0 (G 5 1))) 10 (upd (G 10) 0 (G 10 1))) 3 f) 4 g) 11 (upd h 18 (nI 0))) 8 a) 9 b) (by funext q; simp only [va_up]; repeat' split; all_goals first | rfl | (exfalso; omega) | simp_all) ?_
      refine aw_run oX7_takeDraft smOk 4 (pc' := 191) (L' := [some (.ref 0), some (.int x)]) (st' := [.int (nI 0), .int (nI 0), .ref 12]) (I' := I) (J' := J) (G' := va_up (va_up (va_up (va_up (va_up (va_up (va_up (va_up G 2 (upd (G 2) 0 (G 2 1))) 5 (upd (G 5) 0 (G 5 1))) 10 (upd (G 10) 0 (G 10 1))) 3 f) 4 g) 11 (upd h 18 (nI 0))) 8 a) 9 b) rfl ?_
      refine aw_zsN 0 smOk rfl rfl (by omega) (oX7_takeDraft.dec rfl) (by first | exact Or.inl rfl | exact Or.inr rfl) ?_
      refine aw_eqG (G' := va_up (va_up (va_up (va_up (va_up (va_up (va_up (va_up (va_up G 2 (upd (G 2) 0 (G 2 1))) 5 (upd (G 5) 0 (G 5 1))) 10 (upd (G 10) 0 (G 10 1))) 3 f) 4 g) 11 (upd h 18 (nI 0))) 8 a) 9 b) 12 (upd (G 12) 0 (nI 0))) (rfl) ?_
      refine aw_run oX7_takeDraft smOk 4 (pc' := 198) (L' := [some (.ref 0), some (.int x)]) (st' := [.int (nI 0), .int (nI 1), .ref 12]) (I' := I) (J' := J) (G' := va_up (va_up (va_up (va_up (va_up (va_up (va_up (va_up (va_up G 2 (upd (G 2) 0 (G 2 1))) 5 (upd (G 5) 0 (G 5 1))) 10 (upd (G 10) 0 (G 10 1))) 3 f) 4 g) 11 (upd h 18 (nI 0))) 8 a) 9 b) 12 (upd (G 12) 0 (nI 0))) rfl ?_
      refine aw_zsN 1 smOk rfl rfl (by omega) (oX7_takeDraft.dec rfl) (by first | exact Or.inl rfl | exact Or.inr rfl) ?_
      refine aw_eqG (G' := va_up (va_up (va_up (va_up (va_up (va_up (va_up (va_up (va_up G 2 (upd (G 2) 0 (G 2 1))) 5 (upd (G 5) 0 (G 5 1))) 10 (upd (G 10) 0 (G 10 1))) 3 f) 4 g) 11 (upd h 18 (nI 0))) 8 a) 9 b) 12 (upd (upd (G 12) 0 (nI 0)) 1 (nI 0))) (bx_uu _ _ _ _) ?_
      exact aw_vret rfl (oX7_takeDraft.dec rfl) (⟨rfl, rfl, rfl, hW, hP, rfl, fun w hw => ⟨hf.1 w hw, hg.1 w hw⟩, fun s hs => ⟨ha.1 s hs, hb.1 s hs⟩, fun j hj => (upd_ne (by omega)).trans (hh j hj), rfl, rfl, rfl, rfl⟩)
    | succ n ih =>
      intro s x f g h a b hsn hx hf hg hh ha hb
      refine aw_run oX7_takeDraft smOk 4 (pc' := 109) (L' := [some (.ref 0), some (.int x)]) (st' := [.int (nI 0), .ref 5, .int x]) (I' := I) (J' := J) (G' := va_up (va_up (va_up (va_up (va_up (va_up (va_up (va_up G 2 (upd (G 2) 0 (G 2 1))) 5 (upd (G 5) 0 (G 5 1))) 10 (upd (G 10) 0 (G 10 1))) 3 f) 4 g) 11 h) 8 a) 9 b) rfl ?_
      refine aw_iaN 0 smOk rfl rfl (by omega) (oX7_takeDraft.dec rfl) ?_
      refine aw_eqS (st := [.int ((upd (G 5) 0 (G 5 1)) 0), .int x]) rfl ?_
      refine aw_eqS (st := [.int (G 5 1), .int x]) (by rw [pk_us]) ?_
      refine aw_geN hx hP (by omega) (by omega) (oX7_takeDraft.dec rfl) (tgt := 177) rfl (fun h110 => absurd h110 (by omega)) (fun h110 => ?_)
      refine aw_run oX7_takeDraft smOk 8 (pc' := 125) (L' := [some (.ref 0), some (.int x)]) (st' := [.int ((nI 5) + x), .ref 8, .int x, .ref 8]) (I' := I) (J' := J) (G' := va_up (va_up (va_up (va_up (va_up (va_up (va_up (va_up G 2 (upd (G 2) 0 (G 2 1))) 5 (upd (G 5) 0 (G 5 1))) 10 (upd (G 10) 0 (G 10 1))) 3 f) 4 g) 11 h) 8 a) 9 b) rfl ?_
      refine aw_iaN (5 + s) smOk rfl (addN rfl hx) (by omega) (oX7_takeDraft.dec rfl) ?_
      refine aw_eqS (st := [.int (a (5 + s)), .int x, .ref 8]) rfl ?_
      refine aw_isN s smOk rfl hx (by omega) (oX7_takeDraft.dec rfl) ?_
      refine aw_eqG (G' := va_up (va_up (va_up (va_up (va_up (va_up (va_up (va_up G 2 (upd (G 2) 0 (G 2 1))) 5 (upd (G 5) 0 (G 5 1))) 10 (upd (G 10) 0 (G 10 1))) 3 f) 4 g) 11 h) 8 (upd a s (a (5 + s)))) 9 b) (by funext q; simp only [va_up]; repeat' split; all_goals first | rfl | (exfalso; omega) | simp_all) ?_
      refine aw_run oX7_takeDraft smOk 8 (pc' := 139) (L' := [some (.ref 0), some (.int x)]) (st' := [.int ((nI 5) + x), .ref 9, .int x, .ref 9]) (I' := I) (J' := J) (G' := va_up (va_up (va_up (va_up (va_up (va_up (va_up (va_up G 2 (upd (G 2) 0 (G 2 1))) 5 (upd (G 5) 0 (G 5 1))) 10 (upd (G 10) 0 (G 10 1))) 3 f) 4 g) 11 h) 8 (upd a s (a (5 + s)))) 9 b) rfl ?_
      refine aw_iaN (5 + s) smOk rfl (addN rfl hx) (by omega) (oX7_takeDraft.dec rfl) ?_
      refine aw_eqS (st := [.int (b (5 + s)), .int x, .ref 9]) rfl ?_
      refine aw_isN s smOk rfl hx (by omega) (oX7_takeDraft.dec rfl) ?_
      refine aw_eqG (G' := va_up (va_up (va_up (va_up (va_up (va_up (va_up (va_up G 2 (upd (G 2) 0 (G 2 1))) 5 (upd (G 5) 0 (G 5 1))) 10 (upd (G 10) 0 (G 10 1))) 3 f) 4 g) 11 h) 8 (upd a s (a (5 + s)))) 9 (upd b s (b (5 + s)))) (bx_uu _ _ _ _) ?_
      refine aw_run oX7_takeDraft smOk 8 (pc' := 154) (L' := [some (.ref 0), some (.int x)]) (st' := [.int x, .ref 6, .int ((nI 8) + x), .ref 11]) (I' := I) (J' := J) (G' := va_up (va_up (va_up (va_up (va_up (va_up (va_up (va_up G 2 (upd (G 2) 0 (G 2 1))) 5 (upd (G 5) 0 (G 5 1))) 10 (upd (G 10) 0 (G 10 1))) 3 f) 4 g) 11 h) 8 (upd a s (a (5 + s)))) 9 (upd b s (b (5 + s)))) rfl ?_
      refine aw_iaN s smOk rfl hx (by omega) (oX7_takeDraft.dec rfl) ?_
      refine aw_eqS (st := [.int (G 6 s), .int ((nI 8) + x), .ref 11]) rfl ?_
      refine aw_isN (8 + s) smOk rfl (addN rfl hx) (by omega) (oX7_takeDraft.dec rfl) ?_
      refine aw_eqG (G' := va_up (va_up (va_up (va_up (va_up (va_up (va_up (va_up G 2 (upd (G 2) 0 (G 2 1))) 5 (upd (G 5) 0 (G 5 1))) 10 (upd (G 10) 0 (G 10 1))) 3 f) 4 g) 11 (upd h (8 + s) (G 6 s))) 8 (upd a s (a (5 + s)))) 9 (upd b s (b (5 + s)))) (by funext q; simp only [va_up]; repeat' split; all_goals first | rfl | (exfalso; omega) | simp_all) ?_
      refine aw_run oX7_takeDraft smOk 8 (pc' := 169) (L' := [some (.ref 0), some (.int x)]) (st' := [.int x, .ref 7, .int ((nI 13) + x), .ref 11]) (I' := I) (J' := J) (G' := va_up (va_up (va_up (va_up (va_up (va_up (va_up (va_up G 2 (upd (G 2) 0 (G 2 1))) 5 (upd (G 5) 0 (G 5 1))) 10 (upd (G 10) 0 (G 10 1))) 3 f) 4 g) 11 (upd h (8 + s) (G 6 s))) 8 (upd a s (a (5 + s)))) 9 (upd b s (b (5 + s)))) rfl ?_
      refine aw_iaN s smOk rfl hx (by omega) (oX7_takeDraft.dec rfl) ?_
      refine aw_eqS (st := [.int (G 7 s), .int ((nI 13) + x), .ref 11]) rfl ?_
      refine aw_isN (13 + s) smOk rfl (addN rfl hx) (by omega) (oX7_takeDraft.dec rfl) ?_
      refine aw_eqG (G' := va_up (va_up (va_up (va_up (va_up (va_up (va_up (va_up G 2 (upd (G 2) 0 (G 2 1))) 5 (upd (G 5) 0 (G 5 1))) 10 (upd (G 10) 0 (G 10 1))) 3 f) 4 g) 11 (upd (upd h (8 + s) (G 6 s)) (13 + s) (G 7 s))) 8 (upd a s (a (5 + s)))) 9 (upd b s (b (5 + s)))) (by funext q; simp only [va_up]; repeat' split; all_goals first | rfl | (exfalso; omega) | simp_all) ?_
      refine aw_run oX7_takeDraft smOk 2 (pc' := 103) (L' := [some (.ref 0), some (.int (x + (nI 1)))]) (st' := []) (I' := I) (J' := J) (G' := va_up (va_up (va_up (va_up (va_up (va_up (va_up (va_up G 2 (upd (G 2) 0 (G 2 1))) 5 (upd (G 5) 0 (G 5 1))) 10 (upd (G 10) 0 (G 10 1))) 3 f) 4 g) 11 (upd (upd h (8 + s) (G 6 s)) (13 + s) (G 7 s))) 8 (upd a s (a (5 + s)))) 9 (upd b s (b (5 + s)))) rfl ?_
      exact ih (s + 1) _ _ _ _ _ _ (by omega) (addN hx rfl) hf hg (fun j hj => begR_t (by omega) (hh j hj)) (cpD (by omega) ha) (cpD (by omega) hb)
  have loop2 : ∀ (n s : Nat) (x : Int32) (f : Nat → Int32) (g : Nat → Int32) (h : Nat → Int32) (a : Nat → Int32) (b : Nat → Int32), (s + n = 18) → (x = nI s) → ((∀ j, j < 12 → f j = G 3 (12 + j)) ∧ ∀ j, 12 ≤ j → f j = G 3 j) → ((∀ j, j < 12 → g j = G 4 (12 + j)) ∧ ∀ j, 12 ≤ j → g j = G 4 j) → (∀ j, j < s → h j = nI 0) → (a = G 8) → (b = G 9) → AW SM mX7_takeDraft 82 [some (.ref 0), some (.int x)] [] I J (va_up (va_up (va_up (va_up (va_up (va_up (va_up (va_up G 2 (upd (G 2) 0 (G 2 1))) 5 (upd (G 5) 0 (G 5 1))) 10 (upd (G 10) 0 (G 10 1))) 3 f) 4 g) 11 h) 8 a) 9 b) (fun r I' J' G' => r = none ∧ I' = I ∧ J' = J ∧ G' 2 0 = nI W ∧ G' 5 0 = nI P ∧ G' 10 0 = G 10 1 ∧ (∀ w, w < 12 → G' 3 w = G 3 (12 + w) ∧ G' 4 w = G 4 (12 + w)) ∧ (∀ s, s < P → G' 8 s = G 8 (5 + s) ∧ G' 9 s = G 9 (5 + s)) ∧ (∀ j, j < 18 → G' 11 j = begR (G 6) (G 7) P j) ∧ G' 11 18 = nI 0 ∧ G' 12 0 = nI 0 ∧ G' 12 1 = nI 0 ∧ G' 1 = G 1) := by
    intro n
    induction n with
    | zero =>
      intro s x f g h a b hsn hx hf hg hh ha hb
      refine aw_run oX7_takeDraft smOk 2 (pc' := 85) (L' := [some (.ref 0), some (.int x)]) (st' := [.int (nI 18), .int x]) (I' := I) (J' := J) (G' := va_up (va_up (va_up (va_up (va_up (va_up (va_up (va_up G 2 (upd (G 2) 0 (G 2 1))) 5 (upd (G 5) 0 (G 5 1))) 10 (upd (G 10) 0 (G 10 1))) 3 f) 4 g) 11 h) 8 a) 9 b) rfl ?_
      refine aw_geN hx rfl (by omega) (by omega) (oX7_takeDraft.dec rfl) (tgt := 101) rfl (fun h85 => ?_) (fun h85 => absurd h85 (by omega))
      refine aw_run oX7_takeDraft smOk 2 (pc' := 103) (L' := [some (.ref 0), some (.int (nI 0))]) (st' := []) (I' := I) (J' := J) (G' := va_up (va_up (va_up (va_up (va_up (va_up (va_up (va_up G 2 (upd (G 2) 0 (G 2 1))) 5 (upd (G 5) 0 (G 5 1))) 10 (upd (G 10) 0 (G 10 1))) 3 f) 4 g) 11 h) 8 a) 9 b) rfl ?_
      exact loop3 P 0 _ _ _ _ _ _ (by omega) rfl hf hg (fun j hj => by unfold begR; rw [if_neg (by omega), if_neg (by omega)]; exact hh j (by omega)) ⟨fun j hj => absurd hj (by omega), fun j _ => by rw [ha]⟩ ⟨fun j hj => absurd hj (by omega), fun j _ => by rw [hb]⟩
    | succ n ih =>
      intro s x f g h a b hsn hx hf hg hh ha hb
      refine aw_run oX7_takeDraft smOk 2 (pc' := 85) (L' := [some (.ref 0), some (.int x)]) (st' := [.int (nI 18), .int x]) (I' := I) (J' := J) (G' := va_up (va_up (va_up (va_up (va_up (va_up (va_up (va_up G 2 (upd (G 2) 0 (G 2 1))) 5 (upd (G 5) 0 (G 5 1))) 10 (upd (G 10) 0 (G 10 1))) 3 f) 4 g) 11 h) 8 a) 9 b) rfl ?_
      refine aw_geN hx rfl (by omega) (by omega) (oX7_takeDraft.dec rfl) (tgt := 101) rfl (fun h85 => absurd h85 (by omega)) (fun h85 => ?_)
      refine aw_run oX7_takeDraft smOk 4 (pc' := 94) (L' := [some (.ref 0), some (.int x)]) (st' := [.int (nI 0), .int x, .ref 11]) (I' := I) (J' := J) (G' := va_up (va_up (va_up (va_up (va_up (va_up (va_up (va_up G 2 (upd (G 2) 0 (G 2 1))) 5 (upd (G 5) 0 (G 5 1))) 10 (upd (G 10) 0 (G 10 1))) 3 f) 4 g) 11 h) 8 a) 9 b) rfl ?_
      refine aw_isN s smOk rfl hx (by omega) (oX7_takeDraft.dec rfl) ?_
      refine aw_eqG (G' := va_up (va_up (va_up (va_up (va_up (va_up (va_up (va_up G 2 (upd (G 2) 0 (G 2 1))) 5 (upd (G 5) 0 (G 5 1))) 10 (upd (G 10) 0 (G 10 1))) 3 f) 4 g) 11 (upd h s (nI 0))) 8 a) 9 b) (by funext q; simp only [va_up]; repeat' split; all_goals first | rfl | (exfalso; omega) | simp_all) ?_
      refine aw_run oX7_takeDraft smOk 2 (pc' := 82) (L' := [some (.ref 0), some (.int (x + (nI 1)))]) (st' := []) (I' := I) (J' := J) (G' := va_up (va_up (va_up (va_up (va_up (va_up (va_up (va_up G 2 (upd (G 2) 0 (G 2 1))) 5 (upd (G 5) 0 (G 5 1))) 10 (upd (G 10) 0 (G 10 1))) 3 f) 4 g) 11 (upd h s (nI 0))) 8 a) 9 b) rfl ?_
      exact ih (s + 1) _ _ _ _ _ _ (by omega) (addN hx rfl) hf hg (fun j hj => by simp only [upd]; split; rfl; exact hh j (by omega)) ha hb
  have loop1 : ∀ (n s : Nat) (x : Int32) (f : Nat → Int32) (g : Nat → Int32) (h : Nat → Int32) (a : Nat → Int32) (b : Nat → Int32), (s + n = 12) → (x = nI s) → ((∀ j, j < s → f j = G 3 (12 + j)) ∧ ∀ j, 12 ≤ j → f j = G 3 j) → ((∀ j, j < s → g j = G 4 (12 + j)) ∧ ∀ j, 12 ≤ j → g j = G 4 j) → (a = G 8) → (b = G 9) → AW SM mX7_takeDraft 38 [some (.ref 0), some (.int x)] [] I J (va_up (va_up (va_up (va_up (va_up (va_up (va_up (va_up G 2 (upd (G 2) 0 (G 2 1))) 5 (upd (G 5) 0 (G 5 1))) 10 (upd (G 10) 0 (G 10 1))) 3 f) 4 g) 11 h) 8 a) 9 b) (fun r I' J' G' => r = none ∧ I' = I ∧ J' = J ∧ G' 2 0 = nI W ∧ G' 5 0 = nI P ∧ G' 10 0 = G 10 1 ∧ (∀ w, w < 12 → G' 3 w = G 3 (12 + w) ∧ G' 4 w = G 4 (12 + w)) ∧ (∀ s, s < P → G' 8 s = G 8 (5 + s) ∧ G' 9 s = G 9 (5 + s)) ∧ (∀ j, j < 18 → G' 11 j = begR (G 6) (G 7) P j) ∧ G' 11 18 = nI 0 ∧ G' 12 0 = nI 0 ∧ G' 12 1 = nI 0 ∧ G' 1 = G 1) := by
    intro n
    induction n with
    | zero =>
      intro s x f g h a b hsn hx hf hg ha hb
      obtain rfl : s = 12 := by omega
      refine aw_run oX7_takeDraft smOk 2 (pc' := 41) (L' := [some (.ref 0), some (.int x)]) (st' := [.int (nI 12), .int x]) (I' := I) (J' := J) (G' := va_up (va_up (va_up (va_up (va_up (va_up (va_up (va_up G 2 (upd (G 2) 0 (G 2 1))) 5 (upd (G 5) 0 (G 5 1))) 10 (upd (G 10) 0 (G 10 1))) 3 f) 4 g) 11 h) 8 a) 9 b) rfl ?_
      refine aw_geN hx rfl (by omega) (by omega) (oX7_takeDraft.dec rfl) (tgt := 80) rfl (fun h41 => ?_) (fun h41 => absurd h41 (by omega))
      refine aw_run oX7_takeDraft smOk 2 (pc' := 82) (L' := [some (.ref 0), some (.int (nI 0))]) (st' := []) (I' := I) (J' := J) (G' := va_up (va_up (va_up (va_up (va_up (va_up (va_up (va_up G 2 (upd (G 2) 0 (G 2 1))) 5 (upd (G 5) 0 (G 5 1))) 10 (upd (G 10) 0 (G 10 1))) 3 f) 4 g) 11 h) 8 a) 9 b) rfl ?_
      exact loop2 18 0 _ _ _ _ _ _ (by omega) rfl hf hg (fun j hj => absurd hj (by omega)) ha hb
    | succ n ih =>
      intro s x f g h a b hsn hx hf hg ha hb
      refine aw_run oX7_takeDraft smOk 2 (pc' := 41) (L' := [some (.ref 0), some (.int x)]) (st' := [.int (nI 12), .int x]) (I' := I) (J' := J) (G' := va_up (va_up (va_up (va_up (va_up (va_up (va_up (va_up G 2 (upd (G 2) 0 (G 2 1))) 5 (upd (G 5) 0 (G 5 1))) 10 (upd (G 10) 0 (G 10 1))) 3 f) 4 g) 11 h) 8 a) 9 b) rfl ?_
      refine aw_geN hx rfl (by omega) (by omega) (oX7_takeDraft.dec rfl) (tgt := 80) rfl (fun h41 => absurd h41 (by omega)) (fun h41 => ?_)
      refine aw_run oX7_takeDraft smOk 8 (pc' := 57) (L' := [some (.ref 0), some (.int x)]) (st' := [.int ((nI 12) + x), .ref 3, .int x, .ref 3]) (I' := I) (J' := J) (G' := va_up (va_up (va_up (va_up (va_up (va_up (va_up (va_up G 2 (upd (G 2) 0 (G 2 1))) 5 (upd (G 5) 0 (G 5 1))) 10 (upd (G 10) 0 (G 10 1))) 3 f) 4 g) 11 h) 8 a) 9 b) rfl ?_
      refine aw_iaN (12 + s) smOk rfl (addN rfl hx) (by omega) (oX7_takeDraft.dec rfl) ?_
      refine aw_eqS (st := [.int (f (12 + s)), .int x, .ref 3]) rfl ?_
      refine aw_isN s smOk rfl hx (by omega) (oX7_takeDraft.dec rfl) ?_
      refine aw_eqG (G' := va_up (va_up (va_up (va_up (va_up (va_up (va_up (va_up G 2 (upd (G 2) 0 (G 2 1))) 5 (upd (G 5) 0 (G 5 1))) 10 (upd (G 10) 0 (G 10 1))) 3 (upd f s (f (12 + s)))) 4 g) 11 h) 8 a) 9 b) (by funext q; simp only [va_up]; repeat' split; all_goals first | rfl | (exfalso; omega) | simp_all) ?_
      refine aw_run oX7_takeDraft smOk 8 (pc' := 72) (L' := [some (.ref 0), some (.int x)]) (st' := [.int ((nI 12) + x), .ref 4, .int x, .ref 4]) (I' := I) (J' := J) (G' := va_up (va_up (va_up (va_up (va_up (va_up (va_up (va_up G 2 (upd (G 2) 0 (G 2 1))) 5 (upd (G 5) 0 (G 5 1))) 10 (upd (G 10) 0 (G 10 1))) 3 (upd f s (f (12 + s)))) 4 g) 11 h) 8 a) 9 b) rfl ?_
      refine aw_iaN (12 + s) smOk rfl (addN rfl hx) (by omega) (oX7_takeDraft.dec rfl) ?_
      refine aw_eqS (st := [.int (g (12 + s)), .int x, .ref 4]) rfl ?_
      refine aw_isN s smOk rfl hx (by omega) (oX7_takeDraft.dec rfl) ?_
      refine aw_eqG (G' := va_up (va_up (va_up (va_up (va_up (va_up (va_up (va_up G 2 (upd (G 2) 0 (G 2 1))) 5 (upd (G 5) 0 (G 5 1))) 10 (upd (G 10) 0 (G 10 1))) 3 (upd f s (f (12 + s)))) 4 (upd g s (g (12 + s)))) 11 h) 8 a) 9 b) (by funext q; simp only [va_up]; repeat' split; all_goals first | rfl | (exfalso; omega) | simp_all) ?_
      refine aw_run oX7_takeDraft smOk 2 (pc' := 38) (L' := [some (.ref 0), some (.int (x + (nI 1)))]) (st' := []) (I' := I) (J' := J) (G' := va_up (va_up (va_up (va_up (va_up (va_up (va_up (va_up G 2 (upd (G 2) 0 (G 2 1))) 5 (upd (G 5) 0 (G 5 1))) 10 (upd (G 10) 0 (G 10 1))) 3 (upd f s (f (12 + s)))) 4 (upd g s (g (12 + s)))) 11 h) 8 a) 9 b) rfl ?_
      exact ih (s + 1) _ _ _ _ _ _ (by omega) (addN hx rfl) (cpD (by omega) hf) (cpD (by omega) hg) ha hb
  refine aw_run oX7_takeDraft smOk 6 (pc' := 10) (L' := [some (.ref 0), none]) (st' := [.int (nI 1), .ref 2, .int (nI 0), .ref 2]) (I' := I) (J' := J) (G' := G) rfl ?_
  refine aw_iaN 1 smOk rfl rfl (by omega) (oX7_takeDraft.dec rfl) ?_
  refine aw_isN 0 smOk rfl rfl (by omega) (oX7_takeDraft.dec rfl) ?_
  refine aw_eqG (G' := va_up G 2 (upd (G 2) 0 (G 2 1))) (rfl) ?_
  refine aw_run oX7_takeDraft smOk 6 (pc' := 22) (L' := [some (.ref 0), none]) (st' := [.int (nI 1), .ref 5, .int (nI 0), .ref 5]) (I' := I) (J' := J) (G' := va_up G 2 (upd (G 2) 0 (G 2 1))) rfl ?_
  refine aw_iaN 1 smOk rfl rfl (by omega) (oX7_takeDraft.dec rfl) ?_
  refine aw_eqS (st := [.int (G 5 1), .int (nI 0), .ref 5]) rfl ?_
  refine aw_isN 0 smOk rfl rfl (by omega) (oX7_takeDraft.dec rfl) ?_
  refine aw_eqG (G' := va_up (va_up G 2 (upd (G 2) 0 (G 2 1))) 5 (upd (G 5) 0 (G 5 1))) (rfl) ?_
  refine aw_run oX7_takeDraft smOk 6 (pc' := 34) (L' := [some (.ref 0), none]) (st' := [.int (nI 1), .ref 10, .int (nI 0), .ref 10]) (I' := I) (J' := J) (G' := va_up (va_up G 2 (upd (G 2) 0 (G 2 1))) 5 (upd (G 5) 0 (G 5 1))) rfl ?_
  refine aw_iaN 1 smOk rfl rfl (by omega) (oX7_takeDraft.dec rfl) ?_
  refine aw_eqS (st := [.int (G 10 1), .int (nI 0), .ref 10]) rfl ?_
  refine aw_isN 0 smOk rfl rfl (by omega) (oX7_takeDraft.dec rfl) ?_
  refine aw_eqG (G' := va_up (va_up (va_up G 2 (upd (G 2) 0 (G 2 1))) 5 (upd (G 5) 0 (G 5 1))) 10 (upd (G 10) 0 (G 10 1))) (rfl) ?_
  refine aw_run oX7_takeDraft smOk 2 (pc' := 38) (L' := [some (.ref 0), some (.int (nI 0))]) (st' := []) (I' := I) (J' := J) (G' := va_up (va_up (va_up G 2 (upd (G 2) 0 (G 2 1))) 5 (upd (G 5) 0 (G 5 1))) 10 (upd (G 10) 0 (G 10 1))) rfl ?_
  refine aw_eqG G8_id ?_
  exact loop1 12 0 _ _ _ _ _ _ (by omega) rfl ⟨fun j hj => absurd hj (by omega), fun j _ => rfl⟩ ⟨fun j hj => absurd hj (by omega), fun j _ => rfl⟩ rfl rfl
set_option maxRecDepth 20000 in
theorem m_season {I : II} {J : JJ} {G : II} {bt : Nat → Nat} {n : Nat} (hbt : ∀ i, i < 180 → G 1 i &&& nI 255 = nI (bt i) ∧ bt i < 256) (hn : I 0 2 = nI n) (hn180 : n ≤ 180) : AMet SM mX7_season [.ref 0] I J G (fun r I' J' G' => ∃ x : Int32, r = some (.int x) ∧ J' = J ∧ (∀ g, prs bt n 200 (skp bt n 0) pd0 0 = .inl g → x = -nI 10 - nI g ∧ I' 0 2 = I 0 2 ∧ MF G G') ∧ (∀ k D, prs bt n 200 (skp bt n 0) pd0 0 = .inr (k, D) → x = nI k ∧ k ≤ 180 ∧ pdOk D ∧ I' 0 2 = nI 0 ∧ G' 2 0 = nI (pW D) ∧ G' 5 0 = nI (pP D) ∧ G' 10 0 = nI (pSh D) ∧ (∀ i, i < pW D → G' 3 i = nI (pSt D i) ∧ G' 4 i = nI (pPi D i)) ∧ (∀ i, i < pP D → G' 8 i = nI (pGu D i) ∧ G' 9 i = nI (pRe D i)) ∧ (∀ j, j < 18 → G' 11 j = begR (fun i => nI (pLi D i)) (fun i => nI (pHi D i)) (pP D) j) ∧ G' 11 18 = nI 0 ∧ G' 12 0 = nI 0 ∧ G' 12 1 = nI 0 ∧ G' 1 = G 1)) := by
  refine amet_en oX7_season rfl rfl (L := [some (.ref 0), none, none]) rfl ?_
  have fexit : ∀ (g : Nat) (x : Int32) (I2 G2 : II), g ≤ n → prs bt n 200 (skp bt n 0) pd0 0 = .inl g → I2 0 2 = I 0 2 → MF G G2 → AW SM mX7_season 21 [some (.ref 0), some (.int x), none] [] (RI bt n I2 (true, g)) J G2 (fun r I' J' G' => ∃ x : Int32, r = some (.int x) ∧ J' = J ∧ (∀ g, prs bt n 200 (skp bt n 0) pd0 0 = .inl g → x = -nI 10 - nI g ∧ I' 0 2 = I 0 2 ∧ MF G G') ∧ (∀ k D, prs bt n 200 (skp bt n 0) pd0 0 = .inr (k, D) → x = nI k ∧ k ≤ 180 ∧ pdOk D ∧ I' 0 2 = nI 0 ∧ G' 2 0 = nI (pW D) ∧ G' 5 0 = nI (pP D) ∧ G' 10 0 = nI (pSh D) ∧ (∀ i, i < pW D → G' 3 i = nI (pSt D i) ∧ G' 4 i = nI (pPi D i)) ∧ (∀ i, i < pP D → G' 8 i = nI (pGu D i) ∧ G' 9 i = nI (pRe D i)) ∧ (∀ j, j < 18 → G' 11 j = begR (fun i => nI (pLi D i)) (fun i => nI (pHi D i)) (pP D) j) ∧ G' 11 18 = nI 0 ∧ G' 12 0 = nI 0 ∧ G' 12 1 = nI 0 ∧ G' 1 = G 1)) := by
    intro g x I2 G2 hgn hRg hI2 hMF
    refine aw_run oX7_season smOk 3 (pc' := 27) (L' := [some (.ref 0), some (.int x), none]) (st' := [.int (-nI 9), .int ((RI bt n I2 (true, g)) 0 17)]) (I' := RI bt n I2 (true, g)) (J' := J) (G' := G2) rfl ?_
    refine aw_icmp_ne (oX7_season.dec rfl) (tgt := 91) rfl (fun h27 => ?_) (fun h27 => (ne9 (p := g) (by omega) h27).elim)
    refine aw_run oX7_season smOk 3 (pc' := 97) (L' := [some (.ref 0), some (.int x), none]) (st' := [.int (-nI 9), .int ((RI bt n I2 (true, g)) 0 17)]) (I' := RI bt n I2 (true, g)) (J' := J) (G' := G2) rfl ?_
    refine aw_icmp_eq (oX7_season.dec rfl) (tgt := 108) rfl (fun h97 => (ne9 (p := g) (by omega) h97).elim) (fun h97 => ?_)
    refine aw_run oX7_season smOk 4 (pc' := 107) (L' := [some (.ref 0), some (.int x), none]) (st' := [.int ((-nI 10) - ((RI bt n I2 (true, g)) 0 17))]) (I' := RI bt n I2 (true, g)) (J' := J) (G' := G2) rfl ?_
    exact aw_iret rfl (oX7_season.dec rfl) (⟨_, rfl, rfl, fun g' hg => (by rw [hRg] at hg; cases hg; exact ⟨rfl, hI2, hMF⟩), fun k D hg => (by rw [hRg] at hg; cases hg)⟩)
  have loop : ∀ (m p k f : Nat) (x : Int32) (I2 G2 : II) (D : PD), (n - p ≤ m) → (p ≤ n) → (x = nI k) → (k ≤ p) → (f + k = 200) → (I2 0 2 = nI n) → (MR I2 G2 D) → (pdOk D) → (MF G G2) → (prs bt n f p D k = prs bt n 200 (skp bt n 0) pd0 0) → AW SM mX7_season 21 [some (.ref 0), some (.int x), none] [] (RI bt n I2 (false, p)) J G2 (fun r I' J' G' => ∃ x : Int32, r = some (.int x) ∧ J' = J ∧ (∀ g, prs bt n 200 (skp bt n 0) pd0 0 = .inl g → x = -nI 10 - nI g ∧ I' 0 2 = I 0 2 ∧ MF G G') ∧ (∀ k D, prs bt n 200 (skp bt n 0) pd0 0 = .inr (k, D) → x = nI k ∧ k ≤ 180 ∧ pdOk D ∧ I' 0 2 = nI 0 ∧ G' 2 0 = nI (pW D) ∧ G' 5 0 = nI (pP D) ∧ G' 10 0 = nI (pSh D) ∧ (∀ i, i < pW D → G' 3 i = nI (pSt D i) ∧ G' 4 i = nI (pPi D i)) ∧ (∀ i, i < pP D → G' 8 i = nI (pGu D i) ∧ G' 9 i = nI (pRe D i)) ∧ (∀ j, j < 18 → G' 11 j = begR (fun i => nI (pLi D i)) (fun i => nI (pHi D i)) (pP D) j) ∧ G' 11 18 = nI 0 ∧ G' 12 0 = nI 0 ∧ G' 12 1 = nI 0 ∧ G' 1 = G 1)) := by
    intro m
    induction m with
    | zero =>
      intro p k f x I2 G2 D hm hpn hx hkp hf hn2 hD hok hMF hR
      obtain ⟨f, rfl⟩ : ∃ f', f = f' + 1 := ⟨f - 1, by omega⟩
      have hk0 : tkK bt n p = 0 := if_pos (by omega)
      have hK3 := tm_0.mp hk0
      have hR2 : prs bt n 200 (skp bt n 0) pd0 0 = .inr (k, D) := by rw [← hR]; exact prs_0 hk0
      refine aw_run oX7_season smOk 3 (pc' := 27) (L' := [some (.ref 0), some (.int x), none]) (st' := [.int (-nI 9), .int ((RI bt n I2 (false, p)) 0 17)]) (I' := RI bt n I2 (false, p)) (J' := J) (G' := G2) rfl ?_
      refine aw_icmp_ne (oX7_season.dec rfl) (tgt := 91) rfl (fun h27 => absurd rfl h27) (fun h27 => ?_)
      refine aw_run oX7_season smOk 3 (pc' := 35) (L' := [some (.ref 0), some (.int x), none]) (st' := [.int (nI 3), .int ((RI bt n I2 (false, p)) 0 15)]) (I' := RI bt n I2 (false, p)) (J' := J) (G' := G2) rfl ?_
      refine aw_eqN rfl rfl (Nat.lt_trans (msK_b (fun i hi => (hbt i hi).2) hn180) (by decide)) (by omega) (oX7_season.dec rfl) (tgt := 91) rfl (fun h35 => ?_) (fun h35 => absurd hK3 h35)
      refine aw_run oX7_season smOk 3 (pc' := 97) (L' := [some (.ref 0), some (.int x), none]) (st' := [.int (-nI 9), .int ((RI bt n I2 (false, p)) 0 17)]) (I' := RI bt n I2 (false, p)) (J' := J) (G' := G2) rfl ?_
      refine aw_icmp_eq (oX7_season.dec rfl) (tgt := 108) rfl (fun h97 => ?_) (fun h97 => absurd rfl h97)
      refine aw_run oX7_season smOk 1 (pc' := 109) (L' := [some (.ref 0), some (.int x), none]) (st' := [.ref 0]) (I' := RI bt n I2 (false, p)) (J' := J) (G' := G2) rfl ?_
      refine aw_cVP (st := []) 0 [] oX7_takeDraft k7_57 rfl rfl rfl rfl rfl rfl rfl rfl (oX7_season.dec rfl) (m_takeDraft (I := RI bt n I2 (false, p)) (J := J) (G := G2) hD.1 hD.2.1 hok.2.1) (fun r109 I109 J109 G4 hq => ?_)
      obtain ⟨hr, hI, hJ, t1, t2, t3, t4, t5, t6, t7, t8, t9, t10⟩ := hq
      obtain rfl := hr.symm; obtain rfl := hI.symm; obtain rfl := hJ.symm
      refine aw_eqS (st := []) rfl ?_
      refine aw_run oX7_season smOk 4 (pc' := 118) (L' := [some (.ref 0), some (.int x), none]) (st' := [.int x]) (I' := up2 (RI bt n I2 (false, p)) 0 2 (nI 0)) (J' := J) (G' := G4) rfl ?_
      exact aw_iret rfl (oX7_season.dec rfl) (⟨_, rfl, rfl, fun g hg => (by rw [hR2] at hg; cases hg), fun k' D' hg => (by rw [hR2] at hg; cases hg; exact ⟨hx, by omega, hok, rfl, t1, t2, t3.trans hD.2.2.1, fun i hi => ⟨(t4 i (by have := hok.1; omega)).1.trans (hD.2.2.2.2.1 i hi).1, (t4 i (by have := hok.1; omega)).2.trans (hD.2.2.2.2.1 i hi).2⟩, fun i hi => ⟨(t5 i hi).1.trans (hD.2.2.2.2.2 i hi).2.2.1, (t5 i hi).2.trans (hD.2.2.2.2.2 i hi).2.2.2⟩, fun j hj => (t6 j hj).trans (begR_c (fun i hi => (hD.2.2.2.2.2 i hi).1) (fun i hi => (hD.2.2.2.2.2 i hi).2.1)), t7, t8, t9, t10.trans hMF.1⟩)⟩)
    | succ m ih =>
      intro p k f x I2 G2 D hm hpn hx hkp hf hn2 hD hok hMF hR
      obtain ⟨f, rfl⟩ : ∃ f', f = f' + 1 := ⟨f - 1, by omega⟩
      have hb2 : ∀ i, i < 180 → G2 1 i &&& nI 255 = nI (bt i) ∧ bt i < 256 := fun i hi => by rw [hMF.1]; exact hbt i hi
      by_cases hk0 : tkK bt n p = 0
      · have hK3 := tm_0.mp hk0
        have hR2 : prs bt n 200 (skp bt n 0) pd0 0 = .inr (k, D) := by rw [← hR]; exact prs_0 hk0
        refine aw_run oX7_season smOk 3 (pc' := 27) (L' := [some (.ref 0), some (.int x), none]) (st' := [.int (-nI 9), .int ((RI bt n I2 (false, p)) 0 17)]) (I' := RI bt n I2 (false, p)) (J' := J) (G' := G2) rfl ?_
        refine aw_icmp_ne (oX7_season.dec rfl) (tgt := 91) rfl (fun h27 => absurd rfl h27) (fun h27 => ?_)
        refine aw_run oX7_season smOk 3 (pc' := 35) (L' := [some (.ref 0), some (.int x), none]) (st' := [.int (nI 3), .int ((RI bt n I2 (false, p)) 0 15)]) (I' := RI bt n I2 (false, p)) (J' := J) (G' := G2) rfl ?_
        refine aw_eqN rfl rfl (Nat.lt_trans (msK_b (fun i hi => (hbt i hi).2) hn180) (by decide)) (by omega) (oX7_season.dec rfl) (tgt := 91) rfl (fun h35 => ?_) (fun h35 => absurd hK3 h35)
        refine aw_run oX7_season smOk 3 (pc' := 97) (L' := [some (.ref 0), some (.int x), none]) (st' := [.int (-nI 9), .int ((RI bt n I2 (false, p)) 0 17)]) (I' := RI bt n I2 (false, p)) (J' := J) (G' := G2) rfl ?_
        refine aw_icmp_eq (oX7_season.dec rfl) (tgt := 108) rfl (fun h97 => ?_) (fun h97 => absurd rfl h97)
        refine aw_run oX7_season smOk 1 (pc' := 109) (L' := [some (.ref 0), some (.int x), none]) (st' := [.ref 0]) (I' := RI bt n I2 (false, p)) (J' := J) (G' := G2) rfl ?_
        refine aw_cVP (st := []) 0 [] oX7_takeDraft k7_57 rfl rfl rfl rfl rfl rfl rfl rfl (oX7_season.dec rfl) (m_takeDraft (I := RI bt n I2 (false, p)) (J := J) (G := G2) hD.1 hD.2.1 hok.2.1) (fun r109 I109 J109 G4 hq => ?_)
        obtain ⟨hr, hI, hJ, t1, t2, t3, t4, t5, t6, t7, t8, t9, t10⟩ := hq
        obtain rfl := hr.symm; obtain rfl := hI.symm; obtain rfl := hJ.symm
        refine aw_eqS (st := []) rfl ?_
        refine aw_run oX7_season smOk 4 (pc' := 118) (L' := [some (.ref 0), some (.int x), none]) (st' := [.int x]) (I' := up2 (RI bt n I2 (false, p)) 0 2 (nI 0)) (J' := J) (G' := G4) rfl ?_
        exact aw_iret rfl (oX7_season.dec rfl) (⟨_, rfl, rfl, fun g hg => (by rw [hR2] at hg; cases hg), fun k' D' hg => (by rw [hR2] at hg; cases hg; exact ⟨hx, by omega, hok, rfl, t1, t2, t3.trans hD.2.2.1, fun i hi => ⟨(t4 i (by have := hok.1; omega)).1.trans (hD.2.2.2.2.1 i hi).1, (t4 i (by have := hok.1; omega)).2.trans (hD.2.2.2.2.1 i hi).2⟩, fun i hi => ⟨(t5 i hi).1.trans (hD.2.2.2.2.2 i hi).2.2.1, (t5 i hi).2.trans (hD.2.2.2.2.2 i hi).2.2.2⟩, fun j hj => (t6 j hj).trans (begR_c (fun i hi => (hD.2.2.2.2.2 i hi).1) (fun i hi => (hD.2.2.2.2.2 i hi).2.1)), t7, t8, t9, t10.trans hMF.1⟩)⟩)
      · have hK3 : ¬ msK bt n p = 3 := fun h => hk0 (tm_0.mpr h)
        have hpl := tkK_lt hk0
        by_cases hmy : mayT (ltr bt n p) (pW D) (pP D) (pTl D)
        · have hE : tkE bt n p = msE bt n p := tm_1e (ltr_c rfl hmy).1
          have hsq : skp bt n (tkE bt n p) ≤ n := skp_n (tkE_n hpn)
          refine aw_run oX7_season smOk 3 (pc' := 27) (L' := [some (.ref 0), some (.int x), none]) (st' := [.int (-nI 9), .int ((RI bt n I2 (false, p)) 0 17)]) (I' := RI bt n I2 (false, p)) (J' := J) (G' := G2) rfl ?_
          refine aw_icmp_ne (oX7_season.dec rfl) (tgt := 91) rfl (fun h27 => absurd rfl h27) (fun h27 => ?_)
          refine aw_run oX7_season smOk 3 (pc' := 35) (L' := [some (.ref 0), some (.int x), none]) (st' := [.int (nI 3), .int ((RI bt n I2 (false, p)) 0 15)]) (I' := RI bt n I2 (false, p)) (J' := J) (G' := G2) rfl ?_
          refine aw_eqN rfl rfl (Nat.lt_trans (msK_b (fun i hi => (hbt i hi).2) hn180) (by decide)) (by omega) (oX7_season.dec rfl) (tgt := 91) rfl (fun h35 => absurd h35 hK3) (fun h35 => ?_)
          refine aw_run oX7_season smOk 6 (pc' := 46) (L' := [some (.ref 0), some (.int x), some (.int ((RI bt n I2 (false, p)) 0 15))]) (st' := [.int ((RI bt n I2 (false, p)) 0 15), .ref 0, .ref 0]) (I' := RI bt n I2 (false, p)) (J' := J) (G' := G2) rfl ?_
          refine aw_eqS (st := [.int (nI (msK bt n p)), .ref 0, .ref 0]) (by rw [show (RI bt n I2 (false, p)) 0 15 = nI (msK bt n p) from rfl]) ?_
          refine aw_cV (st := [.ref 0]) 0 [.int (nI (msK bt n p))] oX7_mayBe k7_102 rfl rfl rfl rfl rfl rfl rfl rfl (oX7_season.dec rfl) (m_mayBe (I := RI bt n I2 (false, p)) (J := J) (G := G2) (W := pW D) (P := pP D) (c := msK bt n p) (tl := pTl D) (ok := true) hD.1 hok.1 hD.2.1 hok.2.1 hD.2.2.2.1 (msK_b (fun i hi => (hbt i hi).2) hn180) ⟨fun _ => mayT_ms.mpr hmy, fun _ => rfl⟩) ?_
          refine aw_eqS (st := [.int (b1 true), .ref 0]) rfl ?_
          refine aw_cV (st := []) 0 [.int (b1 true)] oX7_due k7_90 rfl rfl rfl rfl rfl rfl rfl rfl (oX7_season.dec rfl) (m_due (I := I2) (J := J) (G := G2) (s := (false, p)) (ok := true) hb2 hn2 hn180 hpn) ?_
          refine aw_eqI (I' := RI bt n I2 (false, skp bt n (tkE bt n p))) (by rw [hE]; rfl) ?_
          refine aw_eqS (st := [.int (nI (msV bt n p))]) rfl ?_
          refine aw_run oX7_season smOk 4 (pc' := 59) (L' := [some (.ref 0), some (.int x), some (.int ((RI bt n I2 (false, p)) 0 15))]) (st' := [.int (-nI 9), .int ((RI bt n I2 (false, skp bt n (tkE bt n p))) 0 17)]) (I' := RI bt n I2 (false, skp bt n (tkE bt n p))) (J' := J) (G' := G2) rfl ?_
          refine aw_icmp_ne (oX7_season.dec rfl) (tgt := 88) rfl (fun h59 => absurd rfl h59) (fun h59 => ?_)
          refine aw_run oX7_season smOk 2 (pc' := 64) (L' := [some (.ref 0), some (.int x), some (.int ((RI bt n I2 (false, p)) 0 15))]) (st' := [.int ((RI bt n I2 (false, p)) 0 15), .ref 0]) (I' := RI bt n I2 (false, skp bt n (tkE bt n p))) (J' := J) (G' := G2) rfl ?_
          refine aw_eqS (st := [.int (nI (ltr bt n p)), .ref 0]) (by rw [show (RI bt n I2 (false, p)) 0 15 = nI (ltr bt n p) from congrArg nI (mayT_K hmy)]) ?_
          refine aw_cVP (st := []) 0 [.int (nI (ltr bt n p))] oX7_readRow k7_106 rfl rfl rfl rfl rfl rfl rfl rfl (oX7_season.dec rfl) (m_readRow (I := I2) (J := J) (G := G2) (D := D) (c := ltr bt n p) hb2 hn2 hn180 (s := (false, skp bt n (tkE bt n p))) hsq hD hmy) (fun r64 I64 J64 G3 hq => ?_)
          obtain ⟨hr, hJ, I3, hI, hfI, hD3, hMF3⟩ := hq
          obtain rfl := hr.symm; obtain rfl := hI.symm; obtain rfl := hJ.symm
          have hb3 : ∀ i, i < 180 → G3 1 i &&& nI 255 = nI (bt i) ∧ bt i < 256 := fun i hi => by rw [hMF3.1]; exact hb2 i hi
          have hn3 : I3 0 2 = nI n := (hfI 2 (by decide)).trans hn2
          have hs3 : (nsts bt n (msOf (ltr bt n p)) (false, skp bt n (tkE bt n p))).1.2 ≤ n := nsts_n _ _ hsq
          refine aw_eqS (st := []) rfl ?_
          refine aw_run oX7_season smOk 4 (pc' := 73) (L' := [some (.ref 0), some (.int x), some (.int ((RI bt n I2 (false, p)) 0 15))]) (st' := [.int (nI 2), .int ((RI bt n I3 ((nsts bt n (msOf (ltr bt n p)) (false, skp bt n (tkE bt n p))).1)) 0 15), .ref 0]) (I' := RI bt n I3 ((nsts bt n (msOf (ltr bt n p)) (false, skp bt n (tkE bt n p))).1)) (J' := J) (G' := G3) rfl ?_
          refine aw_neN rfl rfl (Nat.lt_trans (msK_b (fun i hi => (hbt i hi).2) hn180) (by decide)) (by omega) (oX7_season.dec rfl) (tgt := 80) rfl (fun h73 => ?_) (fun h73 => ?_)
          · refine aw_run oX7_season smOk 1 (pc' := 81) (L' := [some (.ref 0), some (.int x), some (.int ((RI bt n I2 (false, p)) 0 15))]) (st' := [.int (nI 0), .ref 0]) (I' := RI bt n I3 ((nsts bt n (msOf (ltr bt n p)) (false, skp bt n (tkE bt n p))).1)) (J' := J) (G' := G3) rfl ?_
            refine aw_cV (st := []) 0 [.int (nI 0)] oX7_due k7_90 rfl rfl rfl rfl rfl rfl rfl rfl (oX7_season.dec rfl) (m_due (I := I3) (J := J) (G := G3) (s := (nsts bt n (msOf (ltr bt n p)) (false, skp bt n (tkE bt n p))).1) (ok := false) hb3 hn3 hn180 hs3) ?_
            refine aw_eqS (st := [.int (nI (msV bt n (nsts bt n (msOf (ltr bt n p)) (false, skp bt n (tkE bt n p))).1.2))]) rfl ?_
            refine aw_run oX7_season smOk 3 (pc' := 21) (L' := [some (.ref 0), some (.int (x + (nI 1))), some (.int ((RI bt n I2 (false, p)) 0 15))]) (st' := []) (I' := RI bt n I3 (dst bt n false (nsts bt n (msOf (ltr bt n p)) (false, skp bt n (tkE bt n p))).1)) (J' := J) (G' := G3) rfl ?_
            refine aw_forget1 2 (L' := [some (.ref 0), some (.int (x + (nI 1))), none]) rfl ?_
            cases hi : itm bt n (pW D) (pP D) (pTl D) p with
            | inl g =>
              rw [it_f hmy hi false (decide_eq_false h73).symm]
              exact fexit g _ I3 G3 (itm_fb hpn hi) (by rw [← hR]; exact prs_f hk0 hi) (hn3.trans hn.symm) (hMF.trans hMF3)
            | inr q =>
              obtain ⟨e1, e2, e3⟩ := it_s hmy hi false (decide_eq_false h73).symm
              have hib := itm_b hn180 hok hi
              rw [e1]
              exact ih _ (k + 1) f _ I3 G3 (addD D q.1 q.2.1) (by omega) (by omega) (addN hx rfl) (by omega) (by omega) hn3 (by rw [e2, e3]; exact hD3) hib.2.2 (hMF.trans hMF3) (by rw [← hR]; exact (prs_s hk0 hi).symm)
          · refine aw_run oX7_season smOk 2 (pc' := 81) (L' := [some (.ref 0), some (.int x), some (.int ((RI bt n I2 (false, p)) 0 15))]) (st' := [.int (nI 1), .ref 0]) (I' := RI bt n I3 ((nsts bt n (msOf (ltr bt n p)) (false, skp bt n (tkE bt n p))).1)) (J' := J) (G' := G3) rfl ?_
            refine aw_cV (st := []) 0 [.int (nI 1)] oX7_due k7_90 rfl rfl rfl rfl rfl rfl rfl rfl (oX7_season.dec rfl) (m_due (I := I3) (J := J) (G := G3) (s := (nsts bt n (msOf (ltr bt n p)) (false, skp bt n (tkE bt n p))).1) (ok := true) hb3 hn3 hn180 hs3) ?_
            refine aw_eqS (st := [.int (nI (msV bt n (nsts bt n (msOf (ltr bt n p)) (false, skp bt n (tkE bt n p))).1.2))]) rfl ?_
            refine aw_run oX7_season smOk 3 (pc' := 21) (L' := [some (.ref 0), some (.int (x + (nI 1))), some (.int ((RI bt n I2 (false, p)) 0 15))]) (st' := []) (I' := RI bt n I3 (dst bt n true (nsts bt n (msOf (ltr bt n p)) (false, skp bt n (tkE bt n p))).1)) (J' := J) (G' := G3) rfl ?_
            refine aw_forget1 2 (L' := [some (.ref 0), some (.int (x + (nI 1))), none]) rfl ?_
            cases hi : itm bt n (pW D) (pP D) (pTl D) p with
            | inl g =>
              rw [it_f hmy hi true (decide_eq_true h73).symm]
              exact fexit g _ I3 G3 (itm_fb hpn hi) (by rw [← hR]; exact prs_f hk0 hi) (hn3.trans hn.symm) (hMF.trans hMF3)
            | inr q =>
              obtain ⟨e1, e2, e3⟩ := it_s hmy hi true (decide_eq_true h73).symm
              have hib := itm_b hn180 hok hi
              rw [e1]
              exact ih _ (k + 1) f _ I3 G3 (addD D q.1 q.2.1) (by omega) (by omega) (addN hx rfl) (by omega) (by omega) hn3 (by rw [e2, e3]; exact hD3) hib.2.2 (hMF.trans hMF3) (by rw [← hR]; exact (prs_s hk0 hi).symm)
        · refine aw_run oX7_season smOk 3 (pc' := 27) (L' := [some (.ref 0), some (.int x), none]) (st' := [.int (-nI 9), .int ((RI bt n I2 (false, p)) 0 17)]) (I' := RI bt n I2 (false, p)) (J' := J) (G' := G2) rfl ?_
          refine aw_icmp_ne (oX7_season.dec rfl) (tgt := 91) rfl (fun h27 => absurd rfl h27) (fun h27 => ?_)
          refine aw_run oX7_season smOk 3 (pc' := 35) (L' := [some (.ref 0), some (.int x), none]) (st' := [.int (nI 3), .int ((RI bt n I2 (false, p)) 0 15)]) (I' := RI bt n I2 (false, p)) (J' := J) (G' := G2) rfl ?_
          refine aw_eqN rfl rfl (Nat.lt_trans (msK_b (fun i hi => (hbt i hi).2) hn180) (by decide)) (by omega) (oX7_season.dec rfl) (tgt := 91) rfl (fun h35 => absurd h35 hK3) (fun h35 => ?_)
          refine aw_run oX7_season smOk 6 (pc' := 46) (L' := [some (.ref 0), some (.int x), some (.int ((RI bt n I2 (false, p)) 0 15))]) (st' := [.int ((RI bt n I2 (false, p)) 0 15), .ref 0, .ref 0]) (I' := RI bt n I2 (false, p)) (J' := J) (G' := G2) rfl ?_
          refine aw_eqS (st := [.int (nI (msK bt n p)), .ref 0, .ref 0]) (by rw [show (RI bt n I2 (false, p)) 0 15 = nI (msK bt n p) from rfl]) ?_
          refine aw_cV (st := [.ref 0]) 0 [.int (nI (msK bt n p))] oX7_mayBe k7_102 rfl rfl rfl rfl rfl rfl rfl rfl (oX7_season.dec rfl) (m_mayBe (I := RI bt n I2 (false, p)) (J := J) (G := G2) (W := pW D) (P := pP D) (c := msK bt n p) (tl := pTl D) (ok := false) hD.1 hok.1 hD.2.1 hok.2.1 hD.2.2.2.1 (msK_b (fun i hi => (hbt i hi).2) hn180) ⟨fun h => absurd h (by decide), fun h => absurd (mayT_ms.mp h) hmy⟩) ?_
          refine aw_eqS (st := [.int (b1 false), .ref 0]) rfl ?_
          refine aw_cV (st := []) 0 [.int (b1 false)] oX7_due k7_90 rfl rfl rfl rfl rfl rfl rfl rfl (oX7_season.dec rfl) (m_due (I := I2) (J := J) (G := G2) (s := (false, p)) (ok := false) hb2 hn2 hn180 hpn) ?_
          refine aw_eqI (I' := RI bt n I2 (true, p)) rfl ?_
          refine aw_eqS (st := [.int (nI (msV bt n p))]) rfl ?_
          refine aw_run oX7_season smOk 4 (pc' := 59) (L' := [some (.ref 0), some (.int x), some (.int ((RI bt n I2 (false, p)) 0 15))]) (st' := [.int (-nI 9), .int ((RI bt n I2 (true, p)) 0 17)]) (I' := RI bt n I2 (true, p)) (J' := J) (G' := G2) rfl ?_
          refine aw_icmp_ne (oX7_season.dec rfl) (tgt := 88) rfl (fun h59 => ?_) (fun h59 => (ne9 (p := p) (by omega) h59).elim)
          refine aw_run oX7_season smOk 1 (pc' := 21) (L' := [some (.ref 0), some (.int x), some (.int ((RI bt n I2 (false, p)) 0 15))]) (st' := []) (I' := RI bt n I2 (true, p)) (J' := J) (G' := G2) rfl ?_
          refine aw_forget1 2 (L' := [some (.ref 0), some (.int x), none]) rfl ?_
          exact fexit p _ I2 G2 hpn (by rw [← hR]; exact prs_f hk0 (itm_no hmy)) (hn2.trans hn.symm) hMF
  refine aw_run oX7_season smOk 7 (pc' := 12) (L' := [some (.ref 0), none, none]) (st' := [.ref 0]) (I' := up2 (up2 I 0 13 (nI 0)) 0 17 (-nI 9)) (J' := J) (G' := G) rfl ?_
  refine aw_cV (st := []) 0 [] oX7_plain k7_54 rfl rfl rfl rfl rfl rfl rfl rfl (oX7_season.dec rfl) (m_plain (I := up2 (up2 I 0 13 (nI 0)) 0 17 (-nI 9)) (J := J) (G := G) ) ?_
  refine aw_eqS (st := []) rfl ?_
  refine aw_run oX7_season smOk 3 (pc' := 18) (L' := [some (.ref 0), some (.int (nI 0)), none]) (st' := [.ref 0]) (I' := up2 (up2 (up2 I 0 13 (nI 0)) 0 17 (-nI 9)) 0 12 (nI 0)) (J' := J) (G' := va_up (va_up (va_up G 2 (upd (G 2) 1 (nI 0))) 5 (upd (G 5) 1 (nI 0))) 10 (upd (G 10) 1 (nI 2))) rfl ?_
  refine aw_eqI IM_st ?_
  refine aw_cVP (st := []) 0 [] oX7_step k7_87 rfl rfl rfl rfl rfl rfl rfl rfl (oX7_season.dec rfl) (m_step (I := up2 (up2 I 0 12 (nI 0)) 0 17 (-nI 9)) (J := J) (G := va_up (va_up (va_up G 2 (upd (G 2) 1 (nI 0))) 5 (upd (G 5) 1 (nI 0))) 10 (upd (G 10) 1 (nI 2))) (s0 := I 0 14) (k0 := I 0 15) (v0 := I 0 16) (e0 := 0) hbt hn hn180 (Nat.zero_le _)) (fun r18 I18 J18 G18 hq => ?_)
  obtain ⟨hr, hJ, hG, hI⟩ := hq
  obtain rfl := hr.symm; obtain rfl := hI.symm; obtain rfl := hJ.symm; obtain rfl := hG.symm
  refine aw_eqI (I' := RI bt n (up2 I 0 12 (nI 0)) (false, skp bt n 0)) rfl ?_
  refine aw_eqS (st := []) rfl ?_
  exact loop n (skp bt n 0) 0 200 _ _ _ pd0 (by omega) (skp_n (by omega)) rfl (by omega) rfl hn ⟨rfl, rfl, rfl, rfl, fun i h => absurd h (Nat.not_lt_zero _), fun i h => absurd h (Nat.not_lt_zero _)⟩ pd0Ok ⟨rfl, rfl, rfl, rfl, rfl, rfl, fun _ _ => ⟨rfl, rfl⟩, fun _ _ => ⟨rfl, rfl⟩⟩ rfl
