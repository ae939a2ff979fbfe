set_option maxRecDepth 20000 in
theorem m_know {I : II} {J : JJ} {G : II} {K : Nat} (hK : G 11 18 = nI K) (hK10 : K ≤ 10) : AMet SM mX7_know [.ref 0] I J G (PE none I J (va_up G 11 (knF (G 11) K))) := by
  refine amet_en oX7_know rfl rfl (L := [some (.ref 0), none]) rfl ?_
  have loop2 : ∀ (g : Nat → Int32) (K1 : Nat), g 18 = nI K1 → K1 ≤ 9 → upd (va_cpy g g 0 (19 + 18 * K1) 18) 18 (nI (K1 + 1)) = knF (G 11) K → ∀ (n s : Nat) (x : Int32), s + n = 18 → x = nI s → AW SM mX7_know 58 [some (.ref 0), some (.int x)] [] I J (va_up G 11 (va_cpy g g 0 (19 + 18 * K1) s)) (PE none I J (va_up G 11 (knF (G 11) K))) := by
    intro g K1 hg hK1 hfin n
    induction n with
    | zero =>
      intro s x hsn hx
      have hk18 : (va_cpy g g 0 (19 + 18 * K1) s) 18 = nI K1 := by rw [pk_cpy_out (by omega)]; exact hg
      refine aw_run oX7_know smOk 2 (pc' := 61) (L' := [some (.ref 0), some (.int x)]) (st' := [.int (nI 18), .int x]) (I' := I) (J' := J) (G' := va_up G 11 (va_cpy g g 0 (19 + 18 * K1) s)) rfl ?_
      refine aw_geN hx rfl (by omega) (by omega) (oX7_know.dec rfl) (tgt := 96) rfl (fun h61 => ?_) (fun h61 => absurd h61 (by omega))
      refine aw_run oX7_know smOk 4 (pc' := 103) (L' := [some (.ref 0), some (.int x)]) (st' := [.int (nI 18), .ref 11, .int (nI 18), .ref 11]) (I' := I) (J' := J) (G' := va_up G 11 (va_cpy g g 0 (19 + 18 * K1) s)) rfl ?_
      refine aw_iaN 18 smOk rfl rfl (by omega) (oX7_know.dec rfl) ?_
      refine aw_eqS (st := [.int ((va_cpy g g 0 (19 + 18 * K1) s) 18), .int (nI 18), .ref 11]) rfl ?_
      refine aw_run oX7_know smOk 2 (pc' := 106) (L' := [some (.ref 0), some (.int x)]) (st' := [.int (((va_cpy g g 0 (19 + 18 * K1) s) 18) + (nI 1)), .int (nI 18), .ref 11]) (I' := I) (J' := J) (G' := va_up G 11 (va_cpy g g 0 (19 + 18 * K1) s)) rfl ?_
      refine aw_isN 18 smOk rfl rfl (by omega) (oX7_know.dec rfl) ?_
      refine aw_eqG (G' := va_up G 11 (upd (va_cpy g g 0 (19 + 18 * K1) s) 18 (((va_cpy g g 0 (19 + 18 * K1) s) 18) + (nI 1)))) (bx_uu _ _ _ _) ?_
      exact aw_vret rfl (oX7_know.dec rfl) (⟨rfl, rfl, rfl, by rw [hk18, show nI K1 + nI 1 = nI (K1 + 1) from addN rfl rfl, show s = 18 by omega, hfin]⟩)
    | succ n ih =>
      intro s x hsn hx
      have hk18 : (va_cpy g g 0 (19 + 18 * K1) s) 18 = nI K1 := by rw [pk_cpy_out (by omega)]; exact hg
      refine aw_run oX7_know smOk 2 (pc' := 61) (L' := [some (.ref 0), some (.int x)]) (st' := [.int (nI 18), .int x]) (I' := I) (J' := J) (G' := va_up G 11 (va_cpy g g 0 (19 + 18 * K1) s)) rfl ?_
      refine aw_geN hx rfl (by omega) (by omega) (oX7_know.dec rfl) (tgt := 96) rfl (fun h61 => absurd h61 (by omega)) (fun h61 => ?_)
      refine aw_run oX7_know smOk 7 (pc' := 78) (L' := [some (.ref 0), some (.int x)]) (st' := [.int (nI 18), .ref 11, .int (nI 18), .int (nI 19), .ref 11]) (I' := I) (J' := J) (G' := va_up G 11 (va_cpy g g 0 (19 + 18 * K1) s)) rfl ?_
      refine aw_iaN 18 smOk rfl rfl (by omega) (oX7_know.dec rfl) ?_
      refine aw_eqS (st := [.int ((va_cpy g g 0 (19 + 18 * K1) s) 18), .int (nI 18), .int (nI 19), .ref 11]) rfl ?_
      refine aw_run oX7_know smOk 7 (pc' := 88) (L' := [some (.ref 0), some (.int x)]) (st' := [.int x, .ref 11, .int (((nI 19) + ((nI 18) * ((va_cpy g g 0 (19 + 18 * K1) s) 18))) + x), .ref 11]) (I' := I) (J' := J) (G' := va_up G 11 (va_cpy g g 0 (19 + 18 * K1) s)) rfl ?_
      refine aw_iaN s smOk rfl hx (by omega) (oX7_know.dec rfl) ?_
      refine aw_eqS (st := [.int ((va_cpy g g 0 (19 + 18 * K1) s) s), .int (((nI 19) + ((nI 18) * ((va_cpy g g 0 (19 + 18 * K1) s) 18))) + x), .ref 11]) rfl ?_
      refine aw_isN (19 + (18 * K1) + s) smOk rfl (addN (addN rfl (mulN rfl hk18)) hx) (by omega) (oX7_know.dec rfl) ?_
      refine aw_eqG (G' := va_up G 11 (upd (va_cpy g g 0 (19 + 18 * K1) s) (19 + (18 * K1) + s) ((va_cpy g g 0 (19 + 18 * K1) s) s))) (bx_uu _ _ _ _) ?_
      refine aw_run oX7_know smOk 2 (pc' := 58) (L' := [some (.ref 0), some (.int (x + (nI 1)))]) (st' := []) (I' := I) (J' := J) (G' := va_up G 11 (upd (va_cpy g g 0 (19 + 18 * K1) s) (19 + (18 * K1) + s) ((va_cpy g g 0 (19 + 18 * K1) s) s))) rfl ?_
      rw [show upd (va_cpy g g 0 (19 + 18 * K1) s) (19 + 18 * K1 + s) ((va_cpy g g 0 (19 + 18 * K1) s) s) = va_cpy g g 0 (19 + 18 * K1) (s + 1) from by have h := cpy_step (f := g) (sp := 0) (dp := 19 + 18 * K1) (s := s) (by omega); rw [Nat.zero_add] at h; exact h]
      exact ih (s + 1) _ (by omega) (addN hx rfl)
  have loop1 : K = 10 → ∀ (n s : Nat) (x : Int32), s + n = 162 → x = nI s → AW SM mX7_know 14 [some (.ref 0), some (.int x)] [] I J (va_up G 11 (va_cpy (G 11) (G 11) 37 19 s)) (PE none I J (va_up G 11 (knF (G 11) K))) := by
    intro h10 n
    induction n with
    | zero =>
      intro s x hsn hx
      refine aw_run oX7_know smOk 2 (pc' := 18) (L' := [some (.ref 0), some (.int x)]) (st' := [.int (nI 162), .int x]) (I' := I) (J' := J) (G' := va_up G 11 (va_cpy (G 11) (G 11) 37 19 s)) rfl ?_
      refine aw_geN hx rfl (by omega) (by omega) (oX7_know.dec rfl) (tgt := 45) rfl (fun h18 => ?_) (fun h18 => absurd h18 (by omega))
      refine aw_run oX7_know smOk 4 (pc' := 52) (L' := [some (.ref 0), some (.int x)]) (st' := [.int (nI 18), .ref 11, .int (nI 18), .ref 11]) (I' := I) (J' := J) (G' := va_up G 11 (va_cpy (G 11) (G 11) 37 19 s)) rfl ?_
      refine aw_iaN 18 smOk rfl rfl (by omega) (oX7_know.dec rfl) ?_
      refine aw_eqS (st := [.int ((va_cpy (G 11) (G 11) 37 19 s) 18), .int (nI 18), .ref 11]) rfl ?_
      refine aw_run oX7_know smOk 2 (pc' := 55) (L' := [some (.ref 0), some (.int x)]) (st' := [.int (((va_cpy (G 11) (G 11) 37 19 s) 18) - (nI 1)), .int (nI 18), .ref 11]) (I' := I) (J' := J) (G' := va_up G 11 (va_cpy (G 11) (G 11) 37 19 s)) rfl ?_
      refine aw_isN 18 smOk rfl rfl (by omega) (oX7_know.dec rfl) ?_
      refine aw_eqG (G' := va_up G 11 (upd (va_cpy (G 11) (G 11) 37 19 s) 18 (((va_cpy (G 11) (G 11) 37 19 s) 18) - (nI 1)))) (bx_uu _ _ _ _) ?_
      refine aw_run oX7_know smOk 2 (pc' := 58) (L' := [some (.ref 0), some (.int (nI 0))]) (st' := []) (I' := I) (J' := J) (G' := va_up G 11 (upd (va_cpy (G 11) (G 11) 37 19 s) 18 (((va_cpy (G 11) (G 11) 37 19 s) 18) - (nI 1)))) rfl ?_
      have h18 : (va_cpy (G 11) (G 11) 37 19 s) 18 = nI 10 := by rw [pk_cpy_out (by omega), hK, h10]
      refine aw_eqG (G' := va_up G 11 (va_cpy (knG (G 11)) (knG (G 11)) 0 (19 + 18 * 9) 0)) (by rw [cpy_0, h18, show nI 10 - nI 1 = nI 9 from subN rfl rfl (by decide), show s = 162 by omega]; rfl) ?_
      exact loop2 (knG (G 11)) 9 pk_us (by decide) (by rw [show knF (G 11) K = _ from if_pos h10]) 18 0 _ (by omega) rfl
    | succ n ih =>
      intro s x hsn hx
      refine aw_run oX7_know smOk 2 (pc' := 18) (L' := [some (.ref 0), some (.int x)]) (st' := [.int (nI 162), .int x]) (I' := I) (J' := J) (G' := va_up G 11 (va_cpy (G 11) (G 11) 37 19 s)) rfl ?_
      refine aw_geN hx rfl (by omega) (by omega) (oX7_know.dec rfl) (tgt := 45) rfl (fun h18 => absurd h18 (by omega)) (fun h18 => ?_)
      refine aw_run oX7_know smOk 10 (pc' := 37) (L' := [some (.ref 0), some (.int x)]) (st' := [.int ((nI 37) + x), .ref 11, .int ((nI 19) + x), .ref 11]) (I' := I) (J' := J) (G' := va_up G 11 (va_cpy (G 11) (G 11) 37 19 s)) rfl ?_
      refine aw_iaN (37 + s) smOk rfl (addN rfl hx) (by omega) (oX7_know.dec rfl) ?_
      refine aw_eqS (st := [.int ((va_cpy (G 11) (G 11) 37 19 s) (37 + s)), .int ((nI 19) + x), .ref 11]) rfl ?_
      refine aw_isN (19 + s) smOk rfl (addN rfl hx) (by omega) (oX7_know.dec rfl) ?_
      refine aw_eqG (G' := va_up G 11 (upd (va_cpy (G 11) (G 11) 37 19 s) (19 + s) ((va_cpy (G 11) (G 11) 37 19 s) (37 + s)))) (bx_uu _ _ _ _) ?_
      refine aw_run oX7_know smOk 2 (pc' := 14) (L' := [some (.ref 0), some (.int (x + (nI 1)))]) (st' := []) (I' := I) (J' := J) (G' := va_up G 11 (upd (va_cpy (G 11) (G 11) 37 19 s) (19 + s) ((va_cpy (G 11) (G 11) 37 19 s) (37 + s)))) rfl ?_
      rw [cpy_step (by omega)]
      exact ih (s + 1) _ (by omega) (addN hx rfl)
  by_cases h10 : K = 10
  · refine aw_run oX7_know smOk 3 (pc' := 6) (L' := [some (.ref 0), none]) (st' := [.int (nI 18), .ref 11]) (I' := I) (J' := J) (G' := G) rfl ?_
    refine aw_iaN 18 smOk rfl rfl (by omega) (oX7_know.dec rfl) ?_
    refine aw_run oX7_know smOk 1 (pc' := 9) (L' := [some (.ref 0), none]) (st' := [.int (nI 10), .int (G 11 18)]) (I' := I) (J' := J) (G' := G) rfl ?_
    refine aw_neN hK rfl (by omega) (by omega) (oX7_know.dec rfl) (tgt := 56) rfl (fun h9 => absurd h9 (by omega)) (fun h9 => ?_)
    refine aw_run oX7_know smOk 2 (pc' := 14) (L' := [some (.ref 0), some (.int (nI 0))]) (st' := []) (I' := I) (J' := J) (G' := G) rfl ?_
    refine aw_eqG (G' := va_up G 11 (va_cpy (G 11) (G 11) 37 19 0)) (by rw [cpy_0, upG_id]) ?_
    exact loop1 h10 162 0 _ (by omega) rfl
  · refine aw_run oX7_know smOk 3 (pc' := 6) (L' := [some (.ref 0), none]) (st' := [.int (nI 18), .ref 11]) (I' := I) (J' := J) (G' := G) rfl ?_
    refine aw_iaN 18 smOk rfl rfl (by omega) (oX7_know.dec rfl) ?_
    refine aw_run oX7_know smOk 1 (pc' := 9) (L' := [some (.ref 0), none]) (st' := [.int (nI 10), .int (G 11 18)]) (I' := I) (J' := J) (G' := G) rfl ?_
    refine aw_neN hK rfl (by omega) (by omega) (oX7_know.dec rfl) (tgt := 56) rfl (fun h9 => ?_) (fun h9 => absurd h9 (by omega))
    refine aw_run oX7_know smOk 2 (pc' := 58) (L' := [some (.ref 0), some (.int (nI 0))]) (st' := []) (I' := I) (J' := J) (G' := G) rfl ?_
    refine aw_eqG (G' := va_up G 11 (va_cpy (G 11) (G 11) 0 (19 + 18 * K) 0)) (by rw [cpy_0, upG_id]) ?_
    exact loop2 (G 11) K hK (by omega) (by rw [show knF (G 11) K = _ from if_neg h10]) 18 0 _ (by omega) rfl
set_option maxRecDepth 20000 in
theorem m_part_0 {I : II} {J : JJ} {G : II}  {a b : Nat} (ha : a < 2 ^ 31) (hb : b < 2 ^ 31) (hb0 : 0 < b) : AMet SM mX7_part [.int (nI a), .int (nI b), .int (nI 0)] I J G (PE (some (.int (nI (frU (a, b))))) I J G) := by
  refine amet_en oX7_part rfl rfl (L := [some (.int (nI a)), some (.int (nI b)), some (.int (nI 0)), none, none, none]) rfl ?_
  have hg0 : 0 < Nat.gcd a b := Nat.gcd_pos_of_pos_right a hb0
  have hgb : Nat.gcd a b ≤ b := Nat.gcd_le_right a hb0
  have loop : ∀ (n : Nat) (A B : Int32) (a' b' : Nat), (A = nI a') → (B = nI b') → (a' < 2 ^ 31) → (b' < 2 ^ 31) → (Nat.gcd a' b' = Nat.gcd a b) → (b' < n) → AW SM mX7_part 5 [some (.int (nI a)), some (.int (nI b)), some (.int (nI 0)), some (.int A), some (.int B), none] [] I J G (PE (some (.int (nI (frU (a, b))))) I J G) := by
    intro n
    induction n with
    | zero => intro A B a' b' hA hB ha2 hb2 hgc hbn; exact absurd hbn (by omega)
    | succ n ih =>
      intro A B a' b' hA hB ha2 hb2 hgc hbn
      refine aw_run oX7_part smOk 1 (pc' := 7) (L' := [some (.int (nI a)), some (.int (nI b)), some (.int (nI 0)), some (.int A), some (.int B), none]) (st' := [.int B]) (I' := I) (J' := J) (G' := G) rfl ?_
      refine aw_0eqN hB (by omega) (oX7_part.dec rfl) (tgt := 26) rfl (fun h7 => ?_) (fun h7 => ?_)
      · have hA2 : A = nI (Nat.gcd a b) := by rw [hA, ← hgc, h7, Nat.gcd_zero_right]
        refine aw_run oX7_part smOk 1 (pc' := 27) (L' := [some (.int (nI a)), some (.int (nI b)), some (.int (nI 0)), some (.int A), some (.int B), none]) (st' := [.int (nI 0)]) (I' := I) (J' := J) (G' := G) rfl ?_
        refine aw_0neN rfl (by omega) (oX7_part.dec rfl) (tgt := 36) rfl (fun h27 => absurd h27 (by omega)) (fun h27 => ?_)
        refine aw_run oX7_part smOk 2 (pc' := 32) (L' := [some (.int (nI a)), some (.int (nI b)), some (.int (nI 0)), some (.int A), some (.int B), none]) (st' := [.int A, .int (nI a)]) (I' := I) (J' := J) (G' := G) rfl ?_
        refine aw_idiv (ne0N hA2 (by omega) (by omega)) (oX7_part.dec rfl) ?_
        refine aw_run oX7_part smOk 1 (pc' := 39) (L' := [some (.int (nI a)), some (.int (nI b)), some (.int (nI 0)), some (.int A), some (.int B), none]) (st' := [.int ((nI a) / A)]) (I' := I) (J' := J) (G' := G) rfl ?_
        exact aw_iret rfl (oX7_part.dec rfl) (pe_i (show _ = nI (a / Nat.gcd a b) from divN rfl hA2 (by omega) (by omega) (by omega)))
      · refine aw_run oX7_part smOk 2 (pc' := 13) (L' := [some (.int (nI a)), some (.int (nI b)), some (.int (nI 0)), some (.int A), some (.int B), none]) (st' := [.int B, .int A]) (I' := I) (J' := J) (G' := G) rfl ?_
        refine aw_irem (ne0N hB (by omega) (by omega)) (oX7_part.dec rfl) ?_
        refine aw_run oX7_part smOk 6 (pc' := 5) (L' := [some (.int (nI a)), some (.int (nI b)), some (.int (nI 0)), some (.int B), some (.int (A - A / B * B)), some (.int (A - A / B * B))]) (st' := []) (I' := I) (J' := J) (G' := G) rfl ?_
        refine aw_forget1 5 (L' := [some (.int (nI a)), some (.int (nI b)), some (.int (nI 0)), some (.int B), some (.int (A - A / B * B)), none]) rfl ?_
        have hml := Nat.mod_lt a' (Nat.pos_of_ne_zero h7)
        exact ih _ _ _ _ hB (remN hA hB (by omega) (by omega) (by omega)) (by omega) (by omega) (by rw [gcd_s]; exact hgc) (by omega)
  refine aw_run oX7_part smOk 4 (pc' := 5) (L' := [some (.int (nI a)), some (.int (nI b)), some (.int (nI 0)), some (.int (nI a)), some (.int (nI b)), none]) (st' := []) (I' := I) (J' := J) (G' := G) rfl ?_
  exact loop (b + 1) _ _ _ _ rfl rfl ha hb rfl (by omega)
set_option maxRecDepth 20000 in
theorem m_part_1 {I : II} {J : JJ} {G : II}  {a b : Nat} (ha : a < 2 ^ 31) (hb : b < 2 ^ 31) (hb0 : 0 < b) : AMet SM mX7_part [.int (nI a), .int (nI b), .int (nI 1)] I J G (PE (some (.int (nI (frL (a, b))))) I J G) := by
  refine amet_en oX7_part rfl rfl (L := [some (.int (nI a)), some (.int (nI b)), some (.int (nI 1)), none, none, none]) rfl ?_
  have hg0 : 0 < Nat.gcd a b := Nat.gcd_pos_of_pos_right a hb0
  have hgb : Nat.gcd a b ≤ b := Nat.gcd_le_right a hb0
  have loop : ∀ (n : Nat) (A B : Int32) (a' b' : Nat), (A = nI a') → (B = nI b') → (a' < 2 ^ 31) → (b' < 2 ^ 31) → (Nat.gcd a' b' = Nat.gcd a b) → (b' < n) → AW SM mX7_part 5 [some (.int (nI a)), some (.int (nI b)), some (.int (nI 1)), some (.int A), some (.int B), none] [] I J G (PE (some (.int (nI (frL (a, b))))) I J G) := by
    intro n
    induction n with
    | zero => intro A B a' b' hA hB ha2 hb2 hgc hbn; exact absurd hbn (by omega)
    | succ n ih =>
      intro A B a' b' hA hB ha2 hb2 hgc hbn
      refine aw_run oX7_part smOk 1 (pc' := 7) (L' := [some (.int (nI a)), some (.int (nI b)), some (.int (nI 1)), some (.int A), some (.int B), none]) (st' := [.int B]) (I' := I) (J' := J) (G' := G) rfl ?_
      refine aw_0eqN hB (by omega) (oX7_part.dec rfl) (tgt := 26) rfl (fun h7 => ?_) (fun h7 => ?_)
      · have hA2 : A = nI (Nat.gcd a b) := by rw [hA, ← hgc, h7, Nat.gcd_zero_right]
        refine aw_run oX7_part smOk 1 (pc' := 27) (L' := [some (.int (nI a)), some (.int (nI b)), some (.int (nI 1)), some (.int A), some (.int B), none]) (st' := [.int (nI 1)]) (I' := I) (J' := J) (G' := G) rfl ?_
        refine aw_0neN rfl (by omega) (oX7_part.dec rfl) (tgt := 36) rfl (fun h27 => ?_) (fun h27 => absurd h27 (by omega))
        refine aw_run oX7_part smOk 2 (pc' := 38) (L' := [some (.int (nI a)), some (.int (nI b)), some (.int (nI 1)), some (.int A), some (.int B), none]) (st' := [.int A, .int (nI b)]) (I' := I) (J' := J) (G' := G) rfl ?_
        refine aw_idiv (ne0N hA2 (by omega) (by omega)) (oX7_part.dec rfl) ?_
        exact aw_iret rfl (oX7_part.dec rfl) (pe_i (show _ = nI (b / Nat.gcd a b) from divN rfl hA2 (by omega) (by omega) (by omega)))
      · refine aw_run oX7_part smOk 2 (pc' := 13) (L' := [some (.int (nI a)), some (.int (nI b)), some (.int (nI 1)), some (.int A), some (.int B), none]) (st' := [.int B, .int A]) (I' := I) (J' := J) (G' := G) rfl ?_
        refine aw_irem (ne0N hB (by omega) (by omega)) (oX7_part.dec rfl) ?_
        refine aw_run oX7_part smOk 6 (pc' := 5) (L' := [some (.int (nI a)), some (.int (nI b)), some (.int (nI 1)), some (.int B), some (.int (A - A / B * B)), some (.int (A - A / B * B))]) (st' := []) (I' := I) (J' := J) (G' := G) rfl ?_
        refine aw_forget1 5 (L' := [some (.int (nI a)), some (.int (nI b)), some (.int (nI 1)), some (.int B), some (.int (A - A / B * B)), none]) rfl ?_
        have hml := Nat.mod_lt a' (Nat.pos_of_ne_zero h7)
        exact ih _ _ _ _ hB (remN hA hB (by omega) (by omega) (by omega)) (by omega) (by omega) (by rw [gcd_s]; exact hgc) (by omega)
  refine aw_run oX7_part smOk 4 (pc' := 5) (L' := [some (.int (nI a)), some (.int (nI b)), some (.int (nI 1)), some (.int (nI a)), some (.int (nI b)), none]) (st' := []) (I' := I) (J' := J) (G' := G) rfl ?_
  exact loop (b + 1) _ _ _ _ rfl rfl ha hb rfl (by omega)
set_option maxRecDepth 20000 in
theorem m_type_bad {I : II} {J : JJ} {G : II} {x : Int32} (hx : notIn x 256) : AMet SM mX7_type [.ref 0, .int x] I J G (PE (some (.int (-nI 1))) I J G) := by
  refine amet_en oX7_type rfl rfl (L := [some (.ref 0), some (.int x)]) rfl ?_
  refine aw_run oX7_type smOk 3 (pc' := 5) (L' := [some (.ref 0), some (.int x)]) (st' := [.int (nI 255), .int (nI 0), .int x]) (I' := I) (J' := J) (G' := G) rfl ?_
  refine aw_cS (st := []) [.int x, .int (nI 0), .int (nI 255)] oX7_in k7_60 rfl rfl rfl rfl rfl (oX7_type.dec rfl) (m_inF (notIn_in0 hx (by decide) (by decide))) ?_
  refine aw_eqS (st := [.int (nI 0)]) rfl ?_
  refine aw_0neN rfl (by omega) (oX7_type.dec rfl) (tgt := 13) rfl (fun h8 => absurd h8 (by omega)) (fun h8 => ?_)
  refine aw_run oX7_type smOk 1 (pc' := 12) (L' := [some (.ref 0), some (.int x)]) (st' := [.int (-nI 1)]) (I' := I) (J' := J) (G' := G) rfl ?_
  exact aw_iret rfl (oX7_type.dec rfl) pe_rfl
set_option maxRecDepth 20000 in
theorem m_type_full {I : II} {J : JJ} {G : II} {n : Nat} (hn : I 0 2 = nI n) (hn180 : n ≤ 180) {c : Nat} (hc : c < 256) (h180 : n = 180) : AMet SM mX7_type [.ref 0, .int (nI c)] I J G (PE (some (.int (-nI 3))) I J G) := by
  refine amet_en oX7_type rfl rfl (L := [some (.ref 0), some (.int (nI c))]) rfl ?_
  refine aw_run oX7_type smOk 3 (pc' := 5) (L' := [some (.ref 0), some (.int (nI c))]) (st' := [.int (nI 255), .int (nI 0), .int (nI c)]) (I' := I) (J' := J) (G' := G) rfl ?_
  refine aw_cS (st := []) [.int (nI c), .int (nI 0), .int (nI 255)] oX7_in k7_60 rfl rfl rfl rfl rfl (oX7_type.dec rfl) (m_inN (by omega) (by omega) (by omega)) ?_
  refine aw_eqS (st := [.int (b1 (decide (0 ≤ c ∧ c ≤ 255)))]) rfl ?_
  refine aw_0neD (oX7_type.dec rfl) (tgt := 13) rfl (fun h8 => ?_) (fun h8 => absurd h8 (by omega))
  refine aw_run oX7_type smOk 3 (pc' := 20) (L' := [some (.ref 0), some (.int (nI c))]) (st' := [.int (nI 180), .int (I 0 2)]) (I' := I) (J' := J) (G' := G) rfl ?_
  refine aw_neN hn rfl (by omega) (by omega) (oX7_type.dec rfl) (tgt := 26) rfl (fun h20 => absurd h20 (by omega)) (fun h20 => ?_)
  refine aw_run oX7_type smOk 1 (pc' := 25) (L' := [some (.ref 0), some (.int (nI c))]) (st' := [.int (-nI 3)]) (I' := I) (J' := J) (G' := G) rfl ?_
  exact aw_iret rfl (oX7_type.dec rfl) pe_rfl
set_option maxRecDepth 20000 in
theorem m_type_ok {I : II} {J : JJ} {G : II} {n : Nat} (hn : I 0 2 = nI n) (hn180 : n ≤ 180) {c : Nat} (hc : c < 256) (h180 : n < 180) : AMet SM mX7_type [.ref 0, .int (nI c)] I J G (PE (some (.int ((I 0 2) + (nI 1)))) (up2 I 0 2 ((I 0 2) + (nI 1))) J (va_up G 1 (upd (G 1) n (vp_nar .byte ((nI c).toInt8.toInt32))))) := by
  refine amet_en oX7_type rfl rfl (L := [some (.ref 0), some (.int (nI c))]) rfl ?_
  refine aw_run oX7_type smOk 3 (pc' := 5) (L' := [some (.ref 0), some (.int (nI c))]) (st' := [.int (nI 255), .int (nI 0), .int (nI c)]) (I' := I) (J' := J) (G' := G) rfl ?_
  refine aw_cS (st := []) [.int (nI c), .int (nI 0), .int (nI 255)] oX7_in k7_60 rfl rfl rfl rfl rfl (oX7_type.dec rfl) (m_inN (by omega) (by omega) (by omega)) ?_
  refine aw_eqS (st := [.int (b1 (decide (0 ≤ c ∧ c ≤ 255)))]) rfl ?_
  refine aw_0neD (oX7_type.dec rfl) (tgt := 13) rfl (fun h8 => ?_) (fun h8 => absurd h8 (by omega))
  refine aw_run oX7_type smOk 3 (pc' := 20) (L' := [some (.ref 0), some (.int (nI c))]) (st' := [.int (nI 180), .int (I 0 2)]) (I' := I) (J' := J) (G' := G) rfl ?_
  refine aw_neN hn rfl (by omega) (by omega) (oX7_type.dec rfl) (tgt := 26) rfl (fun h20 => ?_) (fun h20 => absurd h20 (by omega))
  refine aw_run oX7_type smOk 6 (pc' := 36) (L' := [some (.ref 0), some (.int (nI c))]) (st' := [.int ((nI c).toInt8.toInt32), .int (I 0 2), .ref 1]) (I' := I) (J' := J) (G' := G) rfl ?_
  refine aw_bsN n smOk rfl hn (by omega) (oX7_type.dec rfl) ?_
  refine aw_eqG (G' := va_up G 1 (upd (G 1) n (vp_nar .byte ((nI c).toInt8.toInt32)))) (rfl) ?_
  refine aw_run oX7_type smOk 8 (pc' := 51) (L' := [some (.ref 0), some (.int (nI c))]) (st' := [.int ((I 0 2) + (nI 1))]) (I' := up2 I 0 2 ((I 0 2) + (nI 1))) (J' := J) (G' := va_up G 1 (upd (G 1) n (vp_nar .byte ((nI c).toInt8.toInt32)))) rfl ?_
  exact aw_iret rfl (oX7_type.dec rfl) pe_rfl
set_option maxRecDepth 20000 in
theorem m_clear {I : II} {J : JJ} {G : II}  : AMet SM mX7_clear [.ref 0] I J G (PE (some (.int (I 0 2))) (up2 I 0 2 (nI 0)) J G) := by
  refine amet_en oX7_clear rfl rfl (L := [some (.ref 0), none]) rfl ?_
  refine aw_run oX7_clear smOk 7 (pc' := 11) (L' := [some (.ref 0), some (.int (I 0 2))]) (st' := [.int (I 0 2)]) (I' := up2 I 0 2 (nI 0)) (J' := J) (G' := G) rfl ?_
  exact aw_iret rfl (oX7_clear.dec rfl) pe_rfl
set_option maxRecDepth 20000 in
theorem m_week_bad {I : II} {J : JJ} {G : II} {Wk : Nat} (hW : G 2 0 = nI Wk) (hWk : Wk ≤ 12) {x y : Int32} (hx : notIn x Wk) : AMet SM mX7_week [.ref 0, .int x, .int y] I J G (PE (some (.int (-nI 1))) I J G) := by
  refine amet_en oX7_week rfl rfl (L := [some (.ref 0), some (.int x), some (.int y)]) rfl ?_
  refine aw_run oX7_week smOk 2 (pc' := 2) (L' := [some (.ref 0), some (.int x), some (.int y)]) (st' := [.int x, .ref 0]) (I' := I) (J' := J) (G' := G) rfl ?_
  refine aw_cV (st := []) 0 [.int x] oX7_isWeek k7_114 rfl rfl rfl rfl rfl rfl rfl rfl (oX7_week.dec rfl) (m_isWeek_f hW (by omega) (by assumption)) ?_
  refine aw_eqS (st := [.int (nI 0)]) rfl ?_
  refine aw_0eqN rfl (by omega) (oX7_week.dec rfl) (tgt := 17) rfl (fun h5 => ?_) (fun h5 => absurd h5 (by omega))
  refine aw_run oX7_week smOk 1 (pc' := 18) (L' := [some (.ref 0), some (.int x), some (.int y)]) (st' := [.int (-nI 1)]) (I' := I) (J' := J) (G' := G) rfl ?_
  exact aw_iret rfl (oX7_week.dec rfl) pe_rfl
set_option maxRecDepth 20000 in
theorem m_week_bad2 {I : II} {J : JJ} {G : II} {Wk : Nat} (hW : G 2 0 = nI Wk) (hWk : Wk ≤ 12) {j : Nat} {x : Int32} (hj : j < Wk) (hx : notIn x 2) : AMet SM mX7_week [.ref 0, .int (nI j), .int x] I J G (PE (some (.int (-nI 1))) I J G) := by
  refine amet_en oX7_week rfl rfl (L := [some (.ref 0), some (.int (nI j)), some (.int x)]) rfl ?_
  refine aw_run oX7_week smOk 2 (pc' := 2) (L' := [some (.ref 0), some (.int (nI j)), some (.int x)]) (st' := [.int (nI j), .ref 0]) (I' := I) (J' := J) (G' := G) rfl ?_
  refine aw_cV (st := []) 0 [.int (nI j)] oX7_isWeek k7_114 rfl rfl rfl rfl rfl rfl rfl rfl (oX7_week.dec rfl) (m_isWeek_t hW (by omega) (by omega)) ?_
  refine aw_eqS (st := [.int (nI 1)]) rfl ?_
  refine aw_0eqN rfl (by omega) (oX7_week.dec rfl) (tgt := 17) rfl (fun h5 => absurd h5 (by omega)) (fun h5 => ?_)
  refine aw_run oX7_week smOk 3 (pc' := 11) (L' := [some (.ref 0), some (.int (nI j)), some (.int x)]) (st' := [.int (nI 1), .int (nI 0), .int x]) (I' := I) (J' := J) (G' := G) rfl ?_
  refine aw_cS (st := []) [.int x, .int (nI 0), .int (nI 1)] oX7_in k7_60 rfl rfl rfl rfl rfl (oX7_week.dec rfl) (m_inF (notIn_in0 hx (by decide) (by decide))) ?_
  refine aw_eqS (st := [.int (nI 0)]) rfl ?_
  refine aw_0neN rfl (by omega) (oX7_week.dec rfl) (tgt := 19) rfl (fun h14 => absurd h14 (by omega)) (fun h14 => ?_)
  refine aw_run oX7_week smOk 1 (pc' := 18) (L' := [some (.ref 0), some (.int (nI j)), some (.int x)]) (st' := [.int (-nI 1)]) (I' := I) (J' := J) (G' := G) rfl ?_
  exact aw_iret rfl (oX7_week.dec rfl) pe_rfl
set_option maxRecDepth 20000 in
theorem m_week_0 {I : II} {J : JJ} {G : II} {Wk : Nat} (hW : G 2 0 = nI Wk) (hWk : Wk ≤ 12) {j : Nat} (hj : j < Wk) : AMet SM mX7_week [.ref 0, .int (nI j), .int (nI 0)] I J G (PE (some (.int (G 3 j))) I J G) := by
  refine amet_en oX7_week rfl rfl (L := [some (.ref 0), some (.int (nI j)), some (.int (nI 0))]) rfl ?_
  refine aw_run oX7_week smOk 2 (pc' := 2) (L' := [some (.ref 0), some (.int (nI j)), some (.int (nI 0))]) (st' := [.int (nI j), .ref 0]) (I' := I) (J' := J) (G' := G) rfl ?_
  refine aw_cV (st := []) 0 [.int (nI j)] oX7_isWeek k7_114 rfl rfl rfl rfl rfl rfl rfl rfl (oX7_week.dec rfl) (m_isWeek_t hW (by omega) (by omega)) ?_
  refine aw_eqS (st := [.int (nI 1)]) rfl ?_
  refine aw_0eqN rfl (by omega) (oX7_week.dec rfl) (tgt := 17) rfl (fun h5 => absurd h5 (by omega)) (fun h5 => ?_)
  refine aw_run oX7_week smOk 3 (pc' := 11) (L' := [some (.ref 0), some (.int (nI j)), some (.int (nI 0))]) (st' := [.int (nI 1), .int (nI 0), .int (nI 0)]) (I' := I) (J' := J) (G' := G) rfl ?_
  refine aw_cS (st := []) [.int (nI 0), .int (nI 0), .int (nI 1)] oX7_in k7_60 rfl rfl rfl rfl rfl (oX7_week.dec rfl) (m_inN (by omega) (by omega) (by omega)) ?_
  refine aw_eqS (st := [.int (b1 (decide (0 ≤ 0 ∧ 0 ≤ 1)))]) rfl ?_
  refine aw_0neD (oX7_week.dec rfl) (tgt := 19) rfl (fun h14 => ?_) (fun h14 => absurd h14 (by omega))
  refine aw_run oX7_week smOk 1 (pc' := 20) (L' := [some (.ref 0), some (.int (nI j)), some (.int (nI 0))]) (st' := [.int (nI 0)]) (I' := I) (J' := J) (G' := G) rfl ?_
  refine aw_0neN rfl (by omega) (oX7_week.dec rfl) (tgt := 32) rfl (fun h20 => absurd h20 (by omega)) (fun h20 => ?_)
  refine aw_run oX7_week smOk 3 (pc' := 28) (L' := [some (.ref 0), some (.int (nI j)), some (.int (nI 0))]) (st' := [.int (nI j), .ref 3]) (I' := I) (J' := J) (G' := G) rfl ?_
  refine aw_iaN j smOk rfl rfl (by omega) (oX7_week.dec rfl) ?_
  refine aw_run oX7_week smOk 1 (pc' := 38) (L' := [some (.ref 0), some (.int (nI j)), some (.int (nI 0))]) (st' := [.int (G 3 j)]) (I' := I) (J' := J) (G' := G) rfl ?_
  exact aw_iret rfl (oX7_week.dec rfl) pe_rfl
set_option maxRecDepth 20000 in
theorem m_week_1 {I : II} {J : JJ} {G : II} {Wk : Nat} (hW : G 2 0 = nI Wk) (hWk : Wk ≤ 12) {j : Nat} (hj : j < Wk) : AMet SM mX7_week [.ref 0, .int (nI j), .int (nI 1)] I J G (PE (some (.int (G 4 j))) I J G) := by
  refine amet_en oX7_week rfl rfl (L := [some (.ref 0), some (.int (nI j)), some (.int (nI 1))]) rfl ?_
  refine aw_run oX7_week smOk 2 (pc' := 2) (L' := [some (.ref 0), some (.int (nI j)), some (.int (nI 1))]) (st' := [.int (nI j), .ref 0]) (I' := I) (J' := J) (G' := G) rfl ?_
  refine aw_cV (st := []) 0 [.int (nI j)] oX7_isWeek k7_114 rfl rfl rfl rfl rfl rfl rfl rfl (oX7_week.dec rfl) (m_isWeek_t hW (by omega) (by omega)) ?_
  refine aw_eqS (st := [.int (nI 1)]) rfl ?_
  refine aw_0eqN rfl (by omega) (oX7_week.dec rfl) (tgt := 17) rfl (fun h5 => absurd h5 (by omega)) (fun h5 => ?_)
  refine aw_run oX7_week smOk 3 (pc' := 11) (L' := [some (.ref 0), some (.int (nI j)), some (.int (nI 1))]) (st' := [.int (nI 1), .int (nI 0), .int (nI 1)]) (I' := I) (J' := J) (G' := G) rfl ?_
  refine aw_cS (st := []) [.int (nI 1), .int (nI 0), .int (nI 1)] oX7_in k7_60 rfl rfl rfl rfl rfl (oX7_week.dec rfl) (m_inN (by omega) (by omega) (by omega)) ?_
  refine aw_eqS (st := [.int (b1 (decide (0 ≤ 1 ∧ 1 ≤ 1)))]) rfl ?_
  refine aw_0neD (oX7_week.dec rfl) (tgt := 19) rfl (fun h14 => ?_) (fun h14 => absurd h14 (by omega))
  refine aw_run oX7_week smOk 1 (pc' := 20) (L' := [some (.ref 0), some (.int (nI j)), some (.int (nI 1))]) (st' := [.int (nI 1)]) (I' := I) (J' := J) (G' := G) rfl ?_
  refine aw_0neN rfl (by omega) (oX7_week.dec rfl) (tgt := 32) rfl (fun h20 => ?_) (fun h20 => absurd h20 (by omega))
  refine aw_run oX7_week smOk 3 (pc' := 37) (L' := [some (.ref 0), some (.int (nI j)), some (.int (nI 1))]) (st' := [.int (nI j), .ref 4]) (I' := I) (J' := J) (G' := G) rfl ?_
  refine aw_iaN j smOk rfl rfl (by omega) (oX7_week.dec rfl) ?_
  exact aw_iret rfl (oX7_week.dec rfl) pe_rfl
set_option maxRecDepth 20000 in
theorem m_ship_bad {I : II} {J : JJ} {G : II} {P : Nat} (hP : G 5 0 = nI P) (hP5 : P ≤ 5) {x y : Int32} (hx : notIn x P) : AMet SM mX7_ship [.ref 0, .int x, .int y] I J G (PE (some (.int (-nI 1))) I J G) := by
  refine amet_en oX7_ship rfl rfl (L := [some (.ref 0), some (.int x), some (.int y)]) rfl ?_
  refine aw_run oX7_ship smOk 2 (pc' := 2) (L' := [some (.ref 0), some (.int x), some (.int y)]) (st' := [.int x, .ref 0]) (I' := I) (J' := J) (G' := G) rfl ?_
  refine aw_cV (st := []) 0 [.int x] oX7_isShip k7_117 rfl rfl rfl rfl rfl rfl rfl rfl (oX7_ship.dec rfl) (m_isShip_f hP (by omega) (by assumption)) ?_
  refine aw_eqS (st := [.int (nI 0)]) rfl ?_
  refine aw_0neN rfl (by omega) (oX7_ship.dec rfl) (tgt := 10) rfl (fun h5 => absurd h5 (by omega)) (fun h5 => ?_)
  refine aw_run oX7_ship smOk 1 (pc' := 9) (L' := [some (.ref 0), some (.int x), some (.int y)]) (st' := [.int (-nI 1)]) (I' := I) (J' := J) (G' := G) rfl ?_
  exact aw_iret rfl (oX7_ship.dec rfl) pe_rfl
set_option maxRecDepth 20000 in
theorem m_ship_bad2 {I : II} {J : JJ} {G : II} {P : Nat} (hP : G 5 0 = nI P) (hP5 : P ≤ 5) {j : Nat} {x : Int32} (hj : j < P) (hx : notIn x 5) : AMet SM mX7_ship [.ref 0, .int (nI j), .int x] I J G (PE (some (.int (-nI 1))) I J G) := by
  refine amet_en oX7_ship rfl rfl (L := [some (.ref 0), some (.int (nI j)), some (.int x)]) rfl ?_
  refine aw_run oX7_ship smOk 2 (pc' := 2) (L' := [some (.ref 0), some (.int (nI j)), some (.int x)]) (st' := [.int (nI j), .ref 0]) (I' := I) (J' := J) (G' := G) rfl ?_
  refine aw_cV (st := []) 0 [.int (nI j)] oX7_isShip k7_117 rfl rfl rfl rfl rfl rfl rfl rfl (oX7_ship.dec rfl) (m_isShip_t hP (by omega) (by omega)) ?_
  refine aw_eqS (st := [.int (nI 1)]) rfl ?_
  refine aw_0neN rfl (by omega) (oX7_ship.dec rfl) (tgt := 10) rfl (fun h5 => ?_) (fun h5 => absurd h5 (by omega))
  refine aw_run oX7_ship smOk 1 (pc' := 11) (L' := [some (.ref 0), some (.int (nI j)), some (.int x)]) (st' := [.int x]) (I' := I) (J' := J) (G' := G) rfl ?_
  refine aw_tableOut (x := x) (oX7_ship.dec rfl) (notIn_tab hx (by decide)) (tgt := 87) rfl ?_
  refine aw_run oX7_ship smOk 1 (pc' := 88) (L' := [some (.ref 0), some (.int (nI j)), some (.int x)]) (st' := [.int (-nI 1)]) (I' := I) (J' := J) (G' := G) rfl ?_
  exact aw_iret rfl (oX7_ship.dec rfl) pe_rfl
set_option maxRecDepth 20000 in
theorem m_ship_0 {I : II} {J : JJ} {G : II} {P : Nat} (hP : G 5 0 = nI P) (hP5 : P ≤ 5) {j : Nat} (hj : j < P) : AMet SM mX7_ship [.ref 0, .int (nI j), .int (nI 0)] I J G (PE (some (.int (G 11 (8 + j)))) I J G) := by
  refine amet_en oX7_ship rfl rfl (L := [some (.ref 0), some (.int (nI j)), some (.int (nI 0))]) rfl ?_
  refine aw_run oX7_ship smOk 2 (pc' := 2) (L' := [some (.ref 0), some (.int (nI j)), some (.int (nI 0))]) (st' := [.int (nI j), .ref 0]) (I' := I) (J' := J) (G' := G) rfl ?_
  refine aw_cV (st := []) 0 [.int (nI j)] oX7_isShip k7_117 rfl rfl rfl rfl rfl rfl rfl rfl (oX7_ship.dec rfl) (m_isShip_t hP (by omega) (by omega)) ?_
  refine aw_eqS (st := [.int (nI 1)]) rfl ?_
  refine aw_0neN rfl (by omega) (oX7_ship.dec rfl) (tgt := 10) rfl (fun h5 => ?_) (fun h5 => absurd h5 (by omega))
  refine aw_run oX7_ship smOk 1 (pc' := 11) (L' := [some (.ref 0), some (.int (nI j)), some (.int (nI 0))]) (st' := [.int (nI 0)]) (I' := I) (J' := J) (G' := G) rfl ?_
  refine aw_tableIn (x := nI 0) (oX7_ship.dec rfl) (by decide) (by decide) (off := 33) (by decide) (tgt := 44) rfl ?_
  refine aw_run oX7_ship smOk 5 (pc' := 52) (L' := [some (.ref 0), some (.int (nI j)), some (.int (nI 0))]) (st' := [.int ((nI 8) + (nI j)), .ref 11]) (I' := I) (J' := J) (G' := G) rfl ?_
  refine aw_iaN (8 + j) smOk rfl (addN rfl rfl) (by omega) (oX7_ship.dec rfl) ?_
  exact aw_iret rfl (oX7_ship.dec rfl) pe_rfl
set_option maxRecDepth 20000 in
theorem m_ship_1 {I : II} {J : JJ} {G : II} {P : Nat} (hP : G 5 0 = nI P) (hP5 : P ≤ 5) {j : Nat} (hj : j < P) : AMet SM mX7_ship [.ref 0, .int (nI j), .int (nI 1)] I J G (PE (some (.int (G 11 (13 + j)))) I J G) := by
  refine amet_en oX7_ship rfl rfl (L := [some (.ref 0), some (.int (nI j)), some (.int (nI 1))]) rfl ?_
  refine aw_run oX7_ship smOk 2 (pc' := 2) (L' := [some (.ref 0), some (.int (nI j)), some (.int (nI 1))]) (st' := [.int (nI j), .ref 0]) (I' := I) (J' := J) (G' := G) rfl ?_
  refine aw_cV (st := []) 0 [.int (nI j)] oX7_isShip k7_117 rfl rfl rfl rfl rfl rfl rfl rfl (oX7_ship.dec rfl) (m_isShip_t hP (by omega) (by omega)) ?_
  refine aw_eqS (st := [.int (nI 1)]) rfl ?_
  refine aw_0neN rfl (by omega) (oX7_ship.dec rfl) (tgt := 10) rfl (fun h5 => ?_) (fun h5 => absurd h5 (by omega))
  refine aw_run oX7_ship smOk 1 (pc' := 11) (L' := [some (.ref 0), some (.int (nI j)), some (.int (nI 1))]) (st' := [.int (nI 1)]) (I' := I) (J' := J) (G' := G) rfl ?_
  refine aw_tableIn (x := nI 1) (oX7_ship.dec rfl) (by decide) (by decide) (off := 43) (by decide) (tgt := 54) rfl ?_
  refine aw_run oX7_ship smOk 5 (pc' := 62) (L' := [some (.ref 0), some (.int (nI j)), some (.int (nI 1))]) (st' := [.int ((nI 13) + (nI j)), .ref 11]) (I' := I) (J' := J) (G' := G) rfl ?_
  refine aw_iaN (13 + j) smOk rfl (addN rfl rfl) (by omega) (oX7_ship.dec rfl) ?_
  exact aw_iret rfl (oX7_ship.dec rfl) pe_rfl
set_option maxRecDepth 20000 in
theorem m_ship_2 {I : II} {J : JJ} {G : II} {P : Nat} (hP : G 5 0 = nI P) (hP5 : P ≤ 5) {j : Nat} (hj : j < P) : AMet SM mX7_ship [.ref 0, .int (nI j), .int (nI 2)] I J G (PE (some (.int (G 8 j))) I J G) := by
  refine amet_en oX7_ship rfl rfl (L := [some (.ref 0), some (.int (nI j)), some (.int (nI 2))]) rfl ?_
  refine aw_run oX7_ship smOk 2 (pc' := 2) (L' := [some (.ref 0), some (.int (nI j)), some (.int (nI 2))]) (st' := [.int (nI j), .ref 0]) (I' := I) (J' := J) (G' := G) rfl ?_
  refine aw_cV (st := []) 0 [.int (nI j)] oX7_isShip k7_117 rfl rfl rfl rfl rfl rfl rfl rfl (oX7_ship.dec rfl) (m_isShip_t hP (by omega) (by omega)) ?_
  refine aw_eqS (st := [.int (nI 1)]) rfl ?_
  refine aw_0neN rfl (by omega) (oX7_ship.dec rfl) (tgt := 10) rfl (fun h5 => ?_) (fun h5 => absurd h5 (by omega))
  refine aw_run oX7_ship smOk 1 (pc' := 11) (L' := [some (.ref 0), some (.int (nI j)), some (.int (nI 2))]) (st' := [.int (nI 2)]) (I' := I) (J' := J) (G' := G) rfl ?_
  refine aw_tableIn (x := nI 2) (oX7_ship.dec rfl) (by decide) (by decide) (off := 53) (by decide) (tgt := 64) rfl ?_
  refine aw_run oX7_ship smOk 3 (pc' := 69) (L' := [some (.ref 0), some (.int (nI j)), some (.int (nI 2))]) (st' := [.int (nI j), .ref 8]) (I' := I) (J' := J) (G' := G) rfl ?_
  refine aw_iaN j smOk rfl rfl (by omega) (oX7_ship.dec rfl) ?_
  exact aw_iret rfl (oX7_ship.dec rfl) pe_rfl
set_option maxRecDepth 20000 in
theorem m_ship_3 {I : II} {J : JJ} {G : II} {P : Nat} (hP : G 5 0 = nI P) (hP5 : P ≤ 5) {j : Nat} (hj : j < P) : AMet SM mX7_ship [.ref 0, .int (nI j), .int (nI 3)] I J G (PE (some (.int (G 9 j))) I J G) := by
  refine amet_en oX7_ship rfl rfl (L := [some (.ref 0), some (.int (nI j)), some (.int (nI 3))]) rfl ?_
  refine aw_run oX7_ship smOk 2 (pc' := 2) (L' := [some (.ref 0), some (.int (nI j)), some (.int (nI 3))]) (st' := [.int (nI j), .ref 0]) (I' := I) (J' := J) (G' := G) rfl ?_
  refine aw_cV (st := []) 0 [.int (nI j)] oX7_isShip k7_117 rfl rfl rfl rfl rfl rfl rfl rfl (oX7_ship.dec rfl) (m_isShip_t hP (by omega) (by omega)) ?_
  refine aw_eqS (st := [.int (nI 1)]) rfl ?_
  refine aw_0neN rfl (by omega) (oX7_ship.dec rfl) (tgt := 10) rfl (fun h5 => ?_) (fun h5 => absurd h5 (by omega))
  refine aw_run oX7_ship smOk 1 (pc' := 11) (L' := [some (.ref 0), some (.int (nI j)), some (.int (nI 3))]) (st' := [.int (nI 3)]) (I' := I) (J' := J) (G' := G) rfl ?_
  refine aw_tableIn (x := nI 3) (oX7_ship.dec rfl) (by decide) (by decide) (off := 60) (by decide) (tgt := 71) rfl ?_
  refine aw_run oX7_ship smOk 3 (pc' := 76) (L' := [some (.ref 0), some (.int (nI j)), some (.int (nI 3))]) (st' := [.int (nI j), .ref 9]) (I' := I) (J' := J) (G' := G) rfl ?_
  refine aw_iaN j smOk rfl rfl (by omega) (oX7_ship.dec rfl) ?_
  exact aw_iret rfl (oX7_ship.dec rfl) pe_rfl
set_option maxRecDepth 20000 in
theorem m_ship_4 {I : II} {J : JJ} {G : II} {P : Nat} (hP : G 5 0 = nI P) (hP5 : P ≤ 5) {j : Nat} (hj : j < P) : AMet SM mX7_ship [.ref 0, .int (nI j), .int (nI 4)] I J G (PE (some (.int (G 11 (3 + j)))) I J G) := by
  refine amet_en oX7_ship rfl rfl (L := [some (.ref 0), some (.int (nI j)), some (.int (nI 4))]) rfl ?_
  refine aw_run oX7_ship smOk 2 (pc' := 2) (L' := [some (.ref 0), some (.int (nI j)), some (.int (nI 4))]) (st' := [.int (nI j), .ref 0]) (I' := I) (J' := J) (G' := G) rfl ?_
  refine aw_cV (st := []) 0 [.int (nI j)] oX7_isShip k7_117 rfl rfl rfl rfl rfl rfl rfl rfl (oX7_ship.dec rfl) (m_isShip_t hP (by omega) (by omega)) ?_
  refine aw_eqS (st := [.int (nI 1)]) rfl ?_
  refine aw_0neN rfl (by omega) (oX7_ship.dec rfl) (tgt := 10) rfl (fun h5 => ?_) (fun h5 => absurd h5 (by omega))
  refine aw_run oX7_ship smOk 1 (pc' := 11) (L' := [some (.ref 0), some (.int (nI j)), some (.int (nI 4))]) (st' := [.int (nI 4)]) (I' := I) (J' := J) (G' := G) rfl ?_
  refine aw_tableIn (x := nI 4) (oX7_ship.dec rfl) (by decide) (by decide) (off := 67) (by decide) (tgt := 78) rfl ?_
  refine aw_run oX7_ship smOk 5 (pc' := 85) (L' := [some (.ref 0), some (.int (nI j)), some (.int (nI 4))]) (st' := [.int ((nI 3) + (nI j)), .ref 11]) (I' := I) (J' := J) (G' := G) rfl ?_
  refine aw_iaN (3 + j) smOk rfl (addN rfl rfl) (by omega) (oX7_ship.dec rfl) ?_
  exact aw_iret rfl (oX7_ship.dec rfl) pe_rfl
set_option maxRecDepth 20000 in
theorem m_waits_over {I : II} {J : JJ} {G : II} {Wk : Nat} (hW : G 2 0 = nI Wk) (hWk : Wk ≤ 12) {t : Nat} (ht : G 11 0 = nI t) (ht12 : t ≤ 12) (htW : t ≤ Wk) (ho : Wk ≤ t) : AMet SM mX7_waits [.ref 0] I J G (PE (some (.int (-nI 2))) I J G) := by
  refine amet_en oX7_waits rfl rfl (L := [some (.ref 0)]) rfl ?_
  refine aw_run oX7_waits smOk 1 (pc' := 1) (L' := [some (.ref 0)]) (st' := [.ref 0]) (I' := I) (J' := J) (G' := G) rfl ?_
  refine aw_cV (st := []) 0 [] oX7_isOver k7_120 rfl rfl rfl rfl rfl rfl rfl rfl (oX7_waits.dec rfl) (m_isOver hW (by omega) ht (by omega) (by omega)) ?_
  refine aw_eqS (st := [.int (b1 (decide (Wk ≤ t)))]) rfl ?_
  refine aw_0eqD (oX7_waits.dec rfl) (tgt := 10) rfl (fun h4 => absurd h4 (by omega)) (fun h4 => ?_)
  refine aw_run oX7_waits smOk 1 (pc' := 9) (L' := [some (.ref 0)]) (st' := [.int (-nI 2)]) (I' := I) (J' := J) (G' := G) rfl ?_
  exact aw_iret rfl (oX7_waits.dec rfl) pe_rfl
set_option maxRecDepth 20000 in
theorem m_waits_ok {I : II} {J : JJ} {G : II} {Wk : Nat} (hW : G 2 0 = nI Wk) (hWk : Wk ≤ 12) {t : Nat} (ht : G 11 0 = nI t) (ht12 : t ≤ 12) (htW : t ≤ Wk) {K : Nat} (hK : G 11 18 = nI K) (hK10 : K ≤ 10) (ho : t < Wk) : AMet SM mX7_waits [.ref 0] I J G (PE (some (.int ((upd (knF (G 11) K) 0 (((knF (G 11) K) 0) + (nI 1))) 0))) I J (va_up G 11 (upd (knF (G 11) K) 0 (((knF (G 11) K) 0) + (nI 1))))) := by
  refine amet_en oX7_waits rfl rfl (L := [some (.ref 0)]) rfl ?_
  refine aw_run oX7_waits smOk 1 (pc' := 1) (L' := [some (.ref 0)]) (st' := [.ref 0]) (I' := I) (J' := J) (G' := G) rfl ?_
  refine aw_cV (st := []) 0 [] oX7_isOver k7_120 rfl rfl rfl rfl rfl rfl rfl rfl (oX7_waits.dec rfl) (m_isOver hW (by omega) ht (by omega) (by omega)) ?_
  refine aw_eqS (st := [.int (b1 (decide (Wk ≤ t)))]) rfl ?_
  refine aw_0eqD (oX7_waits.dec rfl) (tgt := 10) rfl (fun h4 => ?_) (fun h4 => absurd h4 (by omega))
  refine aw_run oX7_waits smOk 1 (pc' := 11) (L' := [some (.ref 0)]) (st' := [.ref 0]) (I' := I) (J' := J) (G' := G) rfl ?_
  refine aw_cV (st := []) 0 [] oX7_know k7_124 rfl rfl rfl rfl rfl rfl rfl rfl (oX7_waits.dec rfl) (m_know hK (by omega)) ?_
  refine aw_eqG (G' := va_up G 11 (knF (G 11) K)) (rfl) ?_
  refine aw_eqS (st := []) rfl ?_
  refine aw_run oX7_waits smOk 4 (pc' := 20) (L' := [some (.ref 0)]) (st' := [.int (nI 0), .ref 11, .int (nI 0), .ref 11]) (I' := I) (J' := J) (G' := va_up G 11 (knF (G 11) K)) rfl ?_
  refine aw_iaN 0 smOk rfl rfl (by omega) (oX7_waits.dec rfl) ?_
  refine aw_eqS (st := [.int ((knF (G 11) K) 0), .int (nI 0), .ref 11]) rfl ?_
  refine aw_run oX7_waits smOk 2 (pc' := 23) (L' := [some (.ref 0)]) (st' := [.int (((knF (G 11) K) 0) + (nI 1)), .int (nI 0), .ref 11]) (I' := I) (J' := J) (G' := va_up G 11 (knF (G 11) K)) rfl ?_
  refine aw_isN 0 smOk rfl rfl (by omega) (oX7_waits.dec rfl) ?_
  refine aw_eqG (G' := va_up G 11 (upd (knF (G 11) K) 0 (((knF (G 11) K) 0) + (nI 1)))) (bx_uu _ _ _ _) ?_
  refine aw_run oX7_waits smOk 3 (pc' := 29) (L' := [some (.ref 0)]) (st' := [.int (nI 0), .ref 11]) (I' := I) (J' := J) (G' := va_up G 11 (upd (knF (G 11) K) 0 (((knF (G 11) K) 0) + (nI 1)))) rfl ?_
  refine aw_iaN 0 smOk rfl rfl (by omega) (oX7_waits.dec rfl) ?_
  refine aw_eqS (st := [.int ((upd (knF (G 11) K) 0 (((knF (G 11) K) 0) + (nI 1))) 0)]) rfl ?_
  exact aw_iret rfl (oX7_waits.dec rfl) pe_rfl
set_option maxRecDepth 20000 in
theorem m_lists_badS {I : II} {J : JJ} {G : II} {P : Nat} (hP : G 5 0 = nI P) (hP5 : P ≤ 5) {x y : Int32} (hx : notIn x P) : AMet SM mX7_shift [.ref 0, .int x, .int y, .int (nI 13), .int (nI 8)] I J G (PE (some (.int (-nI 1))) I J G) := by
  refine amet_en oX7_shift rfl rfl (L := [some (.ref 0), some (.int x), some (.int y), some (.int (nI 13)), some (.int (nI 8))]) rfl ?_
  refine aw_run oX7_shift smOk 2 (pc' := 2) (L' := [some (.ref 0), some (.int x), some (.int y), some (.int (nI 13)), some (.int (nI 8))]) (st' := [.int x, .ref 0]) (I' := I) (J' := J) (G' := G) rfl ?_
  refine aw_cV (st := []) 0 [.int x] oX7_isShip k7_117 rfl rfl rfl rfl rfl rfl rfl rfl (oX7_shift.dec rfl) (m_isShip_f hP (by omega) (by assumption)) ?_
  refine aw_eqS (st := [.int (nI 0)]) rfl ?_
  refine aw_0eqN rfl (by omega) (oX7_shift.dec rfl) (tgt := 18) rfl (fun h5 => ?_) (fun h5 => absurd h5 (by omega))
  refine aw_run oX7_shift smOk 1 (pc' := 19) (L' := [some (.ref 0), some (.int x), some (.int y), some (.int (nI 13)), some (.int (nI 8))]) (st' := [.int (-nI 1)]) (I' := I) (J' := J) (G' := G) rfl ?_
  exact aw_iret rfl (oX7_shift.dec rfl) pe_rfl
set_option maxRecDepth 20000 in
theorem m_lists_bad {I : II} {J : JJ} {G : II} {P : Nat} (hP : G 5 0 = nI P) (hP5 : P ≤ 5) {x y : Int32} (hx : notIn x P) : AMet SM mX7_lists [.ref 0, .int x, .int y] I J G (PE (some (.int (-nI 1))) I J G) := by
  refine amet_en oX7_lists rfl rfl (L := [some (.ref 0), some (.int x), some (.int y)]) rfl ?_
  refine aw_run oX7_lists smOk 5 (pc' := 7) (L' := [some (.ref 0), some (.int x), some (.int y)]) (st' := [.int (nI 8), .int (nI 13), .int y, .int x, .ref 0]) (I' := I) (J' := J) (G' := G) rfl ?_
  refine aw_cV (st := []) 0 [.int x, .int y, .int (nI 13), .int (nI 8)] oX7_shift k7_150 rfl rfl rfl rfl rfl rfl rfl rfl (oX7_lists.dec rfl) (m_lists_badS hP hP5 hx) ?_
  refine aw_eqS (st := [.int (-nI 1)]) rfl ?_
  exact aw_iret rfl (oX7_lists.dec rfl) pe_rfl
set_option maxRecDepth 20000 in
theorem m_lists_bad0S {I : II} {J : JJ} {G : II} {P : Nat} (hP : G 5 0 = nI P) (hP5 : P ≤ 5) {s : Nat} (hs : s < P) : AMet SM mX7_shift [.ref 0, .int (nI s), .int (nI 0), .int (nI 13), .int (nI 8)] I J G (PE (some (.int (-nI 1))) I J G) := by
  refine amet_en oX7_shift rfl rfl (L := [some (.ref 0), some (.int (nI s)), some (.int (nI 0)), some (.int (nI 13)), some (.int (nI 8))]) rfl ?_
  refine aw_run oX7_shift smOk 2 (pc' := 2) (L' := [some (.ref 0), some (.int (nI s)), some (.int (nI 0)), some (.int (nI 13)), some (.int (nI 8))]) (st' := [.int (nI s), .ref 0]) (I' := I) (J' := J) (G' := G) rfl ?_
  refine aw_cV (st := []) 0 [.int (nI s)] oX7_isShip k7_117 rfl rfl rfl rfl rfl rfl rfl rfl (oX7_shift.dec rfl) (m_isShip_t hP (by omega) (by omega)) ?_
  refine aw_eqS (st := [.int (nI 1)]) rfl ?_
  refine aw_0eqN rfl (by omega) (oX7_shift.dec rfl) (tgt := 18) rfl (fun h5 => absurd h5 (by omega)) (fun h5 => ?_)
  refine aw_run oX7_shift smOk 3 (pc' := 12) (L' := [some (.ref 0), some (.int (nI s)), some (.int (nI 0)), some (.int (nI 13)), some (.int (nI 8))]) (st' := [.int (nI 60), .int (nI 1), .int (nI 0)]) (I' := I) (J' := J) (G' := G) rfl ?_
  refine aw_cS (st := []) [.int (nI 0), .int (nI 1), .int (nI 60)] oX7_in k7_60 rfl rfl rfl rfl rfl (oX7_shift.dec rfl) (m_inN (by omega) (by omega) (by omega)) ?_
  refine aw_eqS (st := [.int (b1 (decide (1 ≤ 0 ∧ 0 ≤ 60)))]) rfl ?_
  refine aw_0neD (oX7_shift.dec rfl) (tgt := 20) rfl (fun h15 => absurd h15 (by omega)) (fun h15 => ?_)
  refine aw_run oX7_shift smOk 1 (pc' := 19) (L' := [some (.ref 0), some (.int (nI s)), some (.int (nI 0)), some (.int (nI 13)), some (.int (nI 8))]) (st' := [.int (-nI 1)]) (I' := I) (J' := J) (G' := G) rfl ?_
  exact aw_iret rfl (oX7_shift.dec rfl) pe_rfl
set_option maxRecDepth 20000 in
theorem m_lists_bad0 {I : II} {J : JJ} {G : II} {P : Nat} (hP : G 5 0 = nI P) (hP5 : P ≤ 5) {s : Nat} (hs : s < P) : AMet SM mX7_lists [.ref 0, .int (nI s), .int (nI 0)] I J G (PE (some (.int (-nI 1))) I J G) := by
  refine amet_en oX7_lists rfl rfl (L := [some (.ref 0), some (.int (nI s)), some (.int (nI 0))]) rfl ?_
  refine aw_run oX7_lists smOk 5 (pc' := 7) (L' := [some (.ref 0), some (.int (nI s)), some (.int (nI 0))]) (st' := [.int (nI 8), .int (nI 13), .int (nI 0), .int (nI s), .ref 0]) (I' := I) (J' := J) (G' := G) rfl ?_
  refine aw_cV (st := []) 0 [.int (nI s), .int (nI 0), .int (nI 13), .int (nI 8)] oX7_shift k7_150 rfl rfl rfl rfl rfl rfl rfl rfl (oX7_lists.dec rfl) (m_lists_bad0S hP hP5 hs) ?_
  refine aw_eqS (st := [.int (-nI 1)]) rfl ?_
  exact aw_iret rfl (oX7_lists.dec rfl) pe_rfl
set_option maxRecDepth 20000 in
theorem m_lists_bad2S {I : II} {J : JJ} {G : II} {P : Nat} (hP : G 5 0 = nI P) (hP5 : P ≤ 5) {s : Nat} {x : Int32} (hs : s < P) (hx : notIn x 61) : AMet SM mX7_shift [.ref 0, .int (nI s), .int x, .int (nI 13), .int (nI 8)] I J G (PE (some (.int (-nI 1))) I J G) := by
  refine amet_en oX7_shift rfl rfl (L := [some (.ref 0), some (.int (nI s)), some (.int x), some (.int (nI 13)), some (.int (nI 8))]) rfl ?_
  refine aw_run oX7_shift smOk 2 (pc' := 2) (L' := [some (.ref 0), some (.int (nI s)), some (.int x), some (.int (nI 13)), some (.int (nI 8))]) (st' := [.int (nI s), .ref 0]) (I' := I) (J' := J) (G' := G) rfl ?_
  refine aw_cV (st := []) 0 [.int (nI s)] oX7_isShip k7_117 rfl rfl rfl rfl rfl rfl rfl rfl (oX7_shift.dec rfl) (m_isShip_t hP (by omega) (by omega)) ?_
  refine aw_eqS (st := [.int (nI 1)]) rfl ?_
  refine aw_0eqN rfl (by omega) (oX7_shift.dec rfl) (tgt := 18) rfl (fun h5 => absurd h5 (by omega)) (fun h5 => ?_)
  refine aw_run oX7_shift smOk 3 (pc' := 12) (L' := [some (.ref 0), some (.int (nI s)), some (.int x), some (.int (nI 13)), some (.int (nI 8))]) (st' := [.int (nI 60), .int (nI 1), .int x]) (I' := I) (J' := J) (G' := G) rfl ?_
  refine aw_cS (st := []) [.int x, .int (nI 1), .int (nI 60)] oX7_in k7_60 rfl rfl rfl rfl rfl (oX7_shift.dec rfl) (m_inF (notIn_in1 hx (by decide) (by decide))) ?_
  refine aw_eqS (st := [.int (nI 0)]) rfl ?_
  refine aw_0neN rfl (by omega) (oX7_shift.dec rfl) (tgt := 20) rfl (fun h15 => absurd h15 (by omega)) (fun h15 => ?_)
  refine aw_run oX7_shift smOk 1 (pc' := 19) (L' := [some (.ref 0), some (.int (nI s)), some (.int x), some (.int (nI 13)), some (.int (nI 8))]) (st' := [.int (-nI 1)]) (I' := I) (J' := J) (G' := G) rfl ?_
  exact aw_iret rfl (oX7_shift.dec rfl) pe_rfl
set_option maxRecDepth 20000 in
theorem m_lists_bad2 {I : II} {J : JJ} {G : II} {P : Nat} (hP : G 5 0 = nI P) (hP5 : P ≤ 5) {s : Nat} {x : Int32} (hs : s < P) (hx : notIn x 61) : AMet SM mX7_lists [.ref 0, .int (nI s), .int x] I J G (PE (some (.int (-nI 1))) I J G) := by
  refine amet_en oX7_lists rfl rfl (L := [some (.ref 0), some (.int (nI s)), some (.int x)]) rfl ?_
  refine aw_run oX7_lists smOk 5 (pc' := 7) (L' := [some (.ref 0), some (.int (nI s)), some (.int x)]) (st' := [.int (nI 8), .int (nI 13), .int x, .int (nI s), .ref 0]) (I' := I) (J' := J) (G' := G) rfl ?_
  refine aw_cV (st := []) 0 [.int (nI s), .int x, .int (nI 13), .int (nI 8)] oX7_shift k7_150 rfl rfl rfl rfl rfl rfl rfl rfl (oX7_lists.dec rfl) (m_lists_bad2S hP hP5 hs hx) ?_
  refine aw_eqS (st := [.int (-nI 1)]) rfl ?_
  exact aw_iret rfl (oX7_lists.dec rfl) pe_rfl
set_option maxRecDepth 20000 in
theorem m_lists_portS {I : II} {J : JJ} {G : II} {P : Nat} (hP : G 5 0 = nI P) (hP5 : P ≤ 5) {s k : Nat} (hs : s < P) (hk1 : 1 ≤ k) (hk : k ≤ 60) (hp : ¬ G 11 (3 + s) = nI 0) : AMet SM mX7_shift [.ref 0, .int (nI s), .int (nI k), .int (nI 13), .int (nI 8)] I J G (PE (some (.int (-nI 2))) I J G) := by
  refine amet_en oX7_shift rfl rfl (L := [some (.ref 0), some (.int (nI s)), some (.int (nI k)), some (.int (nI 13)), some (.int (nI 8))]) rfl ?_
  refine aw_run oX7_shift smOk 2 (pc' := 2) (L' := [some (.ref 0), some (.int (nI s)), some (.int (nI k)), some (.int (nI 13)), some (.int (nI 8))]) (st' := [.int (nI s), .ref 0]) (I' := I) (J' := J) (G' := G) rfl ?_
  refine aw_cV (st := []) 0 [.int (nI s)] oX7_isShip k7_117 rfl rfl rfl rfl rfl rfl rfl rfl (oX7_shift.dec rfl) (m_isShip_t hP (by omega) (by omega)) ?_
  refine aw_eqS (st := [.int (nI 1)]) rfl ?_
  refine aw_0eqN rfl (by omega) (oX7_shift.dec rfl) (tgt := 18) rfl (fun h5 => absurd h5 (by omega)) (fun h5 => ?_)
  refine aw_run oX7_shift smOk 3 (pc' := 12) (L' := [some (.ref 0), some (.int (nI s)), some (.int (nI k)), some (.int (nI 13)), some (.int (nI 8))]) (st' := [.int (nI 60), .int (nI 1), .int (nI k)]) (I' := I) (J' := J) (G' := G) rfl ?_
  refine aw_cS (st := []) [.int (nI k), .int (nI 1), .int (nI 60)] oX7_in k7_60 rfl rfl rfl rfl rfl (oX7_shift.dec rfl) (m_inN (by omega) (by omega) (by omega)) ?_
  refine aw_eqS (st := [.int (b1 (decide (1 ≤ k ∧ k ≤ 60)))]) rfl ?_
  refine aw_0neD (oX7_shift.dec rfl) (tgt := 20) rfl (fun h15 => ?_) (fun h15 => absurd h15 (by omega))
  refine aw_run oX7_shift smOk 5 (pc' := 27) (L' := [some (.ref 0), some (.int (nI s)), some (.int (nI k)), some (.int (nI 13)), some (.int (nI 8))]) (st' := [.int ((nI 3) + (nI s)), .ref 11]) (I' := I) (J' := J) (G' := G) rfl ?_
  refine aw_iaN (3 + s) smOk rfl (addN rfl rfl) (by omega) (oX7_shift.dec rfl) ?_
  refine aw_if_ne (oX7_shift.dec rfl) (tgt := 59) rfl (fun h28 => ?_) (fun h28 => by first | exact absurd h28 (by assumption) | exact absurd (by assumption) h28 | (exfalso; revert h28; decide) | simp_all)
  refine aw_run oX7_shift smOk 1 (pc' := 61) (L' := [some (.ref 0), some (.int (nI s)), some (.int (nI k)), some (.int (nI 13)), some (.int (nI 8))]) (st' := [.int (-nI 2)]) (I' := I) (J' := J) (G' := G) rfl ?_
  exact aw_iret rfl (oX7_shift.dec rfl) pe_rfl
set_option maxRecDepth 20000 in
theorem m_lists_port {I : II} {J : JJ} {G : II} {P : Nat} (hP : G 5 0 = nI P) (hP5 : P ≤ 5) {s k : Nat} (hs : s < P) (hk1 : 1 ≤ k) (hk : k ≤ 60) (hp : ¬ G 11 (3 + s) = nI 0) : AMet SM mX7_lists [.ref 0, .int (nI s), .int (nI k)] I J G (PE (some (.int (-nI 2))) I J G) := by
  refine amet_en oX7_lists rfl rfl (L := [some (.ref 0), some (.int (nI s)), some (.int (nI k))]) rfl ?_
  refine aw_run oX7_lists smOk 5 (pc' := 7) (L' := [some (.ref 0), some (.int (nI s)), some (.int (nI k))]) (st' := [.int (nI 8), .int (nI 13), .int (nI k), .int (nI s), .ref 0]) (I' := I) (J' := J) (G' := G) rfl ?_
  refine aw_cV (st := []) 0 [.int (nI s), .int (nI k), .int (nI 13), .int (nI 8)] oX7_shift k7_150 rfl rfl rfl rfl rfl rfl rfl rfl (oX7_lists.dec rfl) (m_lists_portS hP hP5 hs hk1 hk hp) ?_
  refine aw_eqS (st := [.int (-nI 2)]) rfl ?_
  exact aw_iret rfl (oX7_lists.dec rfl) pe_rfl
set_option maxRecDepth 20000 in
theorem m_lists_fewS {I : II} {J : JJ} {G : II} {P : Nat} (hP : G 5 0 = nI P) (hP5 : P ≤ 5) {s k : Nat} (hs : s < P) (hk1 : 1 ≤ k) (hk : k ≤ 60) (hp : G 11 (3 + s) = nI 0) {l h : Nat} (hl : G 11 (8 + s) = nI l) (hh : G 11 (13 + s) = nI h) (hl60 : l ≤ 60) (hh60 : h ≤ 60) (hf : h < k) : AMet SM mX7_shift [.ref 0, .int (nI s), .int (nI k), .int (nI 13), .int (nI 8)] I J G (PE (some (.int (-nI 2))) I J G) := by
  refine amet_en oX7_shift rfl rfl (L := [some (.ref 0), some (.int (nI s)), some (.int (nI k)), some (.int (nI 13)), some (.int (nI 8))]) rfl ?_
  refine aw_run oX7_shift smOk 2 (pc' := 2) (L' := [some (.ref 0), some (.int (nI s)), some (.int (nI k)), some (.int (nI 13)), some (.int (nI 8))]) (st' := [.int (nI s), .ref 0]) (I' := I) (J' := J) (G' := G) rfl ?_
  refine aw_cV (st := []) 0 [.int (nI s)] oX7_isShip k7_117 rfl rfl rfl rfl rfl rfl rfl rfl (oX7_shift.dec rfl) (m_isShip_t hP (by omega) (by omega)) ?_
  refine aw_eqS (st := [.int (nI 1)]) rfl ?_
  refine aw_0eqN rfl (by omega) (oX7_shift.dec rfl) (tgt := 18) rfl (fun h5 => absurd h5 (by omega)) (fun h5 => ?_)
  refine aw_run oX7_shift smOk 3 (pc' := 12) (L' := [some (.ref 0), some (.int (nI s)), some (.int (nI k)), some (.int (nI 13)), some (.int (nI 8))]) (st' := [.int (nI 60), .int (nI 1), .int (nI k)]) (I' := I) (J' := J) (G' := G) rfl ?_
  refine aw_cS (st := []) [.int (nI k), .int (nI 1), .int (nI 60)] oX7_in k7_60 rfl rfl rfl rfl rfl (oX7_shift.dec rfl) (m_inN (by omega) (by omega) (by omega)) ?_
  refine aw_eqS (st := [.int (b1 (decide (1 ≤ k ∧ k ≤ 60)))]) rfl ?_
  refine aw_0neD (oX7_shift.dec rfl) (tgt := 20) rfl (fun h15 => ?_) (fun h15 => absurd h15 (by omega))
  refine aw_run oX7_shift smOk 5 (pc' := 27) (L' := [some (.ref 0), some (.int (nI s)), some (.int (nI k)), some (.int (nI 13)), some (.int (nI 8))]) (st' := [.int ((nI 3) + (nI s)), .ref 11]) (I' := I) (J' := J) (G' := G) rfl ?_
  refine aw_iaN (3 + s) smOk rfl (addN rfl rfl) (by omega) (oX7_shift.dec rfl) ?_
  refine aw_if_ne (oX7_shift.dec rfl) (tgt := 59) rfl (fun h28 => by first | exact absurd h28 (by assumption) | exact absurd (by assumption) h28 | (exfalso; revert h28; decide) | simp_all) (fun h28 => ?_)
  refine aw_run oX7_shift smOk 5 (pc' := 38) (L' := [some (.ref 0), some (.int (nI s)), some (.int (nI k)), some (.int (nI 13)), some (.int (nI 8))]) (st' := [.int ((nI 13) + (nI s)), .ref 11]) (I' := I) (J' := J) (G' := G) rfl ?_
  refine aw_iaN (13 + s) smOk rfl (addN rfl rfl) (by omega) (oX7_shift.dec rfl) ?_
  refine aw_run oX7_shift smOk 1 (pc' := 40) (L' := [some (.ref 0), some (.int (nI s)), some (.int (nI k)), some (.int (nI 13)), some (.int (nI 8))]) (st' := [.int (nI k), .int (G 11 (13 + s))]) (I' := I) (J' := J) (G' := G) rfl ?_
  refine aw_ltN hh rfl (by omega) (by omega) (oX7_shift.dec rfl) (tgt := 59) rfl (fun h40 => ?_) (fun h40 => absurd h40 (by omega))
  refine aw_run oX7_shift smOk 1 (pc' := 61) (L' := [some (.ref 0), some (.int (nI s)), some (.int (nI k)), some (.int (nI 13)), some (.int (nI 8))]) (st' := [.int (-nI 2)]) (I' := I) (J' := J) (G' := G) rfl ?_
  exact aw_iret rfl (oX7_shift.dec rfl) pe_rfl
set_option maxRecDepth 20000 in
theorem m_lists_few {I : II} {J : JJ} {G : II} {P : Nat} (hP : G 5 0 = nI P) (hP5 : P ≤ 5) {s k : Nat} (hs : s < P) (hk1 : 1 ≤ k) (hk : k ≤ 60) (hp : G 11 (3 + s) = nI 0) {l h : Nat} (hl : G 11 (8 + s) = nI l) (hh : G 11 (13 + s) = nI h) (hl60 : l ≤ 60) (hh60 : h ≤ 60) (hf : h < k) : AMet SM mX7_lists [.ref 0, .int (nI s), .int (nI k)] I J G (PE (some (.int (-nI 2))) I J G) := by
  refine amet_en oX7_lists rfl rfl (L := [some (.ref 0), some (.int (nI s)), some (.int (nI k))]) rfl ?_
  refine aw_run oX7_lists smOk 5 (pc' := 7) (L' := [some (.ref 0), some (.int (nI s)), some (.int (nI k))]) (st' := [.int (nI 8), .int (nI 13), .int (nI k), .int (nI s), .ref 0]) (I' := I) (J' := J) (G' := G) rfl ?_
  refine aw_cV (st := []) 0 [.int (nI s), .int (nI k), .int (nI 13), .int (nI 8)] oX7_shift k7_150 rfl rfl rfl rfl rfl rfl rfl rfl (oX7_lists.dec rfl) (m_lists_fewS hP hP5 hs hk1 hk hp hl hh hl60 hh60 hf) ?_
  refine aw_eqS (st := [.int (-nI 2)]) rfl ?_
  exact aw_iret rfl (oX7_lists.dec rfl) pe_rfl
set_option maxRecDepth 20000 in
theorem m_lists_manyS {I : II} {J : JJ} {G : II} {P : Nat} (hP : G 5 0 = nI P) (hP5 : P ≤ 5) {s k : Nat} (hs : s < P) (hk1 : 1 ≤ k) (hk : k ≤ 60) (hp : G 11 (3 + s) = nI 0) {l h : Nat} (hl : G 11 (8 + s) = nI l) (hh : G 11 (13 + s) = nI h) (hl60 : l ≤ 60) (hh60 : h ≤ 60) (hf : k ≤ h) (hm : 60 < l + k) : AMet SM mX7_shift [.ref 0, .int (nI s), .int (nI k), .int (nI 13), .int (nI 8)] I J G (PE (some (.int (-nI 2))) I J G) := by
  refine amet_en oX7_shift rfl rfl (L := [some (.ref 0), some (.int (nI s)), some (.int (nI k)), some (.int (nI 13)), some (.int (nI 8))]) rfl ?_
  refine aw_run oX7_shift smOk 2 (pc' := 2) (L' := [some (.ref 0), some (.int (nI s)), some (.int (nI k)), some (.int (nI 13)), some (.int (nI 8))]) (st' := [.int (nI s), .ref 0]) (I' := I) (J' := J) (G' := G) rfl ?_
  refine aw_cV (st := []) 0 [.int (nI s)] oX7_isShip k7_117 rfl rfl rfl rfl rfl rfl rfl rfl (oX7_shift.dec rfl) (m_isShip_t hP (by omega) (by omega)) ?_
  refine aw_eqS (st := [.int (nI 1)]) rfl ?_
  refine aw_0eqN rfl (by omega) (oX7_shift.dec rfl) (tgt := 18) rfl (fun h5 => absurd h5 (by omega)) (fun h5 => ?_)
  refine aw_run oX7_shift smOk 3 (pc' := 12) (L' := [some (.ref 0), some (.int (nI s)), some (.int (nI k)), some (.int (nI 13)), some (.int (nI 8))]) (st' := [.int (nI 60), .int (nI 1), .int (nI k)]) (I' := I) (J' := J) (G' := G) rfl ?_
  refine aw_cS (st := []) [.int (nI k), .int (nI 1), .int (nI 60)] oX7_in k7_60 rfl rfl rfl rfl rfl (oX7_shift.dec rfl) (m_inN (by omega) (by omega) (by omega)) ?_
  refine aw_eqS (st := [.int (b1 (decide (1 ≤ k ∧ k ≤ 60)))]) rfl ?_
  refine aw_0neD (oX7_shift.dec rfl) (tgt := 20) rfl (fun h15 => ?_) (fun h15 => absurd h15 (by omega))
  refine aw_run oX7_shift smOk 5 (pc' := 27) (L' := [some (.ref 0), some (.int (nI s)), some (.int (nI k)), some (.int (nI 13)), some (.int (nI 8))]) (st' := [.int ((nI 3) + (nI s)), .ref 11]) (I' := I) (J' := J) (G' := G) rfl ?_
  refine aw_iaN (3 + s) smOk rfl (addN rfl rfl) (by omega) (oX7_shift.dec rfl) ?_
  refine aw_if_ne (oX7_shift.dec rfl) (tgt := 59) rfl (fun h28 => by first | exact absurd h28 (by assumption) | exact absurd (by assumption) h28 | (exfalso; revert h28; decide) | simp_all) (fun h28 => ?_)
  refine aw_run oX7_shift smOk 5 (pc' := 38) (L' := [some (.ref 0), some (.int (nI s)), some (.int (nI k)), some (.int (nI 13)), some (.int (nI 8))]) (st' := [.int ((nI 13) + (nI s)), .ref 11]) (I' := I) (J' := J) (G' := G) rfl ?_
  refine aw_iaN (13 + s) smOk rfl (addN rfl rfl) (by omega) (oX7_shift.dec rfl) ?_
  refine aw_run oX7_shift smOk 1 (pc' := 40) (L' := [some (.ref 0), some (.int (nI s)), some (.int (nI k)), some (.int (nI 13)), some (.int (nI 8))]) (st' := [.int (nI k), .int (G 11 (13 + s))]) (I' := I) (J' := J) (G' := G) rfl ?_
  refine aw_ltN hh rfl (by omega) (by omega) (oX7_shift.dec rfl) (tgt := 59) rfl (fun h40 => absurd h40 (by omega)) (fun h40 => ?_)
  refine aw_run oX7_shift smOk 5 (pc' := 51) (L' := [some (.ref 0), some (.int (nI s)), some (.int (nI k)), some (.int (nI 13)), some (.int (nI 8))]) (st' := [.int ((nI 8) + (nI s)), .ref 11]) (I' := I) (J' := J) (G' := G) rfl ?_
  refine aw_iaN (8 + s) smOk rfl (addN rfl rfl) (by omega) (oX7_shift.dec rfl) ?_
  refine aw_run oX7_shift smOk 3 (pc' := 56) (L' := [some (.ref 0), some (.int (nI s)), some (.int (nI k)), some (.int (nI 13)), some (.int (nI 8))]) (st' := [.int (nI 60), .int ((G 11 (8 + s)) + (nI k))]) (I' := I) (J' := J) (G' := G) rfl ?_
  refine aw_leN (addN hl rfl) rfl (by omega) (by omega) (oX7_shift.dec rfl) (tgt := 62) rfl (fun h56 => absurd h56 (by omega)) (fun h56 => ?_)
  refine aw_run oX7_shift smOk 1 (pc' := 61) (L' := [some (.ref 0), some (.int (nI s)), some (.int (nI k)), some (.int (nI 13)), some (.int (nI 8))]) (st' := [.int (-nI 2)]) (I' := I) (J' := J) (G' := G) rfl ?_
  exact aw_iret rfl (oX7_shift.dec rfl) pe_rfl
set_option maxRecDepth 20000 in
theorem m_lists_many {I : II} {J : JJ} {G : II} {P : Nat} (hP : G 5 0 = nI P) (hP5 : P ≤ 5) {s k : Nat} (hs : s < P) (hk1 : 1 ≤ k) (hk : k ≤ 60) (hp : G 11 (3 + s) = nI 0) {l h : Nat} (hl : G 11 (8 + s) = nI l) (hh : G 11 (13 + s) = nI h) (hl60 : l ≤ 60) (hh60 : h ≤ 60) (hf : k ≤ h) (hm : 60 < l + k) : AMet SM mX7_lists [.ref 0, .int (nI s), .int (nI k)] I J G (PE (some (.int (-nI 2))) I J G) := by
  refine amet_en oX7_lists rfl rfl (L := [some (.ref 0), some (.int (nI s)), some (.int (nI k))]) rfl ?_
  refine aw_run oX7_lists smOk 5 (pc' := 7) (L' := [some (.ref 0), some (.int (nI s)), some (.int (nI k))]) (st' := [.int (nI 8), .int (nI 13), .int (nI k), .int (nI s), .ref 0]) (I' := I) (J' := J) (G' := G) rfl ?_
  refine aw_cV (st := []) 0 [.int (nI s), .int (nI k), .int (nI 13), .int (nI 8)] oX7_shift k7_150 rfl rfl rfl rfl rfl rfl rfl rfl (oX7_lists.dec rfl) (m_lists_manyS hP hP5 hs hk1 hk hp hl hh hl60 hh60 hf hm) ?_
  refine aw_eqS (st := [.int (-nI 2)]) rfl ?_
  exact aw_iret rfl (oX7_lists.dec rfl) pe_rfl
set_option maxRecDepth 20000 in
theorem m_lists_okS {I : II} {J : JJ} {G : II} {P : Nat} (hP : G 5 0 = nI P) (hP5 : P ≤ 5) {s k : Nat} (hs : s < P) (hk1 : 1 ≤ k) (hk : k ≤ 60) {K : Nat} (hK : G 11 18 = nI K) (hK10 : K ≤ 10) (hp : G 11 (3 + s) = nI 0) {l h : Nat} (hl : G 11 (8 + s) = nI l) (hh : G 11 (13 + s) = nI h) (hl60 : l ≤ 60) (hh60 : h ≤ 60) (hf : k ≤ h) (hm : l + k ≤ 60) : AMet SM mX7_shift [.ref 0, .int (nI s), .int (nI k), .int (nI 13), .int (nI 8)] I J G (PE (some (.int ((upd (upd (knF (G 11) K) (13 + s) (((knF (G 11) K) (13 + s)) - (nI k))) (8 + s) (((upd (knF (G 11) K) (13 + s) (((knF (G 11) K) (13 + s)) - (nI k))) (8 + s)) + (nI k))) (8 + s)))) I J (va_up G 11 (upd (upd (knF (G 11) K) (13 + s) (((knF (G 11) K) (13 + s)) - (nI k))) (8 + s) (((upd (knF (G 11) K) (13 + s) (((knF (G 11) K) (13 + s)) - (nI k))) (8 + s)) + (nI k))))) := by
  refine amet_en oX7_shift rfl rfl (L := [some (.ref 0), some (.int (nI s)), some (.int (nI k)), some (.int (nI 13)), some (.int (nI 8))]) rfl ?_
  refine aw_run oX7_shift smOk 2 (pc' := 2) (L' := [some (.ref 0), some (.int (nI s)), some (.int (nI k)), some (.int (nI 13)), some (.int (nI 8))]) (st' := [.int (nI s), .ref 0]) (I' := I) (J' := J) (G' := G) rfl ?_
  refine aw_cV (st := []) 0 [.int (nI s)] oX7_isShip k7_117 rfl rfl rfl rfl rfl rfl rfl rfl (oX7_shift.dec rfl) (m_isShip_t hP (by omega) (by omega)) ?_
  refine aw_eqS (st := [.int (nI 1)]) rfl ?_
  refine aw_0eqN rfl (by omega) (oX7_shift.dec rfl) (tgt := 18) rfl (fun h5 => absurd h5 (by omega)) (fun h5 => ?_)
  refine aw_run oX7_shift smOk 3 (pc' := 12) (L' := [some (.ref 0), some (.int (nI s)), some (.int (nI k)), some (.int (nI 13)), some (.int (nI 8))]) (st' := [.int (nI 60), .int (nI 1), .int (nI k)]) (I' := I) (J' := J) (G' := G) rfl ?_
  refine aw_cS (st := []) [.int (nI k), .int (nI 1), .int (nI 60)] oX7_in k7_60 rfl rfl rfl rfl rfl (oX7_shift.dec rfl) (m_inN (by omega) (by omega) (by omega)) ?_
  refine aw_eqS (st := [.int (b1 (decide (1 ≤ k ∧ k ≤ 60)))]) rfl ?_
  refine aw_0neD (oX7_shift.dec rfl) (tgt := 20) rfl (fun h15 => ?_) (fun h15 => absurd h15 (by omega))
  refine aw_run oX7_shift smOk 5 (pc' := 27) (L' := [some (.ref 0), some (.int (nI s)), some (.int (nI k)), some (.int (nI 13)), some (.int (nI 8))]) (st' := [.int ((nI 3) + (nI s)), .ref 11]) (I' := I) (J' := J) (G' := G) rfl ?_
  refine aw_iaN (3 + s) smOk rfl (addN rfl rfl) (by omega) (oX7_shift.dec rfl) ?_
  refine aw_if_ne (oX7_shift.dec rfl) (tgt := 59) rfl (fun h28 => by first | exact absurd h28 (by assumption) | exact absurd (by assumption) h28 | (exfalso; revert h28; decide) | simp_all) (fun h28 => ?_)
  refine aw_run oX7_shift smOk 5 (pc' := 38) (L' := [some (.ref 0), some (.int (nI s)), some (.int (nI k)), some (.int (nI 13)), some (.int (nI 8))]) (st' := [.int ((nI 13) + (nI s)), .ref 11]) (I' := I) (J' := J) (G' := G) rfl ?_
  refine aw_iaN (13 + s) smOk rfl (addN rfl rfl) (by omega) (oX7_shift.dec rfl) ?_
  refine aw_run oX7_shift smOk 1 (pc' := 40) (L' := [some (.ref 0), some (.int (nI s)), some (.int (nI k)), some (.int (nI 13)), some (.int (nI 8))]) (st' := [.int (nI k), .int (G 11 (13 + s))]) (I' := I) (J' := J) (G' := G) rfl ?_
  refine aw_ltN hh rfl (by omega) (by omega) (oX7_shift.dec rfl) (tgt := 59) rfl (fun h40 => absurd h40 (by omega)) (fun h40 => ?_)
  refine aw_run oX7_shift smOk 5 (pc' := 51) (L' := [some (.ref 0), some (.int (nI s)), some (.int (nI k)), some (.int (nI 13)), some (.int (nI 8))]) (st' := [.int ((nI 8) + (nI s)), .ref 11]) (I' := I) (J' := J) (G' := G) rfl ?_
  refine aw_iaN (8 + s) smOk rfl (addN rfl rfl) (by omega) (oX7_shift.dec rfl) ?_
  refine aw_run oX7_shift smOk 3 (pc' := 56) (L' := [some (.ref 0), some (.int (nI s)), some (.int (nI k)), some (.int (nI 13)), some (.int (nI 8))]) (st' := [.int (nI 60), .int ((G 11 (8 + s)) + (nI k))]) (I' := I) (J' := J) (G' := G) rfl ?_
  refine aw_leN (addN hl rfl) rfl (by omega) (by omega) (oX7_shift.dec rfl) (tgt := 62) rfl (fun h56 => ?_) (fun h56 => absurd h56 (by omega))
  refine aw_run oX7_shift smOk 1 (pc' := 63) (L' := [some (.ref 0), some (.int (nI s)), some (.int (nI k)), some (.int (nI 13)), some (.int (nI 8))]) (st' := [.ref 0]) (I' := I) (J' := J) (G' := G) rfl ?_
  refine aw_cV (st := []) 0 [] oX7_know k7_124 rfl rfl rfl rfl rfl rfl rfl rfl (oX7_shift.dec rfl) (m_know hK (by omega)) ?_
  refine aw_eqG (G' := va_up G 11 (knF (G 11) K)) (rfl) ?_
  refine aw_eqS (st := []) rfl ?_
  refine aw_run oX7_shift smOk 6 (pc' := 74) (L' := [some (.ref 0), some (.int (nI s)), some (.int (nI k)), some (.int (nI 13)), some (.int (nI 8))]) (st' := [.int ((nI 13) + (nI s)), .ref 11, .int ((nI 13) + (nI s)), .ref 11]) (I' := I) (J' := J) (G' := va_up G 11 (knF (G 11) K)) rfl ?_
  refine aw_iaN (13 + s) smOk rfl (addN rfl rfl) (by omega) (oX7_shift.dec rfl) ?_
  refine aw_eqS (st := [.int ((knF (G 11) K) (13 + s)), .int ((nI 13) + (nI s)), .ref 11]) rfl ?_
  refine aw_run oX7_shift smOk 2 (pc' := 77) (L' := [some (.ref 0), some (.int (nI s)), some (.int (nI k)), some (.int (nI 13)), some (.int (nI 8))]) (st' := [.int (((knF (G 11) K) (13 + s)) - (nI k)), .int ((nI 13) + (nI s)), .ref 11]) (I' := I) (J' := J) (G' := va_up G 11 (knF (G 11) K)) rfl ?_
  refine aw_isN (13 + s) smOk rfl (addN rfl rfl) (by omega) (oX7_shift.dec rfl) ?_
  refine aw_eqG (G' := va_up G 11 (upd (knF (G 11) K) (13 + s) (((knF (G 11) K) (13 + s)) - (nI k)))) (bx_uu _ _ _ _) ?_
  refine aw_run oX7_shift smOk 6 (pc' := 87) (L' := [some (.ref 0), some (.int (nI s)), some (.int (nI k)), some (.int (nI 13)), some (.int (nI 8))]) (st' := [.int ((nI 8) + (nI s)), .ref 11, .int ((nI 8) + (nI s)), .ref 11]) (I' := I) (J' := J) (G' := va_up G 11 (upd (knF (G 11) K) (13 + s) (((knF (G 11) K) (13 + s)) - (nI k)))) rfl ?_
  refine aw_iaN (8 + s) smOk rfl (addN rfl rfl) (by omega) (oX7_shift.dec rfl) ?_
  refine aw_eqS (st := [.int ((upd (knF (G 11) K) (13 + s) (((knF (G 11) K) (13 + s)) - (nI k))) (8 + s)), .int ((nI 8) + (nI s)), .ref 11]) rfl ?_
  refine aw_run oX7_shift smOk 2 (pc' := 90) (L' := [some (.ref 0), some (.int (nI s)), some (.int (nI k)), some (.int (nI 13)), some (.int (nI 8))]) (st' := [.int (((upd (knF (G 11) K) (13 + s) (((knF (G 11) K) (13 + s)) - (nI k))) (8 + s)) + (nI k)), .int ((nI 8) + (nI s)), .ref 11]) (I' := I) (J' := J) (G' := va_up G 11 (upd (knF (G 11) K) (13 + s) (((knF (G 11) K) (13 + s)) - (nI k)))) rfl ?_
  refine aw_isN (8 + s) smOk rfl (addN rfl rfl) (by omega) (oX7_shift.dec rfl) ?_
  refine aw_eqG (G' := va_up G 11 (upd (upd (knF (G 11) K) (13 + s) (((knF (G 11) K) (13 + s)) - (nI k))) (8 + s) (((upd (knF (G 11) K) (13 + s) (((knF (G 11) K) (13 + s)) - (nI k))) (8 + s)) + (nI k)))) (bx_uu _ _ _ _) ?_
  refine aw_run oX7_shift smOk 5 (pc' := 99) (L' := [some (.ref 0), some (.int (nI s)), some (.int (nI k)), some (.int (nI 13)), some (.int (nI 8))]) (st' := [.int ((nI 8) + (nI s)), .ref 11]) (I' := I) (J' := J) (G' := va_up G 11 (upd (upd (knF (G 11) K) (13 + s) (((knF (G 11) K) (13 + s)) - (nI k))) (8 + s) (((upd (knF (G 11) K) (13 + s) (((knF (G 11) K) (13 + s)) - (nI k))) (8 + s)) + (nI k)))) rfl ?_
  refine aw_iaN (8 + s) smOk rfl (addN rfl rfl) (by omega) (oX7_shift.dec rfl) ?_
  refine aw_eqS (st := [.int ((upd (upd (knF (G 11) K) (13 + s) (((knF (G 11) K) (13 + s)) - (nI k))) (8 + s) (((upd (knF (G 11) K) (13 + s) (((knF (G 11) K) (13 + s)) - (nI k))) (8 + s)) + (nI k))) (8 + s))]) rfl ?_
  exact aw_iret rfl (oX7_shift.dec rfl) pe_rfl
set_option maxRecDepth 20000 in
theorem m_lists_ok {I : II} {J : JJ} {G : II} {P : Nat} (hP : G 5 0 = nI P) (hP5 : P ≤ 5) {s k : Nat} (hs : s < P) (hk1 : 1 ≤ k) (hk : k ≤ 60) {K : Nat} (hK : G 11 18 = nI K) (hK10 : K ≤ 10) (hp : G 11 (3 + s) = nI 0) {l h : Nat} (hl : G 11 (8 + s) = nI l) (hh : G 11 (13 + s) = nI h) (hl60 : l ≤ 60) (hh60 : h ≤ 60) (hf : k ≤ h) (hm : l + k ≤ 60) : AMet SM mX7_lists [.ref 0, .int (nI s), .int (nI k)] I J G (PE (some (.int ((upd (upd (knF (G 11) K) (13 + s) (((knF (G 11) K) (13 + s)) - (nI k))) (8 + s) (((upd (knF (G 11) K) (13 + s) (((knF (G 11) K) (13 + s)) - (nI k))) (8 + s)) + (nI k))) (8 + s)))) I J (va_up G 11 (upd (upd (knF (G 11) K) (13 + s) (((knF (G 11) K) (13 + s)) - (nI k))) (8 + s) (((upd (knF (G 11) K) (13 + s) (((knF (G 11) K) (13 + s)) - (nI k))) (8 + s)) + (nI k))))) := by
  refine amet_en oX7_lists rfl rfl (L := [some (.ref 0), some (.int (nI s)), some (.int (nI k))]) rfl ?_
  refine aw_run oX7_lists smOk 5 (pc' := 7) (L' := [some (.ref 0), some (.int (nI s)), some (.int (nI k))]) (st' := [.int (nI 8), .int (nI 13), .int (nI k), .int (nI s), .ref 0]) (I' := I) (J' := J) (G' := G) rfl ?_
  refine aw_cV (st := []) 0 [.int (nI s), .int (nI k), .int (nI 13), .int (nI 8)] oX7_shift k7_150 rfl rfl rfl rfl rfl rfl rfl rfl (oX7_lists.dec rfl) (m_lists_okS hP hP5 hs hk1 hk hK hK10 hp hl hh hl60 hh60 hf hm) ?_
  refine aw_eqS (st := [.int ((upd (upd (knF (G 11) K) (13 + s) (((knF (G 11) K) (13 + s)) - (nI k))) (8 + s) (((upd (knF (G 11) K) (13 + s) (((knF (G 11) K) (13 + s)) - (nI k))) (8 + s)) + (nI k))) (8 + s))]) rfl ?_
  exact aw_iret rfl (oX7_lists.dec rfl) pe_rfl
set_option maxRecDepth 20000 in
theorem m_hides_badS {I : II} {J : JJ} {G : II} {P : Nat} (hP : G 5 0 = nI P) (hP5 : P ≤ 5) {x y : Int32} (hx : notIn x P) : AMet SM mX7_shift [.ref 0, .int x, .int y, .int (nI 8), .int (nI 13)] I J G (PE (some (.int (-nI 1))) I J G) := by
  refine amet_en oX7_shift rfl rfl (L := [some (.ref 0), some (.int x), some (.int y), some (.int (nI 8)), some (.int (nI 13))]) rfl ?_
  refine aw_run oX7_shift smOk 2 (pc' := 2) (L' := [some (.ref 0), some (.int x), some (.int y), some (.int (nI 8)), some (.int (nI 13))]) (st' := [.int x, .ref 0]) (I' := I) (J' := J) (G' := G) rfl ?_
  refine aw_cV (st := []) 0 [.int x] oX7_isShip k7_117 rfl rfl rfl rfl rfl rfl rfl rfl (oX7_shift.dec rfl) (m_isShip_f hP (by omega) (by assumption)) ?_
  refine aw_eqS (st := [.int (nI 0)]) rfl ?_
  refine aw_0eqN rfl (by omega) (oX7_shift.dec rfl) (tgt := 18) rfl (fun h5 => ?_) (fun h5 => absurd h5 (by omega))
  refine aw_run oX7_shift smOk 1 (pc' := 19) (L' := [some (.ref 0), some (.int x), some (.int y), some (.int (nI 8)), some (.int (nI 13))]) (st' := [.int (-nI 1)]) (I' := I) (J' := J) (G' := G) rfl ?_
  exact aw_iret rfl (oX7_shift.dec rfl) pe_rfl
set_option maxRecDepth 20000 in
theorem m_hides_bad {I : II} {J : JJ} {G : II} {P : Nat} (hP : G 5 0 = nI P) (hP5 : P ≤ 5) {x y : Int32} (hx : notIn x P) : AMet SM mX7_hides [.ref 0, .int x, .int y] I J G (PE (some (.int (-nI 1))) I J G) := by
  refine amet_en oX7_hides rfl rfl (L := [some (.ref 0), some (.int x), some (.int y)]) rfl ?_
  refine aw_run oX7_hides smOk 5 (pc' := 7) (L' := [some (.ref 0), some (.int x), some (.int y)]) (st' := [.int (nI 13), .int (nI 8), .int y, .int x, .ref 0]) (I' := I) (J' := J) (G' := G) rfl ?_
  refine aw_cV (st := []) 0 [.int x, .int y, .int (nI 8), .int (nI 13)] oX7_shift k7_150 rfl rfl rfl rfl rfl rfl rfl rfl (oX7_hides.dec rfl) (m_hides_badS hP hP5 hx) ?_
  refine aw_eqS (st := [.int (-nI 1)]) rfl ?_
  exact aw_iret rfl (oX7_hides.dec rfl) pe_rfl
set_option maxRecDepth 20000 in
theorem m_hides_bad0S {I : II} {J : JJ} {G : II} {P : Nat} (hP : G 5 0 = nI P) (hP5 : P ≤ 5) {s : Nat} (hs : s < P) : AMet SM mX7_shift [.ref 0, .int (nI s), .int (nI 0), .int (nI 8), .int (nI 13)] I J G (PE (some (.int (-nI 1))) I J G) := by
  refine amet_en oX7_shift rfl rfl (L := [some (.ref 0), some (.int (nI s)), some (.int (nI 0)), some (.int (nI 8)), some (.int (nI 13))]) rfl ?_
  refine aw_run oX7_shift smOk 2 (pc' := 2) (L' := [some (.ref 0), some (.int (nI s)), some (.int (nI 0)), some (.int (nI 8)), some (.int (nI 13))]) (st' := [.int (nI s), .ref 0]) (I' := I) (J' := J) (G' := G) rfl ?_
  refine aw_cV (st := []) 0 [.int (nI s)] oX7_isShip k7_117 rfl rfl rfl rfl rfl rfl rfl rfl (oX7_shift.dec rfl) (m_isShip_t hP (by omega) (by omega)) ?_
  refine aw_eqS (st := [.int (nI 1)]) rfl ?_
  refine aw_0eqN rfl (by omega) (oX7_shift.dec rfl) (tgt := 18) rfl (fun h5 => absurd h5 (by omega)) (fun h5 => ?_)
  refine aw_run oX7_shift smOk 3 (pc' := 12) (L' := [some (.ref 0), some (.int (nI s)), some (.int (nI 0)), some (.int (nI 8)), some (.int (nI 13))]) (st' := [.int (nI 60), .int (nI 1), .int (nI 0)]) (I' := I) (J' := J) (G' := G) rfl ?_
  refine aw_cS (st := []) [.int (nI 0), .int (nI 1), .int (nI 60)] oX7_in k7_60 rfl rfl rfl rfl rfl (oX7_shift.dec rfl) (m_inN (by omega) (by omega) (by omega)) ?_
  refine aw_eqS (st := [.int (b1 (decide (1 ≤ 0 ∧ 0 ≤ 60)))]) rfl ?_
  refine aw_0neD (oX7_shift.dec rfl) (tgt := 20) rfl (fun h15 => absurd h15 (by omega)) (fun h15 => ?_)
  refine aw_run oX7_shift smOk 1 (pc' := 19) (L' := [some (.ref 0), some (.int (nI s)), some (.int (nI 0)), some (.int (nI 8)), some (.int (nI 13))]) (st' := [.int (-nI 1)]) (I' := I) (J' := J) (G' := G) rfl ?_
  exact aw_iret rfl (oX7_shift.dec rfl) pe_rfl
set_option maxRecDepth 20000 in
theorem m_hides_bad0 {I : II} {J : JJ} {G : II} {P : Nat} (hP : G 5 0 = nI P) (hP5 : P ≤ 5) {s : Nat} (hs : s < P) : AMet SM mX7_hides [.ref 0, .int (nI s), .int (nI 0)] I J G (PE (some (.int (-nI 1))) I J G) := by
  refine amet_en oX7_hides rfl rfl (L := [some (.ref 0), some (.int (nI s)), some (.int (nI 0))]) rfl ?_
  refine aw_run oX7_hides smOk 5 (pc' := 7) (L' := [some (.ref 0), some (.int (nI s)), some (.int (nI 0))]) (st' := [.int (nI 13), .int (nI 8), .int (nI 0), .int (nI s), .ref 0]) (I' := I) (J' := J) (G' := G) rfl ?_
  refine aw_cV (st := []) 0 [.int (nI s), .int (nI 0), .int (nI 8), .int (nI 13)] oX7_shift k7_150 rfl rfl rfl rfl rfl rfl rfl rfl (oX7_hides.dec rfl) (m_hides_bad0S hP hP5 hs) ?_
  refine aw_eqS (st := [.int (-nI 1)]) rfl ?_
  exact aw_iret rfl (oX7_hides.dec rfl) pe_rfl
set_option maxRecDepth 20000 in
theorem m_hides_bad2S {I : II} {J : JJ} {G : II} {P : Nat} (hP : G 5 0 = nI P) (hP5 : P ≤ 5) {s : Nat} {x : Int32} (hs : s < P) (hx : notIn x 61) : AMet SM mX7_shift [.ref 0, .int (nI s), .int x, .int (nI 8), .int (nI 13)] I J G (PE (some (.int (-nI 1))) I J G) := by
  refine amet_en oX7_shift rfl rfl (L := [some (.ref 0), some (.int (nI s)), some (.int x), some (.int (nI 8)), some (.int (nI 13))]) rfl ?_
  refine aw_run oX7_shift smOk 2 (pc' := 2) (L' := [some (.ref 0), some (.int (nI s)), some (.int x), some (.int (nI 8)), some (.int (nI 13))]) (st' := [.int (nI s), .ref 0]) (I' := I) (J' := J) (G' := G) rfl ?_
  refine aw_cV (st := []) 0 [.int (nI s)] oX7_isShip k7_117 rfl rfl rfl rfl rfl rfl rfl rfl (oX7_shift.dec rfl) (m_isShip_t hP (by omega) (by omega)) ?_
  refine aw_eqS (st := [.int (nI 1)]) rfl ?_
  refine aw_0eqN rfl (by omega) (oX7_shift.dec rfl) (tgt := 18) rfl (fun h5 => absurd h5 (by omega)) (fun h5 => ?_)
  refine aw_run oX7_shift smOk 3 (pc' := 12) (L' := [some (.ref 0), some (.int (nI s)), some (.int x), some (.int (nI 8)), some (.int (nI 13))]) (st' := [.int (nI 60), .int (nI 1), .int x]) (I' := I) (J' := J) (G' := G) rfl ?_
  refine aw_cS (st := []) [.int x, .int (nI 1), .int (nI 60)] oX7_in k7_60 rfl rfl rfl rfl rfl (oX7_shift.dec rfl) (m_inF (notIn_in1 hx (by decide) (by decide))) ?_
  refine aw_eqS (st := [.int (nI 0)]) rfl ?_
  refine aw_0neN rfl (by omega) (oX7_shift.dec rfl) (tgt := 20) rfl (fun h15 => absurd h15 (by omega)) (fun h15 => ?_)
  refine aw_run oX7_shift smOk 1 (pc' := 19) (L' := [some (.ref 0), some (.int (nI s)), some (.int x), some (.int (nI 8)), some (.int (nI 13))]) (st' := [.int (-nI 1)]) (I' := I) (J' := J) (G' := G) rfl ?_
  exact aw_iret rfl (oX7_shift.dec rfl) pe_rfl
set_option maxRecDepth 20000 in
theorem m_hides_bad2 {I : II} {J : JJ} {G : II} {P : Nat} (hP : G 5 0 = nI P) (hP5 : P ≤ 5) {s : Nat} {x : Int32} (hs : s < P) (hx : notIn x 61) : AMet SM mX7_hides [.ref 0, .int (nI s), .int x] I J G (PE (some (.int (-nI 1))) I J G) := by
  refine amet_en oX7_hides rfl rfl (L := [some (.ref 0), some (.int (nI s)), some (.int x)]) rfl ?_
  refine aw_run oX7_hides smOk 5 (pc' := 7) (L' := [some (.ref 0), some (.int (nI s)), some (.int x)]) (st' := [.int (nI 13), .int (nI 8), .int x, .int (nI s), .ref 0]) (I' := I) (J' := J) (G' := G) rfl ?_
  refine aw_cV (st := []) 0 [.int (nI s), .int x, .int (nI 8), .int (nI 13)] oX7_shift k7_150 rfl rfl rfl rfl rfl rfl rfl rfl (oX7_hides.dec rfl) (m_hides_bad2S hP hP5 hs hx) ?_
  refine aw_eqS (st := [.int (-nI 1)]) rfl ?_
  exact aw_iret rfl (oX7_hides.dec rfl) pe_rfl
set_option maxRecDepth 20000 in
theorem m_hides_portS {I : II} {J : JJ} {G : II} {P : Nat} (hP : G 5 0 = nI P) (hP5 : P ≤ 5) {s k : Nat} (hs : s < P) (hk1 : 1 ≤ k) (hk : k ≤ 60) (hp : ¬ G 11 (3 + s) = nI 0) : AMet SM mX7_shift [.ref 0, .int (nI s), .int (nI k), .int (nI 8), .int (nI 13)] I J G (PE (some (.int (-nI 2))) I J G) := by
  refine amet_en oX7_shift rfl rfl (L := [some (.ref 0), some (.int (nI s)), some (.int (nI k)), some (.int (nI 8)), some (.int (nI 13))]) rfl ?_
  refine aw_run oX7_shift smOk 2 (pc' := 2) (L' := [some (.ref 0), some (.int (nI s)), some (.int (nI k)), some (.int (nI 8)), some (.int (nI 13))]) (st' := [.int (nI s), .ref 0]) (I' := I) (J' := J) (G' := G) rfl ?_
  refine aw_cV (st := []) 0 [.int (nI s)] oX7_isShip k7_117 rfl rfl rfl rfl rfl rfl rfl rfl (oX7_shift.dec rfl) (m_isShip_t hP (by omega) (by omega)) ?_
  refine aw_eqS (st := [.int (nI 1)]) rfl ?_
  refine aw_0eqN rfl (by omega) (oX7_shift.dec rfl) (tgt := 18) rfl (fun h5 => absurd h5 (by omega)) (fun h5 => ?_)
  refine aw_run oX7_shift smOk 3 (pc' := 12) (L' := [some (.ref 0), some (.int (nI s)), some (.int (nI k)), some (.int (nI 8)), some (.int (nI 13))]) (st' := [.int (nI 60), .int (nI 1), .int (nI k)]) (I' := I) (J' := J) (G' := G) rfl ?_
  refine aw_cS (st := []) [.int (nI k), .int (nI 1), .int (nI 60)] oX7_in k7_60 rfl rfl rfl rfl rfl (oX7_shift.dec rfl) (m_inN (by omega) (by omega) (by omega)) ?_
  refine aw_eqS (st := [.int (b1 (decide (1 ≤ k ∧ k ≤ 60)))]) rfl ?_
  refine aw_0neD (oX7_shift.dec rfl) (tgt := 20) rfl (fun h15 => ?_) (fun h15 => absurd h15 (by omega))
  refine aw_run oX7_shift smOk 5 (pc' := 27) (L' := [some (.ref 0), some (.int (nI s)), some (.int (nI k)), some (.int (nI 8)), some (.int (nI 13))]) (st' := [.int ((nI 3) + (nI s)), .ref 11]) (I' := I) (J' := J) (G' := G) rfl ?_
  refine aw_iaN (3 + s) smOk rfl (addN rfl rfl) (by omega) (oX7_shift.dec rfl) ?_
  refine aw_if_ne (oX7_shift.dec rfl) (tgt := 59) rfl (fun h28 => ?_) (fun h28 => by first | exact absurd h28 (by assumption) | exact absurd (by assumption) h28 | (exfalso; revert h28; decide) | simp_all)
  refine aw_run oX7_shift smOk 1 (pc' := 61) (L' := [some (.ref 0), some (.int (nI s)), some (.int (nI k)), some (.int (nI 8)), some (.int (nI 13))]) (st' := [.int (-nI 2)]) (I' := I) (J' := J) (G' := G) rfl ?_
  exact aw_iret rfl (oX7_shift.dec rfl) pe_rfl
set_option maxRecDepth 20000 in
theorem m_hides_port {I : II} {J : JJ} {G : II} {P : Nat} (hP : G 5 0 = nI P) (hP5 : P ≤ 5) {s k : Nat} (hs : s < P) (hk1 : 1 ≤ k) (hk : k ≤ 60) (hp : ¬ G 11 (3 + s) = nI 0) : AMet SM mX7_hides [.ref 0, .int (nI s), .int (nI k)] I J G (PE (some (.int (-nI 2))) I J G) := by
  refine amet_en oX7_hides rfl rfl (L := [some (.ref 0), some (.int (nI s)), some (.int (nI k))]) rfl ?_
  refine aw_run oX7_hides smOk 5 (pc' := 7) (L' := [some (.ref 0), some (.int (nI s)), some (.int (nI k))]) (st' := [.int (nI 13), .int (nI 8), .int (nI k), .int (nI s), .ref 0]) (I' := I) (J' := J) (G' := G) rfl ?_
  refine aw_cV (st := []) 0 [.int (nI s), .int (nI k), .int (nI 8), .int (nI 13)] oX7_shift k7_150 rfl rfl rfl rfl rfl rfl rfl rfl (oX7_hides.dec rfl) (m_hides_portS hP hP5 hs hk1 hk hp) ?_
  refine aw_eqS (st := [.int (-nI 2)]) rfl ?_
  exact aw_iret rfl (oX7_hides.dec rfl) pe_rfl
set_option maxRecDepth 20000 in
theorem m_hides_fewS {I : II} {J : JJ} {G : II} {P : Nat} (hP : G 5 0 = nI P) (hP5 : P ≤ 5) {s k : Nat} (hs : s < P) (hk1 : 1 ≤ k) (hk : k ≤ 60) (hp : G 11 (3 + s) = nI 0) {l h : Nat} (hl : G 11 (8 + s) = nI l) (hh : G 11 (13 + s) = nI h) (hl60 : l ≤ 60) (hh60 : h ≤ 60) (hf : l < k) : AMet SM mX7_shift [.ref 0, .int (nI s), .int (nI k), .int (nI 8), .int (nI 13)] I J G (PE (some (.int (-nI 2))) I J G) := by
  refine amet_en oX7_shift rfl rfl (L := [some (.ref 0), some (.int (nI s)), some (.int (nI k)), some (.int (nI 8)), some (.int (nI 13))]) rfl ?_
  refine aw_run oX7_shift smOk 2 (pc' := 2) (L' := [some (.ref 0), some (.int (nI s)), some (.int (nI k)), some (.int (nI 8)), some (.int (nI 13))]) (st' := [.int (nI s), .ref 0]) (I' := I) (J' := J) (G' := G) rfl ?_
  refine aw_cV (st := []) 0 [.int (nI s)] oX7_isShip k7_117 rfl rfl rfl rfl rfl rfl rfl rfl (oX7_shift.dec rfl) (m_isShip_t hP (by omega) (by omega)) ?_
  refine aw_eqS (st := [.int (nI 1)]) rfl ?_
  refine aw_0eqN rfl (by omega) (oX7_shift.dec rfl) (tgt := 18) rfl (fun h5 => absurd h5 (by omega)) (fun h5 => ?_)
  refine aw_run oX7_shift smOk 3 (pc' := 12) (L' := [some (.ref 0), some (.int (nI s)), some (.int (nI k)), some (.int (nI 8)), some (.int (nI 13))]) (st' := [.int (nI 60), .int (nI 1), .int (nI k)]) (I' := I) (J' := J) (G' := G) rfl ?_
  refine aw_cS (st := []) [.int (nI k), .int (nI 1), .int (nI 60)] oX7_in k7_60 rfl rfl rfl rfl rfl (oX7_shift.dec rfl) (m_inN (by omega) (by omega) (by omega)) ?_
  refine aw_eqS (st := [.int (b1 (decide (1 ≤ k ∧ k ≤ 60)))]) rfl ?_
  refine aw_0neD (oX7_shift.dec rfl) (tgt := 20) rfl (fun h15 => ?_) (fun h15 => absurd h15 (by omega))
  refine aw_run oX7_shift smOk 5 (pc' := 27) (L' := [some (.ref 0), some (.int (nI s)), some (.int (nI k)), some (.int (nI 8)), some (.int (nI 13))]) (st' := [.int ((nI 3) + (nI s)), .ref 11]) (I' := I) (J' := J) (G' := G) rfl ?_
  refine aw_iaN (3 + s) smOk rfl (addN rfl rfl) (by omega) (oX7_shift.dec rfl) ?_
  refine aw_if_ne (oX7_shift.dec rfl) (tgt := 59) rfl (fun h28 => by first | exact absurd h28 (by assumption) | exact absurd (by assumption) h28 | (exfalso; revert h28; decide) | simp_all) (fun h28 => ?_)
  refine aw_run oX7_shift smOk 5 (pc' := 38) (L' := [some (.ref 0), some (.int (nI s)), some (.int (nI k)), some (.int (nI 8)), some (.int (nI 13))]) (st' := [.int ((nI 8) + (nI s)), .ref 11]) (I' := I) (J' := J) (G' := G) rfl ?_
  refine aw_iaN (8 + s) smOk rfl (addN rfl rfl) (by omega) (oX7_shift.dec rfl) ?_
  refine aw_run oX7_shift smOk 1 (pc' := 40) (L' := [some (.ref 0), some (.int (nI s)), some (.int (nI k)), some (.int (nI 8)), some (.int (nI 13))]) (st' := [.int (nI k), .int (G 11 (8 + s))]) (I' := I) (J' := J) (G' := G) rfl ?_
  refine aw_ltN hl rfl (by omega) (by omega) (oX7_shift.dec rfl) (tgt := 59) rfl (fun h40 => ?_) (fun h40 => absurd h40 (by omega))
  refine aw_run oX7_shift smOk 1 (pc' := 61) (L' := [some (.ref 0), some (.int (nI s)), some (.int (nI k)), some (.int (nI 8)), some (.int (nI 13))]) (st' := [.int (-nI 2)]) (I' := I) (J' := J) (G' := G) rfl ?_
  exact aw_iret rfl (oX7_shift.dec rfl) pe_rfl
set_option maxRecDepth 20000 in
theorem m_hides_few {I : II} {J : JJ} {G : II} {P : Nat} (hP : G 5 0 = nI P) (hP5 : P ≤ 5) {s k : Nat} (hs : s < P) (hk1 : 1 ≤ k) (hk : k ≤ 60) (hp : G 11 (3 + s) = nI 0) {l h : Nat} (hl : G 11 (8 + s) = nI l) (hh : G 11 (13 + s) = nI h) (hl60 : l ≤ 60) (hh60 : h ≤ 60) (hf : l < k) : AMet SM mX7_hides [.ref 0, .int (nI s), .int (nI k)] I J G (PE (some (.int (-nI 2))) I J G) := by
  refine amet_en oX7_hides rfl rfl (L := [some (.ref 0), some (.int (nI s)), some (.int (nI k))]) rfl ?_
  refine aw_run oX7_hides smOk 5 (pc' := 7) (L' := [some (.ref 0), some (.int (nI s)), some (.int (nI k))]) (st' := [.int (nI 13), .int (nI 8), .int (nI k), .int (nI s), .ref 0]) (I' := I) (J' := J) (G' := G) rfl ?_
  refine aw_cV (st := []) 0 [.int (nI s), .int (nI k), .int (nI 8), .int (nI 13)] oX7_shift k7_150 rfl rfl rfl rfl rfl rfl rfl rfl (oX7_hides.dec rfl) (m_hides_fewS hP hP5 hs hk1 hk hp hl hh hl60 hh60 hf) ?_
  refine aw_eqS (st := [.int (-nI 2)]) rfl ?_
  exact aw_iret rfl (oX7_hides.dec rfl) pe_rfl
set_option maxRecDepth 20000 in
theorem m_hides_manyS {I : II} {J : JJ} {G : II} {P : Nat} (hP : G 5 0 = nI P) (hP5 : P ≤ 5) {s k : Nat} (hs : s < P) (hk1 : 1 ≤ k) (hk : k ≤ 60) (hp : G 11 (3 + s) = nI 0) {l h : Nat} (hl : G 11 (8 + s) = nI l) (hh : G 11 (13 + s) = nI h) (hl60 : l ≤ 60) (hh60 : h ≤ 60) (hf : k ≤ l) (hm : 60 < h + k) : AMet SM mX7_shift [.ref 0, .int (nI s), .int (nI k), .int (nI 8), .int (nI 13)] I J G (PE (some (.int (-nI 2))) I J G) := by
  refine amet_en oX7_shift rfl rfl (L := [some (.ref 0), some (.int (nI s)), some (.int (nI k)), some (.int (nI 8)), some (.int (nI 13))]) rfl ?_
  refine aw_run oX7_shift smOk 2 (pc' := 2) (L' := [some (.ref 0), some (.int (nI s)), some (.int (nI k)), some (.int (nI 8)), some (.int (nI 13))]) (st' := [.int (nI s), .ref 0]) (I' := I) (J' := J) (G' := G) rfl ?_
  refine aw_cV (st := []) 0 [.int (nI s)] oX7_isShip k7_117 rfl rfl rfl rfl rfl rfl rfl rfl (oX7_shift.dec rfl) (m_isShip_t hP (by omega) (by omega)) ?_
  refine aw_eqS (st := [.int (nI 1)]) rfl ?_
  refine aw_0eqN rfl (by omega) (oX7_shift.dec rfl) (tgt := 18) rfl (fun h5 => absurd h5 (by omega)) (fun h5 => ?_)
  refine aw_run oX7_shift smOk 3 (pc' := 12) (L' := [some (.ref 0), some (.int (nI s)), some (.int (nI k)), some (.int (nI 8)), some (.int (nI 13))]) (st' := [.int (nI 60), .int (nI 1), .int (nI k)]) (I' := I) (J' := J) (G' := G) rfl ?_
  refine aw_cS (st := []) [.int (nI k), .int (nI 1), .int (nI 60)] oX7_in k7_60 rfl rfl rfl rfl rfl (oX7_shift.dec rfl) (m_inN (by omega) (by omega) (by omega)) ?_
  refine aw_eqS (st := [.int (b1 (decide (1 ≤ k ∧ k ≤ 60)))]) rfl ?_
  refine aw_0neD (oX7_shift.dec rfl) (tgt := 20) rfl (fun h15 => ?_) (fun h15 => absurd h15 (by omega))
  refine aw_run oX7_shift smOk 5 (pc' := 27) (L' := [some (.ref 0), some (.int (nI s)), some (.int (nI k)), some (.int (nI 8)), some (.int (nI 13))]) (st' := [.int ((nI 3) + (nI s)), .ref 11]) (I' := I) (J' := J) (G' := G) rfl ?_
  refine aw_iaN (3 + s) smOk rfl (addN rfl rfl) (by omega) (oX7_shift.dec rfl) ?_
  refine aw_if_ne (oX7_shift.dec rfl) (tgt := 59) rfl (fun h28 => by first | exact absurd h28 (by assumption) | exact absurd (by assumption) h28 | (exfalso; revert h28; decide) | simp_all) (fun h28 => ?_)
  refine aw_run oX7_shift smOk 5 (pc' := 38) (L' := [some (.ref 0), some (.int (nI s)), some (.int (nI k)), some (.int (nI 8)), some (.int (nI 13))]) (st' := [.int ((nI 8) + (nI s)), .ref 11]) (I' := I) (J' := J) (G' := G) rfl ?_
  refine aw_iaN (8 + s) smOk rfl (addN rfl rfl) (by omega) (oX7_shift.dec rfl) ?_
  refine aw_run oX7_shift smOk 1 (pc' := 40) (L' := [some (.ref 0), some (.int (nI s)), some (.int (nI k)), some (.int (nI 8)), some (.int (nI 13))]) (st' := [.int (nI k), .int (G 11 (8 + s))]) (I' := I) (J' := J) (G' := G) rfl ?_
  refine aw_ltN hl rfl (by omega) (by omega) (oX7_shift.dec rfl) (tgt := 59) rfl (fun h40 => absurd h40 (by omega)) (fun h40 => ?_)
  refine aw_run oX7_shift smOk 5 (pc' := 51) (L' := [some (.ref 0), some (.int (nI s)), some (.int (nI k)), some (.int (nI 8)), some (.int (nI 13))]) (st' := [.int ((nI 13) + (nI s)), .ref 11]) (I' := I) (J' := J) (G' := G) rfl ?_
  refine aw_iaN (13 + s) smOk rfl (addN rfl rfl) (by omega) (oX7_shift.dec rfl) ?_
  refine aw_run oX7_shift smOk 3 (pc' := 56) (L' := [some (.ref 0), some (.int (nI s)), some (.int (nI k)), some (.int (nI 8)), some (.int (nI 13))]) (st' := [.int (nI 60), .int ((G 11 (13 + s)) + (nI k))]) (I' := I) (J' := J) (G' := G) rfl ?_
  refine aw_leN (addN hh rfl) rfl (by omega) (by omega) (oX7_shift.dec rfl) (tgt := 62) rfl (fun h56 => absurd h56 (by omega)) (fun h56 => ?_)
  refine aw_run oX7_shift smOk 1 (pc' := 61) (L' := [some (.ref 0), some (.int (nI s)), some (.int (nI k)), some (.int (nI 8)), some (.int (nI 13))]) (st' := [.int (-nI 2)]) (I' := I) (J' := J) (G' := G) rfl ?_
  exact aw_iret rfl (oX7_shift.dec rfl) pe_rfl
set_option maxRecDepth 20000 in
theorem m_hides_many {I : II} {J : JJ} {G : II} {P : Nat} (hP : G 5 0 = nI P) (hP5 : P ≤ 5) {s k : Nat} (hs : s < P) (hk1 : 1 ≤ k) (hk : k ≤ 60) (hp : G 11 (3 + s) = nI 0) {l h : Nat} (hl : G 11 (8 + s) = nI l) (hh : G 11 (13 + s) = nI h) (hl60 : l ≤ 60) (hh60 : h ≤ 60) (hf : k ≤ l) (hm : 60 < h + k) : AMet SM mX7_hides [.ref 0, .int (nI s), .int (nI k)] I J G (PE (some (.int (-nI 2))) I J G) := by
  refine amet_en oX7_hides rfl rfl (L := [some (.ref 0), some (.int (nI s)), some (.int (nI k))]) rfl ?_
  refine aw_run oX7_hides smOk 5 (pc' := 7) (L' := [some (.ref 0), some (.int (nI s)), some (.int (nI k))]) (st' := [.int (nI 13), .int (nI 8), .int (nI k), .int (nI s), .ref 0]) (I' := I) (J' := J) (G' := G) rfl ?_
  refine aw_cV (st := []) 0 [.int (nI s), .int (nI k), .int (nI 8), .int (nI 13)] oX7_shift k7_150 rfl rfl rfl rfl rfl rfl rfl rfl (oX7_hides.dec rfl) (m_hides_manyS hP hP5 hs hk1 hk hp hl hh hl60 hh60 hf hm) ?_
  refine aw_eqS (st := [.int (-nI 2)]) rfl ?_
  exact aw_iret rfl (oX7_hides.dec rfl) pe_rfl
set_option maxRecDepth 20000 in
theorem m_hides_okS {I : II} {J : JJ} {G : II} {P : Nat} (hP : G 5 0 = nI P) (hP5 : P ≤ 5) {s k : Nat} (hs : s < P) (hk1 : 1 ≤ k) (hk : k ≤ 60) {K : Nat} (hK : G 11 18 = nI K) (hK10 : K ≤ 10) (hp : G 11 (3 + s) = nI 0) {l h : Nat} (hl : G 11 (8 + s) = nI l) (hh : G 11 (13 + s) = nI h) (hl60 : l ≤ 60) (hh60 : h ≤ 60) (hf : k ≤ l) (hm : h + k ≤ 60) : AMet SM mX7_shift [.ref 0, .int (nI s), .int (nI k), .int (nI 8), .int (nI 13)] I J G (PE (some (.int ((upd (upd (knF (G 11) K) (8 + s) (((knF (G 11) K) (8 + s)) - (nI k))) (13 + s) (((upd (knF (G 11) K) (8 + s) (((knF (G 11) K) (8 + s)) - (nI k))) (13 + s)) + (nI k))) (13 + s)))) I J (va_up G 11 (upd (upd (knF (G 11) K) (8 + s) (((knF (G 11) K) (8 + s)) - (nI k))) (13 + s) (((upd (knF (G 11) K) (8 + s) (((knF (G 11) K) (8 + s)) - (nI k))) (13 + s)) + (nI k))))) := by
  refine amet_en oX7_shift rfl rfl (L := [some (.ref 0), some (.int (nI s)), some (.int (nI k)), some (.int (nI 8)), some (.int (nI 13))]) rfl ?_
  refine aw_run oX7_shift smOk 2 (pc' := 2) (L' := [some (.ref 0), some (.int (nI s)), some (.int (nI k)), some (.int (nI 8)), some (.int (nI 13))]) (st' := [.int (nI s), .ref 0]) (I' := I) (J' := J) (G' := G) rfl ?_
  refine aw_cV (st := []) 0 [.int (nI s)] oX7_isShip k7_117 rfl rfl rfl rfl rfl rfl rfl rfl (oX7_shift.dec rfl) (m_isShip_t hP (by omega) (by omega)) ?_
  refine aw_eqS (st := [.int (nI 1)]) rfl ?_
  refine aw_0eqN rfl (by omega) (oX7_shift.dec rfl) (tgt := 18) rfl (fun h5 => absurd h5 (by omega)) (fun h5 => ?_)
  refine aw_run oX7_shift smOk 3 (pc' := 12) (L' := [some (.ref 0), some (.int (nI s)), some (.int (nI k)), some (.int (nI 8)), some (.int (nI 13))]) (st' := [.int (nI 60), .int (nI 1), .int (nI k)]) (I' := I) (J' := J) (G' := G) rfl ?_
  refine aw_cS (st := []) [.int (nI k), .int (nI 1), .int (nI 60)] oX7_in k7_60 rfl rfl rfl rfl rfl (oX7_shift.dec rfl) (m_inN (by omega) (by omega) (by omega)) ?_
  refine aw_eqS (st := [.int (b1 (decide (1 ≤ k ∧ k ≤ 60)))]) rfl ?_
  refine aw_0neD (oX7_shift.dec rfl) (tgt := 20) rfl (fun h15 => ?_) (fun h15 => absurd h15 (by omega))
  refine aw_run oX7_shift smOk 5 (pc' := 27) (L' := [some (.ref 0), some (.int (nI s)), some (.int (nI k)), some (.int (nI 8)), some (.int (nI 13))]) (st' := [.int ((nI 3) + (nI s)), .ref 11]) (I' := I) (J' := J) (G' := G) rfl ?_
  refine aw_iaN (3 + s) smOk rfl (addN rfl rfl) (by omega) (oX7_shift.dec rfl) ?_
  refine aw_if_ne (oX7_shift.dec rfl) (tgt := 59) rfl (fun h28 => by first | exact absurd h28 (by assumption) | exact absurd (by assumption) h28 | (exfalso; revert h28; decide) | simp_all) (fun h28 => ?_)
  refine aw_run oX7_shift smOk 5 (pc' := 38) (L' := [some (.ref 0), some (.int (nI s)), some (.int (nI k)), some (.int (nI 8)), some (.int (nI 13))]) (st' := [.int ((nI 8) + (nI s)), .ref 11]) (I' := I) (J' := J) (G' := G) rfl ?_
  refine aw_iaN (8 + s) smOk rfl (addN rfl rfl) (by omega) (oX7_shift.dec rfl) ?_
  refine aw_run oX7_shift smOk 1 (pc' := 40) (L' := [some (.ref 0), some (.int (nI s)), some (.int (nI k)), some (.int (nI 8)), some (.int (nI 13))]) (st' := [.int (nI k), .int (G 11 (8 + s))]) (I' := I) (J' := J) (G' := G) rfl ?_
  refine aw_ltN hl rfl (by omega) (by omega) (oX7_shift.dec rfl) (tgt := 59) rfl (fun h40 => absurd h40 (by omega)) (fun h40 => ?_)
  refine aw_run oX7_shift smOk 5 (pc' := 51) (L' := [some (.ref 0), some (.int (nI s)), some (.int (nI k)), some (.int (nI 8)), some (.int (nI 13))]) (st' := [.int ((nI 13) + (nI s)), .ref 11]) (I' := I) (J' := J) (G' := G) rfl ?_
  refine aw_iaN (13 + s) smOk rfl (addN rfl rfl) (by omega) (oX7_shift.dec rfl) ?_
  refine aw_run oX7_shift smOk 3 (pc' := 56) (L' := [some (.ref 0), some (.int (nI s)), some (.int (nI k)), some (.int (nI 8)), some (.int (nI 13))]) (st' := [.int (nI 60), .int ((G 11 (13 + s)) + (nI k))]) (I' := I) (J' := J) (G' := G) rfl ?_
  refine aw_leN (addN hh rfl) rfl (by omega) (by omega) (oX7_shift.dec rfl) (tgt := 62) rfl (fun h56 => ?_) (fun h56 => absurd h56 (by omega))
  refine aw_run oX7_shift smOk 1 (pc' := 63) (L' := [some (.ref 0), some (.int (nI s)), some (.int (nI k)), some (.int (nI 8)), some (.int (nI 13))]) (st' := [.ref 0]) (I' := I) (J' := J) (G' := G) rfl ?_
  refine aw_cV (st := []) 0 [] oX7_know k7_124 rfl rfl rfl rfl rfl rfl rfl rfl (oX7_shift.dec rfl) (m_know hK (by omega)) ?_
  refine aw_eqG (G' := va_up G 11 (knF (G 11) K)) (rfl) ?_
  refine aw_eqS (st := []) rfl ?_
  refine aw_run oX7_shift smOk 6 (pc' := 74) (L' := [some (.ref 0), some (.int (nI s)), some (.int (nI k)), some (.int (nI 8)), some (.int (nI 13))]) (st' := [.int ((nI 8) + (nI s)), .ref 11, .int ((nI 8) + (nI s)), .ref 11]) (I' := I) (J' := J) (G' := va_up G 11 (knF (G 11) K)) rfl ?_
  refine aw_iaN (8 + s) smOk rfl (addN rfl rfl) (by omega) (oX7_shift.dec rfl) ?_
  refine aw_eqS (st := [.int ((knF (G 11) K) (8 + s)), .int ((nI 8) + (nI s)), .ref 11]) rfl ?_
  refine aw_run oX7_shift smOk 2 (pc' := 77) (L' := [some (.ref 0), some (.int (nI s)), some (.int (nI k)), some (.int (nI 8)), some (.int (nI 13))]) (st' := [.int (((knF (G 11) K) (8 + s)) - (nI k)), .int ((nI 8) + (nI s)), .ref 11]) (I' := I) (J' := J) (G' := va_up G 11 (knF (G 11) K)) rfl ?_
  refine aw_isN (8 + s) smOk rfl (addN rfl rfl) (by omega) (oX7_shift.dec rfl) ?_
  refine aw_eqG (G' := va_up G 11 (upd (knF (G 11) K) (8 + s) (((knF (G 11) K) (8 + s)) - (nI k)))) (bx_uu _ _ _ _) ?_
  refine aw_run oX7_shift smOk 6 (pc' := 87) (L' := [some (.ref 0), some (.int (nI s)), some (.int (nI k)), some (.int (nI 8)), some (.int (nI 13))]) (st' := [.int ((nI 13) + (nI s)), .ref 11, .int ((nI 13) + (nI s)), .ref 11]) (I' := I) (J' := J) (G' := va_up G 11 (upd (knF (G 11) K) (8 + s) (((knF (G 11) K) (8 + s)) - (nI k)))) rfl ?_
  refine aw_iaN (13 + s) smOk rfl (addN rfl rfl) (by omega) (oX7_shift.dec rfl) ?_
  refine aw_eqS (st := [.int ((upd (knF (G 11) K) (8 + s) (((knF (G 11) K) (8 + s)) - (nI k))) (13 + s)), .int ((nI 13) + (nI s)), .ref 11]) rfl ?_
  refine aw_run oX7_shift smOk 2 (pc' := 90) (L' := [some (.ref 0), some (.int (nI s)), some (.int (nI k)), some (.int (nI 8)), some (.int (nI 13))]) (st' := [.int (((upd (knF (G 11) K) (8 + s) (((knF (G 11) K) (8 + s)) - (nI k))) (13 + s)) + (nI k)), .int ((nI 13) + (nI s)), .ref 11]) (I' := I) (J' := J) (G' := va_up G 11 (upd (knF (G 11) K) (8 + s) (((knF (G 11) K) (8 + s)) - (nI k)))) rfl ?_
  refine aw_isN (13 + s) smOk rfl (addN rfl rfl) (by omega) (oX7_shift.dec rfl) ?_
  refine aw_eqG (G' := va_up G 11 (upd (upd (knF (G 11) K) (8 + s) (((knF (G 11) K) (8 + s)) - (nI k))) (13 + s) (((upd (knF (G 11) K) (8 + s) (((knF (G 11) K) (8 + s)) - (nI k))) (13 + s)) + (nI k)))) (bx_uu _ _ _ _) ?_
  refine aw_run oX7_shift smOk 5 (pc' := 99) (L' := [some (.ref 0), some (.int (nI s)), some (.int (nI k)), some (.int (nI 8)), some (.int (nI 13))]) (st' := [.int ((nI 13) + (nI s)), .ref 11]) (I' := I) (J' := J) (G' := va_up G 11 (upd (upd (knF (G 11) K) (8 + s) (((knF (G 11) K) (8 + s)) - (nI k))) (13 + s) (((upd (knF (G 11) K) (8 + s) (((knF (G 11) K) (8 + s)) - (nI k))) (13 + s)) + (nI k)))) rfl ?_
  refine aw_iaN (13 + s) smOk rfl (addN rfl rfl) (by omega) (oX7_shift.dec rfl) ?_
  refine aw_eqS (st := [.int ((upd (upd (knF (G 11) K) (8 + s) (((knF (G 11) K) (8 + s)) - (nI k))) (13 + s) (((upd (knF (G 11) K) (8 + s) (((knF (G 11) K) (8 + s)) - (nI k))) (13 + s)) + (nI k))) (13 + s))]) rfl ?_
  exact aw_iret rfl (oX7_shift.dec rfl) pe_rfl
set_option maxRecDepth 20000 in
theorem m_hides_ok {I : II} {J : JJ} {G : II} {P : Nat} (hP : G 5 0 = nI P) (hP5 : P ≤ 5) {s k : Nat} (hs : s < P) (hk1 : 1 ≤ k) (hk : k ≤ 60) {K : Nat} (hK : G 11 18 = nI K) (hK10 : K ≤ 10) (hp : G 11 (3 + s) = nI 0) {l h : Nat} (hl : G 11 (8 + s) = nI l) (hh : G 11 (13 + s) = nI h) (hl60 : l ≤ 60) (hh60 : h ≤ 60) (hf : k ≤ l) (hm : h + k ≤ 60) : AMet SM mX7_hides [.ref 0, .int (nI s), .int (nI k)] I J G (PE (some (.int ((upd (upd (knF (G 11) K) (8 + s) (((knF (G 11) K) (8 + s)) - (nI k))) (13 + s) (((upd (knF (G 11) K) (8 + s) (((knF (G 11) K) (8 + s)) - (nI k))) (13 + s)) + (nI k))) (13 + s)))) I J (va_up G 11 (upd (upd (knF (G 11) K) (8 + s) (((knF (G 11) K) (8 + s)) - (nI k))) (13 + s) (((upd (knF (G 11) K) (8 + s) (((knF (G 11) K) (8 + s)) - (nI k))) (13 + s)) + (nI k))))) := by
  refine amet_en oX7_hides rfl rfl (L := [some (.ref 0), some (.int (nI s)), some (.int (nI k))]) rfl ?_
  refine aw_run oX7_hides smOk 5 (pc' := 7) (L' := [some (.ref 0), some (.int (nI s)), some (.int (nI k))]) (st' := [.int (nI 13), .int (nI 8), .int (nI k), .int (nI s), .ref 0]) (I' := I) (J' := J) (G' := G) rfl ?_
  refine aw_cV (st := []) 0 [.int (nI s), .int (nI k), .int (nI 8), .int (nI 13)] oX7_shift k7_150 rfl rfl rfl rfl rfl rfl rfl rfl (oX7_hides.dec rfl) (m_hides_okS hP hP5 hs hk1 hk hK hK10 hp hl hh hl60 hh60 hf hm) ?_
  refine aw_eqS (st := [.int ((upd (upd (knF (G 11) K) (8 + s) (((knF (G 11) K) (8 + s)) - (nI k))) (13 + s) (((upd (knF (G 11) K) (8 + s) (((knF (G 11) K) (8 + s)) - (nI k))) (13 + s)) + (nI k))) (13 + s))]) rfl ?_
  exact aw_iret rfl (oX7_hides.dec rfl) pe_rfl
