set_option maxRecDepth 20000 in
theorem c_choose {I : II} {J : JJ} {G : II}  {w l a : Nat} (hw : w < 12) (hl : l < 32) (ha : a < 32) {sm : Nat → Int32} (hpos : -nI 1 < sm 0) (hs : ∀ m, m ≤ a → subB m a = true → G 33 m + G 31 ((w + 1) * 32 + anN l m) = sm m) : AMet SX mX3_choose [.ref 8, .int (nI w), .int (nI l), .int (nI a)] I J G (fun r I' J' G' => r = none ∧ I' = I ∧ J' = J ∧ ∃ b c, G' = va_up (va_up G 31 b) 32 c ∧ (∀ i, i ≠ w * 32 + l → b i = G 31 i ∧ c i = G 32 i) ∧ b (w * 32 + l) = valO (ffF sm (fun m => subB m a) (a + 1)) ∧ c (w * 32 + l) = nI (chO (ffF sm (fun m => subB m a) (a + 1)))) := by
  refine amet_en oX3_choose rfl rfl (L := [some (.ref 8), some (.int (nI w)), some (.int (nI l)), some (.int (nI a)), none, none, none, none]) rfl ?_
  have hal : ∀ m, m < 32 → anN l m < 32 := fun m hm => anN_lt l (by omega) m hm
  have loop : ∀ (n s : Nat) (x : Int32) (b : Nat → Int32) (c : Nat → Int32), (s + n = a + 1) → (x = nI s) → (∀ i, i ≠ w * 32 + l → b i = G 31 i ∧ c i = G 32 i) → (b (w * 32 + l) = bO (-nI 1) (ffF sm (fun m => subB m a) s)) → (∀ q, ffF sm (fun m => subB m a) s = some q → c (w * 32 + l) = nI q.2) → AW SX mX3_choose 27 [some (.ref 8), some (.int (nI w)), some (.int (nI l)), some (.int (nI a)), some (.int ((nI w * nI 32) + nI l)), some (.int ((nI w + nI 1) * nI 32)), some (.int x), none] [] I J (va_up (va_up G 31 b) 32 c) (fun r I' J' G' => r = none ∧ I' = I ∧ J' = J ∧ ∃ b c, G' = va_up (va_up G 31 b) 32 c ∧ (∀ i, i ≠ w * 32 + l → b i = G 31 i ∧ c i = G 32 i) ∧ b (w * 32 + l) = valO (ffF sm (fun m => subB m a) (a + 1)) ∧ c (w * 32 + l) = nI (chO (ffF sm (fun m => subB m a) (a + 1)))) := by
    intro n
    induction n with
    | zero =>
      intro s x b c hsn hx ho hb hc
      refine aw_run oX3_choose sxOk 2 (pc' := 30) (L' := [some (.ref 8), some (.int (nI w)), some (.int (nI l)), some (.int (nI a)), some (.int ((nI w * nI 32) + nI l)), some (.int ((nI w + nI 1) * nI 32)), some (.int x), none]) (st' := [.int (nI a), .int x]) (I' := I) (J' := J) (G' := va_up (va_up G 31 b) 32 c) rfl ?_
      refine aw_gtN hx rfl (by omega) (by omega) (oX3_choose.dec rfl) (tgt := 102) rfl (fun h30 => ?_) (fun h30 => absurd h30 (by omega))
      obtain rfl : s = a + 1 := by omega
      obtain ⟨q, hq1, -⟩ := ff_ge (sum := sm) (sub := fun m => subB m a) (subB_0 (by omega)) a
      exact aw_vret rfl (oX3_choose.dec rfl) (⟨rfl, rfl, rfl, b, c, rfl, ho, by rw [hb, hq1]; rfl, by rw [hc q hq1, hq1]; rfl⟩)
    | succ n ih =>
      intro s x b c hsn hx ho hb hc
      have han := hal s (by omega)
      refine aw_run oX3_choose sxOk 2 (pc' := 30) (L' := [some (.ref 8), some (.int (nI w)), some (.int (nI l)), some (.int (nI a)), some (.int ((nI w * nI 32) + nI l)), some (.int ((nI w + nI 1) * nI 32)), some (.int x), none]) (st' := [.int (nI a), .int x]) (I' := I) (J' := J) (G' := va_up (va_up G 31 b) 32 c) rfl ?_
      refine aw_gtN hx rfl (by omega) (by omega) (oX3_choose.dec rfl) (tgt := 102) rfl (fun h30 => absurd h30 (by omega)) (fun h30 => ?_)
      refine aw_run oX3_choose sxOk 5 (pc' := 39) (L' := [some (.ref 8), some (.int (nI w)), some (.int (nI l)), some (.int (nI a)), some (.int ((nI w * nI 32) + nI l)), some (.int ((nI w + nI 1) * nI 32)), some (.int x), none]) (st' := [.int (x &&& ((nI a) ^^^ (-nI 1)))]) (I' := I) (J' := J) (G' := va_up (va_up G 31 b) 32 c) rfl ?_
      refine aw_0neN (anNI hx rfl (by omega) (by omega)) (Nat.lt_of_lt_of_le (anN_lt _ (by omega) _ (by omega)) (by decide)) (oX3_choose.dec rfl) (tgt := 96) rfl (fun h39 => ?_) (fun h39 => ?_)
      · refine aw_run oX3_choose sxOk 2 (pc' := 27) (L' := [some (.ref 8), some (.int (nI w)), some (.int (nI l)), some (.int (nI a)), some (.int ((nI w * nI 32) + nI l)), some (.int ((nI w + nI 1) * nI 32)), some (.int (x + (nI 1))), none]) (st' := []) (I' := I) (J' := J) (G' := va_up (va_up G 31 b) 32 c) rfl ?_
        have hns : ¬ subB s a = true := by unfold subB; simpa using h39
        exact ih (s + 1) _ _ _ (by omega) (addN hx rfl) ho (by rw [ff_no (sub := fun m => subB m a) hns]; exact hb) (by rw [ff_no (sub := fun m => subB m a) hns]; exact hc)
      · refine aw_run oX3_choose sxOk 3 (pc' := 48) (L' := [some (.ref 8), some (.int (nI w)), some (.int (nI l)), some (.int (nI a)), some (.int ((nI w * nI 32) + nI l)), some (.int ((nI w + nI 1) * nI 32)), some (.int x), none]) (st' := [.int x, .ref 33]) (I' := I) (J' := J) (G' := va_up (va_up G 31 b) 32 c) rfl ?_
        refine aw_iaN s sxOk rfl hx (by omega) (oX3_choose.dec rfl) ?_
        refine aw_eqS (st := [.int (G 33 s)]) rfl ?_
        refine aw_run oX3_choose sxOk 9 (pc' := 62) (L' := [some (.ref 8), some (.int (nI w)), some (.int (nI l)), some (.int (nI a)), some (.int ((nI w * nI 32) + nI l)), some (.int ((nI w + nI 1) * nI 32)), some (.int x), none]) (st' := [.int (((nI w + nI 1) * nI 32) + ((nI l) &&& (x ^^^ (-nI 1)))), .ref 31, .int (G 33 s)]) (I' := I) (J' := J) (G' := va_up (va_up G 31 b) 32 c) rfl ?_
        refine aw_iaN ((w + 1) * 32 + (anN l s)) sxOk rfl (addN (mulN (addN rfl rfl) rfl) (anNI rfl hx (by omega) (by omega))) (by omega) (oX3_choose.dec rfl) ?_
        refine aw_eqS (st := [.int (b ((w + 1) * 32 + (anN l s))), .int (G 33 s)]) rfl ?_
        refine aw_run oX3_choose sxOk 6 (pc' := 74) (L' := [some (.ref 8), some (.int (nI w)), some (.int (nI l)), some (.int (nI a)), some (.int ((nI w * nI 32) + nI l)), some (.int ((nI w + nI 1) * nI 32)), some (.int x), some (.int ((G 33 s) + (b ((w + 1) * 32 + (anN l s)))))]) (st' := [.int ((nI w * nI 32) + nI l), .ref 31, .int ((G 33 s) + (b ((w + 1) * 32 + (anN l s))))]) (I' := I) (J' := J) (G' := va_up (va_up G 31 b) 32 c) rfl ?_
        refine aw_iaN (w * 32 + l) sxOk rfl (addN (mulN rfl rfl) rfl) (by omega) (oX3_choose.dec rfl) ?_
        refine aw_eqS (st := [.int (b (w * 32 + l)), .int ((G 33 s) + (b ((w + 1) * 32 + (anN l s))))]) rfl ?_
        refine aw_icmp_le (oX3_choose.dec rfl) (tgt := 96) rfl (fun h75 => ?_) (fun h75 => ?_)
        · refine aw_run oX3_choose sxOk 2 (pc' := 27) (L' := [some (.ref 8), some (.int (nI w)), some (.int (nI l)), some (.int (nI a)), some (.int ((nI w * nI 32) + nI l)), some (.int ((nI w + nI 1) * nI 32)), some (.int (x + (nI 1))), some (.int ((G 33 s) + (b ((w + 1) * 32 + (anN l s)))))]) (st' := []) (I' := I) (J' := J) (G' := va_up (va_up G 31 b) 32 c) rfl ?_
          refine aw_forget1 7 (L' := [some (.ref 8), some (.int (nI w)), some (.int (nI l)), some (.int (nI a)), some (.int ((nI w * nI 32) + nI l)), some (.int ((nI w + nI 1) * nI 32)), some (.int (x + (nI 1))), none]) rfl ?_
          have hss : subB s a = true := by unfold subB; simpa using h39
          have hsm : G 33 s + b ((w + 1) * 32 + anN l s) = sm s := by rw [(ho _ (by omega)).1]; exact hs s (by omega) hss
          rw [hsm, hb] at h75
          exact ih (s + 1) _ _ _ (by omega) (addN hx rfl) ho (by rw [ff_old (sub := fun m => subB m a) hss (subB_0 (by omega)) hpos h75]; exact hb) (by rw [ff_old (sub := fun m => subB m a) hss (subB_0 (by omega)) hpos h75]; exact hc)
        · refine aw_run oX3_choose sxOk 4 (pc' := 86) (L' := [some (.ref 8), some (.int (nI w)), some (.int (nI l)), some (.int (nI a)), some (.int ((nI w * nI 32) + nI l)), some (.int ((nI w + nI 1) * nI 32)), some (.int x), some (.int ((G 33 s) + (b ((w + 1) * 32 + (anN l s)))))]) (st' := [.int ((G 33 s) + (b ((w + 1) * 32 + (anN l s)))), .int ((nI w * nI 32) + nI l), .ref 31]) (I' := I) (J' := J) (G' := va_up (va_up G 31 b) 32 c) rfl ?_
          refine aw_isN (w * 32 + l) sxOk rfl (addN (mulN rfl rfl) rfl) (by omega) (oX3_choose.dec rfl) ?_
          refine aw_eqG (G' := va_up (va_up G 31 (upd b (w * 32 + l) ((G 33 s) + (b ((w + 1) * 32 + (anN l s)))))) 32 c) (by funext q; simp only [va_up]; repeat' split; all_goals first | rfl | (exfalso; omega) | simp_all) ?_
          refine aw_run oX3_choose sxOk 4 (pc' := 95) (L' := [some (.ref 8), some (.int (nI w)), some (.int (nI l)), some (.int (nI a)), some (.int ((nI w * nI 32) + nI l)), some (.int ((nI w + nI 1) * nI 32)), some (.int x), some (.int ((G 33 s) + (b ((w + 1) * 32 + (anN l s)))))]) (st' := [.int x, .int ((nI w * nI 32) + nI l), .ref 32]) (I' := I) (J' := J) (G' := va_up (va_up G 31 (upd b (w * 32 + l) ((G 33 s) + (b ((w + 1) * 32 + (anN l s)))))) 32 c) rfl ?_
          refine aw_isN (w * 32 + l) sxOk rfl (addN (mulN rfl rfl) rfl) (by omega) (oX3_choose.dec rfl) ?_
          refine aw_eqG (G' := va_up (va_up G 31 (upd b (w * 32 + l) ((G 33 s) + (b ((w + 1) * 32 + (anN l s)))))) 32 (upd c (w * 32 + l) x)) (bx_uu _ _ _ _) ?_
          refine aw_run oX3_choose sxOk 2 (pc' := 27) (L' := [some (.ref 8), some (.int (nI w)), some (.int (nI l)), some (.int (nI a)), some (.int ((nI w * nI 32) + nI l)), some (.int ((nI w + nI 1) * nI 32)), some (.int (x + (nI 1))), some (.int ((G 33 s) + (b ((w + 1) * 32 + (anN l s)))))]) (st' := []) (I' := I) (J' := J) (G' := va_up (va_up G 31 (upd b (w * 32 + l) ((G 33 s) + (b ((w + 1) * 32 + (anN l s)))))) 32 (upd c (w * 32 + l) x)) rfl ?_
          refine aw_forget1 7 (L' := [some (.ref 8), some (.int (nI w)), some (.int (nI l)), some (.int (nI a)), some (.int ((nI w * nI 32) + nI l)), some (.int ((nI w + nI 1) * nI 32)), some (.int (x + (nI 1))), none]) rfl ?_
          have hss : subB s a = true := by unfold subB; simpa using h39
          have hsm : G 33 s + b ((w + 1) * 32 + anN l s) = sm s := by rw [(ho _ (by omega)).1]; exact hs s (by omega) hss
          rw [hsm, hb] at h75
          exact ih (s + 1) _ _ _ (by omega) (addN hx rfl) (fun i hi => by rw [pk_un hi, pk_un hi]; exact ho i hi) (by rw [pk_us, ff_new (sub := fun m => subB m a) hss h75]; exact hsm) (fun q hq => by rw [ff_new (sub := fun m => subB m a) hss h75] at hq; cases hq; rw [pk_us]; exact hx)
  refine aw_run oX3_choose sxOk 16 (pc' := 23) (L' := [some (.ref 8), some (.int (nI w)), some (.int (nI l)), some (.int (nI a)), some (.int (((nI w) * (nI 32)) + (nI l))), some (.int (((nI w) + (nI 1)) * (nI 32))), none, none]) (st' := [.int (-nI 1), .int (((nI w) * (nI 32)) + (nI l)), .ref 31]) (I' := I) (J' := J) (G' := G) rfl ?_
  refine aw_isN (w * 32 + l) sxOk rfl (addN (mulN rfl rfl) rfl) (by omega) (oX3_choose.dec rfl) ?_
  refine aw_eqG (G' := va_up G 31 (upd (G 31) (w * 32 + l) (-nI 1))) (rfl) ?_
  refine aw_run oX3_choose sxOk 2 (pc' := 27) (L' := [some (.ref 8), some (.int (nI w)), some (.int (nI l)), some (.int (nI a)), some (.int (((nI w) * (nI 32)) + (nI l))), some (.int (((nI w) + (nI 1)) * (nI 32))), some (.int (nI 0)), none]) (st' := []) (I' := I) (J' := J) (G' := va_up G 31 (upd (G 31) (w * 32 + l) (-nI 1))) rfl ?_
  refine aw_eqG (G' := va_up (va_up G 31 (upd (G 31) (w * 32 + l) (-nI 1))) 32 (G 32)) (by funext q; simp only [va_up]; by_cases h1 : q = 32; subst h1; simp; simp [h1]) ?_
  exact loop (a + 1) 0 _ _ _ (by omega) rfl (fun i hi => ⟨pk_un hi, rfl⟩) pk_us (fun q hq => by cases hq)
set_option maxRecDepth 20000 in
theorem c_reckonWorths {I : II} {J : JJ} {G : II} {P : Nat} (hP : I 2 7 = nI P) (hP5 : P ≤ 5) {r w : Nat} (hr : r < 32) (hw : w < 12) (hsil : ∀ s, s < P → nI 0 ≤ sil (G 24) s) : AMet SX mX3_reckonWorths [.ref 8, .int (nI r), .int (nI w)] I J G (fun r0 I' J' G' => r0 = none ∧ I' = I ∧ J' = J ∧ ∃ v, G' = va_up G 33 v ∧ ∀ m, m ≤ r → subB m r = true → v m = wor (G 24) (G 16) (G 13 w) (G 12 w) P m) := by
  refine amet_en oX3_reckonWorths rfl rfl (L := [some (.ref 8), some (.int (nI r)), some (.int (nI w)), none]) rfl ?_
  have loop : ∀ (n s : Nat) (x : Int32) (v : Nat → Int32), (s + n = r + 1) → (x = nI s) → (∀ m, m < s → subB m r = true → v m = wor (G 24) (G 16) (G 13 w) (G 12 w) P m) → AW SX mX3_reckonWorths 2 [some (.ref 8), some (.int (nI r)), some (.int (nI w)), some (.int x)] [] I J (va_up G 33 v) (fun r0 I' J' G' => r0 = none ∧ I' = I ∧ J' = J ∧ ∃ v, G' = va_up G 33 v ∧ ∀ m, m ≤ r → subB m r = true → v m = wor (G 24) (G 16) (G 13 w) (G 12 w) P m) := by
    intro n
    induction n with
    | zero =>
      intro s x v hsn hx hv
      refine aw_run oX3_reckonWorths sxOk 2 (pc' := 4) (L' := [some (.ref 8), some (.int (nI r)), some (.int (nI w)), some (.int x)]) (st' := [.int (nI r), .int x]) (I' := I) (J' := J) (G' := va_up G 33 v) rfl ?_
      refine aw_gtN hx rfl (by omega) (by omega) (oX3_reckonWorths.dec rfl) (tgt := 36) rfl (fun h4 => ?_) (fun h4 => absurd h4 (by omega))
      exact aw_vret rfl (oX3_reckonWorths.dec rfl) (⟨rfl, rfl, rfl, v, rfl, fun m hm hb => hv m (by omega) hb⟩)
    | succ n ih =>
      intro s x v hsn hx hv
      refine aw_run oX3_reckonWorths sxOk 2 (pc' := 4) (L' := [some (.ref 8), some (.int (nI r)), some (.int (nI w)), some (.int x)]) (st' := [.int (nI r), .int x]) (I' := I) (J' := J) (G' := va_up G 33 v) rfl ?_
      refine aw_gtN hx rfl (by omega) (by omega) (oX3_reckonWorths.dec rfl) (tgt := 36) rfl (fun h4 => absurd h4 (by omega)) (fun h4 => ?_)
      refine aw_run oX3_reckonWorths sxOk 5 (pc' := 12) (L' := [some (.ref 8), some (.int (nI r)), some (.int (nI w)), some (.int x)]) (st' := [.int (x &&& ((nI r) ^^^ (-nI 1)))]) (I' := I) (J' := J) (G' := va_up G 33 v) rfl ?_
      refine aw_0neN (anNI hx rfl (by omega) (by omega)) (Nat.lt_of_lt_of_le (anN_lt _ (by omega) _ (by omega)) (by decide)) (oX3_reckonWorths.dec rfl) (tgt := 30) rfl (fun h12 => ?_) (fun h12 => ?_)
      · refine aw_run oX3_reckonWorths sxOk 2 (pc' := 2) (L' := [some (.ref 8), some (.int (nI r)), some (.int (nI w)), some (.int (x + (nI 1)))]) (st' := []) (I' := I) (J' := J) (G' := va_up G 33 v) rfl ?_
        exact ih (s + 1) _ _ (by omega) (addN hx rfl) (fun m hm hb => by rcases Nat.lt_or_ge m s with h1 | h1; exact hv m h1 hb; exact absurd (by unfold subB at hb; simpa using hb) (by rw [show m = s by omega]; exact h12))
      · refine aw_run oX3_reckonWorths sxOk 7 (pc' := 26) (L' := [some (.ref 8), some (.int (nI r)), some (.int (nI w)), some (.int x)]) (st' := [.int (nI w), .int x, .ref 7, .int x, .ref 33]) (I' := I) (J' := J) (G' := va_up G 33 v) rfl ?_
        refine aw_eqS (st := [.int (nI w), .int (nI s), .ref 7, .int x, .ref 33]) (by rw [show x = nI s from hx]) ?_
        refine aw_cV (st := [.int x, .ref 33]) 7 [.int (nI s), .int (nI w)] oX0_worthOf k3_66 rfl rfl rfl rfl rfl rfl rfl rfl (oX3_reckonWorths.dec rfl) (c_worthOf (I := I) (J := J) (G := va_up G 33 v) hP (by omega) (by omega) (by omega) hsil) ?_
        refine aw_eqS (st := [.int (wor (G 24) (G 16) (G 13 w) (G 12 w) P s), .int x, .ref 33]) rfl ?_
        refine aw_isN s sxOk rfl hx (by omega) (oX3_reckonWorths.dec rfl) ?_
        refine aw_eqG (G' := va_up G 33 (upd v s (wor (G 24) (G 16) (G 13 w) (G 12 w) P s))) (bx_uu _ _ _ _) ?_
        refine aw_run oX3_reckonWorths sxOk 2 (pc' := 2) (L' := [some (.ref 8), some (.int (nI r)), some (.int (nI w)), some (.int (x + (nI 1)))]) (st' := []) (I' := I) (J' := J) (G' := va_up G 33 (upd v s (wor (G 24) (G 16) (G 13 w) (G 12 w) P s))) rfl ?_
        exact ih (s + 1) _ _ (by omega) (addN hx rfl) (fun m hm hb => by by_cases e : m = s; (subst e; exact pk_us); (rw [pk_un e]; exact hv m (by omega) hb))
  refine aw_run oX3_reckonWorths sxOk 2 (pc' := 2) (L' := [some (.ref 8), some (.int (nI r)), some (.int (nI w)), some (.int (nI 0))]) (st' := []) (I' := I) (J' := J) (G' := G) rfl ?_
  refine aw_eqG (upG_id G 33).symm ?_
  exact loop (r + 1) 0 _ _ (by omega) rfl (fun m hm => absurd hm (by omega))
set_option maxRecDepth 20000 in
theorem c_reckonFrom {I : II} {J : JJ} {G : II} {P : Nat} (hP : I 2 7 = nI P) (hP5 : P ≤ 5) {Wk : Nat} (hW : I 2 6 = nI Wk) (hWk : Wk ≤ 12)  {fi : Nat} (hfi : fi ≤ Wk) (hsil : ∀ s, s < P → nI 0 ≤ sil (G 24) s) : AMet SX mX3_reckonFrom [.ref 8, .int (nI fi)] I J G (fun r I' J' G' => r = none ∧ I' = I ∧ J' = J ∧ ∃ b c v, G' = va_up (va_up (va_up G 31 b) 32 c) 33 v ∧ ∀ w, fi ≤ w → w < Wk → ∀ u, u < 32 → anN u (setN (fun s => decide (G 24 (3 + s) = nI 0)) P) = 0 → b (w * 32 + u) = valO (plV (fun m w => wor (G 24) (G 16) (G 13 w) (G 12 w) P m) (fun w => setN (fun s => decide (G 17 s ≤ nI w)) P) Wk (Wk - w) u) ∧ c (w * 32 + u) = nI (chO (plV (fun m w => wor (G 24) (G 16) (G 13 w) (G 12 w) P m) (fun w => setN (fun s => decide (G 17 s ≤ nI w)) P) Wk (Wk - w) u))) := by
  refine amet_en oX3_reckonFrom rfl rfl (L := [some (.ref 8), some (.int (nI fi)), none, none, none, none]) rfl ?_
  have hp32 : 2 ^ P ≤ 32 := Nat.pow_le_pow_right (by decide) hP5
  have hpo : setN (fun s => decide (G 24 (3 + s) = nI 0)) P < 32 := Nat.lt_of_lt_of_le (setN_lt _ _) hp32
  have hrd : ∀ w, setN (fun s => decide (G 17 s ≤ nI w)) P < 32 := fun w => Nat.lt_of_lt_of_le (setN_lt _ _) hp32
  have inner : ∀ (w : Nat) (y z : Int32) (b0 c0 v : Nat → Int32) (K9 : ∀ (b c : Nat → Int32), (∀ i, (w + 1) * 32 ≤ i → b i = b0 i ∧ c i = c0 i) → (∀ u, u < 32 → anN u (setN (fun s => decide (G 24 (3 + s) = nI 0)) P) = 0 → b (w * 32 + u) = valO (plV (fun m w => wor (G 24) (G 16) (G 13 w) (G 12 w) P m) (fun w => setN (fun s => decide (G 17 s ≤ nI w)) P) Wk (Wk - w) u) ∧ c (w * 32 + u) = nI (chO (plV (fun m w => wor (G 24) (G 16) (G 13 w) (G 12 w) P m) (fun w => setN (fun s => decide (G 17 s ≤ nI w)) P) Wk (Wk - w) u))) → AW SX mX3_reckonFrom 110 [some (.ref 8), some (.int (nI fi)), some (.int (nI (setN (fun s => decide (G 24 (3 + s) = nI 0)) P))), some (.int y), none, none] [] I J (va_up (va_up (va_up G 31 b) 32 c) 33 v) (fun r I' J' G' => r = none ∧ I' = I ∧ J' = J ∧ ∃ b c v, G' = va_up (va_up (va_up G 31 b) 32 c) 33 v ∧ ∀ w, fi ≤ w → w < Wk → ∀ u, u < 32 → anN u (setN (fun s => decide (G 24 (3 + s) = nI 0)) P) = 0 → b (w * 32 + u) = valO (plV (fun m w => wor (G 24) (G 16) (G 13 w) (G 12 w) P m) (fun w => setN (fun s => decide (G 17 s ≤ nI w)) P) Wk (Wk - w) u) ∧ c (w * 32 + u) = nI (chO (plV (fun m w => wor (G 24) (G 16) (G 13 w) (G 12 w) P m) (fun w => setN (fun s => decide (G 17 s ≤ nI w)) P) Wk (Wk - w) u)))), w < Wk → y = nI w → z = nI ((setN (fun s => decide (G 24 (3 + s) = nI 0)) P) &&& setN (fun s => decide (G 17 s ≤ nI w)) P) → (∀ m, m ≤ (setN (fun s => decide (G 24 (3 + s) = nI 0)) P) &&& setN (fun s => decide (G 17 s ≤ nI w)) P → subB m ((setN (fun s => decide (G 24 (3 + s) = nI 0)) P) &&& setN (fun s => decide (G 17 s ≤ nI w)) P) = true → v m = wor (G 24) (G 16) (G 13 w) (G 12 w) P m) → (∀ u, u < 32 → anN u (setN (fun s => decide (G 24 (3 + s) = nI 0)) P) = 0 → b0 ((w + 1) * 32 + u) = valO (plV (fun m w => wor (G 24) (G 16) (G 13 w) (G 12 w) P m) (fun w => setN (fun s => decide (G 17 s ≤ nI w)) P) Wk (Wk - (w + 1)) u)) → ∀ (n s : Nat) (x : Int32) (b c : Nat → Int32), (s + n = (setN (fun s => decide (G 24 (3 + s) = nI 0)) P) + 1) → (x = nI s) → (∀ i, (w + 1) * 32 ≤ i → b i = b0 i ∧ c i = c0 i) → (∀ u, u < s → anN u (setN (fun s => decide (G 24 (3 + s) = nI 0)) P) = 0 → b (w * 32 + u) = valO (plV (fun m w => wor (G 24) (G 16) (G 13 w) (G 12 w) P m) (fun w => setN (fun s => decide (G 17 s ≤ nI w)) P) Wk (Wk - w) u) ∧ c (w * 32 + u) = nI (chO (plV (fun m w => wor (G 24) (G 16) (G 13 w) (G 12 w) P m) (fun w => setN (fun s => decide (G 17 s ≤ nI w)) P) Wk (Wk - w) u))) → AW SX mX3_reckonFrom 77 [some (.ref 8), some (.int (nI fi)), some (.int (nI (setN (fun s => decide (G 24 (3 + s) = nI 0)) P))), some (.int y), some (.int z), some (.int x)] [] I J (va_up (va_up (va_up G 31 b) 32 c) 33 v) (fun r I' J' G' => r = none ∧ I' = I ∧ J' = J ∧ ∃ b c v, G' = va_up (va_up (va_up G 31 b) 32 c) 33 v ∧ ∀ w, fi ≤ w → w < Wk → ∀ u, u < 32 → anN u (setN (fun s => decide (G 24 (3 + s) = nI 0)) P) = 0 → b (w * 32 + u) = valO (plV (fun m w => wor (G 24) (G 16) (G 13 w) (G 12 w) P m) (fun w => setN (fun s => decide (G 17 s ≤ nI w)) P) Wk (Wk - w) u) ∧ c (w * 32 + u) = nI (chO (plV (fun m w => wor (G 24) (G 16) (G 13 w) (G 12 w) P m) (fun w => setN (fun s => decide (G 17 s ≤ nI w)) P) Wk (Wk - w) u))) := by
    intro w y z b0 c0 v K9 hwk hy hz hv hup n
    induction n with
    | zero =>
      intro s x b c hsn hx hk hd
      refine aw_run oX3_reckonFrom sxOk 2 (pc' := 80) (L' := [some (.ref 8), some (.int (nI fi)), some (.int (nI (setN (fun s => decide (G 24 (3 + s) = nI 0)) P))), some (.int y), some (.int z), some (.int x)]) (st' := [.int (nI (setN (fun s => decide (G 24 (3 + s) = nI 0)) P)), .int x]) (I' := I) (J' := J) (G' := va_up (va_up (va_up G 31 b) 32 c) 33 v) rfl ?_
      refine aw_gtN hx rfl (by omega) (by omega) (oX3_reckonFrom.dec rfl) (tgt := 110) rfl (fun h80 => ?_) (fun h80 => absurd h80 (by omega))
      refine aw_forget1 4 (L' := [some (.ref 8), some (.int (nI fi)), some (.int (nI (setN (fun s => decide (G 24 (3 + s) = nI 0)) P))), some (.int y), none, some (.int x)]) rfl ?_
      refine aw_forget1 5 (L' := [some (.ref 8), some (.int (nI fi)), some (.int (nI (setN (fun s => decide (G 24 (3 + s) = nI 0)) P))), some (.int y), none, none]) rfl ?_
      exact K9 b c hk (fun u hu hp => hd u (by have := an_le u hu _ hpo hp; omega) hp)
    | succ n ih =>
      intro s x b c hsn hx hk hd
      refine aw_run oX3_reckonFrom sxOk 2 (pc' := 80) (L' := [some (.ref 8), some (.int (nI fi)), some (.int (nI (setN (fun s => decide (G 24 (3 + s) = nI 0)) P))), some (.int y), some (.int z), some (.int x)]) (st' := [.int (nI (setN (fun s => decide (G 24 (3 + s) = nI 0)) P)), .int x]) (I' := I) (J' := J) (G' := va_up (va_up (va_up G 31 b) 32 c) 33 v) rfl ?_
      refine aw_gtN hx rfl (by omega) (by omega) (oX3_reckonFrom.dec rfl) (tgt := 110) rfl (fun h80 => absurd h80 (by omega)) (fun h80 => ?_)
      refine aw_run oX3_reckonFrom sxOk 5 (pc' := 89) (L' := [some (.ref 8), some (.int (nI fi)), some (.int (nI (setN (fun s => decide (G 24 (3 + s) = nI 0)) P))), some (.int y), some (.int z), some (.int x)]) (st' := [.int (x &&& ((nI (setN (fun s => decide (G 24 (3 + s) = nI 0)) P)) ^^^ (-nI 1)))]) (I' := I) (J' := J) (G' := va_up (va_up (va_up G 31 b) 32 c) 33 v) rfl ?_
      refine aw_0neN (anNI hx rfl (by omega) (by omega)) (Nat.lt_of_lt_of_le (anN_lt _ (by omega) _ (by omega)) (by decide)) (oX3_reckonFrom.dec rfl) (tgt := 104) rfl (fun h89 => ?_) (fun h89 => ?_)
      · refine aw_run oX3_reckonFrom sxOk 2 (pc' := 77) (L' := [some (.ref 8), some (.int (nI fi)), some (.int (nI (setN (fun s => decide (G 24 (3 + s) = nI 0)) P))), some (.int y), some (.int z), some (.int (x + (nI 1)))]) (st' := []) (I' := I) (J' := J) (G' := va_up (va_up (va_up G 31 b) 32 c) 33 v) rfl ?_
        exact ih (s + 1) _ _ _ (by omega) (addN hx rfl) hk (fun u hu hp => by rcases Nat.lt_or_ge u s with h1 | h1; exact hd u h1 hp; exact absurd hp (by rw [show u = s by omega]; exact h89))
      · have hzz := and_lt _ hpo _ (hrd w)
        have hps : -nI 1 < wor (G 24) (G 16) (G 13 w) (G 12 w) P 0 + valO (plV (fun m w => wor (G 24) (G 16) (G 13 w) (G 12 w) P m) (fun w => setN (fun s => decide (G 17 s ≤ nI w)) P) Wk (Wk - (w + 1)) (anN s 0)) := by
          rw [wor_0, an_00 s (by omega)]
          have h3 := plV_pos (wo := fun m w => wor (G 24) (G 16) (G 13 w) (G 12 w) P m) (rd := fun w => setN (fun s => decide (G 17 s ≤ nI w)) P) (Wk := Wk) (fun w => wor_0 _ _ _ _ _) hrd (Wk - (w + 1)) s (by omega)
          rw [show nI 0 + valO (plV (fun m w => wor (G 24) (G 16) (G 13 w) (G 12 w) P m) (fun w => setN (fun s => decide (G 17 s ≤ nI w)) P) Wk (Wk - (w + 1)) s) = valO (plV (fun m w => wor (G 24) (G 16) (G 13 w) (G 12 w) P m) (fun w => setN (fun s => decide (G 17 s ≤ nI w)) P) Wk (Wk - (w + 1)) s) from Int32.zero_add _]
          exact Int32.lt_of_lt_of_le (by decide) h3
        have hsm : ∀ m, m ≤ s &&& ((setN (fun s => decide (G 24 (3 + s) = nI 0)) P) &&& setN (fun s => decide (G 17 s ≤ nI w)) P) → subB m (s &&& ((setN (fun s => decide (G 24 (3 + s) = nI 0)) P) &&& setN (fun s => decide (G 17 s ≤ nI w)) P)) = true → v m + b ((w + 1) * 32 + anN s m) = wor (G 24) (G 16) (G 13 w) (G 12 w) P m + valO (plV (fun m w => wor (G 24) (G 16) (G 13 w) (G 12 w) P m) (fun w => setN (fun s => decide (G 17 s ≤ nI w)) P) Wk (Wk - (w + 1)) (anN s m)) := by
          intro m hm hsb
          have hlt := and_lt s (by omega) _ hzz
          have hm0 : anN m (s &&& ((setN (fun s => decide (G 24 (3 + s) = nI 0)) P) &&& setN (fun s => decide (G 17 s ≤ nI w)) P)) = 0 := by unfold subB at hsb; simpa using hsb
          have hmr : anN m ((setN (fun s => decide (G 24 (3 + s) = nI 0)) P) &&& setN (fun s => decide (G 17 s ≤ nI w)) P) = 0 := by
            refine an_and2 m (by omega) _ hzz ?_
            have h4 := an_and m (by omega) _ hlt hm0
            calc m &&& ((setN (fun s => decide (G 24 (3 + s) = nI 0)) P) &&& setN (fun s => decide (G 17 s ≤ nI w)) P) = (m &&& (s &&& ((setN (fun s => decide (G 24 (3 + s) = nI 0)) P) &&& setN (fun s => decide (G 17 s ≤ nI w)) P))) &&& ((setN (fun s => decide (G 24 (3 + s) = nI 0)) P) &&& setN (fun s => decide (G 17 s ≤ nI w)) P) := by rw [h4]
              _ = m &&& (s &&& ((setN (fun s => decide (G 24 (3 + s) = nI 0)) P) &&& setN (fun s => decide (G 17 s ≤ nI w)) P)) := by rw [Nat.and_assoc m, Nat.and_assoc s, Nat.and_self]
              _ = m := h4
          rw [hv m (an_le m (by omega) _ hzz hmr) (by unfold subB; rw [hmr]; rfl), (hk _ (by omega)).1, hup _ (anN_lt s (by omega) m (by omega)) (an_port (by omega) (by omega) hpo h89)]
        refine aw_run oX3_reckonFrom sxOk 6 (pc' := 101) (L' := [some (.ref 8), some (.int (nI fi)), some (.int (nI (setN (fun s => decide (G 24 (3 + s) = nI 0)) P))), some (.int y), some (.int z), some (.int x)]) (st' := [.int (x &&& z), .int x, .int y, .ref 8]) (I' := I) (J' := J) (G' := va_up (va_up (va_up G 31 b) 32 c) 33 v) rfl ?_
        refine aw_eqS (st := [.int (nI (s &&& ((setN (fun s => decide (G 24 (3 + s) = nI 0)) P) &&& setN (fun s => decide (G 17 s ≤ nI w)) P))), .int (nI s), .int (nI w), .ref 8]) (by rw [show x &&& z = nI (s &&& ((setN (fun s => decide (G 24 (3 + s) = nI 0)) P) &&& setN (fun s => decide (G 17 s ≤ nI w)) P)) from andN hx hz, show y = nI w from hy, show x = nI s from hx]) ?_
        refine aw_cVP (st := []) 8 [.int (nI w), .int (nI s), .int (nI (s &&& ((setN (fun s => decide (G 24 (3 + s) = nI 0)) P) &&& setN (fun s => decide (G 17 s ≤ nI w)) P)))] oX3_choose k3_62 rfl rfl rfl rfl rfl rfl rfl rfl (oX3_reckonFrom.dec rfl) (c_choose (I := I) (J := J) (G := va_up (va_up (va_up G 31 b) 32 c) 33 v) (sm := fun m => wor (G 24) (G 16) (G 13 w) (G 12 w) P m + valO (plV (fun m w => wor (G 24) (G 16) (G 13 w) (G 12 w) P m) (fun w => setN (fun s => decide (G 17 s ≤ nI w)) P) Wk (Wk - (w + 1)) (anN s m))) (by omega) (by omega) (and_lt _ (by omega) _ hzz) hps hsm) (fun r101 I101 J101 G101 hq101 => ?_)
        obtain ⟨hr, hI, hJ, b2, c2, hG, ho2, hb2, hc2⟩ := hq101
        obtain rfl := hr.symm; obtain rfl := hI.symm; obtain rfl := hJ.symm; obtain rfl := hG.symm
        refine aw_eqG (G' := va_up (va_up (va_up G 31 b2) 32 c2) 33 v) G3_bc ?_
        refine aw_eqS (st := []) rfl ?_
        refine aw_run oX3_reckonFrom sxOk 2 (pc' := 77) (L' := [some (.ref 8), some (.int (nI fi)), some (.int (nI (setN (fun s => decide (G 24 (3 + s) = nI 0)) P))), some (.int y), some (.int z), some (.int (x + (nI 1)))]) (st' := []) (I' := I) (J' := J) (G' := va_up (va_up (va_up G 31 b2) 32 c2) 33 v) rfl ?_
        have hfin : ffF (fun m => wor (G 24) (G 16) (G 13 w) (G 12 w) P m + valO (plV (fun m w => wor (G 24) (G 16) (G 13 w) (G 12 w) P m) (fun w => setN (fun s => decide (G 17 s ≤ nI w)) P) Wk (Wk - (w + 1)) (anN s m))) (fun m => subB m (s &&& ((setN (fun s => decide (G 24 (3 + s) = nI 0)) P) &&& setN (fun s => decide (G 17 s ≤ nI w)) P))) ((s &&& ((setN (fun s => decide (G 24 (3 + s) = nI 0)) P) &&& setN (fun s => decide (G 17 s ≤ nI w)) P)) + 1) = plV (fun m w => wor (G 24) (G 16) (G 13 w) (G 12 w) P m) (fun w => setN (fun s => decide (G 17 s ≤ nI w)) P) Wk (Wk - w) s := by
          obtain ⟨nn, hnn⟩ : ∃ nn, Wk - w = nn + 1 := ⟨Wk - w - 1, by omega⟩
          have hlt := and_lt s (by omega) _ hzz
          rw [hnn, plV_s, show Wk - (nn + 1) = w by omega, show Wk - (w + 1) = nn by omega]
          have hcut := ff_cut (sum := fun m => wor (G 24) (G 16) (G 13 w) (G 12 w) P m + valO (plV (fun m w => wor (G 24) (G 16) (G 13 w) (G 12 w) P m) (fun w => setN (fun s => decide (G 17 s ≤ nI w)) P) Wk nn (anN s m))) (sub := fun m => subB m (s &&& ((setN (fun s => decide (G 24 (3 + s) = nI 0)) P) &&& setN (fun s => decide (G 17 s ≤ nI w)) P))) (a := (s &&& ((setN (fun s => decide (G 24 (3 + s) = nI 0)) P) &&& setN (fun s => decide (G 17 s ≤ nI w)) P)) + 1) (31 - (s &&& ((setN (fun s => decide (G 24 (3 + s) = nI 0)) P) &&& setN (fun s => decide (G 17 s ≤ nI w)) P))) (fun m h1 h2 hs2 => by
            have := an_le m (by omega) _ hlt (by unfold subB at hs2; simpa using hs2)
            omega)
          rw [show (s &&& ((setN (fun s => decide (G 24 (3 + s) = nI 0)) P) &&& setN (fun s => decide (G 17 s ≤ nI w)) P)) + 1 + (31 - (s &&& ((setN (fun s => decide (G 24 (3 + s) = nI 0)) P) &&& setN (fun s => decide (G 17 s ≤ nI w)) P))) = 32 by omega] at hcut
          rw [← hcut, and_port (by omega) hpo h89]
        exact ih (s + 1) _ _ _ (by omega) (addN hx rfl) (fun i hi => by have h1 := ho2 i (by omega); exact ⟨h1.1.trans (hk i hi).1, h1.2.trans (hk i hi).2⟩) (fun u hu hp => by by_cases e : u = s; (subst e; rw [← hfin]; exact ⟨hb2, hc2⟩); (have h1 := ho2 (w * 32 + u) (by omega); have h2 := hd u (by omega) hp; exact ⟨h1.1.trans h2.1, h1.2.trans h2.2⟩))
  have outer : ∀ (d : Nat) (x : Int32) (b c v : Nat → Int32), (x = nI (fi + d) - nI 1) → (fi + d ≤ Wk) → (∀ u, u < 32 → b (Wk * 32 + u) = nI 0) → (∀ w, fi + d ≤ w → w < Wk → ∀ u, u < 32 → anN u (setN (fun s => decide (G 24 (3 + s) = nI 0)) P) = 0 → b (w * 32 + u) = valO (plV (fun m w => wor (G 24) (G 16) (G 13 w) (G 12 w) P m) (fun w => setN (fun s => decide (G 17 s ≤ nI w)) P) Wk (Wk - w) u) ∧ c (w * 32 + u) = nI (chO (plV (fun m w => wor (G 24) (G 16) (G 13 w) (G 12 w) P m) (fun w => setN (fun s => decide (G 17 s ≤ nI w)) P) Wk (Wk - w) u))) → AW SX mX3_reckonFrom 50 [some (.ref 8), some (.int (nI fi)), some (.int (nI (setN (fun s => decide (G 24 (3 + s) = nI 0)) P))), some (.int x), none, none] [] I J (va_up (va_up (va_up G 31 b) 32 c) 33 v) (fun r I' J' G' => r = none ∧ I' = I ∧ J' = J ∧ ∃ b c v, G' = va_up (va_up (va_up G 31 b) 32 c) 33 v ∧ ∀ w, fi ≤ w → w < Wk → ∀ u, u < 32 → anN u (setN (fun s => decide (G 24 (3 + s) = nI 0)) P) = 0 → b (w * 32 + u) = valO (plV (fun m w => wor (G 24) (G 16) (G 13 w) (G 12 w) P m) (fun w => setN (fun s => decide (G 17 s ≤ nI w)) P) Wk (Wk - w) u) ∧ c (w * 32 + u) = nI (chO (plV (fun m w => wor (G 24) (G 16) (G 13 w) (G 12 w) P m) (fun w => setN (fun s => decide (G 17 s ≤ nI w)) P) Wk (Wk - w) u))) := by
    intro d
    induction d with
    | zero =>
      intro x b c v hx hdW h0 htb
      refine aw_run oX3_reckonFrom sxOk 2 (pc' := 52) (L' := [some (.ref 8), some (.int (nI fi)), some (.int (nI (setN (fun s => decide (G 24 (3 + s) = nI 0)) P))), some (.int x), none, none]) (st' := [.int (nI fi), .int x]) (I' := I) (J' := J) (G' := va_up (va_up (va_up G 31 b) 32 c) 33 v) rfl ?_
      refine aw_icmp_lt (oX3_reckonFrom.dec rfl) (tgt := 116) rfl (fun h52 => ?_) (fun h52 => absurd (by rw [hx]; exact lt_pred (by omega)) h52)
      exact aw_vret rfl (oX3_reckonFrom.dec rfl) (⟨rfl, rfl, rfl, b, c, v, rfl, htb⟩)
    | succ d ih =>
      intro x b c v hx hdW h0 htb
      have hx2 : x = nI (fi + d) := by rw [hx]; exact subN rfl rfl (by omega)
      have hup9 : ∀ u, u < 32 → anN u (setN (fun s => decide (G 24 (3 + s) = nI 0)) P) = 0 → b ((fi + d + 1) * 32 + u) = valO (plV (fun m w => wor (G 24) (G 16) (G 13 w) (G 12 w) P m) (fun w => setN (fun s => decide (G 17 s ≤ nI w)) P) Wk (Wk - (fi + d + 1)) u) := by
        intro u hu hp
        by_cases e : fi + d + 1 = Wk
        · rw [e, h0 u hu, Nat.sub_self]; rfl
        · exact (htb (fi + d + 1) (by omega) (by omega) u hu hp).1
      refine aw_run oX3_reckonFrom sxOk 2 (pc' := 52) (L' := [some (.ref 8), some (.int (nI fi)), some (.int (nI (setN (fun s => decide (G 24 (3 + s) = nI 0)) P))), some (.int x), none, none]) (st' := [.int (nI fi), .int x]) (I' := I) (J' := J) (G' := va_up (va_up (va_up G 31 b) 32 c) 33 v) rfl ?_
      refine aw_ltN hx2 rfl (by omega) (by omega) (oX3_reckonFrom.dec rfl) (tgt := 116) rfl (fun h52 => absurd h52 (by omega)) (fun h52 => ?_)
      refine aw_run oX3_reckonFrom sxOk 4 (pc' := 61) (L' := [some (.ref 8), some (.int (nI fi)), some (.int (nI (setN (fun s => decide (G 24 (3 + s) = nI 0)) P))), some (.int x), none, none]) (st' := [.int x, .ref 7, .int (nI (setN (fun s => decide (G 24 (3 + s) = nI 0)) P))]) (I' := I) (J' := J) (G' := va_up (va_up (va_up G 31 b) 32 c) 33 v) rfl ?_
      refine aw_eqS (st := [.int (nI (fi + d)), .ref 7, .int (nI (setN (fun s => decide (G 24 (3 + s) = nI 0)) P))]) (by rw [show x = nI (fi + d) from hx2]) ?_
      refine aw_cV (st := [.int (nI (setN (fun s => decide (G 24 (3 + s) = nI 0)) P))]) 7 [.int (nI (fi + d))] oX0_readyIn k3_54 rfl rfl rfl rfl rfl rfl rfl rfl (oX3_reckonFrom.dec rfl) (c_readyIn (I := I) (J := J) (G := va_up (va_up (va_up G 31 b) 32 c) 33 v) hP (by omega)) ?_
      refine aw_eqS (st := [.int (nI (setN (fun s => decide (G 17 s ≤ nI (fi + d))) P)), .int (nI (setN (fun s => decide (G 24 (3 + s) = nI 0)) P))]) rfl ?_
      refine aw_run oX3_reckonFrom sxOk 5 (pc' := 71) (L' := [some (.ref 8), some (.int (nI fi)), some (.int (nI (setN (fun s => decide (G 24 (3 + s) = nI 0)) P))), some (.int x), some (.int ((nI (setN (fun s => decide (G 24 (3 + s) = nI 0)) P)) &&& (nI (setN (fun s => decide (G 17 s ≤ nI (fi + d))) P)))), none]) (st' := [.int x, .int ((nI (setN (fun s => decide (G 24 (3 + s) = nI 0)) P)) &&& (nI (setN (fun s => decide (G 17 s ≤ nI (fi + d))) P))), .ref 8]) (I' := I) (J' := J) (G' := va_up (va_up (va_up G 31 b) 32 c) 33 v) rfl ?_
      refine aw_eqS (st := [.int (nI (fi + d)), .int (nI ((setN (fun s => decide (G 24 (3 + s) = nI 0)) P) &&& (setN (fun s => decide (G 17 s ≤ nI (fi + d))) P))), .ref 8]) (by rw [show (nI (setN (fun s => decide (G 24 (3 + s) = nI 0)) P)) &&& (nI (setN (fun s => decide (G 17 s ≤ nI (fi + d))) P)) = nI ((setN (fun s => decide (G 24 (3 + s) = nI 0)) P) &&& (setN (fun s => decide (G 17 s ≤ nI (fi + d))) P)) from andN rfl rfl, show x = nI (fi + d) from hx2]) ?_
      refine aw_cVP (st := []) 8 [.int (nI ((setN (fun s => decide (G 24 (3 + s) = nI 0)) P) &&& (setN (fun s => decide (G 17 s ≤ nI (fi + d))) P))), .int (nI (fi + d))] oX3_reckonWorths k3_58 rfl rfl rfl rfl rfl rfl rfl rfl (oX3_reckonFrom.dec rfl) (c_reckonWorths (I := I) (J := J) (G := va_up (va_up (va_up G 31 b) 32 c) 33 v) hP (by omega) (and_lt _ hpo _ (hrd _)) (by omega) hsil) (fun r71 I71 J71 G71 hq71 => ?_)
      obtain ⟨hr, hI, hJ, v2, hG, hv2⟩ := hq71
      obtain rfl := hr.symm; obtain rfl := hI.symm; obtain rfl := hJ.symm; obtain rfl := hG.symm
      refine aw_eqG (G' := va_up (va_up (va_up G 31 b) 32 c) 33 v2) G3_33 ?_
      refine aw_eqS (st := []) rfl ?_
      refine aw_run oX3_reckonFrom sxOk 2 (pc' := 77) (L' := [some (.ref 8), some (.int (nI fi)), some (.int (nI (setN (fun s => decide (G 24 (3 + s) = nI 0)) P))), some (.int x), some (.int ((nI (setN (fun s => decide (G 24 (3 + s) = nI 0)) P)) &&& (nI (setN (fun s => decide (G 17 s ≤ nI (fi + d))) P)))), some (.int (nI 0))]) (st' := []) (I' := I) (J' := J) (G' := va_up (va_up (va_up G 31 b) 32 c) 33 v2) rfl ?_
      exact inner (fi + d) _ _ b c v2 (fun b2 c2 hk2 hd2 => by
        refine aw_run oX3_reckonFrom sxOk 2 (pc' := 50) (L' := [some (.ref 8), some (.int (nI fi)), some (.int (nI (setN (fun s => decide (G 24 (3 + s) = nI 0)) P))), some (.int (x + -nI 1)), none, none]) (st' := []) (I' := I) (J' := J) (G' := va_up (va_up (va_up G 31 b2) 32 c2) 33 v2) rfl ?_
        exact ih _ _ _ _ (by rw [hx2, Int32.sub_eq_add_neg]) (by omega) (fun u hu => by rw [(hk2 _ (by omega)).1]; exact h0 u hu) (fun w h1 h2 u hu hp => by
          by_cases e : w = fi + d
          · subst e; exact hd2 u hu hp
          · have h3 := hk2 (w * 32 + u) (by omega); have h4 := htb w (by omega) h2 u hu hp; exact ⟨h3.1.trans h4.1, h3.2.trans h4.2⟩)) (by omega) hx2 (andN rfl rfl) hv2 hup9 ((setN (fun s => decide (G 24 (3 + s) = nI 0)) P) + 1) 0 _ _ _ (by omega) rfl (fun i hi => ⟨rfl, rfl⟩) (fun u hu => absurd hu (by omega))
  have fill : ∀ (n s : Nat) (x : Int32) (b : Nat → Int32) (c : Nat → Int32) (v : Nat → Int32), (s + n = 32) → (x = nI s) → (∀ i, i < s → b (Wk * 32 + i) = nI 0) → AW SX mX3_reckonFrom 10 [some (.ref 8), some (.int (nI fi)), some (.int (nI (setN (fun s => decide (G 24 (3 + s) = nI 0)) P))), some (.int x), none, none] [] I J (va_up (va_up (va_up G 31 b) 32 c) 33 v) (fun r I' J' G' => r = none ∧ I' = I ∧ J' = J ∧ ∃ b c v, G' = va_up (va_up (va_up G 31 b) 32 c) 33 v ∧ ∀ w, fi ≤ w → w < Wk → ∀ u, u < 32 → anN u (setN (fun s => decide (G 24 (3 + s) = nI 0)) P) = 0 → b (w * 32 + u) = valO (plV (fun m w => wor (G 24) (G 16) (G 13 w) (G 12 w) P m) (fun w => setN (fun s => decide (G 17 s ≤ nI w)) P) Wk (Wk - w) u) ∧ c (w * 32 + u) = nI (chO (plV (fun m w => wor (G 24) (G 16) (G 13 w) (G 12 w) P m) (fun w => setN (fun s => decide (G 17 s ≤ nI w)) P) Wk (Wk - w) u))) := by
    intro n
    induction n with
    | zero =>
      intro s x b c v hsn hx hz
      refine aw_run oX3_reckonFrom sxOk 2 (pc' := 13) (L' := [some (.ref 8), some (.int (nI fi)), some (.int (nI (setN (fun s => decide (G 24 (3 + s) = nI 0)) P))), some (.int x), none, none]) (st' := [.int (nI 32), .int x]) (I' := I) (J' := J) (G' := va_up (va_up (va_up G 31 b) 32 c) 33 v) rfl ?_
      refine aw_geN hx rfl (by omega) (by omega) (oX3_reckonFrom.dec rfl) (tgt := 40) rfl (fun h13 => ?_) (fun h13 => absurd h13 (by omega))
      refine aw_run oX3_reckonFrom sxOk 6 (pc' := 50) (L' := [some (.ref 8), some (.int (nI fi)), some (.int (nI (setN (fun s => decide (G 24 (3 + s) = nI 0)) P))), some (.int ((I 2 6) - (nI 1))), none, none]) (st' := []) (I' := I) (J' := J) (G' := va_up (va_up (va_up G 31 b) 32 c) 33 v) rfl ?_
      exact outer (Wk - fi) _ _ _ _ (by rw [hW, show fi + (Wk - fi) = Wk by omega]) (by omega) (fun u hu => hz u (by omega)) (fun w h1 h2 => absurd h2 (by omega))
    | succ n ih =>
      intro s x b c v hsn hx hz
      refine aw_run oX3_reckonFrom sxOk 2 (pc' := 13) (L' := [some (.ref 8), some (.int (nI fi)), some (.int (nI (setN (fun s => decide (G 24 (3 + s) = nI 0)) P))), some (.int x), none, none]) (st' := [.int (nI 32), .int x]) (I' := I) (J' := J) (G' := va_up (va_up (va_up G 31 b) 32 c) 33 v) rfl ?_
      refine aw_geN hx rfl (by omega) (by omega) (oX3_reckonFrom.dec rfl) (tgt := 40) rfl (fun h13 => absurd h13 (by omega)) (fun h13 => ?_)
      refine aw_run oX3_reckonFrom sxOk 10 (pc' := 33) (L' := [some (.ref 8), some (.int (nI fi)), some (.int (nI (setN (fun s => decide (G 24 (3 + s) = nI 0)) P))), some (.int x), none, none]) (st' := [.int (nI 0), .int (((I 2 6) * (nI 32)) + x), .ref 31]) (I' := I) (J' := J) (G' := va_up (va_up (va_up G 31 b) 32 c) 33 v) rfl ?_
      refine aw_isN (Wk * 32 + s) sxOk rfl (addN (mulN hW rfl) hx) (by omega) (oX3_reckonFrom.dec rfl) ?_
      refine aw_eqG (G' := va_up (va_up (va_up G 31 (upd b (Wk * 32 + s) (nI 0))) 32 c) 33 v) (by funext q; simp only [va_up]; repeat' split; all_goals first | rfl | (exfalso; omega) | simp_all) ?_
      refine aw_run oX3_reckonFrom sxOk 2 (pc' := 10) (L' := [some (.ref 8), some (.int (nI fi)), some (.int (nI (setN (fun s => decide (G 24 (3 + s) = nI 0)) P))), some (.int (x + (nI 1))), none, none]) (st' := []) (I' := I) (J' := J) (G' := va_up (va_up (va_up G 31 (upd b (Wk * 32 + s) (nI 0))) 32 c) 33 v) rfl ?_
      exact ih (s + 1) _ _ _ _ (by omega) (addN hx rfl) (fun i hi => by by_cases e : i = s; (subst e; exact pk_us); (rw [pk_un (by omega)]; exact hz i (by omega)))
  refine aw_run oX3_reckonFrom sxOk 2 (pc' := 4) (L' := [some (.ref 8), some (.int (nI fi)), none, none, none, none]) (st' := [.ref 7]) (I' := I) (J' := J) (G' := G) rfl ?_
  refine aw_cV (st := []) 7 [] oX0_inPort k3_43 rfl rfl rfl rfl rfl rfl rfl rfl (oX3_reckonFrom.dec rfl) (c_inPort hP (by omega)) ?_
  refine aw_eqS (st := [.int (nI (setN (fun s => decide (G 24 (3 + s) = nI 0)) P))]) rfl ?_
  refine aw_run oX3_reckonFrom sxOk 3 (pc' := 10) (L' := [some (.ref 8), some (.int (nI fi)), some (.int (nI (setN (fun s => decide (G 24 (3 + s) = nI 0)) P))), some (.int (nI 0)), none, none]) (st' := []) (I' := I) (J' := J) (G' := G) rfl ?_
  refine aw_eqG (G3_id G).symm ?_
  exact fill 32 0 _ _ _ _ (by omega) rfl (fun i hi => absurd hi (by omega))
