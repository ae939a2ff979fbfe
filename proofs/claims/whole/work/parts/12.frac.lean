set_option maxRecDepth 20000 in
theorem c_worthOf {I : II} {J : JJ} {G : II} {P : Nat} (hP : I 2 7 = nI P) (hP5 : P ≤ 5) {σ w : Nat} (hσ : σ < 32) (hw : w < 12) (hsil : ∀ s, s < P → nI 0 ≤ sil (G 24) s) : AMet SX mX0_worthOf [.ref 7, .int (nI σ), .int (nI w)] I J G (PE (some (.int (wor (G 24) (G 16) (G 13 w) (G 12 w) P σ))) I J G) := by
  refine amet_en oX0_worthOf rfl rfl (L := [some (.ref 7), some (.int (nI σ)), some (.int (nI w)), none, none]) rfl ?_
  cases htk : tak (G 24) (G 16) (G 13 w) P σ with
  | none =>
    refine aw_run oX0_worthOf sxOk 3 (pc' := 3) (L' := [some (.ref 7), some (.int (nI σ)), some (.int (nI w)), none, none]) (st' := [.int (nI w), .int (nI σ), .ref 7]) (I' := I) (J' := J) (G' := G) rfl ?_
    refine aw_cV (st := []) 7 [.int (nI σ), .int (nI w)] oX0_takenOf k0_58 rfl rfl rfl rfl rfl rfl rfl rfl (oX0_worthOf.dec rfl) (c_takenOf hP (by omega) (by omega) (by omega) hsil) ?_
    refine aw_eqS (st := [.int (encO (tak (G 24) (G 16) (G 13 w) P σ))]) rfl ?_
    refine aw_eqS (st := [.int (-nI 9)]) (by rw [htk]; rfl) ?_
    refine aw_run oX0_worthOf sxOk 3 (pc' := 10) (L' := [some (.ref 7), some (.int (nI σ)), some (.int (nI w)), some (.int (-nI 9)), none]) (st' := [.int (-nI 9), .int (-nI 9)]) (I' := I) (J' := J) (G' := G) rfl ?_
    refine aw_icmp_ne (oX0_worthOf.dec rfl) (tgt := 17) rfl (fun h10 => absurd h10 (by decide)) (fun h10 => ?_)
    refine aw_run oX0_worthOf sxOk 5 (pc' := 29) (L' := [some (.ref 7), some (.int (nI σ)), some (.int (nI w)), some (.int (-nI 9)), some (.int (nI 0))]) (st' := [.int (nI σ), .ref 7]) (I' := I) (J' := J) (G' := G) rfl ?_
    refine aw_cV (st := []) 7 [.int (nI σ)] oX0_silverTogether k0_62 rfl rfl rfl rfl rfl rfl rfl rfl (oX0_worthOf.dec rfl) (c_silverTogether hP (by omega) (by omega)) ?_
    refine aw_eqS (st := [.int (sumS (sil (G 24)) σ P)]) rfl ?_
    refine aw_run oX0_worthOf sxOk 7 (pc' := 45) (L' := [some (.ref 7), some (.int (nI σ)), some (.int (nI w)), some (.int (-nI 9)), some (.int (nI 0))]) (st' := [.int (nI w), .ref 12, .int (nI 10), .int ((sumS (sil (G 24)) σ P) - (nI 0))]) (I' := I) (J' := J) (G' := G) rfl ?_
    refine aw_iaN w sxOk rfl rfl (by omega) (oX0_worthOf.dec rfl) ?_
    refine aw_run oX0_worthOf sxOk 2 (pc' := 48) (L' := [some (.ref 7), some (.int (nI σ)), some (.int (nI w)), some (.int (-nI 9)), some (.int (nI 0))]) (st' := [.int (((sumS (sil (G 24)) σ P) - (nI 0)) * ((nI 10) - (G 12 w)))]) (I' := I) (J' := J) (G' := G) rfl ?_
    exact aw_iret rfl (oX0_worthOf.dec rfl) (pe_i (by unfold wor; rw [htk]; rfl))
  | some r =>
    have hr := (tak_lt htk).1
    refine aw_run oX0_worthOf sxOk 3 (pc' := 3) (L' := [some (.ref 7), some (.int (nI σ)), some (.int (nI w)), none, none]) (st' := [.int (nI w), .int (nI σ), .ref 7]) (I' := I) (J' := J) (G' := G) rfl ?_
    refine aw_cV (st := []) 7 [.int (nI σ), .int (nI w)] oX0_takenOf k0_58 rfl rfl rfl rfl rfl rfl rfl rfl (oX0_worthOf.dec rfl) (c_takenOf hP (by omega) (by omega) (by omega) hsil) ?_
    refine aw_eqS (st := [.int (encO (tak (G 24) (G 16) (G 13 w) P σ))]) rfl ?_
    refine aw_eqS (st := [.int (nI r)]) (by rw [htk]; rfl) ?_
    refine aw_run oX0_worthOf sxOk 3 (pc' := 10) (L' := [some (.ref 7), some (.int (nI σ)), some (.int (nI w)), some (.int (nI r)), none]) (st' := [.int (-nI 9), .int (nI r)]) (I' := I) (J' := J) (G' := G) rfl ?_
    refine aw_icmp_ne (oX0_worthOf.dec rfl) (tgt := 17) rfl (fun h10 => ?_) (fun h10 => absurd h10 (nI_n9 (by omega)))
    refine aw_run oX0_worthOf sxOk 3 (pc' := 22) (L' := [some (.ref 7), some (.int (nI σ)), some (.int (nI w)), some (.int (nI r)), none]) (st' := [.int (nI r), .ref 4]) (I' := I) (J' := J) (G' := G) rfl ?_
    refine aw_cV (st := []) 4 [.int (nI r)] oX2_silverOf k0_42 rfl rfl rfl rfl rfl rfl rfl rfl (oX0_worthOf.dec rfl) (c_silverOf (by omega)) ?_
    refine aw_eqS (st := [.int (sil (G 24) r)]) rfl ?_
    refine aw_run oX0_worthOf sxOk 3 (pc' := 29) (L' := [some (.ref 7), some (.int (nI σ)), some (.int (nI w)), some (.int (nI r)), some (.int (sil (G 24) r))]) (st' := [.int (nI σ), .ref 7]) (I' := I) (J' := J) (G' := G) rfl ?_
    refine aw_cV (st := []) 7 [.int (nI σ)] oX0_silverTogether k0_62 rfl rfl rfl rfl rfl rfl rfl rfl (oX0_worthOf.dec rfl) (c_silverTogether hP (by omega) (by omega)) ?_
    refine aw_eqS (st := [.int (sumS (sil (G 24)) σ P)]) rfl ?_
    refine aw_run oX0_worthOf sxOk 7 (pc' := 45) (L' := [some (.ref 7), some (.int (nI σ)), some (.int (nI w)), some (.int (nI r)), some (.int (sil (G 24) r))]) (st' := [.int (nI w), .ref 12, .int (nI 10), .int ((sumS (sil (G 24)) σ P) - (sil (G 24) r))]) (I' := I) (J' := J) (G' := G) rfl ?_
    refine aw_iaN w sxOk rfl rfl (by omega) (oX0_worthOf.dec rfl) ?_
    refine aw_run oX0_worthOf sxOk 2 (pc' := 48) (L' := [some (.ref 7), some (.int (nI σ)), some (.int (nI w)), some (.int (nI r)), some (.int (sil (G 24) r))]) (st' := [.int (((sumS (sil (G 24)) σ P) - (sil (G 24) r)) * ((nI 10) - (G 12 w)))]) (I' := I) (J' := J) (G' := G) rfl ?_
    exact aw_iret rfl (oX0_worthOf.dec rfl) (pe_i (by unfold wor; rw [htk]; rfl))
set_option maxRecDepth 20000 in
theorem c_setFraction {I : II} {J : JJ} {G : II}  {a b : Nat} (ha : a < 2 ^ 31) (hb : b < 2 ^ 31) (hb0 : 0 < b) : AMet SX mX0_setFraction [.ref 7, .int (nI a), .int (nI b)] I J G (PE none (up2 (up2 I 7 3 (nI (a / Nat.gcd a b))) 7 4 (nI (b / Nat.gcd a b))) J G) := by
  refine amet_en oX0_setFraction rfl rfl (L := [some (.ref 7), some (.int (nI a)), some (.int (nI b)), none, none, none, none]) rfl ?_
  have hg0 : 0 < Nat.gcd a b := Nat.gcd_pos_of_pos_right a hb0
  have hgb : Nat.gcd a b ≤ b := Nat.gcd_le_right a hb0
  have fin : ∀ (A : Int32), A = nI (Nat.gcd a b) →  AW SX mX0_setFraction 39 [some (.ref 7), some (.int (nI a)), some (.int (nI b)), some (.int A), none, none, none] [] I J G (PE none (up2 (up2 I 7 3 (nI (a / Nat.gcd a b))) 7 4 (nI (b / Nat.gcd a b))) J G) := by
    intro A hA
    refine aw_run oX0_setFraction sxOk 2 (pc' := 41) (L' := [some (.ref 7), some (.int (nI a)), some (.int (nI b)), some (.int A), none, none, none]) (st' := [.int (nI 1), .int A]) (I' := I) (J' := J) (G' := G) rfl ?_
    refine aw_geN hA rfl (by omega) (by omega) (oX0_setFraction.dec rfl) (tgt := 48) rfl (fun h41 => ?_) (fun h41 => absurd h41 (by omega))
    refine aw_run oX0_setFraction sxOk 5 (pc' := 55) (L' := [some (.ref 7), some (.int (nI a)), some (.int (nI b)), some (.int A), none, some (.int A), none]) (st' := [.int A, .int (nI a), .ref 7]) (I' := I) (J' := J) (G' := G) rfl ?_
    refine aw_idiv (ne0N hA (by omega) (by omega)) (oX0_setFraction.dec rfl) ?_
    refine aw_run oX0_setFraction sxOk 4 (pc' := 63) (L' := [some (.ref 7), some (.int (nI a)), some (.int (nI b)), some (.int A), none, some (.int A), none]) (st' := [.int A, .int (nI b), .ref 7]) (I' := up2 I 7 3 ((nI a) / A)) (J' := J) (G' := G) rfl ?_
    refine aw_idiv (ne0N hA (by omega) (by omega)) (oX0_setFraction.dec rfl) ?_
    refine aw_run oX0_setFraction sxOk 1 (pc' := 67) (L' := [some (.ref 7), some (.int (nI a)), some (.int (nI b)), some (.int A), none, some (.int A), none]) (st' := []) (I' := up2 (up2 I 7 3 ((nI a) / A)) 7 4 ((nI b) / A)) (J' := J) (G' := G) rfl ?_
    exact aw_vret rfl (oX0_setFraction.dec rfl) (⟨rfl, by rw [divN rfl hA ha (by omega) (by omega), divN rfl hA hb (by omega) (by omega)], rfl, rfl⟩)
  have loop : ∀ (n s : Nat) (x : Int32) (A : Int32) (B : Int32) (a' : Nat) (b' : Nat), s + n = 100 → x = nI s → A = nI a' → B = nI b' → a' < 2 ^ 31 → b' < 2 ^ 31 → Nat.gcd a' b' = Nat.gcd a b → gcJ n a' b' → AW SX mX0_setFraction 8 [some (.ref 7), some (.int (nI a)), some (.int (nI b)), some (.int A), some (.int B), some (.int x), none] [] I J G (PE none (up2 (up2 I 7 3 (nI (a / Nat.gcd a b))) 7 4 (nI (b / Nat.gcd a b))) J G) := by
    intro n
    induction n with
    | zero =>
      intro s x A B a' b' hsn hx hA hB ha2 hb2 hgc hJ
      refine aw_run oX0_setFraction sxOk 2 (pc' := 12) (L' := [some (.ref 7), some (.int (nI a)), some (.int (nI b)), some (.int A), some (.int B), some (.int x), none]) (st' := [.int (nI 100), .int x]) (I' := I) (J' := J) (G' := G) rfl ?_
      refine aw_geN hx rfl (by omega) (by omega) (oX0_setFraction.dec rfl) (tgt := 39) rfl (fun h12 => ?_) (fun h12 => absurd h12 (by omega))
      refine aw_forget1 4 (L' := [some (.ref 7), some (.int (nI a)), some (.int (nI b)), some (.int A), none, some (.int x), none]) rfl ?_
      refine aw_forget1 5 (L' := [some (.ref 7), some (.int (nI a)), some (.int (nI b)), some (.int A), none, none, none]) rfl ?_
      exact fin _ (by rw [hA, show Nat.gcd a b = a' by rw [← hgc, gcJ_0 hJ, Nat.gcd_zero_right]])
    | succ n ih =>
      intro s x A B a' b' hsn hx hA hB ha2 hb2 hgc hJ
      refine aw_run oX0_setFraction sxOk 2 (pc' := 12) (L' := [some (.ref 7), some (.int (nI a)), some (.int (nI b)), some (.int A), some (.int B), some (.int x), none]) (st' := [.int (nI 100), .int x]) (I' := I) (J' := J) (G' := G) rfl ?_
      refine aw_geN hx rfl (by omega) (by omega) (oX0_setFraction.dec rfl) (tgt := 39) rfl (fun h12 => absurd h12 (by omega)) (fun h12 => ?_)
      refine aw_run oX0_setFraction sxOk 1 (pc' := 17) (L' := [some (.ref 7), some (.int (nI a)), some (.int (nI b)), some (.int A), some (.int B), some (.int x), none]) (st' := [.int B]) (I' := I) (J' := J) (G' := G) rfl ?_
      refine aw_0eqN hB (by omega) (oX0_setFraction.dec rfl) (tgt := 39) rfl (fun h17 => ?_) (fun h17 => ?_)
      · refine aw_forget1 4 (L' := [some (.ref 7), some (.int (nI a)), some (.int (nI b)), some (.int A), none, some (.int x), none]) rfl ?_
        refine aw_forget1 5 (L' := [some (.ref 7), some (.int (nI a)), some (.int (nI b)), some (.int A), none, none, none]) rfl ?_
        exact fin _ (by rw [hA, show Nat.gcd a b = a' by rw [← hgc, h17, Nat.gcd_zero_right]])
      · refine aw_run oX0_setFraction sxOk 2 (pc' := 23) (L' := [some (.ref 7), some (.int (nI a)), some (.int (nI b)), some (.int A), some (.int B), some (.int x), none]) (st' := [.int B, .int A]) (I' := I) (J' := J) (G' := G) rfl ?_
        refine aw_irem (ne0N hB (by omega) (by omega)) (oX0_setFraction.dec rfl) ?_
        refine aw_run oX0_setFraction sxOk 7 (pc' := 8) (L' := [some (.ref 7), some (.int (nI a)), some (.int (nI b)), some (.int B), some (.int (A - A / B * B)), some (.int (x + (nI 1))), some (.int (A - A / B * B))]) (st' := []) (I' := I) (J' := J) (G' := G) rfl ?_
        refine aw_forget1 6 (L' := [some (.ref 7), some (.int (nI a)), some (.int (nI b)), some (.int B), some (.int (A - A / B * B)), some (.int (x + (nI 1))), none]) rfl ?_
        exact ih (s + 1) _ _ _ _ _ (by omega) (addN hx rfl) hB (remN hA hB (by omega) (by omega) (by omega)) (by omega) (by have := Nat.mod_lt a' (Nat.pos_of_ne_zero h17); omega) (by rw [gcd_s]; exact hgc) (gcJ_s hJ (by omega))
  refine aw_run oX0_setFraction sxOk 6 (pc' := 8) (L' := [some (.ref 7), some (.int (nI a)), some (.int (nI b)), some (.int (nI a)), some (.int (nI b)), some (.int (nI 0)), none]) (st' := []) (I' := I) (J' := J) (G' := G) rfl ?_
  exact loop 100 0 _ _ _ _ _ (by omega) rfl rfl rfl ha hb rfl (gcJ_100 ha hb)
