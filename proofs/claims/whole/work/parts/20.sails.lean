set_option maxRecDepth 20000 in
theorem c_sails_bad0 {I : II} {J : JJ} {G : II} {y : Int32} : AMet SX mX6_sails [.ref 0, .int (nI 0), .int y] I J G (PE (some (.int (-nI 1))) I J G) := by
  refine amet_en oX6_sails rfl rfl (L := [some (.ref 0), some (.int (nI 0)), some (.int y), none, none, none]) rfl ?_
  refine aw_run oX6_sails sxOk 1 (pc' := 1) (L' := [some (.ref 0), some (.int (nI 0)), some (.int y), none, none, none]) (st' := [.int (nI 0)]) (I' := I) (J' := J) (G' := G) rfl ?_
  refine aw_0eqN rfl (by omega) (oX6_sails.dec rfl) (tgt := 26) rfl (fun h1 => ?_) (fun h1 => absurd h1 (by omega))
  refine aw_run oX6_sails sxOk 1 (pc' := 27) (L' := [some (.ref 0), some (.int (nI 0)), some (.int y), none, none, none]) (st' := [.int (-nI 1)]) (I' := I) (J' := J) (G' := G) rfl ?_
  exact aw_iret rfl (oX6_sails.dec rfl) pe_rfl
set_option maxRecDepth 20000 in
theorem c_sails_bad1 {I : II} {J : JJ} {G : II} {P : Nat} (hP : I 2 7 = nI P) (hP5 : P ≤ 5) {x y : Int32} (hx : notIn x (2 ^ P)) : AMet SX mX6_sails [.ref 0, .int x, .int y] I J G (PE (some (.int (-nI 1))) I J G) := by
  have hp32 : 2 ^ P ≤ 32 := Nat.pow_le_pow_right (by decide) hP5
  refine amet_en oX6_sails rfl rfl (L := [some (.ref 0), some (.int x), some (.int y), none, none, none]) rfl ?_
  refine aw_run oX6_sails sxOk 1 (pc' := 1) (L' := [some (.ref 0), some (.int x), some (.int y), none, none, none]) (st' := [.int x]) (I' := I) (J' := J) (G' := G) rfl ?_
  refine aw_if_eq (oX6_sails.dec rfl) (tgt := 26) rfl (fun h1 => absurd h1 (hx 0 (Nat.pow_pos (by decide)))) (fun h1 => ?_)
  refine aw_run oX6_sails sxOk 3 (pc' := 9) (L' := [some (.ref 0), some (.int x), some (.int y), none, none, none]) (st' := [.int x, .ref 2]) (I' := I) (J' := J) (G' := G) rfl ?_
  refine aw_cV (st := []) 2 [.int x] oX4_hasSet k6_130 rfl rfl rfl rfl rfl rfl rfl rfl (oX6_sails.dec rfl) (c_hasSet_f hP (by omega) (by assumption)) ?_
  refine aw_eqS (st := [.int (nI 0)]) rfl ?_
  refine aw_0eqN rfl (by omega) (oX6_sails.dec rfl) (tgt := 26) rfl (fun h12 => ?_) (fun h12 => absurd h12 (by omega))
  refine aw_run oX6_sails sxOk 1 (pc' := 27) (L' := [some (.ref 0), some (.int x), some (.int y), none, none, none]) (st' := [.int (-nI 1)]) (I' := I) (J' := J) (G' := G) rfl ?_
  exact aw_iret rfl (oX6_sails.dec rfl) pe_rfl
set_option maxRecDepth 20000 in
theorem c_sails_bad2 {I : II} {J : JJ} {G : II} {P : Nat} (hP : I 2 7 = nI P) (hP5 : P ≤ 5) {σ : Nat} (hσ : σ < 2 ^ P) (hσ0 : σ ≠ 0) {x : Int32} (hx : notIn x 10000) : AMet SX mX6_sails [.ref 0, .int (nI σ), .int x] I J G (PE (some (.int (-nI 1))) I J G) := by
  have hp32 : 2 ^ P ≤ 32 := Nat.pow_le_pow_right (by decide) hP5
  refine amet_en oX6_sails rfl rfl (L := [some (.ref 0), some (.int (nI σ)), some (.int x), none, none, none]) rfl ?_
  refine aw_run oX6_sails sxOk 1 (pc' := 1) (L' := [some (.ref 0), some (.int (nI σ)), some (.int x), none, none, none]) (st' := [.int (nI σ)]) (I' := I) (J' := J) (G' := G) rfl ?_
  refine aw_0eqN rfl (by omega) (oX6_sails.dec rfl) (tgt := 26) rfl (fun h1 => absurd h1 (by omega)) (fun h1 => ?_)
  refine aw_run oX6_sails sxOk 3 (pc' := 9) (L' := [some (.ref 0), some (.int (nI σ)), some (.int x), none, none, none]) (st' := [.int (nI σ), .ref 2]) (I' := I) (J' := J) (G' := G) rfl ?_
  refine aw_cV (st := []) 2 [.int (nI σ)] oX4_hasSet k6_130 rfl rfl rfl rfl rfl rfl rfl rfl (oX6_sails.dec rfl) (c_hasSet_t hP (by omega) (by omega)) ?_
  refine aw_eqS (st := [.int (nI 1)]) rfl ?_
  refine aw_0eqN rfl (by omega) (oX6_sails.dec rfl) (tgt := 26) rfl (fun h12 => absurd h12 (by omega)) (fun h12 => ?_)
  refine aw_run oX6_sails sxOk 1 (pc' := 16) (L' := [some (.ref 0), some (.int (nI σ)), some (.int x), none, none, none]) (st' := [.int x]) (I' := I) (J' := J) (G' := G) rfl ?_
  refine aw_if_lt (oX6_sails.dec rfl) (tgt := 26) rfl (fun h16 => ?_) (fun h16 => ?_)
  · refine aw_run oX6_sails sxOk 1 (pc' := 27) (L' := [some (.ref 0), some (.int (nI σ)), some (.int x), none, none, none]) (st' := [.int (-nI 1)]) (I' := I) (J' := J) (G' := G) rfl ?_
    exact aw_iret rfl (oX6_sails.dec rfl) pe_rfl
  · refine aw_run oX6_sails sxOk 2 (pc' := 23) (L' := [some (.ref 0), some (.int (nI σ)), some (.int x), none, none, none]) (st' := [.int (nI 9999), .int x]) (I' := I) (J' := J) (G' := G) rfl ?_
    refine aw_icmp_le (oX6_sails.dec rfl) (tgt := 28) rfl (fun h23 => absurd h23 (Int32.not_le.mpr (notIn_gt hx (by decide) h16))) (fun h23 => ?_)
    refine aw_run oX6_sails sxOk 1 (pc' := 27) (L' := [some (.ref 0), some (.int (nI σ)), some (.int x), none, none, none]) (st' := [.int (-nI 1)]) (I' := I) (J' := J) (G' := G) rfl ?_
    exact aw_iret rfl (oX6_sails.dec rfl) pe_rfl
set_option maxRecDepth 20000 in
theorem c_sails_over {I : II} {J : JJ} {G : II} {P : Nat} (hP : I 2 7 = nI P) (hP5 : P ≤ 5) {Wk : Nat} (hW : I 2 6 = nI Wk) (hWk : Wk ≤ 12) {t : Nat} (ht : G 24 0 = nI t) (ht12 : t ≤ 12) {σ : Nat} (hσ : σ < 2 ^ P) (hσ0 : σ ≠ 0) {z : Nat} (hz : z ≤ 9999) (ho : Wk ≤ t) : AMet SX mX6_sails [.ref 0, .int (nI σ), .int (nI z)] I J G (PE (some (.int (-nI 2))) I J G) := by
  have hp32 : 2 ^ P ≤ 32 := Nat.pow_le_pow_right (by decide) hP5
  refine amet_en oX6_sails rfl rfl (L := [some (.ref 0), some (.int (nI σ)), some (.int (nI z)), none, none, none]) rfl ?_
  refine aw_run oX6_sails sxOk 1 (pc' := 1) (L' := [some (.ref 0), some (.int (nI σ)), some (.int (nI z)), none, none, none]) (st' := [.int (nI σ)]) (I' := I) (J' := J) (G' := G) rfl ?_
  refine aw_0eqN rfl (by omega) (oX6_sails.dec rfl) (tgt := 26) rfl (fun h1 => absurd h1 (by omega)) (fun h1 => ?_)
  refine aw_run oX6_sails sxOk 3 (pc' := 9) (L' := [some (.ref 0), some (.int (nI σ)), some (.int (nI z)), none, none, none]) (st' := [.int (nI σ), .ref 2]) (I' := I) (J' := J) (G' := G) rfl ?_
  refine aw_cV (st := []) 2 [.int (nI σ)] oX4_hasSet k6_130 rfl rfl rfl rfl rfl rfl rfl rfl (oX6_sails.dec rfl) (c_hasSet_t hP (by omega) (by omega)) ?_
  refine aw_eqS (st := [.int (nI 1)]) rfl ?_
  refine aw_0eqN rfl (by omega) (oX6_sails.dec rfl) (tgt := 26) rfl (fun h12 => absurd h12 (by omega)) (fun h12 => ?_)
  refine aw_run oX6_sails sxOk 1 (pc' := 16) (L' := [some (.ref 0), some (.int (nI σ)), some (.int (nI z)), none, none, none]) (st' := [.int (nI z)]) (I' := I) (J' := J) (G' := G) rfl ?_
  refine aw_0ltN rfl (by omega) (oX6_sails.dec rfl) (tgt := 26) rfl ?_
  refine aw_run oX6_sails sxOk 2 (pc' := 23) (L' := [some (.ref 0), some (.int (nI σ)), some (.int (nI z)), none, none, none]) (st' := [.int (nI 9999), .int (nI z)]) (I' := I) (J' := J) (G' := G) rfl ?_
  refine aw_leN rfl rfl (by omega) (by omega) (oX6_sails.dec rfl) (tgt := 28) rfl (fun h23 => ?_) (fun h23 => absurd h23 (by omega))
  refine aw_run oX6_sails sxOk 1 (pc' := 29) (L' := [some (.ref 0), some (.int (nI σ)), some (.int (nI z)), none, none, none]) (st' := [.ref 0]) (I' := I) (J' := J) (G' := G) rfl ?_
  refine aw_cV (st := []) 0 [] oX6_isOver k6_116 rfl rfl rfl rfl rfl rfl rfl rfl (oX6_sails.dec rfl) (c_isOver hW hWk ht (by omega)) ?_
  refine aw_eqS (st := [.int (b1 (decide (Wk ≤ t)))]) rfl ?_
  refine aw_0neD (oX6_sails.dec rfl) (tgt := 43) rfl (fun h32 => ?_) (fun h32 => absurd h32 (by omega))
  refine aw_run oX6_sails sxOk 1 (pc' := 45) (L' := [some (.ref 0), some (.int (nI σ)), some (.int (nI z)), none, none, none]) (st' := [.int (-nI 2)]) (I' := I) (J' := J) (G' := G) rfl ?_
  exact aw_iret rfl (oX6_sails.dec rfl) pe_rfl
set_option maxRecDepth 20000 in
theorem c_sails_no {I : II} {J : JJ} {G : II} {P : Nat} (hP : I 2 7 = nI P) (hP5 : P ≤ 5) {Wk : Nat} (hW : I 2 6 = nI Wk) (hWk : Wk ≤ 12) {t : Nat} (ht : G 24 0 = nI t) (ht12 : t ≤ 12) {σ : Nat} (hσ : σ < 2 ^ P) (hσ0 : σ ≠ 0) {z : Nat} (hz : z ≤ 9999) (ho : t < Wk) (hc : allB (sq (G 24) (G 17) σ t) P = false) : AMet SX mX6_sails [.ref 0, .int (nI σ), .int (nI z)] I J G (PE (some (.int (-nI 2))) I J G) := by
  have hp32 : 2 ^ P ≤ 32 := Nat.pow_le_pow_right (by decide) hP5
  refine amet_en oX6_sails rfl rfl (L := [some (.ref 0), some (.int (nI σ)), some (.int (nI z)), none, none, none]) rfl ?_
  refine aw_run oX6_sails sxOk 1 (pc' := 1) (L' := [some (.ref 0), some (.int (nI σ)), some (.int (nI z)), none, none, none]) (st' := [.int (nI σ)]) (I' := I) (J' := J) (G' := G) rfl ?_
  refine aw_0eqN rfl (by omega) (oX6_sails.dec rfl) (tgt := 26) rfl (fun h1 => absurd h1 (by omega)) (fun h1 => ?_)
  refine aw_run oX6_sails sxOk 3 (pc' := 9) (L' := [some (.ref 0), some (.int (nI σ)), some (.int (nI z)), none, none, none]) (st' := [.int (nI σ), .ref 2]) (I' := I) (J' := J) (G' := G) rfl ?_
  refine aw_cV (st := []) 2 [.int (nI σ)] oX4_hasSet k6_130 rfl rfl rfl rfl rfl rfl rfl rfl (oX6_sails.dec rfl) (c_hasSet_t hP (by omega) (by omega)) ?_
  refine aw_eqS (st := [.int (nI 1)]) rfl ?_
  refine aw_0eqN rfl (by omega) (oX6_sails.dec rfl) (tgt := 26) rfl (fun h12 => absurd h12 (by omega)) (fun h12 => ?_)
  refine aw_run oX6_sails sxOk 1 (pc' := 16) (L' := [some (.ref 0), some (.int (nI σ)), some (.int (nI z)), none, none, none]) (st' := [.int (nI z)]) (I' := I) (J' := J) (G' := G) rfl ?_
  refine aw_0ltN rfl (by omega) (oX6_sails.dec rfl) (tgt := 26) rfl ?_
  refine aw_run oX6_sails sxOk 2 (pc' := 23) (L' := [some (.ref 0), some (.int (nI σ)), some (.int (nI z)), none, none, none]) (st' := [.int (nI 9999), .int (nI z)]) (I' := I) (J' := J) (G' := G) rfl ?_
  refine aw_leN rfl rfl (by omega) (by omega) (oX6_sails.dec rfl) (tgt := 28) rfl (fun h23 => ?_) (fun h23 => absurd h23 (by omega))
  refine aw_run oX6_sails sxOk 1 (pc' := 29) (L' := [some (.ref 0), some (.int (nI σ)), some (.int (nI z)), none, none, none]) (st' := [.ref 0]) (I' := I) (J' := J) (G' := G) rfl ?_
  refine aw_cV (st := []) 0 [] oX6_isOver k6_116 rfl rfl rfl rfl rfl rfl rfl rfl (oX6_sails.dec rfl) (c_isOver hW hWk ht (by omega)) ?_
  refine aw_eqS (st := [.int (b1 (decide (Wk ≤ t)))]) rfl ?_
  refine aw_0neD (oX6_sails.dec rfl) (tgt := 43) rfl (fun h32 => absurd h32 (by omega)) (fun h32 => ?_)
  refine aw_run oX6_sails sxOk 2 (pc' := 37) (L' := [some (.ref 0), some (.int (nI σ)), some (.int (nI z)), none, none, none]) (st' := [.int (nI σ), .ref 0]) (I' := I) (J' := J) (G' := G) rfl ?_
  refine aw_cV (st := []) 0 [.int (nI σ)] oX6_canSail k6_133 rfl rfl rfl rfl rfl rfl rfl rfl (oX6_sails.dec rfl) (c_canSail hP (by omega) (by omega) ht) ?_
  refine aw_eqS (st := [.int (b1 (allB (sq (G 24) (G 17) σ t) P))]) rfl ?_
  refine aw_0neB (oX6_sails.dec rfl) (tgt := 46) rfl (fun h40 => by first | exact absurd h40 (by assumption) | exact absurd (by assumption) h40 | (exfalso; revert h40; decide) | simp_all) (fun h40 => ?_)
  refine aw_run oX6_sails sxOk 1 (pc' := 45) (L' := [some (.ref 0), some (.int (nI σ)), some (.int (nI z)), none, none, none]) (st' := [.int (-nI 2)]) (I' := I) (J' := J) (G' := G) rfl ?_
  exact aw_iret rfl (oX6_sails.dec rfl) pe_rfl
set_option maxRecDepth 20000 in
theorem c_sails_ok {I : II} {J : JJ} {G : II} {P : Nat} (hP : I 2 7 = nI P) (hP5 : P ≤ 5) {Wk : Nat} (hW : I 2 6 = nI Wk) (hWk : Wk ≤ 12) {t : Nat} (ht : G 24 0 = nI t) (ht12 : t ≤ 12) {K : Nat} (hK : I 4 2 = nI K) (hK10 : K ≤ 10) {σ : Nat} (hσ : σ < 2 ^ P) (hσ0 : σ ≠ 0) {z : Nat} (hz : z ≤ 9999) (ho : t < Wk) (hc : allB (sq (G 24) (G 17) σ t) P = true) (hsil : ∀ s, s < P → nI 0 ≤ sil (G 24) s) : AMet SX mX6_sails [.ref 0, .int (nI σ), .int (nI z)] I J G (PE (some (.int (nI (cntB (hq (G 12 t) σ (tak (G 24) (G 16) (G 13 t) P σ) z t) P)))) (up2 I 4 2 (nI (remK K))) J (va_up (va_up G 25 (remP (G 24) (G 25) K)) 24 (sailR (G 24) (I 2 8) (G 12 t) σ (tak (G 24) (G 16) (G 13 t) P σ) z t P))) := by
  refine amet_en oX6_sails rfl rfl (L := [some (.ref 0), some (.int (nI σ)), some (.int (nI z)), none, none, none]) rfl ?_
  have hp32 : 2 ^ P ≤ 32 := Nat.pow_le_pow_right (by decide) hP5
  have loop : ∀ (n s : Nat) (x : Int32) (c : Int32) (f : Nat → Int32), (s + n = P) → (x = nI s) → (c = nI (cntB (hq (G 12 t) σ (tak (G 24) (G 16) (G 13 t) P σ) z t) s)) → (f = sailR (G 24) (I 2 8) (G 12 t) σ (tak (G 24) (G 16) (G 13 t) P σ) z t s) → (f 0 = nI t) → AW SX mX6_sails 75 [some (.ref 0), some (.int (nI σ)), some (.int (nI z)), some (.int (encO (tak (G 24) (G 16) (G 13 t) P σ))), some (.int c), some (.int x)] [] (up2 I 4 2 (nI (remK K))) J (va_up (va_up G 25 (remP (G 24) (G 25) K)) 24 f) (PE (some (.int (nI (cntB (hq (G 12 t) σ (tak (G 24) (G 16) (G 13 t) P σ) z t) P)))) (up2 I 4 2 (nI (remK K))) J (va_up (va_up G 25 (remP (G 24) (G 25) K)) 24 (sailR (G 24) (I 2 8) (G 12 t) σ (tak (G 24) (G 16) (G 13 t) P σ) z t P))) := by
    intro n
    induction n with
    | zero =>
      intro s x c f hsn hx hc hf hf0
      refine aw_run oX6_sails sxOk 4 (pc' := 84) (L' := [some (.ref 0), some (.int (nI σ)), some (.int (nI z)), some (.int (encO (tak (G 24) (G 16) (G 13 t) P σ))), some (.int c), some (.int x)]) (st' := [.int (I 2 7), .int x]) (I' := up2 I 4 2 (nI (remK K))) (J' := J) (G' := va_up (va_up G 25 (remP (G 24) (G 25) K)) 24 f) rfl ?_
      refine aw_geN hx hP (by omega) (by omega) (oX6_sails.dec rfl) (tgt := 125) rfl (fun h84 => ?_) (fun h84 => absurd h84 (by omega))
      refine aw_run oX6_sails sxOk 1 (pc' := 127) (L' := [some (.ref 0), some (.int (nI σ)), some (.int (nI z)), some (.int (encO (tak (G 24) (G 16) (G 13 t) P σ))), some (.int c), some (.int x)]) (st' := [.int c]) (I' := up2 I 4 2 (nI (remK K))) (J' := J) (G' := va_up (va_up G 25 (remP (G 24) (G 25) K)) 24 f) rfl ?_
      exact aw_iret rfl (oX6_sails.dec rfl) (⟨by rw [hc, show s = P by omega], rfl, rfl, by rw [hf, show s = P by omega]⟩)
    | succ n ih =>
      intro s x c f hsn hx hc hf hf0
      refine aw_run oX6_sails sxOk 4 (pc' := 84) (L' := [some (.ref 0), some (.int (nI σ)), some (.int (nI z)), some (.int (encO (tak (G 24) (G 16) (G 13 t) P σ))), some (.int c), some (.int x)]) (st' := [.int (I 2 7), .int x]) (I' := up2 I 4 2 (nI (remK K))) (J' := J) (G' := va_up (va_up G 25 (remP (G 24) (G 25) K)) 24 f) rfl ?_
      refine aw_geN hx hP (by omega) (by omega) (oX6_sails.dec rfl) (tgt := 125) rfl (fun h84 => absurd h84 (by omega)) (fun h84 => ?_)
      refine aw_run oX6_sails sxOk 2 (pc' := 90) (L' := [some (.ref 0), some (.int (nI σ)), some (.int (nI z)), some (.int (encO (tak (G 24) (G 16) (G 13 t) P σ))), some (.int c), some (.int x)]) (st' := [.int (nI σ), .int x]) (I' := up2 I 4 2 (nI (remK K))) (J' := J) (G' := va_up (va_up G 25 (remP (G 24) (G 25) K)) 24 f) rfl ?_
      refine aw_eqS (st := [.int (nI σ), .int (nI s)]) (by rw [show x = nI s from hx]) ?_
      refine aw_cS (st := []) [.int (nI s), .int (nI σ)] oX6_isIn k6_143 rfl rfl rfl rfl rfl (oX6_sails.dec rfl) (c_isIn (I := up2 I 4 2 (nI (remK K))) (J := J) (G := va_up (va_up G 25 (remP (G 24) (G 25) K)) 24 f) (by omega) (by omega)) ?_
      refine aw_eqS (st := [.int (nI (bitN σ s))]) rfl ?_
      refine aw_0eqN rfl (bitN_b _ _) (oX6_sails.dec rfl) (tgt := 119) rfl (fun h93 => ?_) (fun h93 => ?_)
      · refine aw_run oX6_sails sxOk 2 (pc' := 75) (L' := [some (.ref 0), some (.int (nI σ)), some (.int (nI z)), some (.int (encO (tak (G 24) (G 16) (G 13 t) P σ))), some (.int c), some (.int (x + (nI 1)))]) (st' := []) (I' := up2 I 4 2 (nI (remK K))) (J' := J) (G' := va_up (va_up G 25 (remP (G 24) (G 25) K)) 24 f) rfl ?_
        exact ih (s + 1) _ _ _ (by omega) (addN hx rfl) (by rw [cntB_f (by unfold hq; rw [bitN_0 h93]; simp)]; exact hc) (by rw [hf, sailR_f (bitN_0 h93)]) hf0
      · refine aw_run oX6_sails sxOk 5 (pc' := 104) (L' := [some (.ref 0), some (.int (nI σ)), some (.int (nI z)), some (.int (encO (tak (G 24) (G 16) (G 13 t) P σ))), some (.int c), some (.int x)]) (st' := [.int (encO (tak (G 24) (G 16) (G 13 t) P σ)), .int x, .int x, .ref 0, .int c]) (I' := up2 I 4 2 (nI (remK K))) (J' := J) (G' := va_up (va_up G 25 (remP (G 24) (G 25) K)) 24 f) rfl ?_
        refine aw_icmp_ne (oX6_sails.dec rfl) (tgt := 111) rfl (fun h104 => ?_) (fun h104 => ?_)
        · refine aw_run oX6_sails sxOk 2 (pc' := 113) (L' := [some (.ref 0), some (.int (nI σ)), some (.int (nI z)), some (.int (encO (tak (G 24) (G 16) (G 13 t) P σ))), some (.int c), some (.int x)]) (st' := [.int (nI z), .int (nI 0), .int x, .ref 0, .int c]) (I' := up2 I 4 2 (nI (remK K))) (J' := J) (G' := va_up (va_up G 25 (remP (G 24) (G 25) K)) 24 f) rfl ?_
          refine aw_eqS (st := [.int (nI z), .int (nI 0), .int (nI s), .ref 0, .int c]) (by rw [show x = nI s from hx]) ?_
          refine aw_cV (st := [.int c]) 0 [.int (nI s), .int (nI 0), .int (nI z)] oX6_sailOne k6_147 rfl rfl rfl rfl rfl rfl rfl rfl (oX6_sails.dec rfl) (c_sailOne_f (I := up2 I 4 2 (nI (remK K))) (J := J) (G := va_up (va_up G 25 (remP (G 24) (G 25) K)) 24 f) (by omega) hf0 (by omega) (by omega)) ?_
          refine aw_eqG (G' := va_up (va_up G 25 (remP (G 24) (G 25) K)) 24 (sail1 f (I 2 8) (G 12 t) false (dN z s t) s)) (bx_uu _ _ _ _) ?_
          refine aw_eqS (st := [.int (b1 (home1 (G 12 t) false (dN z s t))), .int c]) rfl ?_
          refine aw_run oX6_sails sxOk 4 (pc' := 75) (L' := [some (.ref 0), some (.int (nI σ)), some (.int (nI z)), some (.int (encO (tak (G 24) (G 16) (G 13 t) P σ))), some (.int (c + (b1 (home1 (G 12 t) false (dN z s t))))), some (.int (x + (nI 1)))]) (st' := []) (I' := up2 I 4 2 (nI (remK K))) (J' := J) (G' := va_up (va_up G 25 (remP (G 24) (G 25) K)) 24 (sail1 f (I 2 8) (G 12 t) false (dN z s t) s)) rfl ?_
          have htk : ¬ tak (G 24) (G 16) (G 13 t) P σ = some s := fun e => h104 (hx.trans ((encO_s (by omega) (fun r hr => (tak_lt hr).1) (by omega)).mpr e))
          have hq1 : hq (G 12 t) σ (tak (G 24) (G 16) (G 13 t) P σ) z t s = home1 (G 12 t) false (dN z s t) := by unfold hq; rw [bitN_n0 h93, decide_eq_false htk, Bool.true_and]
          exact ih (s + 1) _ _ _ (by omega) (addN hx rfl) (by rw [hc, cntB_add, hq1]; exact nb_add _ _) (by rw [hf, sailR_t (bitN_n0 h93), decide_eq_false htk]) (by rw [sail1_0]; exact hf0)
        · refine aw_run oX6_sails sxOk 3 (pc' := 113) (L' := [some (.ref 0), some (.int (nI σ)), some (.int (nI z)), some (.int (encO (tak (G 24) (G 16) (G 13 t) P σ))), some (.int c), some (.int x)]) (st' := [.int (nI z), .int (nI 1), .int x, .ref 0, .int c]) (I' := up2 I 4 2 (nI (remK K))) (J' := J) (G' := va_up (va_up G 25 (remP (G 24) (G 25) K)) 24 f) rfl ?_
          refine aw_eqS (st := [.int (nI z), .int (nI 1), .int (nI s), .ref 0, .int c]) (by rw [show x = nI s from hx]) ?_
          refine aw_cV (st := [.int c]) 0 [.int (nI s), .int (nI 1), .int (nI z)] oX6_sailOne k6_147 rfl rfl rfl rfl rfl rfl rfl rfl (oX6_sails.dec rfl) (c_sailOne_t (I := up2 I 4 2 (nI (remK K))) (J := J) (G := va_up (va_up G 25 (remP (G 24) (G 25) K)) 24 f) (by omega) hf0 (by omega) (by omega)) ?_
          refine aw_eqG (G' := va_up (va_up G 25 (remP (G 24) (G 25) K)) 24 (sail1 f (I 2 8) (G 12 t) true (dN z s t) s)) (bx_uu _ _ _ _) ?_
          refine aw_eqS (st := [.int (nI 0), .int c]) rfl ?_
          refine aw_run oX6_sails sxOk 4 (pc' := 75) (L' := [some (.ref 0), some (.int (nI σ)), some (.int (nI z)), some (.int (encO (tak (G 24) (G 16) (G 13 t) P σ))), some (.int (c + (nI 0))), some (.int (x + (nI 1)))]) (st' := []) (I' := up2 I 4 2 (nI (remK K))) (J' := J) (G' := va_up (va_up G 25 (remP (G 24) (G 25) K)) 24 (sail1 f (I 2 8) (G 12 t) true (dN z s t) s)) rfl ?_
          have htk : tak (G 24) (G 16) (G 13 t) P σ = some s := (encO_s (by omega) (fun r hr => (tak_lt hr).1) (by omega)).mp (hx.symm.trans h104)
          exact ih (s + 1) _ _ _ (by omega) (addN hx rfl) (by rw [cntB_f (by unfold hq home1; rw [decide_eq_true htk]; simp)]; exact (addN hc rfl)) (by rw [hf, sailR_t (bitN_n0 h93), decide_eq_true htk]) (by rw [sail1_0]; exact hf0)
  refine aw_run oX6_sails sxOk 1 (pc' := 1) (L' := [some (.ref 0), some (.int (nI σ)), some (.int (nI z)), none, none, none]) (st' := [.int (nI σ)]) (I' := I) (J' := J) (G' := G) rfl ?_
  refine aw_0eqN rfl (by omega) (oX6_sails.dec rfl) (tgt := 26) rfl (fun h1 => absurd h1 (by omega)) (fun h1 => ?_)
  refine aw_run oX6_sails sxOk 3 (pc' := 9) (L' := [some (.ref 0), some (.int (nI σ)), some (.int (nI z)), none, none, none]) (st' := [.int (nI σ), .ref 2]) (I' := I) (J' := J) (G' := G) rfl ?_
  refine aw_cV (st := []) 2 [.int (nI σ)] oX4_hasSet k6_130 rfl rfl rfl rfl rfl rfl rfl rfl (oX6_sails.dec rfl) (c_hasSet_t hP (by omega) (by omega)) ?_
  refine aw_eqS (st := [.int (nI 1)]) rfl ?_
  refine aw_0eqN rfl (by omega) (oX6_sails.dec rfl) (tgt := 26) rfl (fun h12 => absurd h12 (by omega)) (fun h12 => ?_)
  refine aw_run oX6_sails sxOk 1 (pc' := 16) (L' := [some (.ref 0), some (.int (nI σ)), some (.int (nI z)), none, none, none]) (st' := [.int (nI z)]) (I' := I) (J' := J) (G' := G) rfl ?_
  refine aw_0ltN rfl (by omega) (oX6_sails.dec rfl) (tgt := 26) rfl ?_
  refine aw_run oX6_sails sxOk 2 (pc' := 23) (L' := [some (.ref 0), some (.int (nI σ)), some (.int (nI z)), none, none, none]) (st' := [.int (nI 9999), .int (nI z)]) (I' := I) (J' := J) (G' := G) rfl ?_
  refine aw_leN rfl rfl (by omega) (by omega) (oX6_sails.dec rfl) (tgt := 28) rfl (fun h23 => ?_) (fun h23 => absurd h23 (by omega))
  refine aw_run oX6_sails sxOk 1 (pc' := 29) (L' := [some (.ref 0), some (.int (nI σ)), some (.int (nI z)), none, none, none]) (st' := [.ref 0]) (I' := I) (J' := J) (G' := G) rfl ?_
  refine aw_cV (st := []) 0 [] oX6_isOver k6_116 rfl rfl rfl rfl rfl rfl rfl rfl (oX6_sails.dec rfl) (c_isOver hW hWk ht (by omega)) ?_
  refine aw_eqS (st := [.int (b1 (decide (Wk ≤ t)))]) rfl ?_
  refine aw_0neD (oX6_sails.dec rfl) (tgt := 43) rfl (fun h32 => absurd h32 (by omega)) (fun h32 => ?_)
  refine aw_run oX6_sails sxOk 2 (pc' := 37) (L' := [some (.ref 0), some (.int (nI σ)), some (.int (nI z)), none, none, none]) (st' := [.int (nI σ), .ref 0]) (I' := I) (J' := J) (G' := G) rfl ?_
  refine aw_cV (st := []) 0 [.int (nI σ)] oX6_canSail k6_133 rfl rfl rfl rfl rfl rfl rfl rfl (oX6_sails.dec rfl) (c_canSail hP (by omega) (by omega) ht) ?_
  refine aw_eqS (st := [.int (b1 (allB (sq (G 24) (G 17) σ t) P))]) rfl ?_
  refine aw_0neB (oX6_sails.dec rfl) (tgt := 46) rfl (fun h40 => ?_) (fun h40 => by first | exact absurd h40 (by assumption) | exact absurd (by assumption) h40 | (exfalso; revert h40; decide) | simp_all)
  refine aw_run oX6_sails sxOk 2 (pc' := 50) (L' := [some (.ref 0), some (.int (nI σ)), some (.int (nI z)), none, none, none]) (st' := [.ref 4]) (I' := I) (J' := J) (G' := G) rfl ?_
  refine aw_cV (st := []) 4 [] oX2_remember k6_120 rfl rfl rfl rfl rfl rfl rfl rfl (oX6_sails.dec rfl) (c_remember hK (by omega)) ?_
  refine aw_eqG (G' := va_up G 25 (remP (G 24) (G 25) K)) (rfl) ?_
  refine aw_eqS (st := []) rfl ?_
  refine aw_run oX6_sails sxOk 5 (pc' := 62) (L' := [some (.ref 0), some (.int (nI σ)), some (.int (nI z)), none, none, none]) (st' := [.ref 4, .int (nI σ), .ref 7]) (I' := up2 I 4 2 (nI (remK K))) (J' := J) (G' := va_up G 25 (remP (G 24) (G 25) K)) rfl ?_
  refine aw_cV (st := [.int (nI σ), .ref 7]) 4 [] oX2_theWeek k6_126 rfl rfl rfl rfl rfl rfl rfl rfl (oX6_sails.dec rfl) (c_theWeek (I := up2 I 4 2 (nI (remK K))) (J := J) (G := va_up G 25 (remP (G 24) (G 25) K)) ) ?_
  refine aw_eqS (st := [.int (G 24 0), .int (nI σ), .ref 7]) rfl ?_
  refine aw_eqS (st := [.int (nI t), .int (nI σ), .ref 7]) (by rw [show G 24 0 = nI t from ht]) ?_
  refine aw_cV (st := []) 7 [.int (nI σ), .int (nI t)] oX0_takenOf k6_136 rfl rfl rfl rfl rfl rfl rfl rfl (oX6_sails.dec rfl) (c_takenOf (I := up2 I 4 2 (nI (remK K))) (J := J) (G := va_up G 25 (remP (G 24) (G 25) K)) hP (by omega) (by omega) (by omega) hsil) ?_
  refine aw_eqS (st := [.int (encO (tak (G 24) (G 16) (G 13 t) P σ))]) rfl ?_
  refine aw_run oX6_sails sxOk 5 (pc' := 75) (L' := [some (.ref 0), some (.int (nI σ)), some (.int (nI z)), some (.int (encO (tak (G 24) (G 16) (G 13 t) P σ))), some (.int (nI 0)), some (.int (nI 0))]) (st' := []) (I' := up2 I 4 2 (nI (remK K))) (J' := J) (G' := va_up G 25 (remP (G 24) (G 25) K)) rfl ?_
  refine aw_eqG (G' := va_up (va_up G 25 (remP (G 24) (G 25) K)) 24 (G 24)) (upG_24 _ _ 0).symm ?_
  exact loop P 0 _ _ _ (by omega) rfl rfl rfl ht
set_option maxRecDepth 20000 in
theorem c_reg_bad1 {I : II} {J : JJ} {G : II} {x y : Int32} (hx : notIn x 301) : AMet SX mX6_register [.ref 0, .int x, .int y] I J G (PE (some (.int (-nI 1))) I J G) := by
  refine amet_en oX6_register rfl rfl (L := [some (.ref 0), some (.int x), some (.int y), none, none, none, none]) rfl ?_
  refine aw_run oX6_register sxOk 1 (pc' := 1) (L' := [some (.ref 0), some (.int x), some (.int y), none, none, none, none]) (st' := [.int x]) (I' := I) (J' := J) (G' := G) rfl ?_
  refine aw_if_lt (oX6_register.dec rfl) (tgt := 20) rfl (fun h1 => ?_) (fun h1 => ?_)
  · refine aw_run oX6_register sxOk 1 (pc' := 21) (L' := [some (.ref 0), some (.int x), some (.int y), none, none, none, none]) (st' := [.int (-nI 1)]) (I' := I) (J' := J) (G' := G) rfl ?_
    exact aw_iret rfl (oX6_register.dec rfl) pe_rfl
  · refine aw_run oX6_register sxOk 2 (pc' := 8) (L' := [some (.ref 0), some (.int x), some (.int y), none, none, none, none]) (st' := [.int (nI 300), .int x]) (I' := I) (J' := J) (G' := G) rfl ?_
    refine aw_icmp_gt (oX6_register.dec rfl) (tgt := 20) rfl (fun h8 => ?_) (fun h8 => absurd (notIn_gt hx (by decide) h1) h8)
    refine aw_run oX6_register sxOk 1 (pc' := 21) (L' := [some (.ref 0), some (.int x), some (.int y), none, none, none, none]) (st' := [.int (-nI 1)]) (I' := I) (J' := J) (G' := G) rfl ?_
    exact aw_iret rfl (oX6_register.dec rfl) pe_rfl
set_option maxRecDepth 20000 in
theorem c_reg_bad2 {I : II} {J : JJ} {G : II} {n0 : Nat} {x : Int32} (hn0 : n0 ≤ 300) (hx : notIn x 3) : AMet SX mX6_register [.ref 0, .int (nI n0), .int x] I J G (PE (some (.int (-nI 1))) I J G) := by
  refine amet_en oX6_register rfl rfl (L := [some (.ref 0), some (.int (nI n0)), some (.int x), none, none, none, none]) rfl ?_
  refine aw_run oX6_register sxOk 1 (pc' := 1) (L' := [some (.ref 0), some (.int (nI n0)), some (.int x), none, none, none, none]) (st' := [.int (nI n0)]) (I' := I) (J' := J) (G' := G) rfl ?_
  refine aw_0ltN rfl (by omega) (oX6_register.dec rfl) (tgt := 20) rfl ?_
  refine aw_run oX6_register sxOk 2 (pc' := 8) (L' := [some (.ref 0), some (.int (nI n0)), some (.int x), none, none, none, none]) (st' := [.int (nI 300), .int (nI n0)]) (I' := I) (J' := J) (G' := G) rfl ?_
  refine aw_gtN rfl rfl (by omega) (by omega) (oX6_register.dec rfl) (tgt := 20) rfl (fun h8 => absurd h8 (by omega)) (fun h8 => ?_)
  refine aw_run oX6_register sxOk 1 (pc' := 12) (L' := [some (.ref 0), some (.int (nI n0)), some (.int x), none, none, none, none]) (st' := [.int x]) (I' := I) (J' := J) (G' := G) rfl ?_
  refine aw_if_lt (oX6_register.dec rfl) (tgt := 20) rfl (fun h12 => ?_) (fun h12 => ?_)
  · refine aw_run oX6_register sxOk 1 (pc' := 21) (L' := [some (.ref 0), some (.int (nI n0)), some (.int x), none, none, none, none]) (st' := [.int (-nI 1)]) (I' := I) (J' := J) (G' := G) rfl ?_
    exact aw_iret rfl (oX6_register.dec rfl) pe_rfl
  · refine aw_run oX6_register sxOk 2 (pc' := 17) (L' := [some (.ref 0), some (.int (nI n0)), some (.int x), none, none, none, none]) (st' := [.int (nI 2), .int x]) (I' := I) (J' := J) (G' := G) rfl ?_
    refine aw_icmp_le (oX6_register.dec rfl) (tgt := 22) rfl (fun h17 => absurd h17 (Int32.not_le.mpr (notIn_gt hx (by decide) h12))) (fun h17 => ?_)
    refine aw_run oX6_register sxOk 1 (pc' := 21) (L' := [some (.ref 0), some (.int (nI n0)), some (.int x), none, none, none, none]) (st' := [.int (-nI 1)]) (I' := I) (J' := J) (G' := G) rfl ?_
    exact aw_iret rfl (oX6_register.dec rfl) pe_rfl
set_option maxRecDepth 20000 in
theorem c_reg_0 {I : II} {J : JJ} {G : II} {P : Nat} (hP : I 2 7 = nI P) (hP5 : P ≤ 5) {n0 : Nat} (hn0 : n0 ≤ 300) : AMet SX mX6_register [.ref 0, .int (nI n0), .int (nI 0)] I J G (PE (some (.int (nI (cntB (fun σ => decide (sumS (fun s => G 24 (8 + s)) σ P = nI n0)) (2 ^ P))))) I J G) := by
  refine amet_en oX6_register rfl rfl (L := [some (.ref 0), some (.int (nI n0)), some (.int (nI 0)), none, none, none, none]) rfl ?_
  have hp32 : 2 ^ P ≤ 32 := Nat.pow_le_pow_right (by decide) hP5
  have hp0 : 0 < 2 ^ P := Nat.pow_pos (by decide)
  have loop : ∀ (n s : Nat) (x : Int32) (m : Int32) (a : Int32) (b : Int32), (s + n = 2 ^ P) → (x = nI s) → (m = nI (cntB (fun σ => decide (sumS (fun s => G 24 (8 + s)) σ P = nI n0)) s)) → (a = nI (andA (fun σ => decide (sumS (fun s => G 24 (8 + s)) σ P = nI n0)) 31 s)) → (b = nI (orS (fun σ => decide (sumS (fun s => G 24 (8 + s)) σ P = nI n0)) s)) → AW SX mX6_register 34 [some (.ref 0), some (.int (nI n0)), some (.int (nI 0)), some (.int m), some (.int a), some (.int b), some (.int x)] [] I J G (PE (some (.int (nI (cntB (fun σ => decide (sumS (fun s => G 24 (8 + s)) σ P = nI n0)) (2 ^ P))))) I J G) := by
    intro n
    induction n with
    | zero =>
      intro s x m a b hsn hx hm ha hb
      have hcl := cntB_le (fun σ => decide (sumS (fun s => G 24 (8 + s)) σ P = nI n0)) s
      refine aw_run oX6_register sxOk 2 (pc' := 38) (L' := [some (.ref 0), some (.int (nI n0)), some (.int (nI 0)), some (.int m), some (.int a), some (.int b), some (.int x)]) (st' := [.int (nI 32), .int x]) (I' := I) (J' := J) (G' := G) rfl ?_
      refine aw_geN hx rfl (by omega) (by omega) (oX6_register.dec rfl) (tgt := 89) rfl (fun h38 => ?_) (fun h38 => ?_)
      · refine aw_run oX6_register sxOk 1 (pc' := 90) (L' := [some (.ref 0), some (.int (nI n0)), some (.int (nI 0)), some (.int m), some (.int a), some (.int b), some (.int x)]) (st' := [.int (nI 0)]) (I' := I) (J' := J) (G' := G) rfl ?_
        refine aw_0neN rfl (by omega) (oX6_register.dec rfl) (tgt := 95) rfl (fun h90 => absurd h90 (by omega)) (fun h90 => ?_)
        refine aw_run oX6_register sxOk 1 (pc' := 94) (L' := [some (.ref 0), some (.int (nI n0)), some (.int (nI 0)), some (.int m), some (.int a), some (.int b), some (.int x)]) (st' := [.int m]) (I' := I) (J' := J) (G' := G) rfl ?_
        exact aw_iret rfl (oX6_register.dec rfl) (pe_i (by rw [hm, show s = 2 ^ P by omega]))
      · refine aw_run oX6_register sxOk 3 (pc' := 47) (L' := [some (.ref 0), some (.int (nI n0)), some (.int (nI 0)), some (.int m), some (.int a), some (.int b), some (.int x)]) (st' := [.int x, .ref 2]) (I' := I) (J' := J) (G' := G) rfl ?_
        refine aw_cV (st := []) 2 [.int x] oX4_hasSet k6_130 rfl rfl rfl rfl rfl rfl rfl rfl (oX6_register.dec rfl) (c_hasSet_f hP (by omega) (by rw [hx]; exact notIn_self (by omega) (by omega))) ?_
        refine aw_eqS (st := [.int (nI 0)]) rfl ?_
        refine aw_0eqN rfl (by omega) (oX6_register.dec rfl) (tgt := 89) rfl (fun h50 => ?_) (fun h50 => absurd h50 (by omega))
        refine aw_run oX6_register sxOk 1 (pc' := 90) (L' := [some (.ref 0), some (.int (nI n0)), some (.int (nI 0)), some (.int m), some (.int a), some (.int b), some (.int x)]) (st' := [.int (nI 0)]) (I' := I) (J' := J) (G' := G) rfl ?_
        refine aw_0neN rfl (by omega) (oX6_register.dec rfl) (tgt := 95) rfl (fun h90 => absurd h90 (by omega)) (fun h90 => ?_)
        refine aw_run oX6_register sxOk 1 (pc' := 94) (L' := [some (.ref 0), some (.int (nI n0)), some (.int (nI 0)), some (.int m), some (.int a), some (.int b), some (.int x)]) (st' := [.int m]) (I' := I) (J' := J) (G' := G) rfl ?_
        exact aw_iret rfl (oX6_register.dec rfl) (pe_i (by rw [hm, show s = 2 ^ P by omega]))
    | succ n ih =>
      intro s x m a b hsn hx hm ha hb
      refine aw_run oX6_register sxOk 2 (pc' := 38) (L' := [some (.ref 0), some (.int (nI n0)), some (.int (nI 0)), some (.int m), some (.int a), some (.int b), some (.int x)]) (st' := [.int (nI 32), .int x]) (I' := I) (J' := J) (G' := G) rfl ?_
      refine aw_geN hx rfl (by omega) (by omega) (oX6_register.dec rfl) (tgt := 89) rfl (fun h38 => absurd h38 (by omega)) (fun h38 => ?_)
      refine aw_run oX6_register sxOk 3 (pc' := 47) (L' := [some (.ref 0), some (.int (nI n0)), some (.int (nI 0)), some (.int m), some (.int a), some (.int b), some (.int x)]) (st' := [.int x, .ref 2]) (I' := I) (J' := J) (G' := G) rfl ?_
      refine aw_eqS (st := [.int (nI s), .ref 2]) (by rw [show x = nI s from hx]) ?_
      refine aw_cV (st := []) 2 [.int (nI s)] oX4_hasSet k6_130 rfl rfl rfl rfl rfl rfl rfl rfl (oX6_register.dec rfl) (c_hasSet_t hP (by omega) (by omega)) ?_
      refine aw_eqS (st := [.int (nI 1)]) rfl ?_
      refine aw_0eqN rfl (by omega) (oX6_register.dec rfl) (tgt := 89) rfl (fun h50 => absurd h50 (by omega)) (fun h50 => ?_)
      refine aw_run oX6_register sxOk 3 (pc' := 59) (L' := [some (.ref 0), some (.int (nI n0)), some (.int (nI 0)), some (.int m), some (.int a), some (.int b), some (.int x)]) (st' := [.int x, .ref 7]) (I' := I) (J' := J) (G' := G) rfl ?_
      refine aw_eqS (st := [.int (nI s), .ref 7]) (by rw [show x = nI s from hx]) ?_
      refine aw_cV (st := []) 7 [.int (nI s)] oX0_listedTogether k6_202 rfl rfl rfl rfl rfl rfl rfl rfl (oX6_register.dec rfl) (c_listedTogether hP (by omega) (by omega)) ?_
      refine aw_eqS (st := [.int (sumS (fun s => G 24 (8 + s)) s P)]) rfl ?_
      refine aw_run oX6_register sxOk 1 (pc' := 63) (L' := [some (.ref 0), some (.int (nI n0)), some (.int (nI 0)), some (.int m), some (.int a), some (.int b), some (.int x)]) (st' := [.int (nI n0), .int (sumS (fun s => G 24 (8 + s)) s P)]) (I' := I) (J' := J) (G' := G) rfl ?_
      refine aw_icmp_ne (oX6_register.dec rfl) (tgt := 83) rfl (fun h63 => ?_) (fun h63 => ?_)
      · refine aw_run oX6_register sxOk 2 (pc' := 34) (L' := [some (.ref 0), some (.int (nI n0)), some (.int (nI 0)), some (.int m), some (.int a), some (.int b), some (.int (x + (nI 1)))]) (st' := []) (I' := I) (J' := J) (G' := G) rfl ?_
        exact ih (s + 1) _ _ _ _ (by omega) (addN hx rfl) (by rw [cntB_f (by simpa using h63)]; exact hm) (by rw [andA_f (by simpa using h63)]; exact ha) (by rw [orS_f (by simpa using h63)]; exact hb)
      · refine aw_run oX6_register sxOk 11 (pc' := 34) (L' := [some (.ref 0), some (.int (nI n0)), some (.int (nI 0)), some (.int (m + (nI 1))), some (.int (a &&& x)), some (.int (b ||| x)), some (.int (x + (nI 1)))]) (st' := []) (I' := I) (J' := J) (G' := G) rfl ?_
        exact ih (s + 1) _ _ _ _ (by omega) (addN hx rfl) (by rw [cntB_t (by simpa using h63)]; exact addN hm rfl) (by rw [andA_t (by simpa using h63)]; exact andN ha hx) (by rw [orS_t (by simpa using h63)]; exact orN hb hx)
  refine aw_run oX6_register sxOk 1 (pc' := 1) (L' := [some (.ref 0), some (.int (nI n0)), some (.int (nI 0)), none, none, none, none]) (st' := [.int (nI n0)]) (I' := I) (J' := J) (G' := G) rfl ?_
  refine aw_0ltN rfl (by omega) (oX6_register.dec rfl) (tgt := 20) rfl ?_
  refine aw_run oX6_register sxOk 2 (pc' := 8) (L' := [some (.ref 0), some (.int (nI n0)), some (.int (nI 0)), none, none, none, none]) (st' := [.int (nI 300), .int (nI n0)]) (I' := I) (J' := J) (G' := G) rfl ?_
  refine aw_gtN rfl rfl (by omega) (by omega) (oX6_register.dec rfl) (tgt := 20) rfl (fun h8 => absurd h8 (by omega)) (fun h8 => ?_)
  refine aw_run oX6_register sxOk 1 (pc' := 12) (L' := [some (.ref 0), some (.int (nI n0)), some (.int (nI 0)), none, none, none, none]) (st' := [.int (nI 0)]) (I' := I) (J' := J) (G' := G) rfl ?_
  refine aw_0ltN rfl (by omega) (oX6_register.dec rfl) (tgt := 20) rfl ?_
  refine aw_run oX6_register sxOk 2 (pc' := 17) (L' := [some (.ref 0), some (.int (nI n0)), some (.int (nI 0)), none, none, none, none]) (st' := [.int (nI 2), .int (nI 0)]) (I' := I) (J' := J) (G' := G) rfl ?_
  refine aw_leN rfl rfl (by omega) (by omega) (oX6_register.dec rfl) (tgt := 22) rfl (fun h17 => ?_) (fun h17 => absurd h17 (by omega))
  refine aw_run oX6_register sxOk 8 (pc' := 34) (L' := [some (.ref 0), some (.int (nI n0)), some (.int (nI 0)), some (.int (nI 0)), some (.int (nI 31)), some (.int (nI 0)), some (.int (nI 0))]) (st' := []) (I' := I) (J' := J) (G' := G) rfl ?_
  exact loop (2 ^ P) 0 _ _ _ _ (by omega) rfl rfl rfl rfl
set_option maxRecDepth 20000 in
theorem c_reg_1 {I : II} {J : JJ} {G : II} {P : Nat} (hP : I 2 7 = nI P) (hP5 : P ≤ 5) {n0 : Nat} (hn0 : n0 ≤ 300) : AMet SX mX6_register [.ref 0, .int (nI n0), .int (nI 1)] I J G (PE (some (.int (if cntB (fun σ => decide (sumS (fun s => G 24 (8 + s)) σ P = nI n0)) (2 ^ P) = 0 then -nI 9 else nI (andA (fun σ => decide (sumS (fun s => G 24 (8 + s)) σ P = nI n0)) 31 (2 ^ P))))) I J G) := by
  refine amet_en oX6_register rfl rfl (L := [some (.ref 0), some (.int (nI n0)), some (.int (nI 1)), none, none, none, none]) rfl ?_
  have hp32 : 2 ^ P ≤ 32 := Nat.pow_le_pow_right (by decide) hP5
  have hp0 : 0 < 2 ^ P := Nat.pow_pos (by decide)
  have loop : ∀ (n s : Nat) (x : Int32) (m : Int32) (a : Int32) (b : Int32), (s + n = 2 ^ P) → (x = nI s) → (m = nI (cntB (fun σ => decide (sumS (fun s => G 24 (8 + s)) σ P = nI n0)) s)) → (a = nI (andA (fun σ => decide (sumS (fun s => G 24 (8 + s)) σ P = nI n0)) 31 s)) → (b = nI (orS (fun σ => decide (sumS (fun s => G 24 (8 + s)) σ P = nI n0)) s)) → AW SX mX6_register 34 [some (.ref 0), some (.int (nI n0)), some (.int (nI 1)), some (.int m), some (.int a), some (.int b), some (.int x)] [] I J G (PE (some (.int (if cntB (fun σ => decide (sumS (fun s => G 24 (8 + s)) σ P = nI n0)) (2 ^ P) = 0 then -nI 9 else nI (andA (fun σ => decide (sumS (fun s => G 24 (8 + s)) σ P = nI n0)) 31 (2 ^ P))))) I J G) := by
    intro n
    induction n with
    | zero =>
      intro s x m a b hsn hx hm ha hb
      have hcl := cntB_le (fun σ => decide (sumS (fun s => G 24 (8 + s)) σ P = nI n0)) s
      refine aw_run oX6_register sxOk 2 (pc' := 38) (L' := [some (.ref 0), some (.int (nI n0)), some (.int (nI 1)), some (.int m), some (.int a), some (.int b), some (.int x)]) (st' := [.int (nI 32), .int x]) (I' := I) (J' := J) (G' := G) rfl ?_
      refine aw_geN hx rfl (by omega) (by omega) (oX6_register.dec rfl) (tgt := 89) rfl (fun h38 => ?_) (fun h38 => ?_)
      · refine aw_run oX6_register sxOk 1 (pc' := 90) (L' := [some (.ref 0), some (.int (nI n0)), some (.int (nI 1)), some (.int m), some (.int a), some (.int b), some (.int x)]) (st' := [.int (nI 1)]) (I' := I) (J' := J) (G' := G) rfl ?_
        refine aw_0neN rfl (by omega) (oX6_register.dec rfl) (tgt := 95) rfl (fun h90 => ?_) (fun h90 => absurd h90 (by omega))
        refine aw_run oX6_register sxOk 2 (pc' := 97) (L' := [some (.ref 0), some (.int (nI n0)), some (.int (nI 1)), some (.int m), some (.int a), some (.int b), some (.int x)]) (st' := [.int (nI 2), .int (nI 1)]) (I' := I) (J' := J) (G' := G) rfl ?_
        refine aw_neN rfl rfl (by omega) (by omega) (oX6_register.dec rfl) (tgt := 103) rfl (fun h97 => ?_) (fun h97 => absurd h97 (by omega))
        refine aw_run oX6_register sxOk 1 (pc' := 104) (L' := [some (.ref 0), some (.int (nI n0)), some (.int (nI 1)), some (.int m), some (.int a), some (.int b), some (.int x)]) (st' := [.int m]) (I' := I) (J' := J) (G' := G) rfl ?_
        refine aw_0neN hm (by omega) (oX6_register.dec rfl) (tgt := 112) rfl (fun h104 => ?_) (fun h104 => ?_)
        · refine aw_run oX6_register sxOk 1 (pc' := 114) (L' := [some (.ref 0), some (.int (nI n0)), some (.int (nI 1)), some (.int m), some (.int a), some (.int b), some (.int x)]) (st' := [.int a]) (I' := I) (J' := J) (G' := G) rfl ?_
          exact aw_iret rfl (oX6_register.dec rfl) (pe_i (by rw [if_neg (by rw [← show s = 2 ^ P by omega]; exact h104), ha, show s = 2 ^ P by omega]))
        · refine aw_run oX6_register sxOk 2 (pc' := 114) (L' := [some (.ref 0), some (.int (nI n0)), some (.int (nI 1)), some (.int m), some (.int a), some (.int b), some (.int x)]) (st' := [.int (-nI 9)]) (I' := I) (J' := J) (G' := G) rfl ?_
          exact aw_iret rfl (oX6_register.dec rfl) (pe_i (by rw [if_pos (by rw [← show s = 2 ^ P by omega]; exact h104)]))
      · refine aw_run oX6_register sxOk 3 (pc' := 47) (L' := [some (.ref 0), some (.int (nI n0)), some (.int (nI 1)), some (.int m), some (.int a), some (.int b), some (.int x)]) (st' := [.int x, .ref 2]) (I' := I) (J' := J) (G' := G) rfl ?_
        refine aw_cV (st := []) 2 [.int x] oX4_hasSet k6_130 rfl rfl rfl rfl rfl rfl rfl rfl (oX6_register.dec rfl) (c_hasSet_f hP (by omega) (by rw [hx]; exact notIn_self (by omega) (by omega))) ?_
        refine aw_eqS (st := [.int (nI 0)]) rfl ?_
        refine aw_0eqN rfl (by omega) (oX6_register.dec rfl) (tgt := 89) rfl (fun h50 => ?_) (fun h50 => absurd h50 (by omega))
        refine aw_run oX6_register sxOk 1 (pc' := 90) (L' := [some (.ref 0), some (.int (nI n0)), some (.int (nI 1)), some (.int m), some (.int a), some (.int b), some (.int x)]) (st' := [.int (nI 1)]) (I' := I) (J' := J) (G' := G) rfl ?_
        refine aw_0neN rfl (by omega) (oX6_register.dec rfl) (tgt := 95) rfl (fun h90 => ?_) (fun h90 => absurd h90 (by omega))
        refine aw_run oX6_register sxOk 2 (pc' := 97) (L' := [some (.ref 0), some (.int (nI n0)), some (.int (nI 1)), some (.int m), some (.int a), some (.int b), some (.int x)]) (st' := [.int (nI 2), .int (nI 1)]) (I' := I) (J' := J) (G' := G) rfl ?_
        refine aw_neN rfl rfl (by omega) (by omega) (oX6_register.dec rfl) (tgt := 103) rfl (fun h97 => ?_) (fun h97 => absurd h97 (by omega))
        refine aw_run oX6_register sxOk 1 (pc' := 104) (L' := [some (.ref 0), some (.int (nI n0)), some (.int (nI 1)), some (.int m), some (.int a), some (.int b), some (.int x)]) (st' := [.int m]) (I' := I) (J' := J) (G' := G) rfl ?_
        refine aw_0neN hm (by omega) (oX6_register.dec rfl) (tgt := 112) rfl (fun h104 => ?_) (fun h104 => ?_)
        · refine aw_run oX6_register sxOk 1 (pc' := 114) (L' := [some (.ref 0), some (.int (nI n0)), some (.int (nI 1)), some (.int m), some (.int a), some (.int b), some (.int x)]) (st' := [.int a]) (I' := I) (J' := J) (G' := G) rfl ?_
          exact aw_iret rfl (oX6_register.dec rfl) (pe_i (by rw [if_neg (by rw [← show s = 2 ^ P by omega]; exact h104), ha, show s = 2 ^ P by omega]))
        · refine aw_run oX6_register sxOk 2 (pc' := 114) (L' := [some (.ref 0), some (.int (nI n0)), some (.int (nI 1)), some (.int m), some (.int a), some (.int b), some (.int x)]) (st' := [.int (-nI 9)]) (I' := I) (J' := J) (G' := G) rfl ?_
          exact aw_iret rfl (oX6_register.dec rfl) (pe_i (by rw [if_pos (by rw [← show s = 2 ^ P by omega]; exact h104)]))
    | succ n ih =>
      intro s x m a b hsn hx hm ha hb
      refine aw_run oX6_register sxOk 2 (pc' := 38) (L' := [some (.ref 0), some (.int (nI n0)), some (.int (nI 1)), some (.int m), some (.int a), some (.int b), some (.int x)]) (st' := [.int (nI 32), .int x]) (I' := I) (J' := J) (G' := G) rfl ?_
      refine aw_geN hx rfl (by omega) (by omega) (oX6_register.dec rfl) (tgt := 89) rfl (fun h38 => absurd h38 (by omega)) (fun h38 => ?_)
      refine aw_run oX6_register sxOk 3 (pc' := 47) (L' := [some (.ref 0), some (.int (nI n0)), some (.int (nI 1)), some (.int m), some (.int a), some (.int b), some (.int x)]) (st' := [.int x, .ref 2]) (I' := I) (J' := J) (G' := G) rfl ?_
      refine aw_eqS (st := [.int (nI s), .ref 2]) (by rw [show x = nI s from hx]) ?_
      refine aw_cV (st := []) 2 [.int (nI s)] oX4_hasSet k6_130 rfl rfl rfl rfl rfl rfl rfl rfl (oX6_register.dec rfl) (c_hasSet_t hP (by omega) (by omega)) ?_
      refine aw_eqS (st := [.int (nI 1)]) rfl ?_
      refine aw_0eqN rfl (by omega) (oX6_register.dec rfl) (tgt := 89) rfl (fun h50 => absurd h50 (by omega)) (fun h50 => ?_)
      refine aw_run oX6_register sxOk 3 (pc' := 59) (L' := [some (.ref 0), some (.int (nI n0)), some (.int (nI 1)), some (.int m), some (.int a), some (.int b), some (.int x)]) (st' := [.int x, .ref 7]) (I' := I) (J' := J) (G' := G) rfl ?_
      refine aw_eqS (st := [.int (nI s), .ref 7]) (by rw [show x = nI s from hx]) ?_
      refine aw_cV (st := []) 7 [.int (nI s)] oX0_listedTogether k6_202 rfl rfl rfl rfl rfl rfl rfl rfl (oX6_register.dec rfl) (c_listedTogether hP (by omega) (by omega)) ?_
      refine aw_eqS (st := [.int (sumS (fun s => G 24 (8 + s)) s P)]) rfl ?_
      refine aw_run oX6_register sxOk 1 (pc' := 63) (L' := [some (.ref 0), some (.int (nI n0)), some (.int (nI 1)), some (.int m), some (.int a), some (.int b), some (.int x)]) (st' := [.int (nI n0), .int (sumS (fun s => G 24 (8 + s)) s P)]) (I' := I) (J' := J) (G' := G) rfl ?_
      refine aw_icmp_ne (oX6_register.dec rfl) (tgt := 83) rfl (fun h63 => ?_) (fun h63 => ?_)
      · refine aw_run oX6_register sxOk 2 (pc' := 34) (L' := [some (.ref 0), some (.int (nI n0)), some (.int (nI 1)), some (.int m), some (.int a), some (.int b), some (.int (x + (nI 1)))]) (st' := []) (I' := I) (J' := J) (G' := G) rfl ?_
        exact ih (s + 1) _ _ _ _ (by omega) (addN hx rfl) (by rw [cntB_f (by simpa using h63)]; exact hm) (by rw [andA_f (by simpa using h63)]; exact ha) (by rw [orS_f (by simpa using h63)]; exact hb)
      · refine aw_run oX6_register sxOk 11 (pc' := 34) (L' := [some (.ref 0), some (.int (nI n0)), some (.int (nI 1)), some (.int (m + (nI 1))), some (.int (a &&& x)), some (.int (b ||| x)), some (.int (x + (nI 1)))]) (st' := []) (I' := I) (J' := J) (G' := G) rfl ?_
        exact ih (s + 1) _ _ _ _ (by omega) (addN hx rfl) (by rw [cntB_t (by simpa using h63)]; exact addN hm rfl) (by rw [andA_t (by simpa using h63)]; exact andN ha hx) (by rw [orS_t (by simpa using h63)]; exact orN hb hx)
  refine aw_run oX6_register sxOk 1 (pc' := 1) (L' := [some (.ref 0), some (.int (nI n0)), some (.int (nI 1)), none, none, none, none]) (st' := [.int (nI n0)]) (I' := I) (J' := J) (G' := G) rfl ?_
  refine aw_0ltN rfl (by omega) (oX6_register.dec rfl) (tgt := 20) rfl ?_
  refine aw_run oX6_register sxOk 2 (pc' := 8) (L' := [some (.ref 0), some (.int (nI n0)), some (.int (nI 1)), none, none, none, none]) (st' := [.int (nI 300), .int (nI n0)]) (I' := I) (J' := J) (G' := G) rfl ?_
  refine aw_gtN rfl rfl (by omega) (by omega) (oX6_register.dec rfl) (tgt := 20) rfl (fun h8 => absurd h8 (by omega)) (fun h8 => ?_)
  refine aw_run oX6_register sxOk 1 (pc' := 12) (L' := [some (.ref 0), some (.int (nI n0)), some (.int (nI 1)), none, none, none, none]) (st' := [.int (nI 1)]) (I' := I) (J' := J) (G' := G) rfl ?_
  refine aw_0ltN rfl (by omega) (oX6_register.dec rfl) (tgt := 20) rfl ?_
  refine aw_run oX6_register sxOk 2 (pc' := 17) (L' := [some (.ref 0), some (.int (nI n0)), some (.int (nI 1)), none, none, none, none]) (st' := [.int (nI 2), .int (nI 1)]) (I' := I) (J' := J) (G' := G) rfl ?_
  refine aw_leN rfl rfl (by omega) (by omega) (oX6_register.dec rfl) (tgt := 22) rfl (fun h17 => ?_) (fun h17 => absurd h17 (by omega))
  refine aw_run oX6_register sxOk 8 (pc' := 34) (L' := [some (.ref 0), some (.int (nI n0)), some (.int (nI 1)), some (.int (nI 0)), some (.int (nI 31)), some (.int (nI 0)), some (.int (nI 0))]) (st' := []) (I' := I) (J' := J) (G' := G) rfl ?_
  exact loop (2 ^ P) 0 _ _ _ _ (by omega) rfl rfl rfl rfl
set_option maxRecDepth 20000 in
theorem c_reg_2 {I : II} {J : JJ} {G : II} {P : Nat} (hP : I 2 7 = nI P) (hP5 : P ≤ 5) {n0 : Nat} (hn0 : n0 ≤ 300) : AMet SX mX6_register [.ref 0, .int (nI n0), .int (nI 2)] I J G (PE (some (.int (nI (orS (fun σ => decide (sumS (fun s => G 24 (8 + s)) σ P = nI n0)) (2 ^ P))))) I J G) := by
  refine amet_en oX6_register rfl rfl (L := [some (.ref 0), some (.int (nI n0)), some (.int (nI 2)), none, none, none, none]) rfl ?_
  have hp32 : 2 ^ P ≤ 32 := Nat.pow_le_pow_right (by decide) hP5
  have hp0 : 0 < 2 ^ P := Nat.pow_pos (by decide)
  have loop : ∀ (n s : Nat) (x : Int32) (m : Int32) (a : Int32) (b : Int32), (s + n = 2 ^ P) → (x = nI s) → (m = nI (cntB (fun σ => decide (sumS (fun s => G 24 (8 + s)) σ P = nI n0)) s)) → (a = nI (andA (fun σ => decide (sumS (fun s => G 24 (8 + s)) σ P = nI n0)) 31 s)) → (b = nI (orS (fun σ => decide (sumS (fun s => G 24 (8 + s)) σ P = nI n0)) s)) → AW SX mX6_register 34 [some (.ref 0), some (.int (nI n0)), some (.int (nI 2)), some (.int m), some (.int a), some (.int b), some (.int x)] [] I J G (PE (some (.int (nI (orS (fun σ => decide (sumS (fun s => G 24 (8 + s)) σ P = nI n0)) (2 ^ P))))) I J G) := by
    intro n
    induction n with
    | zero =>
      intro s x m a b hsn hx hm ha hb
      have hcl := cntB_le (fun σ => decide (sumS (fun s => G 24 (8 + s)) σ P = nI n0)) s
      refine aw_run oX6_register sxOk 2 (pc' := 38) (L' := [some (.ref 0), some (.int (nI n0)), some (.int (nI 2)), some (.int m), some (.int a), some (.int b), some (.int x)]) (st' := [.int (nI 32), .int x]) (I' := I) (J' := J) (G' := G) rfl ?_
      refine aw_geN hx rfl (by omega) (by omega) (oX6_register.dec rfl) (tgt := 89) rfl (fun h38 => ?_) (fun h38 => ?_)
      · refine aw_run oX6_register sxOk 1 (pc' := 90) (L' := [some (.ref 0), some (.int (nI n0)), some (.int (nI 2)), some (.int m), some (.int a), some (.int b), some (.int x)]) (st' := [.int (nI 2)]) (I' := I) (J' := J) (G' := G) rfl ?_
        refine aw_0neN rfl (by omega) (oX6_register.dec rfl) (tgt := 95) rfl (fun h90 => ?_) (fun h90 => absurd h90 (by omega))
        refine aw_run oX6_register sxOk 2 (pc' := 97) (L' := [some (.ref 0), some (.int (nI n0)), some (.int (nI 2)), some (.int m), some (.int a), some (.int b), some (.int x)]) (st' := [.int (nI 2), .int (nI 2)]) (I' := I) (J' := J) (G' := G) rfl ?_
        refine aw_neN rfl rfl (by omega) (by omega) (oX6_register.dec rfl) (tgt := 103) rfl (fun h97 => absurd h97 (by omega)) (fun h97 => ?_)
        refine aw_run oX6_register sxOk 1 (pc' := 102) (L' := [some (.ref 0), some (.int (nI n0)), some (.int (nI 2)), some (.int m), some (.int a), some (.int b), some (.int x)]) (st' := [.int b]) (I' := I) (J' := J) (G' := G) rfl ?_
        exact aw_iret rfl (oX6_register.dec rfl) (pe_i (by rw [hb, show s = 2 ^ P by omega]))
      · refine aw_run oX6_register sxOk 3 (pc' := 47) (L' := [some (.ref 0), some (.int (nI n0)), some (.int (nI 2)), some (.int m), some (.int a), some (.int b), some (.int x)]) (st' := [.int x, .ref 2]) (I' := I) (J' := J) (G' := G) rfl ?_
        refine aw_cV (st := []) 2 [.int x] oX4_hasSet k6_130 rfl rfl rfl rfl rfl rfl rfl rfl (oX6_register.dec rfl) (c_hasSet_f hP (by omega) (by rw [hx]; exact notIn_self (by omega) (by omega))) ?_
        refine aw_eqS (st := [.int (nI 0)]) rfl ?_
        refine aw_0eqN rfl (by omega) (oX6_register.dec rfl) (tgt := 89) rfl (fun h50 => ?_) (fun h50 => absurd h50 (by omega))
        refine aw_run oX6_register sxOk 1 (pc' := 90) (L' := [some (.ref 0), some (.int (nI n0)), some (.int (nI 2)), some (.int m), some (.int a), some (.int b), some (.int x)]) (st' := [.int (nI 2)]) (I' := I) (J' := J) (G' := G) rfl ?_
        refine aw_0neN rfl (by omega) (oX6_register.dec rfl) (tgt := 95) rfl (fun h90 => ?_) (fun h90 => absurd h90 (by omega))
        refine aw_run oX6_register sxOk 2 (pc' := 97) (L' := [some (.ref 0), some (.int (nI n0)), some (.int (nI 2)), some (.int m), some (.int a), some (.int b), some (.int x)]) (st' := [.int (nI 2), .int (nI 2)]) (I' := I) (J' := J) (G' := G) rfl ?_
        refine aw_neN rfl rfl (by omega) (by omega) (oX6_register.dec rfl) (tgt := 103) rfl (fun h97 => absurd h97 (by omega)) (fun h97 => ?_)
        refine aw_run oX6_register sxOk 1 (pc' := 102) (L' := [some (.ref 0), some (.int (nI n0)), some (.int (nI 2)), some (.int m), some (.int a), some (.int b), some (.int x)]) (st' := [.int b]) (I' := I) (J' := J) (G' := G) rfl ?_
        exact aw_iret rfl (oX6_register.dec rfl) (pe_i (by rw [hb, show s = 2 ^ P by omega]))
    | succ n ih =>
      intro s x m a b hsn hx hm ha hb
      refine aw_run oX6_register sxOk 2 (pc' := 38) (L' := [some (.ref 0), some (.int (nI n0)), some (.int (nI 2)), some (.int m), some (.int a), some (.int b), some (.int x)]) (st' := [.int (nI 32), .int x]) (I' := I) (J' := J) (G' := G) rfl ?_
      refine aw_geN hx rfl (by omega) (by omega) (oX6_register.dec rfl) (tgt := 89) rfl (fun h38 => absurd h38 (by omega)) (fun h38 => ?_)
      refine aw_run oX6_register sxOk 3 (pc' := 47) (L' := [some (.ref 0), some (.int (nI n0)), some (.int (nI 2)), some (.int m), some (.int a), some (.int b), some (.int x)]) (st' := [.int x, .ref 2]) (I' := I) (J' := J) (G' := G) rfl ?_
      refine aw_eqS (st := [.int (nI s), .ref 2]) (by rw [show x = nI s from hx]) ?_
      refine aw_cV (st := []) 2 [.int (nI s)] oX4_hasSet k6_130 rfl rfl rfl rfl rfl rfl rfl rfl (oX6_register.dec rfl) (c_hasSet_t hP (by omega) (by omega)) ?_
      refine aw_eqS (st := [.int (nI 1)]) rfl ?_
      refine aw_0eqN rfl (by omega) (oX6_register.dec rfl) (tgt := 89) rfl (fun h50 => absurd h50 (by omega)) (fun h50 => ?_)
      refine aw_run oX6_register sxOk 3 (pc' := 59) (L' := [some (.ref 0), some (.int (nI n0)), some (.int (nI 2)), some (.int m), some (.int a), some (.int b), some (.int x)]) (st' := [.int x, .ref 7]) (I' := I) (J' := J) (G' := G) rfl ?_
      refine aw_eqS (st := [.int (nI s), .ref 7]) (by rw [show x = nI s from hx]) ?_
      refine aw_cV (st := []) 7 [.int (nI s)] oX0_listedTogether k6_202 rfl rfl rfl rfl rfl rfl rfl rfl (oX6_register.dec rfl) (c_listedTogether hP (by omega) (by omega)) ?_
      refine aw_eqS (st := [.int (sumS (fun s => G 24 (8 + s)) s P)]) rfl ?_
      refine aw_run oX6_register sxOk 1 (pc' := 63) (L' := [some (.ref 0), some (.int (nI n0)), some (.int (nI 2)), some (.int m), some (.int a), some (.int b), some (.int x)]) (st' := [.int (nI n0), .int (sumS (fun s => G 24 (8 + s)) s P)]) (I' := I) (J' := J) (G' := G) rfl ?_
      refine aw_icmp_ne (oX6_register.dec rfl) (tgt := 83) rfl (fun h63 => ?_) (fun h63 => ?_)
      · refine aw_run oX6_register sxOk 2 (pc' := 34) (L' := [some (.ref 0), some (.int (nI n0)), some (.int (nI 2)), some (.int m), some (.int a), some (.int b), some (.int (x + (nI 1)))]) (st' := []) (I' := I) (J' := J) (G' := G) rfl ?_
        exact ih (s + 1) _ _ _ _ (by omega) (addN hx rfl) (by rw [cntB_f (by simpa using h63)]; exact hm) (by rw [andA_f (by simpa using h63)]; exact ha) (by rw [orS_f (by simpa using h63)]; exact hb)
      · refine aw_run oX6_register sxOk 11 (pc' := 34) (L' := [some (.ref 0), some (.int (nI n0)), some (.int (nI 2)), some (.int (m + (nI 1))), some (.int (a &&& x)), some (.int (b ||| x)), some (.int (x + (nI 1)))]) (st' := []) (I' := I) (J' := J) (G' := G) rfl ?_
        exact ih (s + 1) _ _ _ _ (by omega) (addN hx rfl) (by rw [cntB_t (by simpa using h63)]; exact addN hm rfl) (by rw [andA_t (by simpa using h63)]; exact andN ha hx) (by rw [orS_t (by simpa using h63)]; exact orN hb hx)
  refine aw_run oX6_register sxOk 1 (pc' := 1) (L' := [some (.ref 0), some (.int (nI n0)), some (.int (nI 2)), none, none, none, none]) (st' := [.int (nI n0)]) (I' := I) (J' := J) (G' := G) rfl ?_
  refine aw_0ltN rfl (by omega) (oX6_register.dec rfl) (tgt := 20) rfl ?_
  refine aw_run oX6_register sxOk 2 (pc' := 8) (L' := [some (.ref 0), some (.int (nI n0)), some (.int (nI 2)), none, none, none, none]) (st' := [.int (nI 300), .int (nI n0)]) (I' := I) (J' := J) (G' := G) rfl ?_
  refine aw_gtN rfl rfl (by omega) (by omega) (oX6_register.dec rfl) (tgt := 20) rfl (fun h8 => absurd h8 (by omega)) (fun h8 => ?_)
  refine aw_run oX6_register sxOk 1 (pc' := 12) (L' := [some (.ref 0), some (.int (nI n0)), some (.int (nI 2)), none, none, none, none]) (st' := [.int (nI 2)]) (I' := I) (J' := J) (G' := G) rfl ?_
  refine aw_0ltN rfl (by omega) (oX6_register.dec rfl) (tgt := 20) rfl ?_
  refine aw_run oX6_register sxOk 2 (pc' := 17) (L' := [some (.ref 0), some (.int (nI n0)), some (.int (nI 2)), none, none, none, none]) (st' := [.int (nI 2), .int (nI 2)]) (I' := I) (J' := J) (G' := G) rfl ?_
  refine aw_leN rfl rfl (by omega) (by omega) (oX6_register.dec rfl) (tgt := 22) rfl (fun h17 => ?_) (fun h17 => absurd h17 (by omega))
  refine aw_run oX6_register sxOk 8 (pc' := 34) (L' := [some (.ref 0), some (.int (nI n0)), some (.int (nI 2)), some (.int (nI 0)), some (.int (nI 31)), some (.int (nI 0)), some (.int (nI 0))]) (st' := []) (I' := I) (J' := J) (G' := G) rfl ?_
  exact loop (2 ^ P) 0 _ _ _ _ (by omega) rfl rfl rfl rfl
