set_option maxRecDepth 20000 in
theorem m_sails_bad0 {I : II} {J : JJ} {G : II} {P : Nat} (hP : G 5 0 = nI P) (hP5 : P ≤ 5) {y : Int32} : AMet SM mX7_sails [.ref 0, .int (nI 0), .int y] I J G (PE (some (.int (-nI 1))) I J G) := by
  have hp32 : 2 ^ P ≤ 32 := Nat.pow_le_pow_right (by decide) hP5
  have hp1 : 0 < 2 ^ P := Nat.pow_pos (by decide)
  refine amet_en oX7_sails rfl rfl (L := [some (.ref 0), some (.int (nI 0)), some (.int y), none, none, none, none]) rfl ?_
  refine aw_run oX7_sails smOk 3 (pc' := 3) (L' := [some (.ref 0), some (.int (nI 0)), some (.int y), none, none, none, none]) (st' := [.ref 0, .int (nI 1), .int (nI 0)]) (I' := I) (J' := J) (G' := G) rfl ?_
  refine aw_cV (st := [.int (nI 1), .int (nI 0)]) 0 [] oX7_all k7_138 rfl rfl rfl rfl rfl rfl rfl rfl (oX7_sails.dec rfl) (m_all hP (by omega)) ?_
  refine aw_eqS (st := [.int (nI (2 ^ P - 1)), .int (nI 1), .int (nI 0)]) rfl ?_
  refine aw_cS (st := []) [.int (nI 0), .int (nI 1), .int (nI (2 ^ P - 1))] oX7_in k7_60 rfl rfl rfl rfl rfl (oX7_sails.dec rfl) (m_inN (by omega) (by omega) (by omega)) ?_
  refine aw_eqS (st := [.int (b1 (decide (1 ≤ 0 ∧ 0 ≤ 2 ^ P - 1)))]) rfl ?_
  refine aw_0eqD (oX7_sails.dec rfl) (tgt := 23) rfl (fun h9 => ?_) (fun h9 => absurd h9 (by omega))
  refine aw_run oX7_sails smOk 1 (pc' := 24) (L' := [some (.ref 0), some (.int (nI 0)), some (.int y), none, none, none, none]) (st' := [.int (-nI 1)]) (I' := I) (J' := J) (G' := G) rfl ?_
  exact aw_iret rfl (oX7_sails.dec rfl) pe_rfl
set_option maxRecDepth 20000 in
theorem m_sails_bad1 {I : II} {J : JJ} {G : II} {P : Nat} (hP : G 5 0 = nI P) (hP5 : P ≤ 5) {x y : Int32} (hx : notIn x (2 ^ P)) : AMet SM mX7_sails [.ref 0, .int x, .int y] I J G (PE (some (.int (-nI 1))) I J G) := by
  have hp32 : 2 ^ P ≤ 32 := Nat.pow_le_pow_right (by decide) hP5
  have hp1 : 0 < 2 ^ P := Nat.pow_pos (by decide)
  refine amet_en oX7_sails rfl rfl (L := [some (.ref 0), some (.int x), some (.int y), none, none, none, none]) rfl ?_
  refine aw_run oX7_sails smOk 3 (pc' := 3) (L' := [some (.ref 0), some (.int x), some (.int y), none, none, none, none]) (st' := [.ref 0, .int (nI 1), .int x]) (I' := I) (J' := J) (G' := G) rfl ?_
  refine aw_cV (st := [.int (nI 1), .int x]) 0 [] oX7_all k7_138 rfl rfl rfl rfl rfl rfl rfl rfl (oX7_sails.dec rfl) (m_all hP (by omega)) ?_
  refine aw_eqS (st := [.int (nI (2 ^ P - 1)), .int (nI 1), .int x]) rfl ?_
  refine aw_cS (st := []) [.int x, .int (nI 1), .int (nI (2 ^ P - 1))] oX7_in k7_60 rfl rfl rfl rfl rfl (oX7_sails.dec rfl) (m_inF (notIn_in1 hx (by omega) (by omega))) ?_
  refine aw_eqS (st := [.int (nI 0)]) rfl ?_
  refine aw_0eqN rfl (by omega) (oX7_sails.dec rfl) (tgt := 23) rfl (fun h9 => ?_) (fun h9 => absurd h9 (by omega))
  refine aw_run oX7_sails smOk 1 (pc' := 24) (L' := [some (.ref 0), some (.int x), some (.int y), none, none, none, none]) (st' := [.int (-nI 1)]) (I' := I) (J' := J) (G' := G) rfl ?_
  exact aw_iret rfl (oX7_sails.dec rfl) pe_rfl
set_option maxRecDepth 20000 in
theorem m_sails_bad2 {I : II} {J : JJ} {G : II} {P : Nat} (hP : G 5 0 = nI P) (hP5 : P ≤ 5) {σ : Nat} (hσ : σ < 2 ^ P) (hσ0 : σ ≠ 0) {x : Int32} (hx : notIn x 10000) : AMet SM mX7_sails [.ref 0, .int (nI σ), .int x] I J G (PE (some (.int (-nI 1))) I J G) := by
  have hp32 : 2 ^ P ≤ 32 := Nat.pow_le_pow_right (by decide) hP5
  have hp1 : 0 < 2 ^ P := Nat.pow_pos (by decide)
  refine amet_en oX7_sails rfl rfl (L := [some (.ref 0), some (.int (nI σ)), some (.int x), none, none, none, none]) rfl ?_
  refine aw_run oX7_sails smOk 3 (pc' := 3) (L' := [some (.ref 0), some (.int (nI σ)), some (.int x), none, none, none, none]) (st' := [.ref 0, .int (nI 1), .int (nI σ)]) (I' := I) (J' := J) (G' := G) rfl ?_
  refine aw_cV (st := [.int (nI 1), .int (nI σ)]) 0 [] oX7_all k7_138 rfl rfl rfl rfl rfl rfl rfl rfl (oX7_sails.dec rfl) (m_all hP (by omega)) ?_
  refine aw_eqS (st := [.int (nI (2 ^ P - 1)), .int (nI 1), .int (nI σ)]) rfl ?_
  refine aw_cS (st := []) [.int (nI σ), .int (nI 1), .int (nI (2 ^ P - 1))] oX7_in k7_60 rfl rfl rfl rfl rfl (oX7_sails.dec rfl) (m_inN (by omega) (by omega) (by omega)) ?_
  refine aw_eqS (st := [.int (b1 (decide (1 ≤ σ ∧ σ ≤ 2 ^ P - 1)))]) rfl ?_
  refine aw_0eqD (oX7_sails.dec rfl) (tgt := 23) rfl (fun h9 => absurd h9 (by omega)) (fun h9 => ?_)
  refine aw_run oX7_sails smOk 3 (pc' := 17) (L' := [some (.ref 0), some (.int (nI σ)), some (.int x), none, none, none, none]) (st' := [.int (nI 9999), .int (nI 0), .int x]) (I' := I) (J' := J) (G' := G) rfl ?_
  refine aw_cS (st := []) [.int x, .int (nI 0), .int (nI 9999)] oX7_in k7_60 rfl rfl rfl rfl rfl (oX7_sails.dec rfl) (m_inF (notIn_in0 hx (by decide) (by decide))) ?_
  refine aw_eqS (st := [.int (nI 0)]) rfl ?_
  refine aw_0neN rfl (by omega) (oX7_sails.dec rfl) (tgt := 25) rfl (fun h20 => absurd h20 (by omega)) (fun h20 => ?_)
  refine aw_run oX7_sails smOk 1 (pc' := 24) (L' := [some (.ref 0), some (.int (nI σ)), some (.int x), none, none, none, none]) (st' := [.int (-nI 1)]) (I' := I) (J' := J) (G' := G) rfl ?_
  exact aw_iret rfl (oX7_sails.dec rfl) pe_rfl
set_option maxRecDepth 20000 in
theorem m_sails_no {I : II} {J : JJ} {G : II} {P : Nat} (hP : G 5 0 = nI P) (hP5 : P ≤ 5) {Wk : Nat} (hW : G 2 0 = nI Wk) (hWk : Wk ≤ 12) {t : Nat} (ht : G 11 0 = nI t) (ht12 : t ≤ 12) (htW : t ≤ Wk) {σ : Nat} (hσ : σ < 2 ^ P) (hσ0 : σ ≠ 0) {z : Nat} (hz : z ≤ 9999) (hc : (decide (t < Wk) && allB (sq (G 11) (G 9) σ t) P) = false) : AMet SM mX7_sails [.ref 0, .int (nI σ), .int (nI z)] I J G (PE (some (.int (-nI 2))) I J G) := by
  have hp32 : 2 ^ P ≤ 32 := Nat.pow_le_pow_right (by decide) hP5
  have hp1 : 0 < 2 ^ P := Nat.pow_pos (by decide)
  refine amet_en oX7_sails rfl rfl (L := [some (.ref 0), some (.int (nI σ)), some (.int (nI z)), none, none, none, none]) rfl ?_
  refine aw_run oX7_sails smOk 3 (pc' := 3) (L' := [some (.ref 0), some (.int (nI σ)), some (.int (nI z)), none, none, none, none]) (st' := [.ref 0, .int (nI 1), .int (nI σ)]) (I' := I) (J' := J) (G' := G) rfl ?_
  refine aw_cV (st := [.int (nI 1), .int (nI σ)]) 0 [] oX7_all k7_138 rfl rfl rfl rfl rfl rfl rfl rfl (oX7_sails.dec rfl) (m_all hP (by omega)) ?_
  refine aw_eqS (st := [.int (nI (2 ^ P - 1)), .int (nI 1), .int (nI σ)]) rfl ?_
  refine aw_cS (st := []) [.int (nI σ), .int (nI 1), .int (nI (2 ^ P - 1))] oX7_in k7_60 rfl rfl rfl rfl rfl (oX7_sails.dec rfl) (m_inN (by omega) (by omega) (by omega)) ?_
  refine aw_eqS (st := [.int (b1 (decide (1 ≤ σ ∧ σ ≤ 2 ^ P - 1)))]) rfl ?_
  refine aw_0eqD (oX7_sails.dec rfl) (tgt := 23) rfl (fun h9 => absurd h9 (by omega)) (fun h9 => ?_)
  refine aw_run oX7_sails smOk 3 (pc' := 17) (L' := [some (.ref 0), some (.int (nI σ)), some (.int (nI z)), none, none, none, none]) (st' := [.int (nI 9999), .int (nI 0), .int (nI z)]) (I' := I) (J' := J) (G' := G) rfl ?_
  refine aw_cS (st := []) [.int (nI z), .int (nI 0), .int (nI 9999)] oX7_in k7_60 rfl rfl rfl rfl rfl (oX7_sails.dec rfl) (m_inN (by omega) (by omega) (by omega)) ?_
  refine aw_eqS (st := [.int (b1 (decide (0 ≤ z ∧ z ≤ 9999)))]) rfl ?_
  refine aw_0neD (oX7_sails.dec rfl) (tgt := 25) rfl (fun h20 => ?_) (fun h20 => absurd h20 (by omega))
  refine aw_run oX7_sails smOk 2 (pc' := 27) (L' := [some (.ref 0), some (.int (nI σ)), some (.int (nI z)), none, none, none, none]) (st' := [.int (nI σ), .ref 0]) (I' := I) (J' := J) (G' := G) rfl ?_
  refine aw_cV (st := []) 0 [.int (nI σ)] oX7_canSail k7_141 rfl rfl rfl rfl rfl rfl rfl rfl (oX7_sails.dec rfl) (m_canSail hP (by omega) hW (by omega) ht (by omega) (by omega) hσ) ?_
  refine aw_eqS (st := [.int (b1 (decide (t < Wk) && allB (sq (G 11) (G 9) σ t) P))]) rfl ?_
  refine aw_0neB (oX7_sails.dec rfl) (tgt := 36) rfl (fun h30 => by first | exact absurd h30 (by assumption) | exact absurd (by assumption) h30 | (exfalso; revert h30; decide) | simp_all) (fun h30 => ?_)
  refine aw_run oX7_sails smOk 1 (pc' := 35) (L' := [some (.ref 0), some (.int (nI σ)), some (.int (nI z)), none, none, none, none]) (st' := [.int (-nI 2)]) (I' := I) (J' := J) (G' := G) rfl ?_
  exact aw_iret rfl (oX7_sails.dec rfl) pe_rfl
set_option maxRecDepth 20000 in
theorem m_sails_ok {I : II} {J : JJ} {G : II} {P : Nat} (hP : G 5 0 = nI P) (hP5 : P ≤ 5) {Wk : Nat} (hW : G 2 0 = nI Wk) (hWk : Wk ≤ 12) {t : Nat} (ht : G 11 0 = nI t) (ht12 : t ≤ 12) (htW : t ≤ Wk) {K : Nat} (hK : G 11 18 = nI K) (hK10 : K ≤ 10) {σ : Nat} (hσ : σ < 2 ^ P) (hσ0 : σ ≠ 0) {z : Nat} (hz : z ≤ 9999) (ho : t < Wk) (hc : (decide (t < Wk) && allB (sq (G 11) (G 9) σ t) P) = true) : AMet SM mX7_sails [.ref 0, .int (nI σ), .int (nI z)] I J G (PE (some (.int (nI (cntB (hq (G 3 t) σ (tak (knF (G 11) K) (G 8) (G 4 t) P σ) z t) P)))) I J (va_up G 11 (sailR (knF (G 11) K) (G 10 0) (G 3 t) σ (tak (knF (G 11) K) (G 8) (G 4 t) P σ) z t P))) := by
  refine amet_en oX7_sails rfl rfl (L := [some (.ref 0), some (.int (nI σ)), some (.int (nI z)), none, none, none, none]) rfl ?_
  have hp32 : 2 ^ P ≤ 32 := Nat.pow_le_pow_right (by decide) hP5
  have hp1 : 0 < 2 ^ P := Nat.pow_pos (by decide)
  have hk0 : (knF (G 11) K) 0 = nI t := (knF_lo (by omega)).trans ht
  have loop : ∀ (u : Int32) (hu : u = nI t) (n s : Nat) (x : Int32) (c : Int32) (f : Nat → Int32), (s + n = P) → (x = nI s) → (c = nI (cntB (hq (G 3 t) σ (tak (knF (G 11) K) (G 8) (G 4 t) P σ) z t) s)) → (f = sailR (knF (G 11) K) (G 10 0) (G 3 t) σ (tak (knF (G 11) K) (G 8) (G 4 t) P σ) z t s) → (f 0 = nI t) → AW SM mX7_sails 61 [some (.ref 0), some (.int (nI σ)), some (.int (nI z)), some (.int u), some (.int (encO (tak (knF (G 11) K) (G 8) (G 4 t) P σ))), some (.int c), some (.int x)] [] I J (va_up G 11 f) (PE (some (.int (nI (cntB (hq (G 3 t) σ (tak (knF (G 11) K) (G 8) (G 4 t) P σ) z t) P)))) I J (va_up G 11 (sailR (knF (G 11) K) (G 10 0) (G 3 t) σ (tak (knF (G 11) K) (G 8) (G 4 t) P σ) z t P))) := by
    intro u hu n
    induction n with
    | zero =>
      intro s x c f hsn hx hc hf hf0
      refine aw_run oX7_sails smOk 4 (pc' := 68) (L' := [some (.ref 0), some (.int (nI σ)), some (.int (nI z)), some (.int u), some (.int (encO (tak (knF (G 11) K) (G 8) (G 4 t) P σ))), some (.int c), some (.int x)]) (st' := [.int (nI 0), .ref 5, .int x]) (I' := I) (J' := J) (G' := va_up G 11 f) rfl ?_
      refine aw_iaN 0 smOk rfl rfl (by omega) (oX7_sails.dec rfl) ?_
      refine aw_eqS (st := [.int (G 5 0), .int x]) rfl ?_
      refine aw_geN hx hP (by omega) (by omega) (oX7_sails.dec rfl) (tgt := 189) rfl (fun h69 => ?_) (fun h69 => absurd h69 (by omega))
      refine aw_run oX7_sails smOk 1 (pc' := 191) (L' := [some (.ref 0), some (.int (nI σ)), some (.int (nI z)), some (.int u), some (.int (encO (tak (knF (G 11) K) (G 8) (G 4 t) P σ))), some (.int c), some (.int x)]) (st' := [.int c]) (I' := I) (J' := J) (G' := va_up G 11 f) rfl ?_
      exact aw_iret rfl (oX7_sails.dec rfl) (⟨by rw [hc, show s = P by omega], rfl, rfl, by rw [hf, show s = P by omega]⟩)
    | succ n ih =>
      intro s x c f hsn hx hc hf hf0
      refine aw_run oX7_sails smOk 4 (pc' := 68) (L' := [some (.ref 0), some (.int (nI σ)), some (.int (nI z)), some (.int u), some (.int (encO (tak (knF (G 11) K) (G 8) (G 4 t) P σ))), some (.int c), some (.int x)]) (st' := [.int (nI 0), .ref 5, .int x]) (I' := I) (J' := J) (G' := va_up G 11 f) rfl ?_
      refine aw_iaN 0 smOk rfl rfl (by omega) (oX7_sails.dec rfl) ?_
      refine aw_eqS (st := [.int (G 5 0), .int x]) rfl ?_
      refine aw_geN hx hP (by omega) (by omega) (oX7_sails.dec rfl) (tgt := 189) rfl (fun h69 => absurd h69 (by omega)) (fun h69 => ?_)
      refine aw_run oX7_sails smOk 6 (pc' := 79) (L' := [some (.ref 0), some (.int (nI σ)), some (.int (nI z)), some (.int u), some (.int (encO (tak (knF (G 11) K) (G 8) (G 4 t) P σ))), some (.int c), some (.int x)]) (st' := [.int (nI 1), .int (((nI σ) >>> (x &&& 31)) &&& (nI 1))]) (I' := I) (J' := J) (G' := va_up G 11 f) rfl ?_
      refine aw_neN (bitNI rfl hx (by omega) (by omega)) rfl (bitN_b _ _) (by omega) (oX7_sails.dec rfl) (tgt := 183) rfl (fun h79 => ?_) (fun h79 => ?_)
      · refine aw_run oX7_sails smOk 2 (pc' := 61) (L' := [some (.ref 0), some (.int (nI σ)), some (.int (nI z)), some (.int u), some (.int (encO (tak (knF (G 11) K) (G 8) (G 4 t) P σ))), some (.int c), some (.int (x + (nI 1)))]) (st' := []) (I' := I) (J' := J) (G' := va_up G 11 f) rfl ?_
        exact ih (s + 1) _ _ _ (by omega) (addN hx rfl) (by rw [cntB_f (by unfold hq; rw [bitN_n1 h79]; simp)]; exact hc) (by rw [hf, sailR_f (bitN_n1 h79)]) hf0
      · refine aw_run oX7_sails smOk 7 (pc' := 94) (L' := [some (.ref 0), some (.int (nI σ)), some (.int (nI z)), some (.int u), some (.int (encO (tak (knF (G 11) K) (G 8) (G 4 t) P σ))), some (.int c), some (.int x)]) (st' := [.int (encO (tak (knF (G 11) K) (G 8) (G 4 t) P σ)), .int x, .int ((nI 3) + x), .ref 11]) (I' := I) (J' := J) (G' := va_up G 11 f) rfl ?_
        refine aw_icmp_ne (oX7_sails.dec rfl) (tgt := 101) rfl (fun h94 => ?_) (fun h94 => ?_)
        · refine aw_run oX7_sails smOk 3 (pc' := 105) (L' := [some (.ref 0), some (.int (nI σ)), some (.int (nI z)), some (.int u), some (.int (encO (tak (knF (G 11) K) (G 8) (G 4 t) P σ))), some (.int c), some (.int x)]) (st' := [.int x, .int (nI z), .ref 0, .int ((nI 3) + x), .ref 11]) (I' := I) (J' := J) (G' := va_up G 11 f) rfl ?_
          refine aw_eqS (st := [.int (nI s), .int (nI z), .ref 0, .int ((nI 3) + x), .ref 11]) (by rw [show x = nI s from hx]) ?_
          refine aw_cV (st := [.int ((nI 3) + x), .ref 11]) 0 [.int (nI z), .int (nI s)] oX7_draw k7_147 rfl rfl rfl rfl rfl rfl rfl rfl (oX7_sails.dec rfl) (m_draw (I := I) (J := J) (G := va_up G 11 f) (by omega) hf0 (by omega) (by omega)) ?_
          refine aw_eqS (st := [.int (nI (dN z s t)), .int ((nI 3) + x), .ref 11]) rfl ?_
          refine aw_run oX7_sails smOk 3 (pc' := 113) (L' := [some (.ref 0), some (.int (nI σ)), some (.int (nI z)), some (.int u), some (.int (encO (tak (knF (G 11) K) (G 8) (G 4 t) P σ))), some (.int c), some (.int x)]) (st' := [.int u, .ref 3, .int (nI (dN z s t)), .int ((nI 3) + x), .ref 11]) (I' := I) (J' := J) (G' := va_up G 11 f) rfl ?_
          refine aw_iaN t smOk rfl hu (by omega) (oX7_sails.dec rfl) ?_
          refine aw_eqS (st := [.int (G 3 t), .int (nI (dN z s t)), .int ((nI 3) + x), .ref 11]) rfl ?_
          refine aw_icmp_ge (oX7_sails.dec rfl) (tgt := 121) rfl (fun h114 => ?_) (fun h114 => ?_)
          · refine aw_run oX7_sails smOk 1 (pc' := 122) (L' := [some (.ref 0), some (.int (nI σ)), some (.int (nI z)), some (.int u), some (.int (encO (tak (knF (G 11) K) (G 8) (G 4 t) P σ))), some (.int c), some (.int x)]) (st' := [.int (nI 1), .int ((nI 3) + x), .ref 11]) (I' := I) (J' := J) (G' := va_up G 11 f) rfl ?_
            refine aw_isN (3 + s) smOk rfl (addN rfl hx) (by omega) (oX7_sails.dec rfl) ?_
            refine aw_eqG (G' := va_up G 11 (upd f (3 + s) (nI 1))) (bx_uu _ _ _ _) ?_
            refine aw_run oX7_sails smOk 5 (pc' := 131) (L' := [some (.ref 0), some (.int (nI σ)), some (.int (nI z)), some (.int u), some (.int (encO (tak (knF (G 11) K) (G 8) (G 4 t) P σ))), some (.int c), some (.int x)]) (st' := [.int ((nI 3) + x), .ref 11]) (I' := I) (J' := J) (G' := va_up G 11 (upd f (3 + s) (nI 1))) rfl ?_
            refine aw_iaN (3 + s) smOk rfl (addN rfl hx) (by omega) (oX7_sails.dec rfl) ?_
            refine aw_eqS (st := [.int ((upd f (3 + s) (nI 1)) (3 + s))]) rfl ?_
            refine aw_eqS (st := [.int (nI 1)]) (by rw [pk_us]) ?_
            refine aw_run oX7_sails smOk 1 (pc' := 133) (L' := [some (.ref 0), some (.int (nI σ)), some (.int (nI z)), some (.int u), some (.int (encO (tak (knF (G 11) K) (G 8) (G 4 t) P σ))), some (.int c), some (.int x)]) (st' := [.int (nI 1), .int (nI 1)]) (I' := I) (J' := J) (G' := va_up G 11 (upd f (3 + s) (nI 1))) rfl ?_
            refine aw_neN rfl rfl (by omega) (by omega) (oX7_sails.dec rfl) (tgt := 183) rfl (fun h133 => absurd h133 (by omega)) (fun h133 => ?_)
            refine aw_run oX7_sails smOk 4 (pc' := 142) (L' := [some (.ref 0), some (.int (nI σ)), some (.int (nI z)), some (.int u), some (.int (encO (tak (knF (G 11) K) (G 8) (G 4 t) P σ))), some (.int c), some (.int x)]) (st' := [.int (nI 1), .ref 11, .int (nI 1), .ref 11]) (I' := I) (J' := J) (G' := va_up G 11 (upd f (3 + s) (nI 1))) rfl ?_
            refine aw_iaN 1 smOk rfl rfl (by omega) (oX7_sails.dec rfl) ?_
            refine aw_eqS (st := [.int ((upd f (3 + s) (nI 1)) 1), .int (nI 1), .ref 11]) rfl ?_
            refine aw_run oX7_sails smOk 2 (pc' := 146) (L' := [some (.ref 0), some (.int (nI σ)), some (.int (nI z)), some (.int u), some (.int (encO (tak (knF (G 11) K) (G 8) (G 4 t) P σ))), some (.int c), some (.int x)]) (st' := [.int x, .ref 0, .int ((upd f (3 + s) (nI 1)) 1), .int (nI 1), .ref 11]) (I' := I) (J' := J) (G' := va_up G 11 (upd f (3 + s) (nI 1))) rfl ?_
            refine aw_eqS (st := [.int (nI s), .ref 0, .int ((upd f (3 + s) (nI 1)) 1), .int (nI 1), .ref 11]) (by rw [show x = nI s from hx]) ?_
            refine aw_cV (st := [.int ((upd f (3 + s) (nI 1)) 1), .int (nI 1), .ref 11]) 0 [.int (nI s)] oX7_silver k7_110 rfl rfl rfl rfl rfl rfl rfl rfl (oX7_sails.dec rfl) (m_silver (I := I) (J := J) (G := va_up G 11 (upd f (3 + s) (nI 1))) (by omega)) ?_
            refine aw_eqS (st := [.int (sil (upd f (3 + s) (nI 1)) s), .int ((upd f (3 + s) (nI 1)) 1), .int (nI 1), .ref 11]) rfl ?_
            refine aw_run oX7_sails smOk 1 (pc' := 150) (L' := [some (.ref 0), some (.int (nI σ)), some (.int (nI z)), some (.int u), some (.int (encO (tak (knF (G 11) K) (G 8) (G 4 t) P σ))), some (.int c), some (.int x)]) (st' := [.int (((upd f (3 + s) (nI 1)) 1) + (sil (upd f (3 + s) (nI 1)) s)), .int (nI 1), .ref 11]) (I' := I) (J' := J) (G' := va_up G 11 (upd f (3 + s) (nI 1))) rfl ?_
            refine aw_isN 1 smOk rfl rfl (by omega) (oX7_sails.dec rfl) ?_
            refine aw_eqG (G' := va_up G 11 (upd (upd f (3 + s) (nI 1)) 1 (((upd f (3 + s) (nI 1)) 1) + (sil (upd f (3 + s) (nI 1)) s)))) (bx_uu _ _ _ _) ?_
            refine aw_run oX7_sails smOk 4 (pc' := 157) (L' := [some (.ref 0), some (.int (nI σ)), some (.int (nI z)), some (.int u), some (.int (encO (tak (knF (G 11) K) (G 8) (G 4 t) P σ))), some (.int c), some (.int x)]) (st' := [.int (nI 2), .ref 11, .int (nI 2), .ref 11]) (I' := I) (J' := J) (G' := va_up G 11 (upd (upd f (3 + s) (nI 1)) 1 (((upd f (3 + s) (nI 1)) 1) + (sil (upd f (3 + s) (nI 1)) s)))) rfl ?_
            refine aw_iaN 2 smOk rfl rfl (by omega) (oX7_sails.dec rfl) ?_
            refine aw_eqS (st := [.int ((upd (upd f (3 + s) (nI 1)) 1 (((upd f (3 + s) (nI 1)) 1) + (sil (upd f (3 + s) (nI 1)) s))) 2), .int (nI 2), .ref 11]) rfl ?_
            refine aw_run oX7_sails smOk 3 (pc' := 163) (L' := [some (.ref 0), some (.int (nI σ)), some (.int (nI z)), some (.int u), some (.int (encO (tak (knF (G 11) K) (G 8) (G 4 t) P σ))), some (.int c), some (.int x)]) (st' := [.int (nI 0), .ref 10, .int ((upd (upd f (3 + s) (nI 1)) 1 (((upd f (3 + s) (nI 1)) 1) + (sil (upd f (3 + s) (nI 1)) s))) 2), .int (nI 2), .ref 11]) (I' := I) (J' := J) (G' := va_up G 11 (upd (upd f (3 + s) (nI 1)) 1 (((upd f (3 + s) (nI 1)) 1) + (sil (upd f (3 + s) (nI 1)) s)))) rfl ?_
            refine aw_iaN 0 smOk rfl rfl (by omega) (oX7_sails.dec rfl) ?_
            refine aw_eqS (st := [.int (G 10 0), .int ((upd (upd f (3 + s) (nI 1)) 1 (((upd f (3 + s) (nI 1)) 1) + (sil (upd f (3 + s) (nI 1)) s))) 2), .int (nI 2), .ref 11]) rfl ?_
            refine aw_run oX7_sails smOk 5 (pc' := 173) (L' := [some (.ref 0), some (.int (nI σ)), some (.int (nI z)), some (.int u), some (.int (encO (tak (knF (G 11) K) (G 8) (G 4 t) P σ))), some (.int c), some (.int x)]) (st' := [.int ((nI 8) + x), .ref 11, .int (G 10 0), .int ((upd (upd f (3 + s) (nI 1)) 1 (((upd f (3 + s) (nI 1)) 1) + (sil (upd f (3 + s) (nI 1)) s))) 2), .int (nI 2), .ref 11]) (I' := I) (J' := J) (G' := va_up G 11 (upd (upd f (3 + s) (nI 1)) 1 (((upd f (3 + s) (nI 1)) 1) + (sil (upd f (3 + s) (nI 1)) s)))) rfl ?_
            refine aw_iaN (8 + s) smOk rfl (addN rfl hx) (by omega) (oX7_sails.dec rfl) ?_
            refine aw_eqS (st := [.int ((upd (upd f (3 + s) (nI 1)) 1 (((upd f (3 + s) (nI 1)) 1) + (sil (upd f (3 + s) (nI 1)) s))) (8 + s)), .int (G 10 0), .int ((upd (upd f (3 + s) (nI 1)) 1 (((upd f (3 + s) (nI 1)) 1) + (sil (upd f (3 + s) (nI 1)) s))) 2), .int (nI 2), .ref 11]) rfl ?_
            refine aw_run oX7_sails smOk 2 (pc' := 177) (L' := [some (.ref 0), some (.int (nI σ)), some (.int (nI z)), some (.int u), some (.int (encO (tak (knF (G 11) K) (G 8) (G 4 t) P σ))), some (.int c), some (.int x)]) (st' := [.int (nI 10), .int ((G 10 0) * ((upd (upd f (3 + s) (nI 1)) 1 (((upd f (3 + s) (nI 1)) 1) + (sil (upd f (3 + s) (nI 1)) s))) (8 + s))), .int ((upd (upd f (3 + s) (nI 1)) 1 (((upd f (3 + s) (nI 1)) 1) + (sil (upd f (3 + s) (nI 1)) s))) 2), .int (nI 2), .ref 11]) (I' := I) (J' := J) (G' := va_up G 11 (upd (upd f (3 + s) (nI 1)) 1 (((upd f (3 + s) (nI 1)) 1) + (sil (upd f (3 + s) (nI 1)) s)))) rfl ?_
            refine aw_idiv (by decide) (oX7_sails.dec rfl) ?_
            refine aw_run oX7_sails smOk 1 (pc' := 179) (L' := [some (.ref 0), some (.int (nI σ)), some (.int (nI z)), some (.int u), some (.int (encO (tak (knF (G 11) K) (G 8) (G 4 t) P σ))), some (.int c), some (.int x)]) (st' := [.int (((upd (upd f (3 + s) (nI 1)) 1 (((upd f (3 + s) (nI 1)) 1) + (sil (upd f (3 + s) (nI 1)) s))) 2) + (((G 10 0) * ((upd (upd f (3 + s) (nI 1)) 1 (((upd f (3 + s) (nI 1)) 1) + (sil (upd f (3 + s) (nI 1)) s))) (8 + s))) / (nI 10))), .int (nI 2), .ref 11]) (I' := I) (J' := J) (G' := va_up G 11 (upd (upd f (3 + s) (nI 1)) 1 (((upd f (3 + s) (nI 1)) 1) + (sil (upd f (3 + s) (nI 1)) s)))) rfl ?_
            refine aw_isN 2 smOk rfl rfl (by omega) (oX7_sails.dec rfl) ?_
            refine aw_eqG (G' := va_up G 11 (upd (upd (upd f (3 + s) (nI 1)) 1 (((upd f (3 + s) (nI 1)) 1) + (sil (upd f (3 + s) (nI 1)) s))) 2 (((upd (upd f (3 + s) (nI 1)) 1 (((upd f (3 + s) (nI 1)) 1) + (sil (upd f (3 + s) (nI 1)) s))) 2) + (((G 10 0) * ((upd (upd f (3 + s) (nI 1)) 1 (((upd f (3 + s) (nI 1)) 1) + (sil (upd f (3 + s) (nI 1)) s))) (8 + s))) / (nI 10))))) (bx_uu _ _ _ _) ?_
            refine aw_run oX7_sails smOk 3 (pc' := 61) (L' := [some (.ref 0), some (.int (nI σ)), some (.int (nI z)), some (.int u), some (.int (encO (tak (knF (G 11) K) (G 8) (G 4 t) P σ))), some (.int (c + (nI 1))), some (.int (x + (nI 1)))]) (st' := []) (I' := I) (J' := J) (G' := va_up G 11 (upd (upd (upd f (3 + s) (nI 1)) 1 (((upd f (3 + s) (nI 1)) 1) + (sil (upd f (3 + s) (nI 1)) s))) 2 (((upd (upd f (3 + s) (nI 1)) 1 (((upd f (3 + s) (nI 1)) 1) + (sil (upd f (3 + s) (nI 1)) s))) 2) + (((G 10 0) * ((upd (upd f (3 + s) (nI 1)) 1 (((upd f (3 + s) (nI 1)) 1) + (sil (upd f (3 + s) (nI 1)) s))) (8 + s))) / (nI 10))))) rfl ?_
            have htk : ¬ tak (knF (G 11) K) (G 8) (G 4 t) P σ = some s := fun e => h94 (hx.trans ((encO_s (by omega) (fun r hr => (tak_lt hr).1) (by omega)).mpr e))
            have hlt : ¬ nI (dN z s t) < G 3 t := Int32.not_lt.mpr h114
            have hqt : hq (G 3 t) σ (tak (knF (G 11) K) (G 8) (G 4 t) P σ) z t s = true := by unfold hq home1; rw [bitN_1 h79, decide_eq_false htk, decide_eq_false hlt]; rfl
            exact ih (s + 1) _ _ _ (by omega) (addN hx rfl) (by rw [cntB_t hqt]; exact addN hc rfl) (by rw [hf, sailR_t (bitN_1 h79), decide_eq_false htk, show ∀ q, sail1 q (G 10 0) (G 3 t) false (dN z s t) s = _ from fun q => (if_neg (by decide)).trans (if_neg hlt)]) (by rw [pk_un (by omega), pk_un (by omega), pk_un (by omega)]; exact hf0)
          · refine aw_run oX7_sails smOk 2 (pc' := 122) (L' := [some (.ref 0), some (.int (nI σ)), some (.int (nI z)), some (.int u), some (.int (encO (tak (knF (G 11) K) (G 8) (G 4 t) P σ))), some (.int c), some (.int x)]) (st' := [.int (nI 3), .int ((nI 3) + x), .ref 11]) (I' := I) (J' := J) (G' := va_up G 11 f) rfl ?_
            refine aw_isN (3 + s) smOk rfl (addN rfl hx) (by omega) (oX7_sails.dec rfl) ?_
            refine aw_eqG (G' := va_up G 11 (upd f (3 + s) (nI 3))) (bx_uu _ _ _ _) ?_
            refine aw_run oX7_sails smOk 5 (pc' := 131) (L' := [some (.ref 0), some (.int (nI σ)), some (.int (nI z)), some (.int u), some (.int (encO (tak (knF (G 11) K) (G 8) (G 4 t) P σ))), some (.int c), some (.int x)]) (st' := [.int ((nI 3) + x), .ref 11]) (I' := I) (J' := J) (G' := va_up G 11 (upd f (3 + s) (nI 3))) rfl ?_
            refine aw_iaN (3 + s) smOk rfl (addN rfl hx) (by omega) (oX7_sails.dec rfl) ?_
            refine aw_eqS (st := [.int ((upd f (3 + s) (nI 3)) (3 + s))]) rfl ?_
            refine aw_eqS (st := [.int (nI 3)]) (by rw [pk_us]) ?_
            refine aw_run oX7_sails smOk 1 (pc' := 133) (L' := [some (.ref 0), some (.int (nI σ)), some (.int (nI z)), some (.int u), some (.int (encO (tak (knF (G 11) K) (G 8) (G 4 t) P σ))), some (.int c), some (.int x)]) (st' := [.int (nI 1), .int (nI 3)]) (I' := I) (J' := J) (G' := va_up G 11 (upd f (3 + s) (nI 3))) rfl ?_
            refine aw_neN rfl rfl (by omega) (by omega) (oX7_sails.dec rfl) (tgt := 183) rfl (fun h133 => ?_) (fun h133 => absurd h133 (by omega))
            refine aw_run oX7_sails smOk 2 (pc' := 61) (L' := [some (.ref 0), some (.int (nI σ)), some (.int (nI z)), some (.int u), some (.int (encO (tak (knF (G 11) K) (G 8) (G 4 t) P σ))), some (.int c), some (.int (x + (nI 1)))]) (st' := []) (I' := I) (J' := J) (G' := va_up G 11 (upd f (3 + s) (nI 3))) rfl ?_
            have htk : ¬ tak (knF (G 11) K) (G 8) (G 4 t) P σ = some s := fun e => h94 (hx.trans ((encO_s (by omega) (fun r hr => (tak_lt hr).1) (by omega)).mpr e))
            have hlt : nI (dN z s t) < G 3 t := Int32.not_le.mp h114
            exact ih (s + 1) _ _ _ (by omega) (addN hx rfl) (by rw [cntB_f (by unfold hq home1; rw [decide_eq_true hlt]; simp)]; exact hc) (by rw [hf, sailR_t (bitN_1 h79), decide_eq_false htk, show ∀ q, sail1 q (G 10 0) (G 3 t) false (dN z s t) s = upd q (3 + s) (nI 3) from fun q => (if_neg (by decide)).trans (if_pos hlt)]) (by rw [pk_un (by omega)]; exact hf0)
        · refine aw_run oX7_sails smOk 2 (pc' := 122) (L' := [some (.ref 0), some (.int (nI σ)), some (.int (nI z)), some (.int u), some (.int (encO (tak (knF (G 11) K) (G 8) (G 4 t) P σ))), some (.int c), some (.int x)]) (st' := [.int (nI 2), .int ((nI 3) + x), .ref 11]) (I' := I) (J' := J) (G' := va_up G 11 f) rfl ?_
          refine aw_isN (3 + s) smOk rfl (addN rfl hx) (by omega) (oX7_sails.dec rfl) ?_
          refine aw_eqG (G' := va_up G 11 (upd f (3 + s) (nI 2))) (bx_uu _ _ _ _) ?_
          refine aw_run oX7_sails smOk 5 (pc' := 131) (L' := [some (.ref 0), some (.int (nI σ)), some (.int (nI z)), some (.int u), some (.int (encO (tak (knF (G 11) K) (G 8) (G 4 t) P σ))), some (.int c), some (.int x)]) (st' := [.int ((nI 3) + x), .ref 11]) (I' := I) (J' := J) (G' := va_up G 11 (upd f (3 + s) (nI 2))) rfl ?_
          refine aw_iaN (3 + s) smOk rfl (addN rfl hx) (by omega) (oX7_sails.dec rfl) ?_
          refine aw_eqS (st := [.int ((upd f (3 + s) (nI 2)) (3 + s))]) rfl ?_
          refine aw_eqS (st := [.int (nI 2)]) (by rw [pk_us]) ?_
          refine aw_run oX7_sails smOk 1 (pc' := 133) (L' := [some (.ref 0), some (.int (nI σ)), some (.int (nI z)), some (.int u), some (.int (encO (tak (knF (G 11) K) (G 8) (G 4 t) P σ))), some (.int c), some (.int x)]) (st' := [.int (nI 1), .int (nI 2)]) (I' := I) (J' := J) (G' := va_up G 11 (upd f (3 + s) (nI 2))) rfl ?_
          refine aw_neN rfl rfl (by omega) (by omega) (oX7_sails.dec rfl) (tgt := 183) rfl (fun h133 => ?_) (fun h133 => absurd h133 (by omega))
          refine aw_run oX7_sails smOk 2 (pc' := 61) (L' := [some (.ref 0), some (.int (nI σ)), some (.int (nI z)), some (.int u), some (.int (encO (tak (knF (G 11) K) (G 8) (G 4 t) P σ))), some (.int c), some (.int (x + (nI 1)))]) (st' := []) (I' := I) (J' := J) (G' := va_up G 11 (upd f (3 + s) (nI 2))) rfl ?_
          have htk : tak (knF (G 11) K) (G 8) (G 4 t) P σ = some s := (encO_s (by omega) (fun r hr => (tak_lt hr).1) (by omega)).mp (hx.symm.trans h94)
          exact ih (s + 1) _ _ _ (by omega) (addN hx rfl) (by rw [cntB_f (by unfold hq home1; rw [decide_eq_true htk]; simp)]; exact hc) (by rw [hf, sailR_t (bitN_1 h79), decide_eq_true htk]; rfl) (by rw [pk_un (by omega)]; exact hf0)
  refine aw_run oX7_sails smOk 3 (pc' := 3) (L' := [some (.ref 0), some (.int (nI σ)), some (.int (nI z)), none, none, none, none]) (st' := [.ref 0, .int (nI 1), .int (nI σ)]) (I' := I) (J' := J) (G' := G) rfl ?_
  refine aw_cV (st := [.int (nI 1), .int (nI σ)]) 0 [] oX7_all k7_138 rfl rfl rfl rfl rfl rfl rfl rfl (oX7_sails.dec rfl) (m_all hP (by omega)) ?_
  refine aw_eqS (st := [.int (nI (2 ^ P - 1)), .int (nI 1), .int (nI σ)]) rfl ?_
  refine aw_cS (st := []) [.int (nI σ), .int (nI 1), .int (nI (2 ^ P - 1))] oX7_in k7_60 rfl rfl rfl rfl rfl (oX7_sails.dec rfl) (m_inN (by omega) (by omega) (by omega)) ?_
  refine aw_eqS (st := [.int (b1 (decide (1 ≤ σ ∧ σ ≤ 2 ^ P - 1)))]) rfl ?_
  refine aw_0eqD (oX7_sails.dec rfl) (tgt := 23) rfl (fun h9 => absurd h9 (by omega)) (fun h9 => ?_)
  refine aw_run oX7_sails smOk 3 (pc' := 17) (L' := [some (.ref 0), some (.int (nI σ)), some (.int (nI z)), none, none, none, none]) (st' := [.int (nI 9999), .int (nI 0), .int (nI z)]) (I' := I) (J' := J) (G' := G) rfl ?_
  refine aw_cS (st := []) [.int (nI z), .int (nI 0), .int (nI 9999)] oX7_in k7_60 rfl rfl rfl rfl rfl (oX7_sails.dec rfl) (m_inN (by omega) (by omega) (by omega)) ?_
  refine aw_eqS (st := [.int (b1 (decide (0 ≤ z ∧ z ≤ 9999)))]) rfl ?_
  refine aw_0neD (oX7_sails.dec rfl) (tgt := 25) rfl (fun h20 => ?_) (fun h20 => absurd h20 (by omega))
  refine aw_run oX7_sails smOk 2 (pc' := 27) (L' := [some (.ref 0), some (.int (nI σ)), some (.int (nI z)), none, none, none, none]) (st' := [.int (nI σ), .ref 0]) (I' := I) (J' := J) (G' := G) rfl ?_
  refine aw_cV (st := []) 0 [.int (nI σ)] oX7_canSail k7_141 rfl rfl rfl rfl rfl rfl rfl rfl (oX7_sails.dec rfl) (m_canSail hP (by omega) hW (by omega) ht (by omega) (by omega) hσ) ?_
  refine aw_eqS (st := [.int (b1 (decide (t < Wk) && allB (sq (G 11) (G 9) σ t) P))]) rfl ?_
  refine aw_0neB (oX7_sails.dec rfl) (tgt := 36) rfl (fun h30 => ?_) (fun h30 => by first | exact absurd h30 (by assumption) | exact absurd (by assumption) h30 | (exfalso; revert h30; decide) | simp_all)
  refine aw_run oX7_sails smOk 1 (pc' := 37) (L' := [some (.ref 0), some (.int (nI σ)), some (.int (nI z)), none, none, none, none]) (st' := [.ref 0]) (I' := I) (J' := J) (G' := G) rfl ?_
  refine aw_cV (st := []) 0 [] oX7_know k7_124 rfl rfl rfl rfl rfl rfl rfl rfl (oX7_sails.dec rfl) (m_know hK (by omega)) ?_
  refine aw_eqG (G' := va_up G 11 (knF (G 11) K)) (rfl) ?_
  refine aw_eqS (st := []) rfl ?_
  refine aw_run oX7_sails smOk 3 (pc' := 45) (L' := [some (.ref 0), some (.int (nI σ)), some (.int (nI z)), none, none, none, none]) (st' := [.int (nI 0), .ref 11]) (I' := I) (J' := J) (G' := va_up G 11 (knF (G 11) K)) rfl ?_
  refine aw_iaN 0 smOk rfl rfl (by omega) (oX7_sails.dec rfl) ?_
  refine aw_eqS (st := [.int ((knF (G 11) K) 0)]) rfl ?_
  refine aw_run oX7_sails smOk 4 (pc' := 50) (L' := [some (.ref 0), some (.int (nI σ)), some (.int (nI z)), some (.int ((knF (G 11) K) 0)), none, none, none]) (st' := [.int ((knF (G 11) K) 0), .int (nI σ), .ref 0]) (I' := I) (J' := J) (G' := va_up G 11 (knF (G 11) K)) rfl ?_
  refine aw_eqS (st := [.int (nI t), .int (nI σ), .ref 0]) (by rw [show (knF (G 11) K) 0 = nI t from hk0]) ?_
  refine aw_cV (st := []) 0 [.int (nI σ), .int (nI t)] oX7_takenOf k7_144 rfl rfl rfl rfl rfl rfl rfl rfl (oX7_sails.dec rfl) (m_takenOf (I := I) (J := J) (G := va_up G 11 (knF (G 11) K)) hP (by omega) (by omega) (by omega)) ?_
  refine aw_eqS (st := [.int (encO (tak (knF (G 11) K) (G 8) (G 4 t) P σ))]) rfl ?_
  refine aw_run oX7_sails smOk 5 (pc' := 61) (L' := [some (.ref 0), some (.int (nI σ)), some (.int (nI z)), some (.int ((knF (G 11) K) 0)), some (.int (encO (tak (knF (G 11) K) (G 8) (G 4 t) P σ))), some (.int (nI 0)), some (.int (nI 0))]) (st' := []) (I' := I) (J' := J) (G' := va_up G 11 (knF (G 11) K)) rfl ?_
  exact loop _ hk0 P 0 _ _ _ (by omega) rfl rfl rfl hk0
set_option maxRecDepth 20000 in
theorem m_reg_bad1 {I : II} {J : JJ} {G : II} {x y : Int32} (hx : notIn x 301) : AMet SM mX7_register [.ref 0, .int x, .int y] I J G (PE (some (.int (-nI 1))) I J G) := by
  refine amet_en oX7_register rfl rfl (L := [some (.ref 0), some (.int x), some (.int y), none, none, none, none, none, none]) rfl ?_
  refine aw_run oX7_register smOk 3 (pc' := 5) (L' := [some (.ref 0), some (.int x), some (.int y), none, none, none, none, none, none]) (st' := [.int (nI 300), .int (nI 0), .int x]) (I' := I) (J' := J) (G' := G) rfl ?_
  refine aw_cS (st := []) [.int x, .int (nI 0), .int (nI 300)] oX7_in k7_60 rfl rfl rfl rfl rfl (oX7_register.dec rfl) (m_inF (notIn_in0 hx (by decide) (by decide))) ?_
  refine aw_eqS (st := [.int (nI 0)]) rfl ?_
  refine aw_0eqN rfl (by omega) (oX7_register.dec rfl) (tgt := 20) rfl (fun h8 => ?_) (fun h8 => absurd h8 (by omega))
  refine aw_run oX7_register smOk 1 (pc' := 21) (L' := [some (.ref 0), some (.int x), some (.int y), none, none, none, none, none, none]) (st' := [.int (-nI 1)]) (I' := I) (J' := J) (G' := G) rfl ?_
  exact aw_iret rfl (oX7_register.dec rfl) pe_rfl
set_option maxRecDepth 20000 in
theorem m_reg_bad2 {I : II} {J : JJ} {G : II} {n0 : Nat} {x : Int32} (hn0 : n0 ≤ 300) (hx : notIn x 3) : AMet SM mX7_register [.ref 0, .int (nI n0), .int x] I J G (PE (some (.int (-nI 1))) I J G) := by
  refine amet_en oX7_register rfl rfl (L := [some (.ref 0), some (.int (nI n0)), some (.int x), none, none, none, none, none, none]) rfl ?_
  refine aw_run oX7_register smOk 3 (pc' := 5) (L' := [some (.ref 0), some (.int (nI n0)), some (.int x), none, none, none, none, none, none]) (st' := [.int (nI 300), .int (nI 0), .int (nI n0)]) (I' := I) (J' := J) (G' := G) rfl ?_
  refine aw_cS (st := []) [.int (nI n0), .int (nI 0), .int (nI 300)] oX7_in k7_60 rfl rfl rfl rfl rfl (oX7_register.dec rfl) (m_inN (by omega) (by omega) (by omega)) ?_
  refine aw_eqS (st := [.int (b1 (decide (0 ≤ n0 ∧ n0 ≤ 300)))]) rfl ?_
  refine aw_0eqD (oX7_register.dec rfl) (tgt := 20) rfl (fun h8 => absurd h8 (by omega)) (fun h8 => ?_)
  refine aw_run oX7_register smOk 3 (pc' := 14) (L' := [some (.ref 0), some (.int (nI n0)), some (.int x), none, none, none, none, none, none]) (st' := [.int (nI 2), .int (nI 0), .int x]) (I' := I) (J' := J) (G' := G) rfl ?_
  refine aw_cS (st := []) [.int x, .int (nI 0), .int (nI 2)] oX7_in k7_60 rfl rfl rfl rfl rfl (oX7_register.dec rfl) (m_inF (notIn_in0 hx (by decide) (by decide))) ?_
  refine aw_eqS (st := [.int (nI 0)]) rfl ?_
  refine aw_0neN rfl (by omega) (oX7_register.dec rfl) (tgt := 22) rfl (fun h17 => absurd h17 (by omega)) (fun h17 => ?_)
  refine aw_run oX7_register smOk 1 (pc' := 21) (L' := [some (.ref 0), some (.int (nI n0)), some (.int x), none, none, none, none, none, none]) (st' := [.int (-nI 1)]) (I' := I) (J' := J) (G' := G) rfl ?_
  exact aw_iret rfl (oX7_register.dec rfl) pe_rfl
set_option maxRecDepth 20000 in
theorem m_reg_0 {I : II} {J : JJ} {G : II} {P : Nat} (hP : G 5 0 = nI P) (hP5 : P ≤ 5) {n0 : Nat} (hn0 : n0 ≤ 300) : AMet SM mX7_register [.ref 0, .int (nI n0), .int (nI 0)] I J G (PE (some (.int (nI (cntB (fun σ => decide (sumS (fun s => G 11 (8 + s)) σ P = nI n0)) (2 ^ P))))) I J G) := by
  refine amet_en oX7_register rfl rfl (L := [some (.ref 0), some (.int (nI n0)), some (.int (nI 0)), none, none, none, none, none, none]) rfl ?_
  have hp32 : 2 ^ P ≤ 32 := Nat.pow_le_pow_right (by decide) hP5
  have hp1 : 0 < 2 ^ P := Nat.pow_pos (by decide)
  have inner : ∀ (σ : Nat) (y m a b : Int32), σ < 32 → y = nI σ → (AW SM mX7_register 98 [some (.ref 0), some (.int (nI n0)), some (.int (nI 0)), some (.int m), some (.int a), some (.int b), some (.int y), some (.int (sumS (fun s => G 11 (8 + s)) σ P)), none] [] I J G (PE (some (.int (nI (cntB (fun σ => decide (sumS (fun s => G 11 (8 + s)) σ P = nI n0)) (2 ^ P))))) I J G)) → ∀ (n s : Nat) (x q : Int32), (s + n = P) → (x = nI s) → (q = sumS (fun s => G 11 (8 + s)) σ s) → AW SM mX7_register 51 [some (.ref 0), some (.int (nI n0)), some (.int (nI 0)), some (.int m), some (.int a), some (.int b), some (.int y), some (.int q), some (.int x)] [] I J G (PE (some (.int (nI (cntB (fun σ => decide (sumS (fun s => G 11 (8 + s)) σ P = nI n0)) (2 ^ P))))) I J G) := by
    intro σ y m a b hσ hy K9 n
    induction n with
    | zero =>
      intro s x q hsn hx hq
      refine aw_run oX7_register smOk 4 (pc' := 58) (L' := [some (.ref 0), some (.int (nI n0)), some (.int (nI 0)), some (.int m), some (.int a), some (.int b), some (.int y), some (.int q), some (.int x)]) (st' := [.int (nI 0), .ref 5, .int x]) (I' := I) (J' := J) (G' := G) rfl ?_
      refine aw_iaN 0 smOk rfl rfl (by omega) (oX7_register.dec rfl) ?_
      refine aw_geN hx hP (by omega) (by omega) (oX7_register.dec rfl) (tgt := 98) rfl (fun h59 => ?_) (fun h59 => absurd h59 (by omega))
      refine aw_forget1 8 (L' := [some (.ref 0), some (.int (nI n0)), some (.int (nI 0)), some (.int m), some (.int a), some (.int b), some (.int y), some (.int q), none]) rfl ?_
      rw [hq, show s = P by omega]
      exact K9
    | succ n ih =>
      intro s x q hsn hx hq
      refine aw_run oX7_register smOk 4 (pc' := 58) (L' := [some (.ref 0), some (.int (nI n0)), some (.int (nI 0)), some (.int m), some (.int a), some (.int b), some (.int y), some (.int q), some (.int x)]) (st' := [.int (nI 0), .ref 5, .int x]) (I' := I) (J' := J) (G' := G) rfl ?_
      refine aw_iaN 0 smOk rfl rfl (by omega) (oX7_register.dec rfl) ?_
      refine aw_geN hx hP (by omega) (by omega) (oX7_register.dec rfl) (tgt := 98) rfl (fun h59 => absurd h59 (by omega)) (fun h59 => ?_)
      refine aw_run oX7_register smOk 7 (pc' := 72) (L' := [some (.ref 0), some (.int (nI n0)), some (.int (nI 0)), some (.int m), some (.int a), some (.int b), some (.int y), some (.int q), some (.int x)]) (st' := [.int (nI 1), .int ((y >>> (x &&& 31)) &&& (nI 1)), .int q]) (I' := I) (J' := J) (G' := G) rfl ?_
      refine aw_neN (bitNI hy hx (by omega) (by omega)) rfl (bitN_b _ _) (by omega) (oX7_register.dec rfl) (tgt := 88) rfl (fun h72 => ?_) (fun h72 => ?_)
      · refine aw_run oX7_register smOk 5 (pc' := 51) (L' := [some (.ref 0), some (.int (nI n0)), some (.int (nI 0)), some (.int m), some (.int a), some (.int b), some (.int y), some (.int (q + (nI 0))), some (.int (x + (nI 1)))]) (st' := []) (I' := I) (J' := J) (G' := G) rfl ?_
        exact ih (s + 1) _ _ (by omega) (addN hx rfl) (by rw [hq, show ∀ z : Int32, z + nI 0 = z from fun z => Int32.add_zero z]; exact sumC_f (q := fun j => σ.testBit j) (by rw [bitN_n1 h72]; decide))
      · refine aw_run oX7_register smOk 5 (pc' := 84) (L' := [some (.ref 0), some (.int (nI n0)), some (.int (nI 0)), some (.int m), some (.int a), some (.int b), some (.int y), some (.int q), some (.int x)]) (st' := [.int ((nI 8) + x), .ref 11, .int q]) (I' := I) (J' := J) (G' := G) rfl ?_
        refine aw_iaN (8 + s) smOk rfl (addN rfl hx) (by omega) (oX7_register.dec rfl) ?_
        refine aw_run oX7_register smOk 5 (pc' := 51) (L' := [some (.ref 0), some (.int (nI n0)), some (.int (nI 0)), some (.int m), some (.int a), some (.int b), some (.int y), some (.int (q + (G 11 (8 + s)))), some (.int (x + (nI 1)))]) (st' := []) (I' := I) (J' := J) (G' := G) rfl ?_
        exact ih (s + 1) _ _ (by omega) (addN hx rfl) (by rw [hq]; exact sumC_t (x := fun s => G 11 (8 + s)) (q := fun j => σ.testBit j) (bitN_1 h72))
  have loop : ∀ (n σ : Nat) (y m a b : Int32), (σ + n = 2 ^ P) → (y = nI σ) → (m = nI (cntB (fun σ => decide (sumS (fun s => G 11 (8 + s)) σ P = nI n0)) σ)) → (a = nI (andA (fun σ => decide (sumS (fun s => G 11 (8 + s)) σ P = nI n0)) (2 ^ P - 1) σ)) → (b = nI (orS (fun σ => decide (sumS (fun s => G 11 (8 + s)) σ P = nI n0)) σ)) → AW SM mX7_register 36 [some (.ref 0), some (.int (nI n0)), some (.int (nI 0)), some (.int m), some (.int a), some (.int b), some (.int y), none, none] [] I J G (PE (some (.int (nI (cntB (fun σ => decide (sumS (fun s => G 11 (8 + s)) σ P = nI n0)) (2 ^ P))))) I J G) := by
    intro n
    induction n with
    | zero =>
      intro σ y m a b hσn hy hm ha hb
      have hcl := cntB_le (fun σ => decide (sumS (fun s => G 11 (8 + s)) σ P = nI n0)) σ
      refine aw_run oX7_register smOk 2 (pc' := 39) (L' := [some (.ref 0), some (.int (nI n0)), some (.int (nI 0)), some (.int m), some (.int a), some (.int b), some (.int y), none, none]) (st' := [.ref 0, .int y]) (I' := I) (J' := J) (G' := G) rfl ?_
      refine aw_cV (st := [.int y]) 0 [] oX7_all k7_138 rfl rfl rfl rfl rfl rfl rfl rfl (oX7_register.dec rfl) (m_all hP (by omega)) ?_
      refine aw_eqS (st := [.int (nI (2 ^ P - 1)), .int y]) rfl ?_
      refine aw_gtN hy rfl (by omega) (by omega) (oX7_register.dec rfl) (tgt := 127) rfl (fun h42 => ?_) (fun h42 => absurd h42 (by omega))
      refine aw_run oX7_register smOk 1 (pc' := 128) (L' := [some (.ref 0), some (.int (nI n0)), some (.int (nI 0)), some (.int m), some (.int a), some (.int b), some (.int y), none, none]) (st' := [.int (nI 0)]) (I' := I) (J' := J) (G' := G) rfl ?_
      refine aw_0neN rfl (by omega) (oX7_register.dec rfl) (tgt := 135) rfl (fun h128 => absurd h128 (by omega)) (fun h128 => ?_)
      refine aw_run oX7_register smOk 2 (pc' := 156) (L' := [some (.ref 0), some (.int (nI n0)), some (.int (nI 0)), some (.int m), some (.int a), some (.int b), some (.int y), none, none]) (st' := [.int m]) (I' := I) (J' := J) (G' := G) rfl ?_
      exact aw_iret rfl (oX7_register.dec rfl) (pe_i (by rw [hm, show σ = 2 ^ P by omega]))
    | succ n ih =>
      intro σ y m a b hσn hy hm ha hb
      have hcl := cntB_le (fun σ => decide (sumS (fun s => G 11 (8 + s)) σ P = nI n0)) σ
      have K9 : AW SM mX7_register 98 [some (.ref 0), some (.int (nI n0)), some (.int (nI 0)), some (.int m), some (.int a), some (.int b), some (.int y), some (.int (sumS (fun s => G 11 (8 + s)) σ P)), none] [] I J G (PE (some (.int (nI (cntB (fun σ => decide (sumS (fun s => G 11 (8 + s)) σ P = nI n0)) (2 ^ P))))) I J G) := by
        refine aw_run oX7_register smOk 2 (pc' := 101) (L' := [some (.ref 0), some (.int (nI n0)), some (.int (nI 0)), some (.int m), some (.int a), some (.int b), some (.int y), some (.int (sumS (fun s => G 11 (8 + s)) σ P)), none]) (st' := [.int (nI n0), .int (sumS (fun s => G 11 (8 + s)) σ P)]) (I' := I) (J' := J) (G' := G) rfl ?_
        refine aw_icmp_ne (oX7_register.dec rfl) (tgt := 121) rfl (fun h101 => ?_) (fun h101 => ?_)
        · refine aw_run oX7_register smOk 2 (pc' := 36) (L' := [some (.ref 0), some (.int (nI n0)), some (.int (nI 0)), some (.int m), some (.int a), some (.int b), some (.int (y + (nI 1))), some (.int (sumS (fun s => G 11 (8 + s)) σ P)), none]) (st' := []) (I' := I) (J' := J) (G' := G) rfl ?_
          refine aw_forget1 7 (L' := [some (.ref 0), some (.int (nI n0)), some (.int (nI 0)), some (.int m), some (.int a), some (.int b), some (.int (y + (nI 1))), none, none]) rfl ?_
          exact ih (σ + 1) _ _ _ _ (by omega) (addN hy rfl) (by rw [cntB_f (by simpa using h101)]; exact hm) (by rw [andA_f (by simpa using h101)]; exact ha) (by rw [orS_f (by simpa using h101)]; exact hb)
        · refine aw_run oX7_register smOk 11 (pc' := 36) (L' := [some (.ref 0), some (.int (nI n0)), some (.int (nI 0)), some (.int (m + (nI 1))), some (.int (a &&& y)), some (.int (b ||| y)), some (.int (y + (nI 1))), some (.int (sumS (fun s => G 11 (8 + s)) σ P)), none]) (st' := []) (I' := I) (J' := J) (G' := G) rfl ?_
          refine aw_forget1 7 (L' := [some (.ref 0), some (.int (nI n0)), some (.int (nI 0)), some (.int (m + (nI 1))), some (.int (a &&& y)), some (.int (b ||| y)), some (.int (y + (nI 1))), none, none]) rfl ?_
          exact ih (σ + 1) _ _ _ _ (by omega) (addN hy rfl) (by rw [cntB_t (by simpa using h101)]; exact addN hm rfl) (by rw [andA_t (by simpa using h101)]; exact andN ha hy) (by rw [orS_t (by simpa using h101)]; exact orN hb hy)
      refine aw_run oX7_register smOk 2 (pc' := 39) (L' := [some (.ref 0), some (.int (nI n0)), some (.int (nI 0)), some (.int m), some (.int a), some (.int b), some (.int y), none, none]) (st' := [.ref 0, .int y]) (I' := I) (J' := J) (G' := G) rfl ?_
      refine aw_cV (st := [.int y]) 0 [] oX7_all k7_138 rfl rfl rfl rfl rfl rfl rfl rfl (oX7_register.dec rfl) (m_all hP (by omega)) ?_
      refine aw_eqS (st := [.int (nI (2 ^ P - 1)), .int y]) rfl ?_
      refine aw_gtN hy rfl (by omega) (by omega) (oX7_register.dec rfl) (tgt := 127) rfl (fun h42 => absurd h42 (by omega)) (fun h42 => ?_)
      refine aw_run oX7_register smOk 4 (pc' := 51) (L' := [some (.ref 0), some (.int (nI n0)), some (.int (nI 0)), some (.int m), some (.int a), some (.int b), some (.int y), some (.int (nI 0)), some (.int (nI 0))]) (st' := []) (I' := I) (J' := J) (G' := G) rfl ?_
      exact inner σ _ _ _ _ (by omega) hy K9 P 0 _ _ (by omega) rfl rfl
  refine aw_run oX7_register smOk 3 (pc' := 5) (L' := [some (.ref 0), some (.int (nI n0)), some (.int (nI 0)), none, none, none, none, none, none]) (st' := [.int (nI 300), .int (nI 0), .int (nI n0)]) (I' := I) (J' := J) (G' := G) rfl ?_
  refine aw_cS (st := []) [.int (nI n0), .int (nI 0), .int (nI 300)] oX7_in k7_60 rfl rfl rfl rfl rfl (oX7_register.dec rfl) (m_inN (by omega) (by omega) (by omega)) ?_
  refine aw_eqS (st := [.int (b1 (decide (0 ≤ n0 ∧ n0 ≤ 300)))]) rfl ?_
  refine aw_0eqD (oX7_register.dec rfl) (tgt := 20) rfl (fun h8 => absurd h8 (by omega)) (fun h8 => ?_)
  refine aw_run oX7_register smOk 3 (pc' := 14) (L' := [some (.ref 0), some (.int (nI n0)), some (.int (nI 0)), none, none, none, none, none, none]) (st' := [.int (nI 2), .int (nI 0), .int (nI 0)]) (I' := I) (J' := J) (G' := G) rfl ?_
  refine aw_cS (st := []) [.int (nI 0), .int (nI 0), .int (nI 2)] oX7_in k7_60 rfl rfl rfl rfl rfl (oX7_register.dec rfl) (m_inN (by omega) (by omega) (by omega)) ?_
  refine aw_eqS (st := [.int (b1 (decide (0 ≤ 0 ∧ 0 ≤ 2)))]) rfl ?_
  refine aw_0neD (oX7_register.dec rfl) (tgt := 22) rfl (fun h17 => ?_) (fun h17 => absurd h17 (by omega))
  refine aw_run oX7_register smOk 3 (pc' := 25) (L' := [some (.ref 0), some (.int (nI n0)), some (.int (nI 0)), some (.int (nI 0)), none, none, none, none, none]) (st' := [.ref 0]) (I' := I) (J' := J) (G' := G) rfl ?_
  refine aw_cV (st := []) 0 [] oX7_all k7_138 rfl rfl rfl rfl rfl rfl rfl rfl (oX7_register.dec rfl) (m_all hP (by omega)) ?_
  refine aw_eqS (st := [.int (nI (2 ^ P - 1))]) rfl ?_
  refine aw_run oX7_register smOk 5 (pc' := 36) (L' := [some (.ref 0), some (.int (nI n0)), some (.int (nI 0)), some (.int (nI 0)), some (.int (nI (2 ^ P - 1))), some (.int (nI 0)), some (.int (nI 0)), none, none]) (st' := []) (I' := I) (J' := J) (G' := G) rfl ?_
  exact loop (2 ^ P) 0 _ _ _ _ (by omega) rfl rfl rfl rfl
set_option maxRecDepth 20000 in
theorem m_reg_1 {I : II} {J : JJ} {G : II} {P : Nat} (hP : G 5 0 = nI P) (hP5 : P ≤ 5) {n0 : Nat} (hn0 : n0 ≤ 300) : AMet SM mX7_register [.ref 0, .int (nI n0), .int (nI 1)] I J G (PE (some (.int (if cntB (fun σ => decide (sumS (fun s => G 11 (8 + s)) σ P = nI n0)) (2 ^ P) = 0 then -nI 9 else nI (andA (fun σ => decide (sumS (fun s => G 11 (8 + s)) σ P = nI n0)) (2 ^ P - 1) (2 ^ P))))) I J G) := by
  refine amet_en oX7_register rfl rfl (L := [some (.ref 0), some (.int (nI n0)), some (.int (nI 1)), none, none, none, none, none, none]) rfl ?_
  have hp32 : 2 ^ P ≤ 32 := Nat.pow_le_pow_right (by decide) hP5
  have hp1 : 0 < 2 ^ P := Nat.pow_pos (by decide)
  have inner : ∀ (σ : Nat) (y m a b : Int32), σ < 32 → y = nI σ → (AW SM mX7_register 98 [some (.ref 0), some (.int (nI n0)), some (.int (nI 1)), some (.int m), some (.int a), some (.int b), some (.int y), some (.int (sumS (fun s => G 11 (8 + s)) σ P)), none] [] I J G (PE (some (.int (if cntB (fun σ => decide (sumS (fun s => G 11 (8 + s)) σ P = nI n0)) (2 ^ P) = 0 then -nI 9 else nI (andA (fun σ => decide (sumS (fun s => G 11 (8 + s)) σ P = nI n0)) (2 ^ P - 1) (2 ^ P))))) I J G)) → ∀ (n s : Nat) (x q : Int32), (s + n = P) → (x = nI s) → (q = sumS (fun s => G 11 (8 + s)) σ s) → AW SM mX7_register 51 [some (.ref 0), some (.int (nI n0)), some (.int (nI 1)), some (.int m), some (.int a), some (.int b), some (.int y), some (.int q), some (.int x)] [] I J G (PE (some (.int (if cntB (fun σ => decide (sumS (fun s => G 11 (8 + s)) σ P = nI n0)) (2 ^ P) = 0 then -nI 9 else nI (andA (fun σ => decide (sumS (fun s => G 11 (8 + s)) σ P = nI n0)) (2 ^ P - 1) (2 ^ P))))) I J G) := by
    intro σ y m a b hσ hy K9 n
    induction n with
    | zero =>
      intro s x q hsn hx hq
      refine aw_run oX7_register smOk 4 (pc' := 58) (L' := [some (.ref 0), some (.int (nI n0)), some (.int (nI 1)), some (.int m), some (.int a), some (.int b), some (.int y), some (.int q), some (.int x)]) (st' := [.int (nI 0), .ref 5, .int x]) (I' := I) (J' := J) (G' := G) rfl ?_
      refine aw_iaN 0 smOk rfl rfl (by omega) (oX7_register.dec rfl) ?_
      refine aw_geN hx hP (by omega) (by omega) (oX7_register.dec rfl) (tgt := 98) rfl (fun h59 => ?_) (fun h59 => absurd h59 (by omega))
      refine aw_forget1 8 (L' := [some (.ref 0), some (.int (nI n0)), some (.int (nI 1)), some (.int m), some (.int a), some (.int b), some (.int y), some (.int q), none]) rfl ?_
      rw [hq, show s = P by omega]
      exact K9
    | succ n ih =>
      intro s x q hsn hx hq
      refine aw_run oX7_register smOk 4 (pc' := 58) (L' := [some (.ref 0), some (.int (nI n0)), some (.int (nI 1)), some (.int m), some (.int a), some (.int b), some (.int y), some (.int q), some (.int x)]) (st' := [.int (nI 0), .ref 5, .int x]) (I' := I) (J' := J) (G' := G) rfl ?_
      refine aw_iaN 0 smOk rfl rfl (by omega) (oX7_register.dec rfl) ?_
      refine aw_geN hx hP (by omega) (by omega) (oX7_register.dec rfl) (tgt := 98) rfl (fun h59 => absurd h59 (by omega)) (fun h59 => ?_)
      refine aw_run oX7_register smOk 7 (pc' := 72) (L' := [some (.ref 0), some (.int (nI n0)), some (.int (nI 1)), some (.int m), some (.int a), some (.int b), some (.int y), some (.int q), some (.int x)]) (st' := [.int (nI 1), .int ((y >>> (x &&& 31)) &&& (nI 1)), .int q]) (I' := I) (J' := J) (G' := G) rfl ?_
      refine aw_neN (bitNI hy hx (by omega) (by omega)) rfl (bitN_b _ _) (by omega) (oX7_register.dec rfl) (tgt := 88) rfl (fun h72 => ?_) (fun h72 => ?_)
      · refine aw_run oX7_register smOk 5 (pc' := 51) (L' := [some (.ref 0), some (.int (nI n0)), some (.int (nI 1)), some (.int m), some (.int a), some (.int b), some (.int y), some (.int (q + (nI 0))), some (.int (x + (nI 1)))]) (st' := []) (I' := I) (J' := J) (G' := G) rfl ?_
        exact ih (s + 1) _ _ (by omega) (addN hx rfl) (by rw [hq, show ∀ z : Int32, z + nI 0 = z from fun z => Int32.add_zero z]; exact sumC_f (q := fun j => σ.testBit j) (by rw [bitN_n1 h72]; decide))
      · refine aw_run oX7_register smOk 5 (pc' := 84) (L' := [some (.ref 0), some (.int (nI n0)), some (.int (nI 1)), some (.int m), some (.int a), some (.int b), some (.int y), some (.int q), some (.int x)]) (st' := [.int ((nI 8) + x), .ref 11, .int q]) (I' := I) (J' := J) (G' := G) rfl ?_
        refine aw_iaN (8 + s) smOk rfl (addN rfl hx) (by omega) (oX7_register.dec rfl) ?_
        refine aw_run oX7_register smOk 5 (pc' := 51) (L' := [some (.ref 0), some (.int (nI n0)), some (.int (nI 1)), some (.int m), some (.int a), some (.int b), some (.int y), some (.int (q + (G 11 (8 + s)))), some (.int (x + (nI 1)))]) (st' := []) (I' := I) (J' := J) (G' := G) rfl ?_
        exact ih (s + 1) _ _ (by omega) (addN hx rfl) (by rw [hq]; exact sumC_t (x := fun s => G 11 (8 + s)) (q := fun j => σ.testBit j) (bitN_1 h72))
  have loop : ∀ (n σ : Nat) (y m a b : Int32), (σ + n = 2 ^ P) → (y = nI σ) → (m = nI (cntB (fun σ => decide (sumS (fun s => G 11 (8 + s)) σ P = nI n0)) σ)) → (a = nI (andA (fun σ => decide (sumS (fun s => G 11 (8 + s)) σ P = nI n0)) (2 ^ P - 1) σ)) → (b = nI (orS (fun σ => decide (sumS (fun s => G 11 (8 + s)) σ P = nI n0)) σ)) → AW SM mX7_register 36 [some (.ref 0), some (.int (nI n0)), some (.int (nI 1)), some (.int m), some (.int a), some (.int b), some (.int y), none, none] [] I J G (PE (some (.int (if cntB (fun σ => decide (sumS (fun s => G 11 (8 + s)) σ P = nI n0)) (2 ^ P) = 0 then -nI 9 else nI (andA (fun σ => decide (sumS (fun s => G 11 (8 + s)) σ P = nI n0)) (2 ^ P - 1) (2 ^ P))))) I J G) := by
    intro n
    induction n with
    | zero =>
      intro σ y m a b hσn hy hm ha hb
      have hcl := cntB_le (fun σ => decide (sumS (fun s => G 11 (8 + s)) σ P = nI n0)) σ
      refine aw_run oX7_register smOk 2 (pc' := 39) (L' := [some (.ref 0), some (.int (nI n0)), some (.int (nI 1)), some (.int m), some (.int a), some (.int b), some (.int y), none, none]) (st' := [.ref 0, .int y]) (I' := I) (J' := J) (G' := G) rfl ?_
      refine aw_cV (st := [.int y]) 0 [] oX7_all k7_138 rfl rfl rfl rfl rfl rfl rfl rfl (oX7_register.dec rfl) (m_all hP (by omega)) ?_
      refine aw_eqS (st := [.int (nI (2 ^ P - 1)), .int y]) rfl ?_
      refine aw_gtN hy rfl (by omega) (by omega) (oX7_register.dec rfl) (tgt := 127) rfl (fun h42 => ?_) (fun h42 => absurd h42 (by omega))
      refine aw_run oX7_register smOk 1 (pc' := 128) (L' := [some (.ref 0), some (.int (nI n0)), some (.int (nI 1)), some (.int m), some (.int a), some (.int b), some (.int y), none, none]) (st' := [.int (nI 1)]) (I' := I) (J' := J) (G' := G) rfl ?_
      refine aw_0neN rfl (by omega) (oX7_register.dec rfl) (tgt := 135) rfl (fun h128 => ?_) (fun h128 => absurd h128 (by omega))
      refine aw_run oX7_register smOk 2 (pc' := 137) (L' := [some (.ref 0), some (.int (nI n0)), some (.int (nI 1)), some (.int m), some (.int a), some (.int b), some (.int y), none, none]) (st' := [.int (nI 2), .int (nI 1)]) (I' := I) (J' := J) (G' := G) rfl ?_
      refine aw_neN rfl rfl (by omega) (by omega) (oX7_register.dec rfl) (tgt := 145) rfl (fun h137 => ?_) (fun h137 => absurd h137 (by omega))
      refine aw_run oX7_register smOk 1 (pc' := 146) (L' := [some (.ref 0), some (.int (nI n0)), some (.int (nI 1)), some (.int m), some (.int a), some (.int b), some (.int y), none, none]) (st' := [.int m]) (I' := I) (J' := J) (G' := G) rfl ?_
      refine aw_0neN hm (by omega) (oX7_register.dec rfl) (tgt := 154) rfl (fun h146 => ?_) (fun h146 => ?_)
      · refine aw_run oX7_register smOk 1 (pc' := 156) (L' := [some (.ref 0), some (.int (nI n0)), some (.int (nI 1)), some (.int m), some (.int a), some (.int b), some (.int y), none, none]) (st' := [.int a]) (I' := I) (J' := J) (G' := G) rfl ?_
        exact aw_iret rfl (oX7_register.dec rfl) (pe_i (by rw [if_neg (by rw [← show σ = 2 ^ P by omega]; exact h146), ha, show σ = 2 ^ P by omega]))
      · refine aw_run oX7_register smOk 2 (pc' := 156) (L' := [some (.ref 0), some (.int (nI n0)), some (.int (nI 1)), some (.int m), some (.int a), some (.int b), some (.int y), none, none]) (st' := [.int (-nI 9)]) (I' := I) (J' := J) (G' := G) rfl ?_
        exact aw_iret rfl (oX7_register.dec rfl) (pe_i (by rw [if_pos (by rw [← show σ = 2 ^ P by omega]; exact h146)]))
    | succ n ih =>
      intro σ y m a b hσn hy hm ha hb
      have hcl := cntB_le (fun σ => decide (sumS (fun s => G 11 (8 + s)) σ P = nI n0)) σ
      have K9 : AW SM mX7_register 98 [some (.ref 0), some (.int (nI n0)), some (.int (nI 1)), some (.int m), some (.int a), some (.int b), some (.int y), some (.int (sumS (fun s => G 11 (8 + s)) σ P)), none] [] I J G (PE (some (.int (if cntB (fun σ => decide (sumS (fun s => G 11 (8 + s)) σ P = nI n0)) (2 ^ P) = 0 then -nI 9 else nI (andA (fun σ => decide (sumS (fun s => G 11 (8 + s)) σ P = nI n0)) (2 ^ P - 1) (2 ^ P))))) I J G) := by
        refine aw_run oX7_register smOk 2 (pc' := 101) (L' := [some (.ref 0), some (.int (nI n0)), some (.int (nI 1)), some (.int m), some (.int a), some (.int b), some (.int y), some (.int (sumS (fun s => G 11 (8 + s)) σ P)), none]) (st' := [.int (nI n0), .int (sumS (fun s => G 11 (8 + s)) σ P)]) (I' := I) (J' := J) (G' := G) rfl ?_
        refine aw_icmp_ne (oX7_register.dec rfl) (tgt := 121) rfl (fun h101 => ?_) (fun h101 => ?_)
        · refine aw_run oX7_register smOk 2 (pc' := 36) (L' := [some (.ref 0), some (.int (nI n0)), some (.int (nI 1)), some (.int m), some (.int a), some (.int b), some (.int (y + (nI 1))), some (.int (sumS (fun s => G 11 (8 + s)) σ P)), none]) (st' := []) (I' := I) (J' := J) (G' := G) rfl ?_
          refine aw_forget1 7 (L' := [some (.ref 0), some (.int (nI n0)), some (.int (nI 1)), some (.int m), some (.int a), some (.int b), some (.int (y + (nI 1))), none, none]) rfl ?_
          exact ih (σ + 1) _ _ _ _ (by omega) (addN hy rfl) (by rw [cntB_f (by simpa using h101)]; exact hm) (by rw [andA_f (by simpa using h101)]; exact ha) (by rw [orS_f (by simpa using h101)]; exact hb)
        · refine aw_run oX7_register smOk 11 (pc' := 36) (L' := [some (.ref 0), some (.int (nI n0)), some (.int (nI 1)), some (.int (m + (nI 1))), some (.int (a &&& y)), some (.int (b ||| y)), some (.int (y + (nI 1))), some (.int (sumS (fun s => G 11 (8 + s)) σ P)), none]) (st' := []) (I' := I) (J' := J) (G' := G) rfl ?_
          refine aw_forget1 7 (L' := [some (.ref 0), some (.int (nI n0)), some (.int (nI 1)), some (.int (m + (nI 1))), some (.int (a &&& y)), some (.int (b ||| y)), some (.int (y + (nI 1))), none, none]) rfl ?_
          exact ih (σ + 1) _ _ _ _ (by omega) (addN hy rfl) (by rw [cntB_t (by simpa using h101)]; exact addN hm rfl) (by rw [andA_t (by simpa using h101)]; exact andN ha hy) (by rw [orS_t (by simpa using h101)]; exact orN hb hy)
      refine aw_run oX7_register smOk 2 (pc' := 39) (L' := [some (.ref 0), some (.int (nI n0)), some (.int (nI 1)), some (.int m), some (.int a), some (.int b), some (.int y), none, none]) (st' := [.ref 0, .int y]) (I' := I) (J' := J) (G' := G) rfl ?_
      refine aw_cV (st := [.int y]) 0 [] oX7_all k7_138 rfl rfl rfl rfl rfl rfl rfl rfl (oX7_register.dec rfl) (m_all hP (by omega)) ?_
      refine aw_eqS (st := [.int (nI (2 ^ P - 1)), .int y]) rfl ?_
      refine aw_gtN hy rfl (by omega) (by omega) (oX7_register.dec rfl) (tgt := 127) rfl (fun h42 => absurd h42 (by omega)) (fun h42 => ?_)
      refine aw_run oX7_register smOk 4 (pc' := 51) (L' := [some (.ref 0), some (.int (nI n0)), some (.int (nI 1)), some (.int m), some (.int a), some (.int b), some (.int y), some (.int (nI 0)), some (.int (nI 0))]) (st' := []) (I' := I) (J' := J) (G' := G) rfl ?_
      exact inner σ _ _ _ _ (by omega) hy K9 P 0 _ _ (by omega) rfl rfl
  refine aw_run oX7_register smOk 3 (pc' := 5) (L' := [some (.ref 0), some (.int (nI n0)), some (.int (nI 1)), none, none, none, none, none, none]) (st' := [.int (nI 300), .int (nI 0), .int (nI n0)]) (I' := I) (J' := J) (G' := G) rfl ?_
  refine aw_cS (st := []) [.int (nI n0), .int (nI 0), .int (nI 300)] oX7_in k7_60 rfl rfl rfl rfl rfl (oX7_register.dec rfl) (m_inN (by omega) (by omega) (by omega)) ?_
  refine aw_eqS (st := [.int (b1 (decide (0 ≤ n0 ∧ n0 ≤ 300)))]) rfl ?_
  refine aw_0eqD (oX7_register.dec rfl) (tgt := 20) rfl (fun h8 => absurd h8 (by omega)) (fun h8 => ?_)
  refine aw_run oX7_register smOk 3 (pc' := 14) (L' := [some (.ref 0), some (.int (nI n0)), some (.int (nI 1)), none, none, none, none, none, none]) (st' := [.int (nI 2), .int (nI 0), .int (nI 1)]) (I' := I) (J' := J) (G' := G) rfl ?_
  refine aw_cS (st := []) [.int (nI 1), .int (nI 0), .int (nI 2)] oX7_in k7_60 rfl rfl rfl rfl rfl (oX7_register.dec rfl) (m_inN (by omega) (by omega) (by omega)) ?_
  refine aw_eqS (st := [.int (b1 (decide (0 ≤ 1 ∧ 1 ≤ 2)))]) rfl ?_
  refine aw_0neD (oX7_register.dec rfl) (tgt := 22) rfl (fun h17 => ?_) (fun h17 => absurd h17 (by omega))
  refine aw_run oX7_register smOk 3 (pc' := 25) (L' := [some (.ref 0), some (.int (nI n0)), some (.int (nI 1)), some (.int (nI 0)), none, none, none, none, none]) (st' := [.ref 0]) (I' := I) (J' := J) (G' := G) rfl ?_
  refine aw_cV (st := []) 0 [] oX7_all k7_138 rfl rfl rfl rfl rfl rfl rfl rfl (oX7_register.dec rfl) (m_all hP (by omega)) ?_
  refine aw_eqS (st := [.int (nI (2 ^ P - 1))]) rfl ?_
  refine aw_run oX7_register smOk 5 (pc' := 36) (L' := [some (.ref 0), some (.int (nI n0)), some (.int (nI 1)), some (.int (nI 0)), some (.int (nI (2 ^ P - 1))), some (.int (nI 0)), some (.int (nI 0)), none, none]) (st' := []) (I' := I) (J' := J) (G' := G) rfl ?_
  exact loop (2 ^ P) 0 _ _ _ _ (by omega) rfl rfl rfl rfl
set_option maxRecDepth 20000 in
theorem m_reg_2 {I : II} {J : JJ} {G : II} {P : Nat} (hP : G 5 0 = nI P) (hP5 : P ≤ 5) {n0 : Nat} (hn0 : n0 ≤ 300) : AMet SM mX7_register [.ref 0, .int (nI n0), .int (nI 2)] I J G (PE (some (.int (nI (orS (fun σ => decide (sumS (fun s => G 11 (8 + s)) σ P = nI n0)) (2 ^ P))))) I J G) := by
  refine amet_en oX7_register rfl rfl (L := [some (.ref 0), some (.int (nI n0)), some (.int (nI 2)), none, none, none, none, none, none]) rfl ?_
  have hp32 : 2 ^ P ≤ 32 := Nat.pow_le_pow_right (by decide) hP5
  have hp1 : 0 < 2 ^ P := Nat.pow_pos (by decide)
  have inner : ∀ (σ : Nat) (y m a b : Int32), σ < 32 → y = nI σ → (AW SM mX7_register 98 [some (.ref 0), some (.int (nI n0)), some (.int (nI 2)), some (.int m), some (.int a), some (.int b), some (.int y), some (.int (sumS (fun s => G 11 (8 + s)) σ P)), none] [] I J G (PE (some (.int (nI (orS (fun σ => decide (sumS (fun s => G 11 (8 + s)) σ P = nI n0)) (2 ^ P))))) I J G)) → ∀ (n s : Nat) (x q : Int32), (s + n = P) → (x = nI s) → (q = sumS (fun s => G 11 (8 + s)) σ s) → AW SM mX7_register 51 [some (.ref 0), some (.int (nI n0)), some (.int (nI 2)), some (.int m), some (.int a), some (.int b), some (.int y), some (.int q), some (.int x)] [] I J G (PE (some (.int (nI (orS (fun σ => decide (sumS (fun s => G 11 (8 + s)) σ P = nI n0)) (2 ^ P))))) I J G) := by
    intro σ y m a b hσ hy K9 n
    induction n with
    | zero =>
      intro s x q hsn hx hq
      refine aw_run oX7_register smOk 4 (pc' := 58) (L' := [some (.ref 0), some (.int (nI n0)), some (.int (nI 2)), some (.int m), some (.int a), some (.int b), some (.int y), some (.int q), some (.int x)]) (st' := [.int (nI 0), .ref 5, .int x]) (I' := I) (J' := J) (G' := G) rfl ?_
      refine aw_iaN 0 smOk rfl rfl (by omega) (oX7_register.dec rfl) ?_
      refine aw_geN hx hP (by omega) (by omega) (oX7_register.dec rfl) (tgt := 98) rfl (fun h59 => ?_) (fun h59 => absurd h59 (by omega))
      refine aw_forget1 8 (L' := [some (.ref 0), some (.int (nI n0)), some (.int (nI 2)), some (.int m), some (.int a), some (.int b), some (.int y), some (.int q), none]) rfl ?_
      rw [hq, show s = P by omega]
      exact K9
    | succ n ih =>
      intro s x q hsn hx hq
      refine aw_run oX7_register smOk 4 (pc' := 58) (L' := [some (.ref 0), some (.int (nI n0)), some (.int (nI 2)), some (.int m), some (.int a), some (.int b), some (.int y), some (.int q), some (.int x)]) (st' := [.int (nI 0), .ref 5, .int x]) (I' := I) (J' := J) (G' := G) rfl ?_
      refine aw_iaN 0 smOk rfl rfl (by omega) (oX7_register.dec rfl) ?_
      refine aw_geN hx hP (by omega) (by omega) (oX7_register.dec rfl) (tgt := 98) rfl (fun h59 => absurd h59 (by omega)) (fun h59 => ?_)
      refine aw_run oX7_register smOk 7 (pc' := 72) (L' := [some (.ref 0), some (.int (nI n0)), some (.int (nI 2)), some (.int m), some (.int a), some (.int b), some (.int y), some (.int q), some (.int x)]) (st' := [.int (nI 1), .int ((y >>> (x &&& 31)) &&& (nI 1)), .int q]) (I' := I) (J' := J) (G' := G) rfl ?_
      refine aw_neN (bitNI hy hx (by omega) (by omega)) rfl (bitN_b _ _) (by omega) (oX7_register.dec rfl) (tgt := 88) rfl (fun h72 => ?_) (fun h72 => ?_)
      · refine aw_run oX7_register smOk 5 (pc' := 51) (L' := [some (.ref 0), some (.int (nI n0)), some (.int (nI 2)), some (.int m), some (.int a), some (.int b), some (.int y), some (.int (q + (nI 0))), some (.int (x + (nI 1)))]) (st' := []) (I' := I) (J' := J) (G' := G) rfl ?_
        exact ih (s + 1) _ _ (by omega) (addN hx rfl) (by rw [hq, show ∀ z : Int32, z + nI 0 = z from fun z => Int32.add_zero z]; exact sumC_f (q := fun j => σ.testBit j) (by rw [bitN_n1 h72]; decide))
      · refine aw_run oX7_register smOk 5 (pc' := 84) (L' := [some (.ref 0), some (.int (nI n0)), some (.int (nI 2)), some (.int m), some (.int a), some (.int b), some (.int y), some (.int q), some (.int x)]) (st' := [.int ((nI 8) + x), .ref 11, .int q]) (I' := I) (J' := J) (G' := G) rfl ?_
        refine aw_iaN (8 + s) smOk rfl (addN rfl hx) (by omega) (oX7_register.dec rfl) ?_
        refine aw_run oX7_register smOk 5 (pc' := 51) (L' := [some (.ref 0), some (.int (nI n0)), some (.int (nI 2)), some (.int m), some (.int a), some (.int b), some (.int y), some (.int (q + (G 11 (8 + s)))), some (.int (x + (nI 1)))]) (st' := []) (I' := I) (J' := J) (G' := G) rfl ?_
        exact ih (s + 1) _ _ (by omega) (addN hx rfl) (by rw [hq]; exact sumC_t (x := fun s => G 11 (8 + s)) (q := fun j => σ.testBit j) (bitN_1 h72))
  have loop : ∀ (n σ : Nat) (y m a b : Int32), (σ + n = 2 ^ P) → (y = nI σ) → (m = nI (cntB (fun σ => decide (sumS (fun s => G 11 (8 + s)) σ P = nI n0)) σ)) → (a = nI (andA (fun σ => decide (sumS (fun s => G 11 (8 + s)) σ P = nI n0)) (2 ^ P - 1) σ)) → (b = nI (orS (fun σ => decide (sumS (fun s => G 11 (8 + s)) σ P = nI n0)) σ)) → AW SM mX7_register 36 [some (.ref 0), some (.int (nI n0)), some (.int (nI 2)), some (.int m), some (.int a), some (.int b), some (.int y), none, none] [] I J G (PE (some (.int (nI (orS (fun σ => decide (sumS (fun s => G 11 (8 + s)) σ P = nI n0)) (2 ^ P))))) I J G) := by
    intro n
    induction n with
    | zero =>
      intro σ y m a b hσn hy hm ha hb
      have hcl := cntB_le (fun σ => decide (sumS (fun s => G 11 (8 + s)) σ P = nI n0)) σ
      refine aw_run oX7_register smOk 2 (pc' := 39) (L' := [some (.ref 0), some (.int (nI n0)), some (.int (nI 2)), some (.int m), some (.int a), some (.int b), some (.int y), none, none]) (st' := [.ref 0, .int y]) (I' := I) (J' := J) (G' := G) rfl ?_
      refine aw_cV (st := [.int y]) 0 [] oX7_all k7_138 rfl rfl rfl rfl rfl rfl rfl rfl (oX7_register.dec rfl) (m_all hP (by omega)) ?_
      refine aw_eqS (st := [.int (nI (2 ^ P - 1)), .int y]) rfl ?_
      refine aw_gtN hy rfl (by omega) (by omega) (oX7_register.dec rfl) (tgt := 127) rfl (fun h42 => ?_) (fun h42 => absurd h42 (by omega))
      refine aw_run oX7_register smOk 1 (pc' := 128) (L' := [some (.ref 0), some (.int (nI n0)), some (.int (nI 2)), some (.int m), some (.int a), some (.int b), some (.int y), none, none]) (st' := [.int (nI 2)]) (I' := I) (J' := J) (G' := G) rfl ?_
      refine aw_0neN rfl (by omega) (oX7_register.dec rfl) (tgt := 135) rfl (fun h128 => ?_) (fun h128 => absurd h128 (by omega))
      refine aw_run oX7_register smOk 2 (pc' := 137) (L' := [some (.ref 0), some (.int (nI n0)), some (.int (nI 2)), some (.int m), some (.int a), some (.int b), some (.int y), none, none]) (st' := [.int (nI 2), .int (nI 2)]) (I' := I) (J' := J) (G' := G) rfl ?_
      refine aw_neN rfl rfl (by omega) (by omega) (oX7_register.dec rfl) (tgt := 145) rfl (fun h137 => absurd h137 (by omega)) (fun h137 => ?_)
      refine aw_run oX7_register smOk 2 (pc' := 156) (L' := [some (.ref 0), some (.int (nI n0)), some (.int (nI 2)), some (.int m), some (.int a), some (.int b), some (.int y), none, none]) (st' := [.int b]) (I' := I) (J' := J) (G' := G) rfl ?_
      exact aw_iret rfl (oX7_register.dec rfl) (pe_i (by rw [hb, show σ = 2 ^ P by omega]))
    | succ n ih =>
      intro σ y m a b hσn hy hm ha hb
      have hcl := cntB_le (fun σ => decide (sumS (fun s => G 11 (8 + s)) σ P = nI n0)) σ
      have K9 : AW SM mX7_register 98 [some (.ref 0), some (.int (nI n0)), some (.int (nI 2)), some (.int m), some (.int a), some (.int b), some (.int y), some (.int (sumS (fun s => G 11 (8 + s)) σ P)), none] [] I J G (PE (some (.int (nI (orS (fun σ => decide (sumS (fun s => G 11 (8 + s)) σ P = nI n0)) (2 ^ P))))) I J G) := by
        refine aw_run oX7_register smOk 2 (pc' := 101) (L' := [some (.ref 0), some (.int (nI n0)), some (.int (nI 2)), some (.int m), some (.int a), some (.int b), some (.int y), some (.int (sumS (fun s => G 11 (8 + s)) σ P)), none]) (st' := [.int (nI n0), .int (sumS (fun s => G 11 (8 + s)) σ P)]) (I' := I) (J' := J) (G' := G) rfl ?_
        refine aw_icmp_ne (oX7_register.dec rfl) (tgt := 121) rfl (fun h101 => ?_) (fun h101 => ?_)
        · refine aw_run oX7_register smOk 2 (pc' := 36) (L' := [some (.ref 0), some (.int (nI n0)), some (.int (nI 2)), some (.int m), some (.int a), some (.int b), some (.int (y + (nI 1))), some (.int (sumS (fun s => G 11 (8 + s)) σ P)), none]) (st' := []) (I' := I) (J' := J) (G' := G) rfl ?_
          refine aw_forget1 7 (L' := [some (.ref 0), some (.int (nI n0)), some (.int (nI 2)), some (.int m), some (.int a), some (.int b), some (.int (y + (nI 1))), none, none]) rfl ?_
          exact ih (σ + 1) _ _ _ _ (by omega) (addN hy rfl) (by rw [cntB_f (by simpa using h101)]; exact hm) (by rw [andA_f (by simpa using h101)]; exact ha) (by rw [orS_f (by simpa using h101)]; exact hb)
        · refine aw_run oX7_register smOk 11 (pc' := 36) (L' := [some (.ref 0), some (.int (nI n0)), some (.int (nI 2)), some (.int (m + (nI 1))), some (.int (a &&& y)), some (.int (b ||| y)), some (.int (y + (nI 1))), some (.int (sumS (fun s => G 11 (8 + s)) σ P)), none]) (st' := []) (I' := I) (J' := J) (G' := G) rfl ?_
          refine aw_forget1 7 (L' := [some (.ref 0), some (.int (nI n0)), some (.int (nI 2)), some (.int (m + (nI 1))), some (.int (a &&& y)), some (.int (b ||| y)), some (.int (y + (nI 1))), none, none]) rfl ?_
          exact ih (σ + 1) _ _ _ _ (by omega) (addN hy rfl) (by rw [cntB_t (by simpa using h101)]; exact addN hm rfl) (by rw [andA_t (by simpa using h101)]; exact andN ha hy) (by rw [orS_t (by simpa using h101)]; exact orN hb hy)
      refine aw_run oX7_register smOk 2 (pc' := 39) (L' := [some (.ref 0), some (.int (nI n0)), some (.int (nI 2)), some (.int m), some (.int a), some (.int b), some (.int y), none, none]) (st' := [.ref 0, .int y]) (I' := I) (J' := J) (G' := G) rfl ?_
      refine aw_cV (st := [.int y]) 0 [] oX7_all k7_138 rfl rfl rfl rfl rfl rfl rfl rfl (oX7_register.dec rfl) (m_all hP (by omega)) ?_
      refine aw_eqS (st := [.int (nI (2 ^ P - 1)), .int y]) rfl ?_
      refine aw_gtN hy rfl (by omega) (by omega) (oX7_register.dec rfl) (tgt := 127) rfl (fun h42 => absurd h42 (by omega)) (fun h42 => ?_)
      refine aw_run oX7_register smOk 4 (pc' := 51) (L' := [some (.ref 0), some (.int (nI n0)), some (.int (nI 2)), some (.int m), some (.int a), some (.int b), some (.int y), some (.int (nI 0)), some (.int (nI 0))]) (st' := []) (I' := I) (J' := J) (G' := G) rfl ?_
      exact inner σ _ _ _ _ (by omega) hy K9 P 0 _ _ (by omega) rfl rfl
  refine aw_run oX7_register smOk 3 (pc' := 5) (L' := [some (.ref 0), some (.int (nI n0)), some (.int (nI 2)), none, none, none, none, none, none]) (st' := [.int (nI 300), .int (nI 0), .int (nI n0)]) (I' := I) (J' := J) (G' := G) rfl ?_
  refine aw_cS (st := []) [.int (nI n0), .int (nI 0), .int (nI 300)] oX7_in k7_60 rfl rfl rfl rfl rfl (oX7_register.dec rfl) (m_inN (by omega) (by omega) (by omega)) ?_
  refine aw_eqS (st := [.int (b1 (decide (0 ≤ n0 ∧ n0 ≤ 300)))]) rfl ?_
  refine aw_0eqD (oX7_register.dec rfl) (tgt := 20) rfl (fun h8 => absurd h8 (by omega)) (fun h8 => ?_)
  refine aw_run oX7_register smOk 3 (pc' := 14) (L' := [some (.ref 0), some (.int (nI n0)), some (.int (nI 2)), none, none, none, none, none, none]) (st' := [.int (nI 2), .int (nI 0), .int (nI 2)]) (I' := I) (J' := J) (G' := G) rfl ?_
  refine aw_cS (st := []) [.int (nI 2), .int (nI 0), .int (nI 2)] oX7_in k7_60 rfl rfl rfl rfl rfl (oX7_register.dec rfl) (m_inN (by omega) (by omega) (by omega)) ?_
  refine aw_eqS (st := [.int (b1 (decide (0 ≤ 2 ∧ 2 ≤ 2)))]) rfl ?_
  refine aw_0neD (oX7_register.dec rfl) (tgt := 22) rfl (fun h17 => ?_) (fun h17 => absurd h17 (by omega))
  refine aw_run oX7_register smOk 3 (pc' := 25) (L' := [some (.ref 0), some (.int (nI n0)), some (.int (nI 2)), some (.int (nI 0)), none, none, none, none, none]) (st' := [.ref 0]) (I' := I) (J' := J) (G' := G) rfl ?_
  refine aw_cV (st := []) 0 [] oX7_all k7_138 rfl rfl rfl rfl rfl rfl rfl rfl (oX7_register.dec rfl) (m_all hP (by omega)) ?_
  refine aw_eqS (st := [.int (nI (2 ^ P - 1))]) rfl ?_
  refine aw_run oX7_register smOk 5 (pc' := 36) (L' := [some (.ref 0), some (.int (nI n0)), some (.int (nI 2)), some (.int (nI 0)), some (.int (nI (2 ^ P - 1))), some (.int (nI 0)), some (.int (nI 0)), none, none]) (st' := []) (I' := I) (J' := J) (G' := G) rfl ?_
  exact loop (2 ^ P) 0 _ _ _ _ (by omega) rfl rfl rfl rfl
