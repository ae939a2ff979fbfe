set_option maxRecDepth 20000 in
theorem m_throws_bad {I : II} {J : JJ} {G : II} {P : Nat} (hP : G 5 0 = nI P) (hP5 : P ≤ 5) {x y : Int32} (hx : notIn x P) : AMet SM mX7_throwsOff [.ref 0, .int x, .int y] I J G (PE (some (.int (-nI 1))) I J G) := by
  refine amet_en oX7_throwsOff rfl rfl (L := [some (.ref 0), some (.int x), some (.int y), none]) rfl ?_
  refine aw_run oX7_throwsOff smOk 2 (pc' := 2) (L' := [some (.ref 0), some (.int x), some (.int y), none]) (st' := [.int x, .ref 0]) (I' := I) (J' := J) (G' := G) rfl ?_
  refine aw_cV (st := []) 0 [.int x] oX7_isShip k7_117 rfl rfl rfl rfl rfl rfl rfl rfl (oX7_throwsOff.dec rfl) (m_isShip_f hP (by omega) (by assumption)) ?_
  refine aw_eqS (st := [.int (nI 0)]) rfl ?_
  refine aw_0eqN rfl (by omega) (oX7_throwsOff.dec rfl) (tgt := 18) rfl (fun h5 => ?_) (fun h5 => absurd h5 (by omega))
  refine aw_run oX7_throwsOff smOk 1 (pc' := 19) (L' := [some (.ref 0), some (.int x), some (.int y), none]) (st' := [.int (-nI 1)]) (I' := I) (J' := J) (G' := G) rfl ?_
  exact aw_iret rfl (oX7_throwsOff.dec rfl) pe_rfl
set_option maxRecDepth 20000 in
theorem m_throws_bad0 {I : II} {J : JJ} {G : II} {P : Nat} (hP : G 5 0 = nI P) (hP5 : P ≤ 5) {s : Nat} (hs : s < P) : AMet SM mX7_throwsOff [.ref 0, .int (nI s), .int (nI 0)] I J G (PE (some (.int (-nI 1))) I J G) := by
  refine amet_en oX7_throwsOff rfl rfl (L := [some (.ref 0), some (.int (nI s)), some (.int (nI 0)), none]) rfl ?_
  refine aw_run oX7_throwsOff smOk 2 (pc' := 2) (L' := [some (.ref 0), some (.int (nI s)), some (.int (nI 0)), none]) (st' := [.int (nI s), .ref 0]) (I' := I) (J' := J) (G' := G) rfl ?_
  refine aw_cV (st := []) 0 [.int (nI s)] oX7_isShip k7_117 rfl rfl rfl rfl rfl rfl rfl rfl (oX7_throwsOff.dec rfl) (m_isShip_t hP (by omega) (by omega)) ?_
  refine aw_eqS (st := [.int (nI 1)]) rfl ?_
  refine aw_0eqN rfl (by omega) (oX7_throwsOff.dec rfl) (tgt := 18) rfl (fun h5 => absurd h5 (by omega)) (fun h5 => ?_)
  refine aw_run oX7_throwsOff smOk 3 (pc' := 12) (L' := [some (.ref 0), some (.int (nI s)), some (.int (nI 0)), none]) (st' := [.int (nI 99), .int (nI 1), .int (nI 0)]) (I' := I) (J' := J) (G' := G) rfl ?_
  refine aw_cS (st := []) [.int (nI 0), .int (nI 1), .int (nI 99)] oX7_in k7_60 rfl rfl rfl rfl rfl (oX7_throwsOff.dec rfl) (m_inN (by omega) (by omega) (by omega)) ?_
  refine aw_eqS (st := [.int (b1 (decide (1 ≤ 0 ∧ 0 ≤ 99)))]) rfl ?_
  refine aw_0neD (oX7_throwsOff.dec rfl) (tgt := 20) rfl (fun h15 => absurd h15 (by omega)) (fun h15 => ?_)
  refine aw_run oX7_throwsOff smOk 1 (pc' := 19) (L' := [some (.ref 0), some (.int (nI s)), some (.int (nI 0)), none]) (st' := [.int (-nI 1)]) (I' := I) (J' := J) (G' := G) rfl ?_
  exact aw_iret rfl (oX7_throwsOff.dec rfl) pe_rfl
set_option maxRecDepth 20000 in
theorem m_throws_bad2 {I : II} {J : JJ} {G : II} {P : Nat} (hP : G 5 0 = nI P) (hP5 : P ≤ 5) {s : Nat} {x : Int32} (hs : s < P) (hx : notIn x 100) : AMet SM mX7_throwsOff [.ref 0, .int (nI s), .int x] I J G (PE (some (.int (-nI 1))) I J G) := by
  refine amet_en oX7_throwsOff rfl rfl (L := [some (.ref 0), some (.int (nI s)), some (.int x), none]) rfl ?_
  refine aw_run oX7_throwsOff smOk 2 (pc' := 2) (L' := [some (.ref 0), some (.int (nI s)), some (.int x), none]) (st' := [.int (nI s), .ref 0]) (I' := I) (J' := J) (G' := G) rfl ?_
  refine aw_cV (st := []) 0 [.int (nI s)] oX7_isShip k7_117 rfl rfl rfl rfl rfl rfl rfl rfl (oX7_throwsOff.dec rfl) (m_isShip_t hP (by omega) (by omega)) ?_
  refine aw_eqS (st := [.int (nI 1)]) rfl ?_
  refine aw_0eqN rfl (by omega) (oX7_throwsOff.dec rfl) (tgt := 18) rfl (fun h5 => absurd h5 (by omega)) (fun h5 => ?_)
  refine aw_run oX7_throwsOff smOk 3 (pc' := 12) (L' := [some (.ref 0), some (.int (nI s)), some (.int x), none]) (st' := [.int (nI 99), .int (nI 1), .int x]) (I' := I) (J' := J) (G' := G) rfl ?_
  refine aw_cS (st := []) [.int x, .int (nI 1), .int (nI 99)] oX7_in k7_60 rfl rfl rfl rfl rfl (oX7_throwsOff.dec rfl) (m_inF (notIn_in1 hx (by decide) (by decide))) ?_
  refine aw_eqS (st := [.int (nI 0)]) rfl ?_
  refine aw_0neN rfl (by omega) (oX7_throwsOff.dec rfl) (tgt := 20) rfl (fun h15 => absurd h15 (by omega)) (fun h15 => ?_)
  refine aw_run oX7_throwsOff smOk 1 (pc' := 19) (L' := [some (.ref 0), some (.int (nI s)), some (.int x), none]) (st' := [.int (-nI 1)]) (I' := I) (J' := J) (G' := G) rfl ?_
  exact aw_iret rfl (oX7_throwsOff.dec rfl) pe_rfl
set_option maxRecDepth 20000 in
theorem m_throws_port {I : II} {J : JJ} {G : II} {P : Nat} (hP : G 5 0 = nI P) (hP5 : P ≤ 5) {s k : Nat} (hs : s < P) (hk1 : 1 ≤ k) (hk : k ≤ 99) (hp : ¬ G 11 (3 + s) = nI 0) : AMet SM mX7_throwsOff [.ref 0, .int (nI s), .int (nI k)] I J G (PE (some (.int (-nI 2))) I J G) := by
  refine amet_en oX7_throwsOff rfl rfl (L := [some (.ref 0), some (.int (nI s)), some (.int (nI k)), none]) rfl ?_
  refine aw_run oX7_throwsOff smOk 2 (pc' := 2) (L' := [some (.ref 0), some (.int (nI s)), some (.int (nI k)), none]) (st' := [.int (nI s), .ref 0]) (I' := I) (J' := J) (G' := G) rfl ?_
  refine aw_cV (st := []) 0 [.int (nI s)] oX7_isShip k7_117 rfl rfl rfl rfl rfl rfl rfl rfl (oX7_throwsOff.dec rfl) (m_isShip_t hP (by omega) (by omega)) ?_
  refine aw_eqS (st := [.int (nI 1)]) rfl ?_
  refine aw_0eqN rfl (by omega) (oX7_throwsOff.dec rfl) (tgt := 18) rfl (fun h5 => absurd h5 (by omega)) (fun h5 => ?_)
  refine aw_run oX7_throwsOff smOk 3 (pc' := 12) (L' := [some (.ref 0), some (.int (nI s)), some (.int (nI k)), none]) (st' := [.int (nI 99), .int (nI 1), .int (nI k)]) (I' := I) (J' := J) (G' := G) rfl ?_
  refine aw_cS (st := []) [.int (nI k), .int (nI 1), .int (nI 99)] oX7_in k7_60 rfl rfl rfl rfl rfl (oX7_throwsOff.dec rfl) (m_inN (by omega) (by omega) (by omega)) ?_
  refine aw_eqS (st := [.int (b1 (decide (1 ≤ k ∧ k ≤ 99)))]) rfl ?_
  refine aw_0neD (oX7_throwsOff.dec rfl) (tgt := 20) rfl (fun h15 => ?_) (fun h15 => absurd h15 (by omega))
  refine aw_run oX7_throwsOff smOk 5 (pc' := 27) (L' := [some (.ref 0), some (.int (nI s)), some (.int (nI k)), none]) (st' := [.int ((nI 3) + (nI s)), .ref 11]) (I' := I) (J' := J) (G' := G) rfl ?_
  refine aw_iaN (3 + s) smOk rfl (addN rfl rfl) (by omega) (oX7_throwsOff.dec rfl) ?_
  refine aw_if_ne (oX7_throwsOff.dec rfl) (tgt := 40) rfl (fun h28 => ?_) (fun h28 => by first | exact absurd h28 (by assumption) | exact absurd (by assumption) h28 | (exfalso; revert h28; decide) | simp_all)
  refine aw_run oX7_throwsOff smOk 1 (pc' := 42) (L' := [some (.ref 0), some (.int (nI s)), some (.int (nI k)), none]) (st' := [.int (-nI 2)]) (I' := I) (J' := J) (G' := G) rfl ?_
  exact aw_iret rfl (oX7_throwsOff.dec rfl) pe_rfl
set_option maxRecDepth 20000 in
theorem m_throws_few {I : II} {J : JJ} {G : II} {P : Nat} (hP : G 5 0 = nI P) (hP5 : P ≤ 5) {s k : Nat} (hs : s < P) (hk1 : 1 ≤ k) (hk : k ≤ 99) (hp : G 11 (3 + s) = nI 0) {l h : Nat} (hl : G 11 (8 + s) = nI l) (hh : G 11 (13 + s) = nI h) (hl60 : l ≤ 60) (hh60 : h ≤ 60) (hf : l + h < k) : AMet SM mX7_throwsOff [.ref 0, .int (nI s), .int (nI k)] I J G (PE (some (.int (-nI 2))) I J G) := by
  refine amet_en oX7_throwsOff rfl rfl (L := [some (.ref 0), some (.int (nI s)), some (.int (nI k)), none]) rfl ?_
  refine aw_run oX7_throwsOff smOk 2 (pc' := 2) (L' := [some (.ref 0), some (.int (nI s)), some (.int (nI k)), none]) (st' := [.int (nI s), .ref 0]) (I' := I) (J' := J) (G' := G) rfl ?_
  refine aw_cV (st := []) 0 [.int (nI s)] oX7_isShip k7_117 rfl rfl rfl rfl rfl rfl rfl rfl (oX7_throwsOff.dec rfl) (m_isShip_t hP (by omega) (by omega)) ?_
  refine aw_eqS (st := [.int (nI 1)]) rfl ?_
  refine aw_0eqN rfl (by omega) (oX7_throwsOff.dec rfl) (tgt := 18) rfl (fun h5 => absurd h5 (by omega)) (fun h5 => ?_)
  refine aw_run oX7_throwsOff smOk 3 (pc' := 12) (L' := [some (.ref 0), some (.int (nI s)), some (.int (nI k)), none]) (st' := [.int (nI 99), .int (nI 1), .int (nI k)]) (I' := I) (J' := J) (G' := G) rfl ?_
  refine aw_cS (st := []) [.int (nI k), .int (nI 1), .int (nI 99)] oX7_in k7_60 rfl rfl rfl rfl rfl (oX7_throwsOff.dec rfl) (m_inN (by omega) (by omega) (by omega)) ?_
  refine aw_eqS (st := [.int (b1 (decide (1 ≤ k ∧ k ≤ 99)))]) rfl ?_
  refine aw_0neD (oX7_throwsOff.dec rfl) (tgt := 20) rfl (fun h15 => ?_) (fun h15 => absurd h15 (by omega))
  refine aw_run oX7_throwsOff smOk 5 (pc' := 27) (L' := [some (.ref 0), some (.int (nI s)), some (.int (nI k)), none]) (st' := [.int ((nI 3) + (nI s)), .ref 11]) (I' := I) (J' := J) (G' := G) rfl ?_
  refine aw_iaN (3 + s) smOk rfl (addN rfl rfl) (by omega) (oX7_throwsOff.dec rfl) ?_
  refine aw_if_ne (oX7_throwsOff.dec rfl) (tgt := 40) rfl (fun h28 => by first | exact absurd h28 (by assumption) | exact absurd (by assumption) h28 | (exfalso; revert h28; decide) | simp_all) (fun h28 => ?_)
  refine aw_run oX7_throwsOff smOk 2 (pc' := 33) (L' := [some (.ref 0), some (.int (nI s)), some (.int (nI k)), none]) (st' := [.int (nI s), .ref 0]) (I' := I) (J' := J) (G' := G) rfl ?_
  refine aw_cV (st := []) 0 [.int (nI s)] oX7_silver k7_110 rfl rfl rfl rfl rfl rfl rfl rfl (oX7_throwsOff.dec rfl) (m_silver (by omega)) ?_
  refine aw_eqS (st := [.int (sil (G 11) s)]) rfl ?_
  refine aw_run oX7_throwsOff smOk 1 (pc' := 37) (L' := [some (.ref 0), some (.int (nI s)), some (.int (nI k)), none]) (st' := [.int (nI k), .int (sil (G 11) s)]) (I' := I) (J' := J) (G' := G) rfl ?_
  refine aw_geN (addN hl hh) rfl (by omega) (by omega) (oX7_throwsOff.dec rfl) (tgt := 43) rfl (fun h37 => absurd h37 (by omega)) (fun h37 => ?_)
  refine aw_run oX7_throwsOff smOk 1 (pc' := 42) (L' := [some (.ref 0), some (.int (nI s)), some (.int (nI k)), none]) (st' := [.int (-nI 2)]) (I' := I) (J' := J) (G' := G) rfl ?_
  exact aw_iret rfl (oX7_throwsOff.dec rfl) pe_rfl
set_option maxRecDepth 20000 in
theorem m_throws_ok1 {I : II} {J : JJ} {G : II} {P : Nat} (hP : G 5 0 = nI P) (hP5 : P ≤ 5) {s k : Nat} (hs : s < P) (hk1 : 1 ≤ k) (hk : k ≤ 99) {K : Nat} (hK : G 11 18 = nI K) (hK10 : K ≤ 10) (hp : G 11 (3 + s) = nI 0) {l h : Nat} (hl : G 11 (8 + s) = nI l) (hh : G 11 (13 + s) = nI h) (hl60 : l ≤ 60) (hh60 : h ≤ 60) (hf : k ≤ l + h) (hq : k < h) : AMet SM mX7_throwsOff [.ref 0, .int (nI s), .int (nI k)] I J G (PE (some (.int (sil (upd (upd (knF (G 11) K) (13 + s) (((knF (G 11) K) (13 + s)) - (nI k))) (8 + s) (((upd (knF (G 11) K) (13 + s) (((knF (G 11) K) (13 + s)) - (nI k))) (8 + s)) - ((nI k) - (nI k)))) s))) I J (va_up G 11 (upd (upd (knF (G 11) K) (13 + s) (((knF (G 11) K) (13 + s)) - (nI k))) (8 + s) (((upd (knF (G 11) K) (13 + s) (((knF (G 11) K) (13 + s)) - (nI k))) (8 + s)) - ((nI k) - (nI k)))))) := by
  have k8 : knF (G 11) K (8 + s) = nI l := (knF_lo (by omega)).trans hl
  have k13 : knF (G 11) K (13 + s) = nI h := (knF_lo (by omega)).trans hh
  refine amet_en oX7_throwsOff rfl rfl (L := [some (.ref 0), some (.int (nI s)), some (.int (nI k)), none]) rfl ?_
  refine aw_run oX7_throwsOff smOk 2 (pc' := 2) (L' := [some (.ref 0), some (.int (nI s)), some (.int (nI k)), none]) (st' := [.int (nI s), .ref 0]) (I' := I) (J' := J) (G' := G) rfl ?_
  refine aw_cV (st := []) 0 [.int (nI s)] oX7_isShip k7_117 rfl rfl rfl rfl rfl rfl rfl rfl (oX7_throwsOff.dec rfl) (m_isShip_t hP (by omega) (by omega)) ?_
  refine aw_eqS (st := [.int (nI 1)]) rfl ?_
  refine aw_0eqN rfl (by omega) (oX7_throwsOff.dec rfl) (tgt := 18) rfl (fun h5 => absurd h5 (by omega)) (fun h5 => ?_)
  refine aw_run oX7_throwsOff smOk 3 (pc' := 12) (L' := [some (.ref 0), some (.int (nI s)), some (.int (nI k)), none]) (st' := [.int (nI 99), .int (nI 1), .int (nI k)]) (I' := I) (J' := J) (G' := G) rfl ?_
  refine aw_cS (st := []) [.int (nI k), .int (nI 1), .int (nI 99)] oX7_in k7_60 rfl rfl rfl rfl rfl (oX7_throwsOff.dec rfl) (m_inN (by omega) (by omega) (by omega)) ?_
  refine aw_eqS (st := [.int (b1 (decide (1 ≤ k ∧ k ≤ 99)))]) rfl ?_
  refine aw_0neD (oX7_throwsOff.dec rfl) (tgt := 20) rfl (fun h15 => ?_) (fun h15 => absurd h15 (by omega))
  refine aw_run oX7_throwsOff smOk 5 (pc' := 27) (L' := [some (.ref 0), some (.int (nI s)), some (.int (nI k)), none]) (st' := [.int ((nI 3) + (nI s)), .ref 11]) (I' := I) (J' := J) (G' := G) rfl ?_
  refine aw_iaN (3 + s) smOk rfl (addN rfl rfl) (by omega) (oX7_throwsOff.dec rfl) ?_
  refine aw_if_ne (oX7_throwsOff.dec rfl) (tgt := 40) rfl (fun h28 => by first | exact absurd h28 (by assumption) | exact absurd (by assumption) h28 | (exfalso; revert h28; decide) | simp_all) (fun h28 => ?_)
  refine aw_run oX7_throwsOff smOk 2 (pc' := 33) (L' := [some (.ref 0), some (.int (nI s)), some (.int (nI k)), none]) (st' := [.int (nI s), .ref 0]) (I' := I) (J' := J) (G' := G) rfl ?_
  refine aw_cV (st := []) 0 [.int (nI s)] oX7_silver k7_110 rfl rfl rfl rfl rfl rfl rfl rfl (oX7_throwsOff.dec rfl) (m_silver (by omega)) ?_
  refine aw_eqS (st := [.int (sil (G 11) s)]) rfl ?_
  refine aw_run oX7_throwsOff smOk 1 (pc' := 37) (L' := [some (.ref 0), some (.int (nI s)), some (.int (nI k)), none]) (st' := [.int (nI k), .int (sil (G 11) s)]) (I' := I) (J' := J) (G' := G) rfl ?_
  refine aw_geN (addN hl hh) rfl (by omega) (by omega) (oX7_throwsOff.dec rfl) (tgt := 43) rfl (fun h37 => ?_) (fun h37 => absurd h37 (by omega))
  refine aw_run oX7_throwsOff smOk 1 (pc' := 44) (L' := [some (.ref 0), some (.int (nI s)), some (.int (nI k)), none]) (st' := [.ref 0]) (I' := I) (J' := J) (G' := G) rfl ?_
  refine aw_cV (st := []) 0 [] oX7_know k7_124 rfl rfl rfl rfl rfl rfl rfl rfl (oX7_throwsOff.dec rfl) (m_know hK (by omega)) ?_
  refine aw_eqG (G' := va_up G 11 (knF (G 11) K)) (rfl) ?_
  refine aw_eqS (st := []) rfl ?_
  refine aw_run oX7_throwsOff smOk 6 (pc' := 56) (L' := [some (.ref 0), some (.int (nI s)), some (.int (nI k)), none]) (st' := [.int ((nI 13) + (nI s)), .ref 11, .int (nI k)]) (I' := I) (J' := J) (G' := va_up G 11 (knF (G 11) K)) rfl ?_
  refine aw_iaN (13 + s) smOk rfl (addN rfl rfl) (by omega) (oX7_throwsOff.dec rfl) ?_
  refine aw_eqS (st := [.int ((knF (G 11) K) (13 + s)), .int (nI k)]) rfl ?_
  refine aw_geN rfl k13 (by omega) (by omega) (oX7_throwsOff.dec rfl) (tgt := 64) rfl (fun h57 => absurd h57 (by omega)) (fun h57 => ?_)
  refine aw_run oX7_throwsOff smOk 9 (pc' := 83) (L' := [some (.ref 0), some (.int (nI s)), some (.int (nI k)), some (.int (nI k))]) (st' := [.int ((nI 13) + (nI s)), .ref 11, .int ((nI 13) + (nI s)), .ref 11]) (I' := I) (J' := J) (G' := va_up G 11 (knF (G 11) K)) rfl ?_
  refine aw_iaN (13 + s) smOk rfl (addN rfl rfl) (by omega) (oX7_throwsOff.dec rfl) ?_
  refine aw_eqS (st := [.int ((knF (G 11) K) (13 + s)), .int ((nI 13) + (nI s)), .ref 11]) rfl ?_
  refine aw_run oX7_throwsOff smOk 2 (pc' := 86) (L' := [some (.ref 0), some (.int (nI s)), some (.int (nI k)), some (.int (nI k))]) (st' := [.int (((knF (G 11) K) (13 + s)) - (nI k)), .int ((nI 13) + (nI s)), .ref 11]) (I' := I) (J' := J) (G' := va_up G 11 (knF (G 11) K)) rfl ?_
  refine aw_isN (13 + s) smOk rfl (addN rfl rfl) (by omega) (oX7_throwsOff.dec rfl) ?_
  refine aw_eqG (G' := va_up G 11 (upd (knF (G 11) K) (13 + s) (((knF (G 11) K) (13 + s)) - (nI k)))) (bx_uu _ _ _ _) ?_
  refine aw_run oX7_throwsOff smOk 6 (pc' := 96) (L' := [some (.ref 0), some (.int (nI s)), some (.int (nI k)), some (.int (nI k))]) (st' := [.int ((nI 8) + (nI s)), .ref 11, .int ((nI 8) + (nI s)), .ref 11]) (I' := I) (J' := J) (G' := va_up G 11 (upd (knF (G 11) K) (13 + s) (((knF (G 11) K) (13 + s)) - (nI k)))) rfl ?_
  refine aw_iaN (8 + s) smOk rfl (addN rfl rfl) (by omega) (oX7_throwsOff.dec rfl) ?_
  refine aw_eqS (st := [.int ((upd (knF (G 11) K) (13 + s) (((knF (G 11) K) (13 + s)) - (nI k))) (8 + s)), .int ((nI 8) + (nI s)), .ref 11]) rfl ?_
  refine aw_run oX7_throwsOff smOk 4 (pc' := 101) (L' := [some (.ref 0), some (.int (nI s)), some (.int (nI k)), some (.int (nI k))]) (st' := [.int (((upd (knF (G 11) K) (13 + s) (((knF (G 11) K) (13 + s)) - (nI k))) (8 + s)) - ((nI k) - (nI k))), .int ((nI 8) + (nI s)), .ref 11]) (I' := I) (J' := J) (G' := va_up G 11 (upd (knF (G 11) K) (13 + s) (((knF (G 11) K) (13 + s)) - (nI k)))) rfl ?_
  refine aw_isN (8 + s) smOk rfl (addN rfl rfl) (by omega) (oX7_throwsOff.dec rfl) ?_
  refine aw_eqG (G' := va_up G 11 (upd (upd (knF (G 11) K) (13 + s) (((knF (G 11) K) (13 + s)) - (nI k))) (8 + s) (((upd (knF (G 11) K) (13 + s) (((knF (G 11) K) (13 + s)) - (nI k))) (8 + s)) - ((nI k) - (nI k))))) (bx_uu _ _ _ _) ?_
  refine aw_run oX7_throwsOff smOk 2 (pc' := 104) (L' := [some (.ref 0), some (.int (nI s)), some (.int (nI k)), some (.int (nI k))]) (st' := [.int (nI s), .ref 0]) (I' := I) (J' := J) (G' := va_up G 11 (upd (upd (knF (G 11) K) (13 + s) (((knF (G 11) K) (13 + s)) - (nI k))) (8 + s) (((upd (knF (G 11) K) (13 + s) (((knF (G 11) K) (13 + s)) - (nI k))) (8 + s)) - ((nI k) - (nI k))))) rfl ?_
  refine aw_cV (st := []) 0 [.int (nI s)] oX7_silver k7_110 rfl rfl rfl rfl rfl rfl rfl rfl (oX7_throwsOff.dec rfl) (m_silver (I := I) (J := J) (G := va_up G 11 (upd (upd (knF (G 11) K) (13 + s) (((knF (G 11) K) (13 + s)) - (nI k))) (8 + s) (((upd (knF (G 11) K) (13 + s) (((knF (G 11) K) (13 + s)) - (nI k))) (8 + s)) - ((nI k) - (nI k))))) (by omega)) ?_
  refine aw_eqS (st := [.int (sil (upd (upd (knF (G 11) K) (13 + s) (((knF (G 11) K) (13 + s)) - (nI k))) (8 + s) (((upd (knF (G 11) K) (13 + s) (((knF (G 11) K) (13 + s)) - (nI k))) (8 + s)) - ((nI k) - (nI k)))) s)]) rfl ?_
  exact aw_iret rfl (oX7_throwsOff.dec rfl) pe_rfl
set_option maxRecDepth 20000 in
theorem m_throws_ok2 {I : II} {J : JJ} {G : II} {P : Nat} (hP : G 5 0 = nI P) (hP5 : P ≤ 5) {s k : Nat} (hs : s < P) (hk1 : 1 ≤ k) (hk : k ≤ 99) {K : Nat} (hK : G 11 18 = nI K) (hK10 : K ≤ 10) (hp : G 11 (3 + s) = nI 0) {l h : Nat} (hl : G 11 (8 + s) = nI l) (hh : G 11 (13 + s) = nI h) (hl60 : l ≤ 60) (hh60 : h ≤ 60) (hf : k ≤ l + h) (hq : h ≤ k) : AMet SM mX7_throwsOff [.ref 0, .int (nI s), .int (nI k)] I J G (PE (some (.int (sil (upd (upd (knF (G 11) K) (13 + s) (((knF (G 11) K) (13 + s)) - ((knF (G 11) K) (13 + s)))) (8 + s) (((upd (knF (G 11) K) (13 + s) (((knF (G 11) K) (13 + s)) - ((knF (G 11) K) (13 + s)))) (8 + s)) - ((nI k) - ((knF (G 11) K) (13 + s))))) s))) I J (va_up G 11 (upd (upd (knF (G 11) K) (13 + s) (((knF (G 11) K) (13 + s)) - ((knF (G 11) K) (13 + s)))) (8 + s) (((upd (knF (G 11) K) (13 + s) (((knF (G 11) K) (13 + s)) - ((knF (G 11) K) (13 + s)))) (8 + s)) - ((nI k) - ((knF (G 11) K) (13 + s))))))) := by
  have k8 : knF (G 11) K (8 + s) = nI l := (knF_lo (by omega)).trans hl
  have k13 : knF (G 11) K (13 + s) = nI h := (knF_lo (by omega)).trans hh
  refine amet_en oX7_throwsOff rfl rfl (L := [some (.ref 0), some (.int (nI s)), some (.int (nI k)), none]) rfl ?_
  refine aw_run oX7_throwsOff smOk 2 (pc' := 2) (L' := [some (.ref 0), some (.int (nI s)), some (.int (nI k)), none]) (st' := [.int (nI s), .ref 0]) (I' := I) (J' := J) (G' := G) rfl ?_
  refine aw_cV (st := []) 0 [.int (nI s)] oX7_isShip k7_117 rfl rfl rfl rfl rfl rfl rfl rfl (oX7_throwsOff.dec rfl) (m_isShip_t hP (by omega) (by omega)) ?_
  refine aw_eqS (st := [.int (nI 1)]) rfl ?_
  refine aw_0eqN rfl (by omega) (oX7_throwsOff.dec rfl) (tgt := 18) rfl (fun h5 => absurd h5 (by omega)) (fun h5 => ?_)
  refine aw_run oX7_throwsOff smOk 3 (pc' := 12) (L' := [some (.ref 0), some (.int (nI s)), some (.int (nI k)), none]) (st' := [.int (nI 99), .int (nI 1), .int (nI k)]) (I' := I) (J' := J) (G' := G) rfl ?_
  refine aw_cS (st := []) [.int (nI k), .int (nI 1), .int (nI 99)] oX7_in k7_60 rfl rfl rfl rfl rfl (oX7_throwsOff.dec rfl) (m_inN (by omega) (by omega) (by omega)) ?_
  refine aw_eqS (st := [.int (b1 (decide (1 ≤ k ∧ k ≤ 99)))]) rfl ?_
  refine aw_0neD (oX7_throwsOff.dec rfl) (tgt := 20) rfl (fun h15 => ?_) (fun h15 => absurd h15 (by omega))
  refine aw_run oX7_throwsOff smOk 5 (pc' := 27) (L' := [some (.ref 0), some (.int (nI s)), some (.int (nI k)), none]) (st' := [.int ((nI 3) + (nI s)), .ref 11]) (I' := I) (J' := J) (G' := G) rfl ?_
  refine aw_iaN (3 + s) smOk rfl (addN rfl rfl) (by omega) (oX7_throwsOff.dec rfl) ?_
  refine aw_if_ne (oX7_throwsOff.dec rfl) (tgt := 40) rfl (fun h28 => by first | exact absurd h28 (by assumption) | exact absurd (by assumption) h28 | (exfalso; revert h28; decide) | simp_all) (fun h28 => ?_)
  refine aw_run oX7_throwsOff smOk 2 (pc' := 33) (L' := [some (.ref 0), some (.int (nI s)), some (.int (nI k)), none]) (st' := [.int (nI s), .ref 0]) (I' := I) (J' := J) (G' := G) rfl ?_
  refine aw_cV (st := []) 0 [.int (nI s)] oX7_silver k7_110 rfl rfl rfl rfl rfl rfl rfl rfl (oX7_throwsOff.dec rfl) (m_silver (by omega)) ?_
  refine aw_eqS (st := [.int (sil (G 11) s)]) rfl ?_
  refine aw_run oX7_throwsOff smOk 1 (pc' := 37) (L' := [some (.ref 0), some (.int (nI s)), some (.int (nI k)), none]) (st' := [.int (nI k), .int (sil (G 11) s)]) (I' := I) (J' := J) (G' := G) rfl ?_
  refine aw_geN (addN hl hh) rfl (by omega) (by omega) (oX7_throwsOff.dec rfl) (tgt := 43) rfl (fun h37 => ?_) (fun h37 => absurd h37 (by omega))
  refine aw_run oX7_throwsOff smOk 1 (pc' := 44) (L' := [some (.ref 0), some (.int (nI s)), some (.int (nI k)), none]) (st' := [.ref 0]) (I' := I) (J' := J) (G' := G) rfl ?_
  refine aw_cV (st := []) 0 [] oX7_know k7_124 rfl rfl rfl rfl rfl rfl rfl rfl (oX7_throwsOff.dec rfl) (m_know hK (by omega)) ?_
  refine aw_eqG (G' := va_up G 11 (knF (G 11) K)) (rfl) ?_
  refine aw_eqS (st := []) rfl ?_
  refine aw_run oX7_throwsOff smOk 6 (pc' := 56) (L' := [some (.ref 0), some (.int (nI s)), some (.int (nI k)), none]) (st' := [.int ((nI 13) + (nI s)), .ref 11, .int (nI k)]) (I' := I) (J' := J) (G' := va_up G 11 (knF (G 11) K)) rfl ?_
  refine aw_iaN (13 + s) smOk rfl (addN rfl rfl) (by omega) (oX7_throwsOff.dec rfl) ?_
  refine aw_eqS (st := [.int ((knF (G 11) K) (13 + s)), .int (nI k)]) rfl ?_
  refine aw_geN rfl k13 (by omega) (by omega) (oX7_throwsOff.dec rfl) (tgt := 64) rfl (fun h57 => ?_) (fun h57 => absurd h57 (by omega))
  refine aw_run oX7_throwsOff smOk 5 (pc' := 72) (L' := [some (.ref 0), some (.int (nI s)), some (.int (nI k)), none]) (st' := [.int ((nI 13) + (nI s)), .ref 11]) (I' := I) (J' := J) (G' := va_up G 11 (knF (G 11) K)) rfl ?_
  refine aw_iaN (13 + s) smOk rfl (addN rfl rfl) (by omega) (oX7_throwsOff.dec rfl) ?_
  refine aw_eqS (st := [.int ((knF (G 11) K) (13 + s))]) rfl ?_
  refine aw_run oX7_throwsOff smOk 7 (pc' := 83) (L' := [some (.ref 0), some (.int (nI s)), some (.int (nI k)), some (.int ((knF (G 11) K) (13 + s)))]) (st' := [.int ((nI 13) + (nI s)), .ref 11, .int ((nI 13) + (nI s)), .ref 11]) (I' := I) (J' := J) (G' := va_up G 11 (knF (G 11) K)) rfl ?_
  refine aw_iaN (13 + s) smOk rfl (addN rfl rfl) (by omega) (oX7_throwsOff.dec rfl) ?_
  refine aw_eqS (st := [.int ((knF (G 11) K) (13 + s)), .int ((nI 13) + (nI s)), .ref 11]) rfl ?_
  refine aw_run oX7_throwsOff smOk 2 (pc' := 86) (L' := [some (.ref 0), some (.int (nI s)), some (.int (nI k)), some (.int ((knF (G 11) K) (13 + s)))]) (st' := [.int (((knF (G 11) K) (13 + s)) - ((knF (G 11) K) (13 + s))), .int ((nI 13) + (nI s)), .ref 11]) (I' := I) (J' := J) (G' := va_up G 11 (knF (G 11) K)) rfl ?_
  refine aw_isN (13 + s) smOk rfl (addN rfl rfl) (by omega) (oX7_throwsOff.dec rfl) ?_
  refine aw_eqG (G' := va_up G 11 (upd (knF (G 11) K) (13 + s) (((knF (G 11) K) (13 + s)) - ((knF (G 11) K) (13 + s))))) (bx_uu _ _ _ _) ?_
  refine aw_run oX7_throwsOff smOk 6 (pc' := 96) (L' := [some (.ref 0), some (.int (nI s)), some (.int (nI k)), some (.int ((knF (G 11) K) (13 + s)))]) (st' := [.int ((nI 8) + (nI s)), .ref 11, .int ((nI 8) + (nI s)), .ref 11]) (I' := I) (J' := J) (G' := va_up G 11 (upd (knF (G 11) K) (13 + s) (((knF (G 11) K) (13 + s)) - ((knF (G 11) K) (13 + s))))) rfl ?_
  refine aw_iaN (8 + s) smOk rfl (addN rfl rfl) (by omega) (oX7_throwsOff.dec rfl) ?_
  refine aw_eqS (st := [.int ((upd (knF (G 11) K) (13 + s) (((knF (G 11) K) (13 + s)) - ((knF (G 11) K) (13 + s)))) (8 + s)), .int ((nI 8) + (nI s)), .ref 11]) rfl ?_
  refine aw_run oX7_throwsOff smOk 4 (pc' := 101) (L' := [some (.ref 0), some (.int (nI s)), some (.int (nI k)), some (.int ((knF (G 11) K) (13 + s)))]) (st' := [.int (((upd (knF (G 11) K) (13 + s) (((knF (G 11) K) (13 + s)) - ((knF (G 11) K) (13 + s)))) (8 + s)) - ((nI k) - ((knF (G 11) K) (13 + s)))), .int ((nI 8) + (nI s)), .ref 11]) (I' := I) (J' := J) (G' := va_up G 11 (upd (knF (G 11) K) (13 + s) (((knF (G 11) K) (13 + s)) - ((knF (G 11) K) (13 + s))))) rfl ?_
  refine aw_isN (8 + s) smOk rfl (addN rfl rfl) (by omega) (oX7_throwsOff.dec rfl) ?_
  refine aw_eqG (G' := va_up G 11 (upd (upd (knF (G 11) K) (13 + s) (((knF (G 11) K) (13 + s)) - ((knF (G 11) K) (13 + s)))) (8 + s) (((upd (knF (G 11) K) (13 + s) (((knF (G 11) K) (13 + s)) - ((knF (G 11) K) (13 + s)))) (8 + s)) - ((nI k) - ((knF (G 11) K) (13 + s)))))) (bx_uu _ _ _ _) ?_
  refine aw_run oX7_throwsOff smOk 2 (pc' := 104) (L' := [some (.ref 0), some (.int (nI s)), some (.int (nI k)), some (.int ((knF (G 11) K) (13 + s)))]) (st' := [.int (nI s), .ref 0]) (I' := I) (J' := J) (G' := va_up G 11 (upd (upd (knF (G 11) K) (13 + s) (((knF (G 11) K) (13 + s)) - ((knF (G 11) K) (13 + s)))) (8 + s) (((upd (knF (G 11) K) (13 + s) (((knF (G 11) K) (13 + s)) - ((knF (G 11) K) (13 + s)))) (8 + s)) - ((nI k) - ((knF (G 11) K) (13 + s)))))) rfl ?_
  refine aw_cV (st := []) 0 [.int (nI s)] oX7_silver k7_110 rfl rfl rfl rfl rfl rfl rfl rfl (oX7_throwsOff.dec rfl) (m_silver (I := I) (J := J) (G := va_up G 11 (upd (upd (knF (G 11) K) (13 + s) (((knF (G 11) K) (13 + s)) - ((knF (G 11) K) (13 + s)))) (8 + s) (((upd (knF (G 11) K) (13 + s) (((knF (G 11) K) (13 + s)) - ((knF (G 11) K) (13 + s)))) (8 + s)) - ((nI k) - ((knF (G 11) K) (13 + s)))))) (by omega)) ?_
  refine aw_eqS (st := [.int (sil (upd (upd (knF (G 11) K) (13 + s) (((knF (G 11) K) (13 + s)) - ((knF (G 11) K) (13 + s)))) (8 + s) (((upd (knF (G 11) K) (13 + s) (((knF (G 11) K) (13 + s)) - ((knF (G 11) K) (13 + s)))) (8 + s)) - ((nI k) - ((knF (G 11) K) (13 + s))))) s)]) rfl ?_
  exact aw_iret rfl (oX7_throwsOff.dec rfl) pe_rfl
set_option maxRecDepth 20000 in
theorem m_raises_bad {I : II} {J : JJ} {G : II} {P : Nat} (hP : G 5 0 = nI P) (hP5 : P ≤ 5) {x : Int32} (hx : notIn x P) : AMet SM mX7_raises [.ref 0, .int x] I J G (PE (some (.int (-nI 1))) I J G) := by
  refine amet_en oX7_raises rfl rfl (L := [some (.ref 0), some (.int x), none]) rfl ?_
  refine aw_run oX7_raises smOk 2 (pc' := 2) (L' := [some (.ref 0), some (.int x), none]) (st' := [.int x, .ref 0]) (I' := I) (J' := J) (G' := G) rfl ?_
  refine aw_cV (st := []) 0 [.int x] oX7_isShip k7_117 rfl rfl rfl rfl rfl rfl rfl rfl (oX7_raises.dec rfl) (m_isShip_f hP (by omega) (by assumption)) ?_
  refine aw_eqS (st := [.int (nI 0)]) rfl ?_
  refine aw_0neN rfl (by omega) (oX7_raises.dec rfl) (tgt := 10) rfl (fun h5 => absurd h5 (by omega)) (fun h5 => ?_)
  refine aw_run oX7_raises smOk 1 (pc' := 9) (L' := [some (.ref 0), some (.int x), none]) (st' := [.int (-nI 1)]) (I' := I) (J' := J) (G' := G) rfl ?_
  exact aw_iret rfl (oX7_raises.dec rfl) pe_rfl
set_option maxRecDepth 20000 in
theorem m_raises_no {I : II} {J : JJ} {G : II} {P : Nat} (hP : G 5 0 = nI P) (hP5 : P ≤ 5) {s : Nat} (hs : s < P) (hp : ¬ G 11 (3 + s) = nI 3) : AMet SM mX7_raises [.ref 0, .int (nI s)] I J G (PE (some (.int (-nI 2))) I J G) := by
  refine amet_en oX7_raises rfl rfl (L := [some (.ref 0), some (.int (nI s)), none]) rfl ?_
  refine aw_run oX7_raises smOk 2 (pc' := 2) (L' := [some (.ref 0), some (.int (nI s)), none]) (st' := [.int (nI s), .ref 0]) (I' := I) (J' := J) (G' := G) rfl ?_
  refine aw_cV (st := []) 0 [.int (nI s)] oX7_isShip k7_117 rfl rfl rfl rfl rfl rfl rfl rfl (oX7_raises.dec rfl) (m_isShip_t hP (by omega) (by omega)) ?_
  refine aw_eqS (st := [.int (nI 1)]) rfl ?_
  refine aw_0neN rfl (by omega) (oX7_raises.dec rfl) (tgt := 10) rfl (fun h5 => ?_) (fun h5 => absurd h5 (by omega))
  refine aw_run oX7_raises smOk 5 (pc' := 17) (L' := [some (.ref 0), some (.int (nI s)), none]) (st' := [.int ((nI 3) + (nI s)), .ref 11]) (I' := I) (J' := J) (G' := G) rfl ?_
  refine aw_iaN (3 + s) smOk rfl (addN rfl rfl) (by omega) (oX7_raises.dec rfl) ?_
  refine aw_run oX7_raises smOk 1 (pc' := 19) (L' := [some (.ref 0), some (.int (nI s)), none]) (st' := [.int (nI 3), .int (G 11 (3 + s))]) (I' := I) (J' := J) (G' := G) rfl ?_
  refine aw_icmp_eq (oX7_raises.dec rfl) (tgt := 25) rfl (fun h19 => by first | exact absurd h19 (by assumption) | exact absurd (by assumption) h19 | (exfalso; revert h19; decide) | simp_all) (fun h19 => ?_)
  refine aw_run oX7_raises smOk 1 (pc' := 24) (L' := [some (.ref 0), some (.int (nI s)), none]) (st' := [.int (-nI 2)]) (I' := I) (J' := J) (G' := G) rfl ?_
  exact aw_iret rfl (oX7_raises.dec rfl) pe_rfl
set_option maxRecDepth 20000 in
theorem m_raises_ok {I : II} {J : JJ} {G : II} {P : Nat} (hP : G 5 0 = nI P) (hP5 : P ≤ 5) {s : Nat} (hs : s < P) {K : Nat} (hK : G 11 18 = nI K) (hK10 : K ≤ 10) (hp : G 11 (3 + s) = nI 3) : AMet SM mX7_raises [.ref 0, .int (nI s)] I J G (PE (some (.int ((sil (knF (G 11) K) s) / (nI 2)))) I J (va_up G 11 (upd (upd (upd (upd (knF (G 11) K) 1 (((knF (G 11) K) 1) + ((sil (knF (G 11) K) s) / (nI 2)))) (8 + s) (nI 0)) (13 + s) (nI 0)) (3 + s) (nI 4)))) := by
  refine amet_en oX7_raises rfl rfl (L := [some (.ref 0), some (.int (nI s)), none]) rfl ?_
  refine aw_run oX7_raises smOk 2 (pc' := 2) (L' := [some (.ref 0), some (.int (nI s)), none]) (st' := [.int (nI s), .ref 0]) (I' := I) (J' := J) (G' := G) rfl ?_
  refine aw_cV (st := []) 0 [.int (nI s)] oX7_isShip k7_117 rfl rfl rfl rfl rfl rfl rfl rfl (oX7_raises.dec rfl) (m_isShip_t hP (by omega) (by omega)) ?_
  refine aw_eqS (st := [.int (nI 1)]) rfl ?_
  refine aw_0neN rfl (by omega) (oX7_raises.dec rfl) (tgt := 10) rfl (fun h5 => ?_) (fun h5 => absurd h5 (by omega))
  refine aw_run oX7_raises smOk 5 (pc' := 17) (L' := [some (.ref 0), some (.int (nI s)), none]) (st' := [.int ((nI 3) + (nI s)), .ref 11]) (I' := I) (J' := J) (G' := G) rfl ?_
  refine aw_iaN (3 + s) smOk rfl (addN rfl rfl) (by omega) (oX7_raises.dec rfl) ?_
  refine aw_run oX7_raises smOk 1 (pc' := 19) (L' := [some (.ref 0), some (.int (nI s)), none]) (st' := [.int (nI 3), .int (G 11 (3 + s))]) (I' := I) (J' := J) (G' := G) rfl ?_
  refine aw_icmp_eq (oX7_raises.dec rfl) (tgt := 25) rfl (fun h19 => ?_) (fun h19 => by first | exact absurd h19 (by assumption) | exact absurd (by assumption) h19 | (exfalso; revert h19; decide) | simp_all)
  refine aw_run oX7_raises smOk 1 (pc' := 26) (L' := [some (.ref 0), some (.int (nI s)), none]) (st' := [.ref 0]) (I' := I) (J' := J) (G' := G) rfl ?_
  refine aw_cV (st := []) 0 [] oX7_know k7_124 rfl rfl rfl rfl rfl rfl rfl rfl (oX7_raises.dec rfl) (m_know hK (by omega)) ?_
  refine aw_eqG (G' := va_up G 11 (knF (G 11) K)) (rfl) ?_
  refine aw_eqS (st := []) rfl ?_
  refine aw_run oX7_raises smOk 2 (pc' := 31) (L' := [some (.ref 0), some (.int (nI s)), none]) (st' := [.int (nI s), .ref 0]) (I' := I) (J' := J) (G' := va_up G 11 (knF (G 11) K)) rfl ?_
  refine aw_cV (st := []) 0 [.int (nI s)] oX7_silver k7_110 rfl rfl rfl rfl rfl rfl rfl rfl (oX7_raises.dec rfl) (m_silver (I := I) (J := J) (G := va_up G 11 (knF (G 11) K)) (by omega)) ?_
  refine aw_eqS (st := [.int (sil (knF (G 11) K) s)]) rfl ?_
  refine aw_run oX7_raises smOk 1 (pc' := 35) (L' := [some (.ref 0), some (.int (nI s)), none]) (st' := [.int (nI 2), .int (sil (knF (G 11) K) s)]) (I' := I) (J' := J) (G' := va_up G 11 (knF (G 11) K)) rfl ?_
  refine aw_idiv (by decide) (oX7_raises.dec rfl) ?_
  refine aw_run oX7_raises smOk 5 (pc' := 43) (L' := [some (.ref 0), some (.int (nI s)), some (.int ((sil (knF (G 11) K) s) / (nI 2)))]) (st' := [.int (nI 1), .ref 11, .int (nI 1), .ref 11]) (I' := I) (J' := J) (G' := va_up G 11 (knF (G 11) K)) rfl ?_
  refine aw_iaN 1 smOk rfl rfl (by omega) (oX7_raises.dec rfl) ?_
  refine aw_eqS (st := [.int ((knF (G 11) K) 1), .int (nI 1), .ref 11]) rfl ?_
  refine aw_run oX7_raises smOk 2 (pc' := 46) (L' := [some (.ref 0), some (.int (nI s)), some (.int ((sil (knF (G 11) K) s) / (nI 2)))]) (st' := [.int (((knF (G 11) K) 1) + ((sil (knF (G 11) K) s) / (nI 2))), .int (nI 1), .ref 11]) (I' := I) (J' := J) (G' := va_up G 11 (knF (G 11) K)) rfl ?_
  refine aw_isN 1 smOk rfl rfl (by omega) (oX7_raises.dec rfl) ?_
  refine aw_eqG (G' := va_up G 11 (upd (knF (G 11) K) 1 (((knF (G 11) K) 1) + ((sil (knF (G 11) K) s) / (nI 2))))) (bx_uu _ _ _ _) ?_
  refine aw_run oX7_raises smOk 6 (pc' := 56) (L' := [some (.ref 0), some (.int (nI s)), some (.int ((sil (knF (G 11) K) s) / (nI 2)))]) (st' := [.int (nI 0), .int ((nI 8) + (nI s)), .ref 11]) (I' := I) (J' := J) (G' := va_up G 11 (upd (knF (G 11) K) 1 (((knF (G 11) K) 1) + ((sil (knF (G 11) K) s) / (nI 2))))) rfl ?_
  refine aw_isN (8 + s) smOk rfl (addN rfl rfl) (by omega) (oX7_raises.dec rfl) ?_
  refine aw_eqG (G' := va_up G 11 (upd (upd (knF (G 11) K) 1 (((knF (G 11) K) 1) + ((sil (knF (G 11) K) s) / (nI 2)))) (8 + s) (nI 0))) (bx_uu _ _ _ _) ?_
  refine aw_run oX7_raises smOk 6 (pc' := 66) (L' := [some (.ref 0), some (.int (nI s)), some (.int ((sil (knF (G 11) K) s) / (nI 2)))]) (st' := [.int (nI 0), .int ((nI 13) + (nI s)), .ref 11]) (I' := I) (J' := J) (G' := va_up G 11 (upd (upd (knF (G 11) K) 1 (((knF (G 11) K) 1) + ((sil (knF (G 11) K) s) / (nI 2)))) (8 + s) (nI 0))) rfl ?_
  refine aw_isN (13 + s) smOk rfl (addN rfl rfl) (by omega) (oX7_raises.dec rfl) ?_
  refine aw_eqG (G' := va_up G 11 (upd (upd (upd (knF (G 11) K) 1 (((knF (G 11) K) 1) + ((sil (knF (G 11) K) s) / (nI 2)))) (8 + s) (nI 0)) (13 + s) (nI 0))) (bx_uu _ _ _ _) ?_
  refine aw_run oX7_raises smOk 6 (pc' := 75) (L' := [some (.ref 0), some (.int (nI s)), some (.int ((sil (knF (G 11) K) s) / (nI 2)))]) (st' := [.int (nI 4), .int ((nI 3) + (nI s)), .ref 11]) (I' := I) (J' := J) (G' := va_up G 11 (upd (upd (upd (knF (G 11) K) 1 (((knF (G 11) K) 1) + ((sil (knF (G 11) K) s) / (nI 2)))) (8 + s) (nI 0)) (13 + s) (nI 0))) rfl ?_
  refine aw_isN (3 + s) smOk rfl (addN rfl rfl) (by omega) (oX7_raises.dec rfl) ?_
  refine aw_eqG (G' := va_up G 11 (upd (upd (upd (upd (knF (G 11) K) 1 (((knF (G 11) K) 1) + ((sil (knF (G 11) K) s) / (nI 2)))) (8 + s) (nI 0)) (13 + s) (nI 0)) (3 + s) (nI 4))) (bx_uu _ _ _ _) ?_
  refine aw_run oX7_raises smOk 1 (pc' := 77) (L' := [some (.ref 0), some (.int (nI s)), some (.int ((sil (knF (G 11) K) s) / (nI 2)))]) (st' := [.int ((sil (knF (G 11) K) s) / (nI 2))]) (I' := I) (J' := J) (G' := va_up G 11 (upd (upd (upd (upd (knF (G 11) K) 1 (((knF (G 11) K) 1) + ((sil (knF (G 11) K) s) / (nI 2)))) (8 + s) (nI 0)) (13 + s) (nI 0)) (3 + s) (nI 4))) rfl ?_
  exact aw_iret rfl (oX7_raises.dec rfl) pe_rfl
set_option maxRecDepth 20000 in
theorem m_undo_no {I : II} {J : JJ} {G : II} (hK : G 11 18 = nI 0) : AMet SM mX7_undo [.ref 0] I J G (PE (some (.int (-nI 2))) I J G) := by
  refine amet_en oX7_undo rfl rfl (L := [some (.ref 0), none]) rfl ?_
  refine aw_run oX7_undo smOk 3 (pc' := 6) (L' := [some (.ref 0), none]) (st' := [.int (nI 18), .ref 11]) (I' := I) (J' := J) (G' := G) rfl ?_
  refine aw_iaN 18 smOk rfl rfl (by omega) (oX7_undo.dec rfl) ?_
  refine aw_0neN hK (by omega) (oX7_undo.dec rfl) (tgt := 13) rfl (fun h7 => absurd h7 (by omega)) (fun h7 => ?_)
  refine aw_run oX7_undo smOk 1 (pc' := 12) (L' := [some (.ref 0), none]) (st' := [.int (-nI 2)]) (I' := I) (J' := J) (G' := G) rfl ?_
  exact aw_iret rfl (oX7_undo.dec rfl) pe_rfl
set_option maxRecDepth 20000 in
theorem m_undo_ok {I : II} {J : JJ} {G : II} {K : Nat} (hK : G 11 18 = nI K) (hK10 : K ≤ 10) (h1 : 1 ≤ K) : AMet SM mX7_undo [.ref 0] I J G (PE (some (.int (nI (K - 1)))) I J (va_up G 11 (unF (G 11) K))) := by
  refine amet_en oX7_undo rfl rfl (L := [some (.ref 0), none]) rfl ?_
  have loop : ∀ (n s : Nat) (x : Int32), s + n = 18 → x = nI s → AW SM mX7_undo 26 [some (.ref 0), some (.int x)] [] I J (va_up G 11 (va_cpy (upd (G 11) 18 (nI (K - 1))) (upd (G 11) 18 (nI (K - 1))) (19 + 18 * (K - 1)) 0 s)) (PE (some (.int (nI (K - 1)))) I J (va_up G 11 (unF (G 11) K))) := by
    intro n
    induction n with
    | zero =>
      intro s x hsn hx
      have hk18 : (va_cpy (upd (G 11) 18 (nI (K - 1))) (upd (G 11) 18 (nI (K - 1))) (19 + 18 * (K - 1)) 0 s) 18 = nI (K - 1) := by rw [pk_cpy_out (by omega)]; exact pk_us
      refine aw_run oX7_undo smOk 2 (pc' := 29) (L' := [some (.ref 0), some (.int x)]) (st' := [.int (nI 18), .int x]) (I' := I) (J' := J) (G' := va_up G 11 (va_cpy (upd (G 11) 18 (nI (K - 1))) (upd (G 11) 18 (nI (K - 1))) (19 + 18 * (K - 1)) 0 s)) rfl ?_
      refine aw_geN hx rfl (by omega) (by omega) (oX7_undo.dec rfl) (tgt := 64) rfl (fun h29 => ?_) (fun h29 => absurd h29 (by omega))
      refine aw_run oX7_undo smOk 3 (pc' := 70) (L' := [some (.ref 0), some (.int x)]) (st' := [.int (nI 18), .ref 11]) (I' := I) (J' := J) (G' := va_up G 11 (va_cpy (upd (G 11) 18 (nI (K - 1))) (upd (G 11) 18 (nI (K - 1))) (19 + 18 * (K - 1)) 0 s)) rfl ?_
      refine aw_iaN 18 smOk rfl rfl (by omega) (oX7_undo.dec rfl) ?_
      refine aw_eqS (st := [.int ((va_cpy (upd (G 11) 18 (nI (K - 1))) (upd (G 11) 18 (nI (K - 1))) (19 + 18 * (K - 1)) 0 s) 18)]) rfl ?_
      exact aw_iret rfl (oX7_undo.dec rfl) (⟨by rw [hk18], rfl, rfl, by rw [show s = 18 by omega]; rfl⟩)
    | succ n ih =>
      intro s x hsn hx
      have hk18 : (va_cpy (upd (G 11) 18 (nI (K - 1))) (upd (G 11) 18 (nI (K - 1))) (19 + 18 * (K - 1)) 0 s) 18 = nI (K - 1) := by rw [pk_cpy_out (by omega)]; exact pk_us
      refine aw_run oX7_undo smOk 2 (pc' := 29) (L' := [some (.ref 0), some (.int x)]) (st' := [.int (nI 18), .int x]) (I' := I) (J' := J) (G' := va_up G 11 (va_cpy (upd (G 11) 18 (nI (K - 1))) (upd (G 11) 18 (nI (K - 1))) (19 + 18 * (K - 1)) 0 s)) rfl ?_
      refine aw_geN hx rfl (by omega) (by omega) (oX7_undo.dec rfl) (tgt := 64) rfl (fun h29 => absurd h29 (by omega)) (fun h29 => ?_)
      refine aw_run oX7_undo smOk 10 (pc' := 51) (L' := [some (.ref 0), some (.int x)]) (st' := [.int (nI 18), .ref 11, .int (nI 18), .int (nI 19), .ref 11, .int x, .ref 11]) (I' := I) (J' := J) (G' := va_up G 11 (va_cpy (upd (G 11) 18 (nI (K - 1))) (upd (G 11) 18 (nI (K - 1))) (19 + 18 * (K - 1)) 0 s)) rfl ?_
      refine aw_iaN 18 smOk rfl rfl (by omega) (oX7_undo.dec rfl) ?_
      refine aw_eqS (st := [.int ((va_cpy (upd (G 11) 18 (nI (K - 1))) (upd (G 11) 18 (nI (K - 1))) (19 + 18 * (K - 1)) 0 s) 18), .int (nI 18), .int (nI 19), .ref 11, .int x, .ref 11]) rfl ?_
      refine aw_run oX7_undo smOk 4 (pc' := 56) (L' := [some (.ref 0), some (.int x)]) (st' := [.int (((nI 19) + ((nI 18) * ((va_cpy (upd (G 11) 18 (nI (K - 1))) (upd (G 11) 18 (nI (K - 1))) (19 + 18 * (K - 1)) 0 s) 18))) + x), .ref 11, .int x, .ref 11]) (I' := I) (J' := J) (G' := va_up G 11 (va_cpy (upd (G 11) 18 (nI (K - 1))) (upd (G 11) 18 (nI (K - 1))) (19 + 18 * (K - 1)) 0 s)) rfl ?_
      refine aw_iaN (19 + (18 * (K - 1)) + s) smOk rfl (addN (addN rfl (mulN rfl hk18)) hx) (by omega) (oX7_undo.dec rfl) ?_
      refine aw_eqS (st := [.int ((va_cpy (upd (G 11) 18 (nI (K - 1))) (upd (G 11) 18 (nI (K - 1))) (19 + 18 * (K - 1)) 0 s) (19 + (18 * (K - 1)) + s)), .int x, .ref 11]) rfl ?_
      refine aw_isN s smOk rfl hx (by omega) (oX7_undo.dec rfl) ?_
      refine aw_eqG (G' := va_up G 11 (upd (va_cpy (upd (G 11) 18 (nI (K - 1))) (upd (G 11) 18 (nI (K - 1))) (19 + 18 * (K - 1)) 0 s) s ((va_cpy (upd (G 11) 18 (nI (K - 1))) (upd (G 11) 18 (nI (K - 1))) (19 + 18 * (K - 1)) 0 s) (19 + (18 * (K - 1)) + s)))) (bx_uu _ _ _ _) ?_
      refine aw_run oX7_undo smOk 2 (pc' := 26) (L' := [some (.ref 0), some (.int (x + (nI 1)))]) (st' := []) (I' := I) (J' := J) (G' := va_up G 11 (upd (va_cpy (upd (G 11) 18 (nI (K - 1))) (upd (G 11) 18 (nI (K - 1))) (19 + 18 * (K - 1)) 0 s) s ((va_cpy (upd (G 11) 18 (nI (K - 1))) (upd (G 11) 18 (nI (K - 1))) (19 + 18 * (K - 1)) 0 s) (19 + (18 * (K - 1)) + s)))) rfl ?_
      rw [show upd (va_cpy (upd (G 11) 18 (nI (K - 1))) (upd (G 11) 18 (nI (K - 1))) (19 + 18 * (K - 1)) 0 s) s ((va_cpy (upd (G 11) 18 (nI (K - 1))) (upd (G 11) 18 (nI (K - 1))) (19 + 18 * (K - 1)) 0 s) (19 + 18 * (K - 1) + s)) = va_cpy (upd (G 11) 18 (nI (K - 1))) (upd (G 11) 18 (nI (K - 1))) (19 + 18 * (K - 1)) 0 (s + 1) from by have h := cpy_step (f := upd (G 11) 18 (nI (K - 1))) (sp := 19 + 18 * (K - 1)) (dp := 0) (s := s) (by omega); rw [Nat.zero_add] at h; exact h]
      exact ih (s + 1) _ (by omega) (addN hx rfl)
  refine aw_run oX7_undo smOk 3 (pc' := 6) (L' := [some (.ref 0), none]) (st' := [.int (nI 18), .ref 11]) (I' := I) (J' := J) (G' := G) rfl ?_
  refine aw_iaN 18 smOk rfl rfl (by omega) (oX7_undo.dec rfl) ?_
  refine aw_0neN hK (by omega) (oX7_undo.dec rfl) (tgt := 13) rfl (fun h7 => ?_) (fun h7 => absurd h7 (by omega))
  refine aw_run oX7_undo smOk 4 (pc' := 20) (L' := [some (.ref 0), none]) (st' := [.int (nI 18), .ref 11, .int (nI 18), .ref 11]) (I' := I) (J' := J) (G' := G) rfl ?_
  refine aw_iaN 18 smOk rfl rfl (by omega) (oX7_undo.dec rfl) ?_
  refine aw_run oX7_undo smOk 2 (pc' := 23) (L' := [some (.ref 0), none]) (st' := [.int ((G 11 18) - (nI 1)), .int (nI 18), .ref 11]) (I' := I) (J' := J) (G' := G) rfl ?_
  refine aw_isN 18 smOk rfl rfl (by omega) (oX7_undo.dec rfl) ?_
  refine aw_eqG (G' := va_up G 11 (upd (G 11) 18 ((G 11 18) - (nI 1)))) (rfl) ?_
  refine aw_run oX7_undo smOk 2 (pc' := 26) (L' := [some (.ref 0), some (.int (nI 0))]) (st' := []) (I' := I) (J' := J) (G' := va_up G 11 (upd (G 11) 18 ((G 11 18) - (nI 1)))) rfl ?_
  refine aw_eqG (G' := va_up G 11 (va_cpy (upd (G 11) 18 (nI (K - 1))) (upd (G 11) 18 (nI (K - 1))) (19 + 18 * (K - 1)) 0 0)) (by rw [cpy_0, show G 11 18 - nI 1 = nI (K - 1) from subN hK rfl (by omega)]) ?_
  exact loop 18 0 _ (by omega) rfl
set_option maxRecDepth 20000 in
theorem m_now_0 {I : II} {J : JJ} {G : II} {P : Nat} (hP : G 5 0 = nI P) (hP5 : P ≤ 5) : AMet SM mX7_now [.ref 0, .int (nI 0)] I J G (PE (some (.int (G 11 0))) I J G) := by
  refine amet_en oX7_now rfl rfl (L := [some (.ref 0), some (.int (nI 0))]) rfl ?_
  refine aw_run oX7_now smOk 1 (pc' := 1) (L' := [some (.ref 0), some (.int (nI 0))]) (st' := [.int (nI 0)]) (I' := I) (J' := J) (G' := G) rfl ?_
  refine aw_tableIn (x := nI 0) (oX7_now.dec rfl) (by decide) (by decide) (off := 39) (by decide) (tgt := 40) rfl ?_
  refine aw_run oX7_now smOk 3 (pc' := 45) (L' := [some (.ref 0), some (.int (nI 0))]) (st' := [.int (nI 0), .ref 11]) (I' := I) (J' := J) (G' := G) rfl ?_
  refine aw_iaN 0 smOk rfl rfl (by omega) (oX7_now.dec rfl) ?_
  exact aw_iret rfl (oX7_now.dec rfl) pe_rfl
set_option maxRecDepth 20000 in
theorem m_now_1 {I : II} {J : JJ} {G : II} {P : Nat} (hP : G 5 0 = nI P) (hP5 : P ≤ 5) : AMet SM mX7_now [.ref 0, .int (nI 1)] I J G (PE (some (.int (nI (setN (fun s => decide (G 11 (3 + s) = nI 0)) P)))) I J G) := by
  refine amet_en oX7_now rfl rfl (L := [some (.ref 0), some (.int (nI 1))]) rfl ?_
  refine aw_run oX7_now smOk 1 (pc' := 1) (L' := [some (.ref 0), some (.int (nI 1))]) (st' := [.int (nI 1)]) (I' := I) (J' := J) (G' := G) rfl ?_
  refine aw_tableIn (x := nI 1) (oX7_now.dec rfl) (by decide) (by decide) (off := 46) (by decide) (tgt := 47) rfl ?_
  refine aw_run oX7_now smOk 2 (pc' := 49) (L' := [some (.ref 0), some (.int (nI 1))]) (st' := [.int (nI 0), .ref 0]) (I' := I) (J' := J) (G' := G) rfl ?_
  refine aw_cV (st := []) 0 [.int (nI 0)] oX7_setIn k7_127 rfl rfl rfl rfl rfl rfl rfl rfl (oX7_now.dec rfl) (m_setIn hP (by omega)) ?_
  refine aw_eqS (st := [.int (nI (setN (fun s => decide (G 11 (3 + s) = nI 0)) P))]) rfl ?_
  exact aw_iret rfl (oX7_now.dec rfl) pe_rfl
set_option maxRecDepth 20000 in
theorem m_now_2 {I : II} {J : JJ} {G : II} {P : Nat} (hP : G 5 0 = nI P) (hP5 : P ≤ 5) : AMet SM mX7_now [.ref 0, .int (nI 2)] I J G (PE (some (.int (G 11 1))) I J G) := by
  refine amet_en oX7_now rfl rfl (L := [some (.ref 0), some (.int (nI 2))]) rfl ?_
  refine aw_run oX7_now smOk 1 (pc' := 1) (L' := [some (.ref 0), some (.int (nI 2))]) (st' := [.int (nI 2)]) (I' := I) (J' := J) (G' := G) rfl ?_
  refine aw_tableIn (x := nI 2) (oX7_now.dec rfl) (by decide) (by decide) (off := 52) (by decide) (tgt := 53) rfl ?_
  refine aw_run oX7_now smOk 3 (pc' := 58) (L' := [some (.ref 0), some (.int (nI 2))]) (st' := [.int (nI 1), .ref 11]) (I' := I) (J' := J) (G' := G) rfl ?_
  refine aw_iaN 1 smOk rfl rfl (by omega) (oX7_now.dec rfl) ?_
  exact aw_iret rfl (oX7_now.dec rfl) pe_rfl
set_option maxRecDepth 20000 in
theorem m_now_3 {I : II} {J : JJ} {G : II} {P : Nat} (hP : G 5 0 = nI P) (hP5 : P ≤ 5) : AMet SM mX7_now [.ref 0, .int (nI 3)] I J G (PE (some (.int (G 11 2))) I J G) := by
  refine amet_en oX7_now rfl rfl (L := [some (.ref 0), some (.int (nI 3))]) rfl ?_
  refine aw_run oX7_now smOk 1 (pc' := 1) (L' := [some (.ref 0), some (.int (nI 3))]) (st' := [.int (nI 3)]) (I' := I) (J' := J) (G' := G) rfl ?_
  refine aw_tableIn (x := nI 3) (oX7_now.dec rfl) (by decide) (by decide) (off := 59) (by decide) (tgt := 60) rfl ?_
  refine aw_run oX7_now smOk 3 (pc' := 65) (L' := [some (.ref 0), some (.int (nI 3))]) (st' := [.int (nI 2), .ref 11]) (I' := I) (J' := J) (G' := G) rfl ?_
  refine aw_iaN 2 smOk rfl rfl (by omega) (oX7_now.dec rfl) ?_
  exact aw_iret rfl (oX7_now.dec rfl) pe_rfl
set_option maxRecDepth 20000 in
theorem m_now_5 {I : II} {J : JJ} {G : II} {P : Nat} (hP : G 5 0 = nI P) (hP5 : P ≤ 5) : AMet SM mX7_now [.ref 0, .int (nI 5)] I J G (PE (some (.int (sumS (sil (G 11)) (setN (fun s => decide (G 11 (3 + s) = nI 3)) P) P))) I J G) := by
  have hp32 : 2 ^ P ≤ 32 := Nat.pow_le_pow_right (by decide) hP5
  have hwr : setN (fun s => decide (G 11 (3 + s) = nI 3)) P < 32 := Nat.lt_of_lt_of_le (setN_lt _ _) hp32
  refine amet_en oX7_now rfl rfl (L := [some (.ref 0), some (.int (nI 5))]) rfl ?_
  refine aw_run oX7_now smOk 1 (pc' := 1) (L' := [some (.ref 0), some (.int (nI 5))]) (st' := [.int (nI 5)]) (I' := I) (J' := J) (G' := G) rfl ?_
  refine aw_tableIn (x := nI 5) (oX7_now.dec rfl) (by decide) (by decide) (off := 79) (by decide) (tgt := 80) rfl ?_
  refine aw_run oX7_now smOk 3 (pc' := 83) (L' := [some (.ref 0), some (.int (nI 5))]) (st' := [.int (nI 3), .ref 0, .ref 0]) (I' := I) (J' := J) (G' := G) rfl ?_
  refine aw_cV (st := [.ref 0]) 0 [.int (nI 3)] oX7_setIn k7_127 rfl rfl rfl rfl rfl rfl rfl rfl (oX7_now.dec rfl) (m_setIn hP (by omega)) ?_
  refine aw_eqS (st := [.int (nI (setN (fun s => decide (G 11 (3 + s) = nI 3)) P)), .ref 0]) rfl ?_
  refine aw_cV (st := []) 0 [.int (nI (setN (fun s => decide (G 11 (3 + s) = nI 3)) P))] oX7_silverOf k7_154 rfl rfl rfl rfl rfl rfl rfl rfl (oX7_now.dec rfl) (m_silverOf hP (by omega) (by omega)) ?_
  refine aw_eqS (st := [.int (sumS (sil (G 11)) (setN (fun s => decide (G 11 (3 + s) = nI 3)) P) P)]) rfl ?_
  exact aw_iret rfl (oX7_now.dec rfl) pe_rfl
set_option maxRecDepth 20000 in
theorem m_now_4t {I : II} {J : JJ} {G : II} {Wk : Nat} (hW : G 2 0 = nI Wk) (hWk : Wk ≤ 12) {t : Nat} (ht : G 11 0 = nI t) (ht12 : t ≤ 12) (htW : t ≤ Wk) (ho : Wk ≤ t) : AMet SM mX7_now [.ref 0, .int (nI 4)] I J G (PE (some (.int (nI 1))) I J G) := by
  refine amet_en oX7_now rfl rfl (L := [some (.ref 0), some (.int (nI 4))]) rfl ?_
  refine aw_run oX7_now smOk 1 (pc' := 1) (L' := [some (.ref 0), some (.int (nI 4))]) (st' := [.int (nI 4)]) (I' := I) (J' := J) (G' := G) rfl ?_
  refine aw_tableIn (x := nI 4) (oX7_now.dec rfl) (by decide) (by decide) (off := 66) (by decide) (tgt := 67) rfl ?_
  refine aw_run oX7_now smOk 1 (pc' := 68) (L' := [some (.ref 0), some (.int (nI 4))]) (st' := [.ref 0]) (I' := I) (J' := J) (G' := G) rfl ?_
  refine aw_cV (st := []) 0 [] oX7_isOver k7_120 rfl rfl rfl rfl rfl rfl rfl rfl (oX7_now.dec rfl) (m_isOver hW (by omega) ht (by omega) (by omega)) ?_
  refine aw_eqS (st := [.int (b1 (decide (Wk ≤ t)))]) rfl ?_
  refine aw_0eqD (oX7_now.dec rfl) (tgt := 78) rfl (fun h71 => absurd h71 (by omega)) (fun h71 => ?_)
  refine aw_run oX7_now smOk 2 (pc' := 79) (L' := [some (.ref 0), some (.int (nI 4))]) (st' := [.int (nI 1)]) (I' := I) (J' := J) (G' := G) rfl ?_
  exact aw_iret rfl (oX7_now.dec rfl) pe_rfl
set_option maxRecDepth 20000 in
theorem m_now_4f {I : II} {J : JJ} {G : II} {Wk : Nat} (hW : G 2 0 = nI Wk) (hWk : Wk ≤ 12) {t : Nat} (ht : G 11 0 = nI t) (ht12 : t ≤ 12) (htW : t ≤ Wk) (ho : t < Wk) : AMet SM mX7_now [.ref 0, .int (nI 4)] I J G (PE (some (.int (nI 0))) I J G) := by
  refine amet_en oX7_now rfl rfl (L := [some (.ref 0), some (.int (nI 4))]) rfl ?_
  refine aw_run oX7_now smOk 1 (pc' := 1) (L' := [some (.ref 0), some (.int (nI 4))]) (st' := [.int (nI 4)]) (I' := I) (J' := J) (G' := G) rfl ?_
  refine aw_tableIn (x := nI 4) (oX7_now.dec rfl) (by decide) (by decide) (off := 66) (by decide) (tgt := 67) rfl ?_
  refine aw_run oX7_now smOk 1 (pc' := 68) (L' := [some (.ref 0), some (.int (nI 4))]) (st' := [.ref 0]) (I' := I) (J' := J) (G' := G) rfl ?_
  refine aw_cV (st := []) 0 [] oX7_isOver k7_120 rfl rfl rfl rfl rfl rfl rfl rfl (oX7_now.dec rfl) (m_isOver hW (by omega) ht (by omega) (by omega)) ?_
  refine aw_eqS (st := [.int (b1 (decide (Wk ≤ t)))]) rfl ?_
  refine aw_0eqD (oX7_now.dec rfl) (tgt := 78) rfl (fun h71 => ?_) (fun h71 => absurd h71 (by omega))
  refine aw_run oX7_now smOk 1 (pc' := 79) (L' := [some (.ref 0), some (.int (nI 4))]) (st' := [.int (nI 0)]) (I' := I) (J' := J) (G' := G) rfl ?_
  exact aw_iret rfl (oX7_now.dec rfl) pe_rfl
set_option maxRecDepth 20000 in
theorem m_now_bad {I : II} {J : JJ} {G : II} {x : Int32} (hx : notIn x 6) : AMet SM mX7_now [.ref 0, .int x] I J G (PE (some (.int (-nI 1))) I J G) := by
  refine amet_en oX7_now rfl rfl (L := [some (.ref 0), some (.int x)]) rfl ?_
  refine aw_run oX7_now smOk 1 (pc' := 1) (L' := [some (.ref 0), some (.int x)]) (st' := [.int x]) (I' := I) (J' := J) (G' := G) rfl ?_
  refine aw_tableOut (x := x) (oX7_now.dec rfl) (notIn_tab hx (by decide)) (tgt := 90) rfl ?_
  refine aw_run oX7_now smOk 1 (pc' := 91) (L' := [some (.ref 0), some (.int x)]) (st' := [.int (-nI 1)]) (I' := I) (J' := J) (G' := G) rfl ?_
  exact aw_iret rfl (oX7_now.dec rfl) pe_rfl
set_option maxRecDepth 20000 in
theorem m_worth_bad {I : II} {J : JJ} {G : II} {P : Nat} (hP : G 5 0 = nI P) (hP5 : P ≤ 5) {x y : Int32} (hx : notIn x (2 ^ P)) : AMet SM mX7_worth [.ref 0, .int x, .int y] I J G (PE (some (.int (-nI 1))) I J G) := by
  have hp32 : 2 ^ P ≤ 32 := Nat.pow_le_pow_right (by decide) hP5
  have hp1 : 0 < 2 ^ P := Nat.pow_pos (by decide)
  refine amet_en oX7_worth rfl rfl (L := [some (.ref 0), some (.int x), some (.int y)]) rfl ?_
  refine aw_run oX7_worth smOk 3 (pc' := 3) (L' := [some (.ref 0), some (.int x), some (.int y)]) (st' := [.ref 0, .int (nI 0), .int x]) (I' := I) (J' := J) (G' := G) rfl ?_
  refine aw_cV (st := [.int (nI 0), .int x]) 0 [] oX7_all k7_138 rfl rfl rfl rfl rfl rfl rfl rfl (oX7_worth.dec rfl) (m_all hP (by omega)) ?_
  refine aw_eqS (st := [.int (nI (2 ^ P - 1)), .int (nI 0), .int x]) rfl ?_
  refine aw_cS (st := []) [.int x, .int (nI 0), .int (nI (2 ^ P - 1))] oX7_in k7_60 rfl rfl rfl rfl rfl (oX7_worth.dec rfl) (m_inF (notIn_in0 hx (by omega) (by omega))) ?_
  refine aw_eqS (st := [.int (nI 0)]) rfl ?_
  refine aw_0eqN rfl (by omega) (oX7_worth.dec rfl) (tgt := 29) rfl (fun h9 => ?_) (fun h9 => absurd h9 (by omega))
  refine aw_run oX7_worth smOk 1 (pc' := 30) (L' := [some (.ref 0), some (.int x), some (.int y)]) (st' := [.int (-nI 1)]) (I' := I) (J' := J) (G' := G) rfl ?_
  exact aw_iret rfl (oX7_worth.dec rfl) pe_rfl
set_option maxRecDepth 20000 in
theorem m_worth_bad2 {I : II} {J : JJ} {G : II} {P : Nat} (hP : G 5 0 = nI P) (hP5 : P ≤ 5) {Wk : Nat} (hW : G 2 0 = nI Wk) (hWk : Wk ≤ 12) {σ : Nat} (hσ : σ < 2 ^ P) {x : Int32} (hx : notIn x Wk) : AMet SM mX7_worth [.ref 0, .int (nI σ), .int x] I J G (PE (some (.int (-nI 1))) I J G) := by
  have hp32 : 2 ^ P ≤ 32 := Nat.pow_le_pow_right (by decide) hP5
  have hp1 : 0 < 2 ^ P := Nat.pow_pos (by decide)
  refine amet_en oX7_worth rfl rfl (L := [some (.ref 0), some (.int (nI σ)), some (.int x)]) rfl ?_
  refine aw_run oX7_worth smOk 3 (pc' := 3) (L' := [some (.ref 0), some (.int (nI σ)), some (.int x)]) (st' := [.ref 0, .int (nI 0), .int (nI σ)]) (I' := I) (J' := J) (G' := G) rfl ?_
  refine aw_cV (st := [.int (nI 0), .int (nI σ)]) 0 [] oX7_all k7_138 rfl rfl rfl rfl rfl rfl rfl rfl (oX7_worth.dec rfl) (m_all hP (by omega)) ?_
  refine aw_eqS (st := [.int (nI (2 ^ P - 1)), .int (nI 0), .int (nI σ)]) rfl ?_
  refine aw_cS (st := []) [.int (nI σ), .int (nI 0), .int (nI (2 ^ P - 1))] oX7_in k7_60 rfl rfl rfl rfl rfl (oX7_worth.dec rfl) (m_inN (by omega) (by omega) (by omega)) ?_
  refine aw_eqS (st := [.int (b1 (decide (0 ≤ σ ∧ σ ≤ 2 ^ P - 1)))]) rfl ?_
  refine aw_0eqD (oX7_worth.dec rfl) (tgt := 29) rfl (fun h9 => absurd h9 (by omega)) (fun h9 => ?_)
  refine aw_run oX7_worth smOk 2 (pc' := 14) (L' := [some (.ref 0), some (.int (nI σ)), some (.int x)]) (st' := [.int x, .ref 0]) (I' := I) (J' := J) (G' := G) rfl ?_
  refine aw_cV (st := []) 0 [.int x] oX7_isWeek k7_114 rfl rfl rfl rfl rfl rfl rfl rfl (oX7_worth.dec rfl) (m_isWeek_f hW (by omega) (by assumption)) ?_
  refine aw_eqS (st := [.int (nI 0)]) rfl ?_
  refine aw_0eqN rfl (by omega) (oX7_worth.dec rfl) (tgt := 29) rfl (fun h17 => ?_) (fun h17 => absurd h17 (by omega))
  refine aw_run oX7_worth smOk 1 (pc' := 30) (L' := [some (.ref 0), some (.int (nI σ)), some (.int x)]) (st' := [.int (-nI 1)]) (I' := I) (J' := J) (G' := G) rfl ?_
  exact aw_iret rfl (oX7_worth.dec rfl) pe_rfl
set_option maxRecDepth 20000 in
theorem m_worth_ok {I : II} {J : JJ} {G : II} {P : Nat} (hP : G 5 0 = nI P) (hP5 : P ≤ 5) {Wk : Nat} (hW : G 2 0 = nI Wk) (hWk : Wk ≤ 12) {σ : Nat} (hσ : σ < 2 ^ P) {w : Nat} (hw : w < Wk) : AMet SM mX7_worth [.ref 0, .int (nI σ), .int (nI w)] I J G (PE (some (.int (wor (G 11) (G 8) (G 4 w) (G 3 w) P σ))) I J G) := by
  have hp32 : 2 ^ P ≤ 32 := Nat.pow_le_pow_right (by decide) hP5
  have hp1 : 0 < 2 ^ P := Nat.pow_pos (by decide)
  refine amet_en oX7_worth rfl rfl (L := [some (.ref 0), some (.int (nI σ)), some (.int (nI w))]) rfl ?_
  refine aw_run oX7_worth smOk 3 (pc' := 3) (L' := [some (.ref 0), some (.int (nI σ)), some (.int (nI w))]) (st' := [.ref 0, .int (nI 0), .int (nI σ)]) (I' := I) (J' := J) (G' := G) rfl ?_
  refine aw_cV (st := [.int (nI 0), .int (nI σ)]) 0 [] oX7_all k7_138 rfl rfl rfl rfl rfl rfl rfl rfl (oX7_worth.dec rfl) (m_all hP (by omega)) ?_
  refine aw_eqS (st := [.int (nI (2 ^ P - 1)), .int (nI 0), .int (nI σ)]) rfl ?_
  refine aw_cS (st := []) [.int (nI σ), .int (nI 0), .int (nI (2 ^ P - 1))] oX7_in k7_60 rfl rfl rfl rfl rfl (oX7_worth.dec rfl) (m_inN (by omega) (by omega) (by omega)) ?_
  refine aw_eqS (st := [.int (b1 (decide (0 ≤ σ ∧ σ ≤ 2 ^ P - 1)))]) rfl ?_
  refine aw_0eqD (oX7_worth.dec rfl) (tgt := 29) rfl (fun h9 => absurd h9 (by omega)) (fun h9 => ?_)
  refine aw_run oX7_worth smOk 2 (pc' := 14) (L' := [some (.ref 0), some (.int (nI σ)), some (.int (nI w))]) (st' := [.int (nI w), .ref 0]) (I' := I) (J' := J) (G' := G) rfl ?_
  refine aw_cV (st := []) 0 [.int (nI w)] oX7_isWeek k7_114 rfl rfl rfl rfl rfl rfl rfl rfl (oX7_worth.dec rfl) (m_isWeek_t hW (by omega) (by omega)) ?_
  refine aw_eqS (st := [.int (nI 1)]) rfl ?_
  refine aw_0eqN rfl (by omega) (oX7_worth.dec rfl) (tgt := 29) rfl (fun h17 => absurd h17 (by omega)) (fun h17 => ?_)
  refine aw_run oX7_worth smOk 3 (pc' := 23) (L' := [some (.ref 0), some (.int (nI σ)), some (.int (nI w))]) (st' := [.int (nI w), .int (nI σ), .ref 0]) (I' := I) (J' := J) (G' := G) rfl ?_
  refine aw_cV (st := []) 0 [.int (nI σ), .int (nI w)] oX7_worthOf k7_157 rfl rfl rfl rfl rfl rfl rfl rfl (oX7_worth.dec rfl) (m_worthOf hP (by omega) (by omega) (by omega)) ?_
  refine aw_eqS (st := [.int (wor (G 11) (G 8) (G 4 w) (G 3 w) P σ)]) rfl ?_
  refine aw_run oX7_worth smOk 1 (pc' := 30) (L' := [some (.ref 0), some (.int (nI σ)), some (.int (nI w))]) (st' := [.int (wor (G 11) (G 8) (G 4 w) (G 3 w) P σ)]) (I' := I) (J' := J) (G' := G) rfl ?_
  exact aw_iret rfl (oX7_worth.dec rfl) pe_rfl
set_option maxRecDepth 20000 in
theorem m_mark_bad {I : II} {J : JJ} {G : II} {x y : Int32} (hx : notIn x 6) : AMet SM mX7_mark [.ref 0, .int x, .int y] I J G (PE (some (.int (-1000000 : Int32))) I J G) := by
  refine amet_en oX7_mark rfl rfl (L := [some (.ref 0), some (.int x), some (.int y), none]) rfl ?_
  refine aw_run oX7_mark smOk 3 (pc' := 3) (L' := [some (.ref 0), some (.int x), some (.int y), none]) (st' := [.int (nI 5), .int (nI 0), .int x]) (I' := I) (J' := J) (G' := G) rfl ?_
  refine aw_cS (st := []) [.int x, .int (nI 0), .int (nI 5)] oX7_in k7_60 rfl rfl rfl rfl rfl (oX7_mark.dec rfl) (m_inF (notIn_in0 hx (by decide) (by decide))) ?_
  refine aw_eqS (st := [.int (nI 0)]) rfl ?_
  refine aw_0eqN rfl (by omega) (oX7_mark.dec rfl) (tgt := 17) rfl (fun h6 => ?_) (fun h6 => absurd h6 (by omega))
  refine aw_run oX7_mark smOk 1 (pc' := 19) (L' := [some (.ref 0), some (.int x), some (.int y), none]) (st' := [.int (-1000000 : Int32)]) (I' := I) (J' := J) (G' := G) rfl ?_
  exact aw_iret rfl (oX7_mark.dec rfl) pe_rfl
set_option maxRecDepth 20000 in
theorem m_mark_bad2 {I : II} {J : JJ} {G : II} {P : Nat} (hP : G 5 0 = nI P) (hP5 : P ≤ 5) {k : Nat} {x : Int32} (hk : k < 6) (hx : notIn x P) : AMet SM mX7_mark [.ref 0, .int (nI k), .int x] I J G (PE (some (.int (-1000000 : Int32))) I J G) := by
  refine amet_en oX7_mark rfl rfl (L := [some (.ref 0), some (.int (nI k)), some (.int x), none]) rfl ?_
  refine aw_run oX7_mark smOk 3 (pc' := 3) (L' := [some (.ref 0), some (.int (nI k)), some (.int x), none]) (st' := [.int (nI 5), .int (nI 0), .int (nI k)]) (I' := I) (J' := J) (G' := G) rfl ?_
  refine aw_cS (st := []) [.int (nI k), .int (nI 0), .int (nI 5)] oX7_in k7_60 rfl rfl rfl rfl rfl (oX7_mark.dec rfl) (m_inN (by omega) (by omega) (by omega)) ?_
  refine aw_eqS (st := [.int (b1 (decide (0 ≤ k ∧ k ≤ 5)))]) rfl ?_
  refine aw_0eqD (oX7_mark.dec rfl) (tgt := 17) rfl (fun h6 => absurd h6 (by omega)) (fun h6 => ?_)
  refine aw_run oX7_mark smOk 2 (pc' := 11) (L' := [some (.ref 0), some (.int (nI k)), some (.int x), none]) (st' := [.int x, .ref 0]) (I' := I) (J' := J) (G' := G) rfl ?_
  refine aw_cV (st := []) 0 [.int x] oX7_isShip k7_117 rfl rfl rfl rfl rfl rfl rfl rfl (oX7_mark.dec rfl) (m_isShip_f hP (by omega) (by assumption)) ?_
  refine aw_eqS (st := [.int (nI 0)]) rfl ?_
  refine aw_0neN rfl (by omega) (oX7_mark.dec rfl) (tgt := 20) rfl (fun h14 => absurd h14 (by omega)) (fun h14 => ?_)
  refine aw_run oX7_mark smOk 1 (pc' := 19) (L' := [some (.ref 0), some (.int (nI k)), some (.int x), none]) (st' := [.int (-1000000 : Int32)]) (I' := I) (J' := J) (G' := G) rfl ?_
  exact aw_iret rfl (oX7_mark.dec rfl) pe_rfl
set_option maxRecDepth 20000 in
theorem m_mark_0 {I : II} {J : JJ} {G : II} {P : Nat} (hP : G 5 0 = nI P) (hP5 : P ≤ 5) {s : Nat} (hs : s < P) : AMet SM mX7_mark [.ref 0, .int (nI 0), .int (nI s)] I J G (PE (some (.int (G 11 (8 + s)))) I (up2 J 0 0 ((J 0 0) + (Int64.ofNat 1))) G) := by
  refine amet_en oX7_mark rfl rfl (L := [some (.ref 0), some (.int (nI 0)), some (.int (nI s)), none]) rfl ?_
  refine aw_run oX7_mark smOk 3 (pc' := 3) (L' := [some (.ref 0), some (.int (nI 0)), some (.int (nI s)), none]) (st' := [.int (nI 5), .int (nI 0), .int (nI 0)]) (I' := I) (J' := J) (G' := G) rfl ?_
  refine aw_cS (st := []) [.int (nI 0), .int (nI 0), .int (nI 5)] oX7_in k7_60 rfl rfl rfl rfl rfl (oX7_mark.dec rfl) (m_inN (by omega) (by omega) (by omega)) ?_
  refine aw_eqS (st := [.int (b1 (decide (0 ≤ 0 ∧ 0 ≤ 5)))]) rfl ?_
  refine aw_0eqD (oX7_mark.dec rfl) (tgt := 17) rfl (fun h6 => absurd h6 (by omega)) (fun h6 => ?_)
  refine aw_run oX7_mark smOk 2 (pc' := 11) (L' := [some (.ref 0), some (.int (nI 0)), some (.int (nI s)), none]) (st' := [.int (nI s), .ref 0]) (I' := I) (J' := J) (G' := G) rfl ?_
  refine aw_cV (st := []) 0 [.int (nI s)] oX7_isShip k7_117 rfl rfl rfl rfl rfl rfl rfl rfl (oX7_mark.dec rfl) (m_isShip_t hP (by omega) (by omega)) ?_
  refine aw_eqS (st := [.int (nI 1)]) rfl ?_
  refine aw_0neN rfl (by omega) (oX7_mark.dec rfl) (tgt := 20) rfl (fun h14 => ?_) (fun h14 => absurd h14 (by omega))
  refine aw_run oX7_mark smOk 5 (pc' := 28) (L' := [some (.ref 0), some (.int (nI 0)), some (.int (nI s)), none]) (st' := [.int ((nI 8) + (nI s)), .ref 11]) (I' := I) (J' := J) (G' := G) rfl ?_
  refine aw_iaN (8 + s) smOk rfl (addN rfl rfl) (by omega) (oX7_mark.dec rfl) ?_
  refine aw_run oX7_mark smOk 2 (pc' := 31) (L' := [some (.ref 0), some (.int (nI 0)), some (.int (nI s)), some (.int (G 11 (8 + s)))]) (st' := [.int (nI 0)]) (I' := I) (J' := J) (G' := G) rfl ?_
  refine aw_tableIn (x := nI 0) (oX7_mark.dec rfl) (by decide) (by decide) (off := 33) (by decide) (tgt := 64) rfl ?_
  refine aw_run oX7_mark smOk 7 (pc' := 75) (L' := [some (.ref 0), some (.int (nI 0)), some (.int (nI s)), some (.int (G 11 (8 + s)))]) (st' := [.int (G 11 (8 + s))]) (I' := I) (J' := up2 J 0 0 ((J 0 0) + (Int64.ofNat 1))) (G' := G) rfl ?_
  exact aw_iret rfl (oX7_mark.dec rfl) pe_rfl
set_option maxRecDepth 20000 in
theorem m_mark_1 {I : II} {J : JJ} {G : II} {P : Nat} (hP : G 5 0 = nI P) (hP5 : P ≤ 5) {s : Nat} (hs : s < P) : AMet SM mX7_mark [.ref 0, .int (nI 1), .int (nI s)] I J G (PE (some (.int ((G 11 (8 + s)) + (G 8 s)))) I (up2 J 0 0 ((J 0 0) + (11 : Int64))) G) := by
  refine amet_en oX7_mark rfl rfl (L := [some (.ref 0), some (.int (nI 1)), some (.int (nI s)), none]) rfl ?_
  refine aw_run oX7_mark smOk 3 (pc' := 3) (L' := [some (.ref 0), some (.int (nI 1)), some (.int (nI s)), none]) (st' := [.int (nI 5), .int (nI 0), .int (nI 1)]) (I' := I) (J' := J) (G' := G) rfl ?_
  refine aw_cS (st := []) [.int (nI 1), .int (nI 0), .int (nI 5)] oX7_in k7_60 rfl rfl rfl rfl rfl (oX7_mark.dec rfl) (m_inN (by omega) (by omega) (by omega)) ?_
  refine aw_eqS (st := [.int (b1 (decide (0 ≤ 1 ∧ 1 ≤ 5)))]) rfl ?_
  refine aw_0eqD (oX7_mark.dec rfl) (tgt := 17) rfl (fun h6 => absurd h6 (by omega)) (fun h6 => ?_)
  refine aw_run oX7_mark smOk 2 (pc' := 11) (L' := [some (.ref 0), some (.int (nI 1)), some (.int (nI s)), none]) (st' := [.int (nI s), .ref 0]) (I' := I) (J' := J) (G' := G) rfl ?_
  refine aw_cV (st := []) 0 [.int (nI s)] oX7_isShip k7_117 rfl rfl rfl rfl rfl rfl rfl rfl (oX7_mark.dec rfl) (m_isShip_t hP (by omega) (by omega)) ?_
  refine aw_eqS (st := [.int (nI 1)]) rfl ?_
  refine aw_0neN rfl (by omega) (oX7_mark.dec rfl) (tgt := 20) rfl (fun h14 => ?_) (fun h14 => absurd h14 (by omega))
  refine aw_run oX7_mark smOk 5 (pc' := 28) (L' := [some (.ref 0), some (.int (nI 1)), some (.int (nI s)), none]) (st' := [.int ((nI 8) + (nI s)), .ref 11]) (I' := I) (J' := J) (G' := G) rfl ?_
  refine aw_iaN (8 + s) smOk rfl (addN rfl rfl) (by omega) (oX7_mark.dec rfl) ?_
  refine aw_run oX7_mark smOk 2 (pc' := 31) (L' := [some (.ref 0), some (.int (nI 1)), some (.int (nI s)), some (.int (G 11 (8 + s)))]) (st' := [.int (nI 1)]) (I' := I) (J' := J) (G' := G) rfl ?_
  refine aw_tableIn (x := nI 1) (oX7_mark.dec rfl) (by decide) (by decide) (off := 45) (by decide) (tgt := 76) rfl ?_
  refine aw_run oX7_mark smOk 10 (pc' := 94) (L' := [some (.ref 0), some (.int (nI 1)), some (.int (nI s)), some (.int (G 11 (8 + s)))]) (st' := [.int (nI s), .ref 8, .int (G 11 (8 + s))]) (I' := I) (J' := up2 J 0 0 ((J 0 0) + (11 : Int64))) (G' := G) rfl ?_
  refine aw_iaN s smOk rfl rfl (by omega) (oX7_mark.dec rfl) ?_
  refine aw_run oX7_mark smOk 1 (pc' := 96) (L' := [some (.ref 0), some (.int (nI 1)), some (.int (nI s)), some (.int (G 11 (8 + s)))]) (st' := [.int ((G 11 (8 + s)) + (G 8 s))]) (I' := I) (J' := up2 J 0 0 ((J 0 0) + (11 : Int64))) (G' := G) rfl ?_
  exact aw_iret rfl (oX7_mark.dec rfl) pe_rfl
set_option maxRecDepth 20000 in
theorem m_mark_2 {I : II} {J : JJ} {G : II} {P : Nat} (hP : G 5 0 = nI P) (hP5 : P ≤ 5) {s : Nat} (hs : s < P) : AMet SM mX7_mark [.ref 0, .int (nI 2), .int (nI s)] I J G (PE (some (.int ((G 11 (8 + s)) - (G 9 s)))) I (up2 J 0 0 ((J 0 0) + (101 : Int64))) G) := by
  refine amet_en oX7_mark rfl rfl (L := [some (.ref 0), some (.int (nI 2)), some (.int (nI s)), none]) rfl ?_
  refine aw_run oX7_mark smOk 3 (pc' := 3) (L' := [some (.ref 0), some (.int (nI 2)), some (.int (nI s)), none]) (st' := [.int (nI 5), .int (nI 0), .int (nI 2)]) (I' := I) (J' := J) (G' := G) rfl ?_
  refine aw_cS (st := []) [.int (nI 2), .int (nI 0), .int (nI 5)] oX7_in k7_60 rfl rfl rfl rfl rfl (oX7_mark.dec rfl) (m_inN (by omega) (by omega) (by omega)) ?_
  refine aw_eqS (st := [.int (b1 (decide (0 ≤ 2 ∧ 2 ≤ 5)))]) rfl ?_
  refine aw_0eqD (oX7_mark.dec rfl) (tgt := 17) rfl (fun h6 => absurd h6 (by omega)) (fun h6 => ?_)
  refine aw_run oX7_mark smOk 2 (pc' := 11) (L' := [some (.ref 0), some (.int (nI 2)), some (.int (nI s)), none]) (st' := [.int (nI s), .ref 0]) (I' := I) (J' := J) (G' := G) rfl ?_
  refine aw_cV (st := []) 0 [.int (nI s)] oX7_isShip k7_117 rfl rfl rfl rfl rfl rfl rfl rfl (oX7_mark.dec rfl) (m_isShip_t hP (by omega) (by omega)) ?_
  refine aw_eqS (st := [.int (nI 1)]) rfl ?_
  refine aw_0neN rfl (by omega) (oX7_mark.dec rfl) (tgt := 20) rfl (fun h14 => ?_) (fun h14 => absurd h14 (by omega))
  refine aw_run oX7_mark smOk 5 (pc' := 28) (L' := [some (.ref 0), some (.int (nI 2)), some (.int (nI s)), none]) (st' := [.int ((nI 8) + (nI s)), .ref 11]) (I' := I) (J' := J) (G' := G) rfl ?_
  refine aw_iaN (8 + s) smOk rfl (addN rfl rfl) (by omega) (oX7_mark.dec rfl) ?_
  refine aw_run oX7_mark smOk 2 (pc' := 31) (L' := [some (.ref 0), some (.int (nI 2)), some (.int (nI s)), some (.int (G 11 (8 + s)))]) (st' := [.int (nI 2)]) (I' := I) (J' := J) (G' := G) rfl ?_
  refine aw_tableIn (x := nI 2) (oX7_mark.dec rfl) (by decide) (by decide) (off := 66) (by decide) (tgt := 97) rfl ?_
  refine aw_run oX7_mark smOk 10 (pc' := 115) (L' := [some (.ref 0), some (.int (nI 2)), some (.int (nI s)), some (.int (G 11 (8 + s)))]) (st' := [.int (nI s), .ref 9, .int (G 11 (8 + s))]) (I' := I) (J' := up2 J 0 0 ((J 0 0) + (101 : Int64))) (G' := G) rfl ?_
  refine aw_iaN s smOk rfl rfl (by omega) (oX7_mark.dec rfl) ?_
  refine aw_run oX7_mark smOk 1 (pc' := 117) (L' := [some (.ref 0), some (.int (nI 2)), some (.int (nI s)), some (.int (G 11 (8 + s)))]) (st' := [.int ((G 11 (8 + s)) - (G 9 s))]) (I' := I) (J' := up2 J 0 0 ((J 0 0) + (101 : Int64))) (G' := G) rfl ?_
  exact aw_iret rfl (oX7_mark.dec rfl) pe_rfl
set_option maxRecDepth 20000 in
theorem m_mark_3 {I : II} {J : JJ} {G : II} {P : Nat} (hP : G 5 0 = nI P) (hP5 : P ≤ 5) {s : Nat} (hs : s < P) : AMet SM mX7_mark [.ref 0, .int (nI 3), .int (nI s)] I J G (PE (some (.int ((nI 2) * ((G 11 (8 + s)) + (G 8 s))))) I (up2 J 0 0 ((J 0 0) + (1011 : Int64))) G) := by
  refine amet_en oX7_mark rfl rfl (L := [some (.ref 0), some (.int (nI 3)), some (.int (nI s)), none]) rfl ?_
  refine aw_run oX7_mark smOk 3 (pc' := 3) (L' := [some (.ref 0), some (.int (nI 3)), some (.int (nI s)), none]) (st' := [.int (nI 5), .int (nI 0), .int (nI 3)]) (I' := I) (J' := J) (G' := G) rfl ?_
  refine aw_cS (st := []) [.int (nI 3), .int (nI 0), .int (nI 5)] oX7_in k7_60 rfl rfl rfl rfl rfl (oX7_mark.dec rfl) (m_inN (by omega) (by omega) (by omega)) ?_
  refine aw_eqS (st := [.int (b1 (decide (0 ≤ 3 ∧ 3 ≤ 5)))]) rfl ?_
  refine aw_0eqD (oX7_mark.dec rfl) (tgt := 17) rfl (fun h6 => absurd h6 (by omega)) (fun h6 => ?_)
  refine aw_run oX7_mark smOk 2 (pc' := 11) (L' := [some (.ref 0), some (.int (nI 3)), some (.int (nI s)), none]) (st' := [.int (nI s), .ref 0]) (I' := I) (J' := J) (G' := G) rfl ?_
  refine aw_cV (st := []) 0 [.int (nI s)] oX7_isShip k7_117 rfl rfl rfl rfl rfl rfl rfl rfl (oX7_mark.dec rfl) (m_isShip_t hP (by omega) (by omega)) ?_
  refine aw_eqS (st := [.int (nI 1)]) rfl ?_
  refine aw_0neN rfl (by omega) (oX7_mark.dec rfl) (tgt := 20) rfl (fun h14 => ?_) (fun h14 => absurd h14 (by omega))
  refine aw_run oX7_mark smOk 5 (pc' := 28) (L' := [some (.ref 0), some (.int (nI 3)), some (.int (nI s)), none]) (st' := [.int ((nI 8) + (nI s)), .ref 11]) (I' := I) (J' := J) (G' := G) rfl ?_
  refine aw_iaN (8 + s) smOk rfl (addN rfl rfl) (by omega) (oX7_mark.dec rfl) ?_
  refine aw_run oX7_mark smOk 2 (pc' := 31) (L' := [some (.ref 0), some (.int (nI 3)), some (.int (nI s)), some (.int (G 11 (8 + s)))]) (st' := [.int (nI 3)]) (I' := I) (J' := J) (G' := G) rfl ?_
  refine aw_tableIn (x := nI 3) (oX7_mark.dec rfl) (by decide) (by decide) (off := 87) (by decide) (tgt := 118) rfl ?_
  refine aw_run oX7_mark smOk 11 (pc' := 137) (L' := [some (.ref 0), some (.int (nI 3)), some (.int (nI s)), some (.int (G 11 (8 + s)))]) (st' := [.int (nI s), .ref 8, .int (G 11 (8 + s)), .int (nI 2)]) (I' := I) (J' := up2 J 0 0 ((J 0 0) + (1011 : Int64))) (G' := G) rfl ?_
  refine aw_iaN s smOk rfl rfl (by omega) (oX7_mark.dec rfl) ?_
  refine aw_run oX7_mark smOk 2 (pc' := 140) (L' := [some (.ref 0), some (.int (nI 3)), some (.int (nI s)), some (.int (G 11 (8 + s)))]) (st' := [.int ((nI 2) * ((G 11 (8 + s)) + (G 8 s)))]) (I' := I) (J' := up2 J 0 0 ((J 0 0) + (1011 : Int64))) (G' := G) rfl ?_
  exact aw_iret rfl (oX7_mark.dec rfl) pe_rfl
set_option maxRecDepth 20000 in
theorem m_mark_4 {I : II} {J : JJ} {G : II} {P : Nat} (hP : G 5 0 = nI P) (hP5 : P ≤ 5) {s : Nat} (hs : s < P) : AMet SM mX7_mark [.ref 0, .int (nI 4), .int (nI s)] I J G (PE (some (.int (((G 11 (8 + s)) - (G 9 s)) + (nI s)))) I (up2 J 0 0 ((J 0 0) + (10101 : Int64))) G) := by
  refine amet_en oX7_mark rfl rfl (L := [some (.ref 0), some (.int (nI 4)), some (.int (nI s)), none]) rfl ?_
  refine aw_run oX7_mark smOk 3 (pc' := 3) (L' := [some (.ref 0), some (.int (nI 4)), some (.int (nI s)), none]) (st' := [.int (nI 5), .int (nI 0), .int (nI 4)]) (I' := I) (J' := J) (G' := G) rfl ?_
  refine aw_cS (st := []) [.int (nI 4), .int (nI 0), .int (nI 5)] oX7_in k7_60 rfl rfl rfl rfl rfl (oX7_mark.dec rfl) (m_inN (by omega) (by omega) (by omega)) ?_
  refine aw_eqS (st := [.int (b1 (decide (0 ≤ 4 ∧ 4 ≤ 5)))]) rfl ?_
  refine aw_0eqD (oX7_mark.dec rfl) (tgt := 17) rfl (fun h6 => absurd h6 (by omega)) (fun h6 => ?_)
  refine aw_run oX7_mark smOk 2 (pc' := 11) (L' := [some (.ref 0), some (.int (nI 4)), some (.int (nI s)), none]) (st' := [.int (nI s), .ref 0]) (I' := I) (J' := J) (G' := G) rfl ?_
  refine aw_cV (st := []) 0 [.int (nI s)] oX7_isShip k7_117 rfl rfl rfl rfl rfl rfl rfl rfl (oX7_mark.dec rfl) (m_isShip_t hP (by omega) (by omega)) ?_
  refine aw_eqS (st := [.int (nI 1)]) rfl ?_
  refine aw_0neN rfl (by omega) (oX7_mark.dec rfl) (tgt := 20) rfl (fun h14 => ?_) (fun h14 => absurd h14 (by omega))
  refine aw_run oX7_mark smOk 5 (pc' := 28) (L' := [some (.ref 0), some (.int (nI 4)), some (.int (nI s)), none]) (st' := [.int ((nI 8) + (nI s)), .ref 11]) (I' := I) (J' := J) (G' := G) rfl ?_
  refine aw_iaN (8 + s) smOk rfl (addN rfl rfl) (by omega) (oX7_mark.dec rfl) ?_
  refine aw_run oX7_mark smOk 2 (pc' := 31) (L' := [some (.ref 0), some (.int (nI 4)), some (.int (nI s)), some (.int (G 11 (8 + s)))]) (st' := [.int (nI 4)]) (I' := I) (J' := J) (G' := G) rfl ?_
  refine aw_tableIn (x := nI 4) (oX7_mark.dec rfl) (by decide) (by decide) (off := 110) (by decide) (tgt := 141) rfl ?_
  refine aw_run oX7_mark smOk 10 (pc' := 159) (L' := [some (.ref 0), some (.int (nI 4)), some (.int (nI s)), some (.int (G 11 (8 + s)))]) (st' := [.int (nI s), .ref 9, .int (G 11 (8 + s))]) (I' := I) (J' := up2 J 0 0 ((J 0 0) + (10101 : Int64))) (G' := G) rfl ?_
  refine aw_iaN s smOk rfl rfl (by omega) (oX7_mark.dec rfl) ?_
  refine aw_run oX7_mark smOk 3 (pc' := 163) (L' := [some (.ref 0), some (.int (nI 4)), some (.int (nI s)), some (.int (G 11 (8 + s)))]) (st' := [.int (((G 11 (8 + s)) - (G 9 s)) + (nI s))]) (I' := I) (J' := up2 J 0 0 ((J 0 0) + (10101 : Int64))) (G' := G) rfl ?_
  exact aw_iret rfl (oX7_mark.dec rfl) pe_rfl
set_option maxRecDepth 20000 in
theorem m_mark_5 {I : II} {J : JJ} {G : II} {P : Nat} (hP : G 5 0 = nI P) (hP5 : P ≤ 5) {s : Nat} (hs : s < P) : AMet SM mX7_mark [.ref 0, .int (nI 5), .int (nI s)] I J G (PE (some (.int ((G 11 (8 + s)) + (G 11 0)))) I (up2 J 0 0 ((J 0 0) + (100001 : Int64))) G) := by
  refine amet_en oX7_mark rfl rfl (L := [some (.ref 0), some (.int (nI 5)), some (.int (nI s)), none]) rfl ?_
  refine aw_run oX7_mark smOk 3 (pc' := 3) (L' := [some (.ref 0), some (.int (nI 5)), some (.int (nI s)), none]) (st' := [.int (nI 5), .int (nI 0), .int (nI 5)]) (I' := I) (J' := J) (G' := G) rfl ?_
  refine aw_cS (st := []) [.int (nI 5), .int (nI 0), .int (nI 5)] oX7_in k7_60 rfl rfl rfl rfl rfl (oX7_mark.dec rfl) (m_inN (by omega) (by omega) (by omega)) ?_
  refine aw_eqS (st := [.int (b1 (decide (0 ≤ 5 ∧ 5 ≤ 5)))]) rfl ?_
  refine aw_0eqD (oX7_mark.dec rfl) (tgt := 17) rfl (fun h6 => absurd h6 (by omega)) (fun h6 => ?_)
  refine aw_run oX7_mark smOk 2 (pc' := 11) (L' := [some (.ref 0), some (.int (nI 5)), some (.int (nI s)), none]) (st' := [.int (nI s), .ref 0]) (I' := I) (J' := J) (G' := G) rfl ?_
  refine aw_cV (st := []) 0 [.int (nI s)] oX7_isShip k7_117 rfl rfl rfl rfl rfl rfl rfl rfl (oX7_mark.dec rfl) (m_isShip_t hP (by omega) (by omega)) ?_
  refine aw_eqS (st := [.int (nI 1)]) rfl ?_
  refine aw_0neN rfl (by omega) (oX7_mark.dec rfl) (tgt := 20) rfl (fun h14 => ?_) (fun h14 => absurd h14 (by omega))
  refine aw_run oX7_mark smOk 5 (pc' := 28) (L' := [some (.ref 0), some (.int (nI 5)), some (.int (nI s)), none]) (st' := [.int ((nI 8) + (nI s)), .ref 11]) (I' := I) (J' := J) (G' := G) rfl ?_
  refine aw_iaN (8 + s) smOk rfl (addN rfl rfl) (by omega) (oX7_mark.dec rfl) ?_
  refine aw_run oX7_mark smOk 2 (pc' := 31) (L' := [some (.ref 0), some (.int (nI 5)), some (.int (nI s)), some (.int (G 11 (8 + s)))]) (st' := [.int (nI 5)]) (I' := I) (J' := J) (G' := G) rfl ?_
  refine aw_tableOut (x := nI 5) (oX7_mark.dec rfl) (by first | assumption | decide) (tgt := 164) rfl ?_
  refine aw_run oX7_mark smOk 10 (pc' := 182) (L' := [some (.ref 0), some (.int (nI 5)), some (.int (nI s)), some (.int (G 11 (8 + s)))]) (st' := [.int (nI 0), .ref 11, .int (G 11 (8 + s))]) (I' := I) (J' := up2 J 0 0 ((J 0 0) + (100001 : Int64))) (G' := G) rfl ?_
  refine aw_iaN 0 smOk rfl rfl (by omega) (oX7_mark.dec rfl) ?_
  refine aw_run oX7_mark smOk 1 (pc' := 184) (L' := [some (.ref 0), some (.int (nI 5)), some (.int (nI s)), some (.int (G 11 (8 + s)))]) (st' := [.int ((G 11 (8 + s)) + (G 11 0))]) (I' := I) (J' := up2 J 0 0 ((J 0 0) + (100001 : Int64))) (G' := G) rfl ?_
  exact aw_iret rfl (oX7_mark.dec rfl) pe_rfl
set_option maxRecDepth 20000 in
theorem m_keep_0 {I : II} {J : JJ} {G : II}  : AMet SM mX7_keep [.ref 0, .int (nI 0)] I J G (PE (some (.int (G 11 0))) I J (va_up (va_up G 11 (va_cpy (G 11) (G 11) 0 199 199)) 12 (upd (G 12) 0 (nI 1)))) := by
  refine amet_en oX7_keep rfl rfl (L := [some (.ref 0), some (.int (nI 0)), none]) rfl ?_
  have loop : ∀ (n s : Nat) (x : Int32), s + n = 199 → x = nI s → AW SM mX7_keep 13 [some (.ref 0), some (.int (nI 0)), some (.int x)] [] I J (va_up G 11 (va_cpy (G 11) (G 11) 0 199 s)) (PE (some (.int (G 11 0))) I J (va_up (va_up G 11 (va_cpy (G 11) (G 11) 0 199 199)) 12 (upd (G 12) 0 (nI 1)))) := by
    intro n
    induction n with
    | zero =>
      intro s x hsn hx
      refine aw_run oX7_keep smOk 2 (pc' := 17) (L' := [some (.ref 0), some (.int (nI 0)), some (.int x)]) (st' := [.int (nI 199), .int x]) (I' := I) (J' := J) (G' := va_up G 11 (va_cpy (G 11) (G 11) 0 199 s)) rfl ?_
      refine aw_geN hx rfl (by omega) (by omega) (oX7_keep.dec rfl) (tgt := 46) rfl (fun h17 => ?_) (fun h17 => absurd h17 (by omega))
      refine aw_run oX7_keep smOk 4 (pc' := 52) (L' := [some (.ref 0), some (.int (nI 0)), some (.int x)]) (st' := [.int (nI 1), .int (nI 0), .ref 12]) (I' := I) (J' := J) (G' := va_up G 11 (va_cpy (G 11) (G 11) 0 199 s)) rfl ?_
      refine aw_zsN 0 smOk rfl rfl (by omega) (oX7_keep.dec rfl) (by first | exact Or.inl rfl | exact Or.inr rfl) ?_
      refine aw_eqG (G' := va_up (va_up G 11 (va_cpy (G 11) (G 11) 0 199 s)) 12 (upd (G 12) 0 (nI 1))) (rfl) ?_
      refine aw_run oX7_keep smOk 3 (pc' := 58) (L' := [some (.ref 0), some (.int (nI 0)), some (.int x)]) (st' := [.int (nI 0), .ref 11]) (I' := I) (J' := J) (G' := va_up (va_up G 11 (va_cpy (G 11) (G 11) 0 199 s)) 12 (upd (G 12) 0 (nI 1))) rfl ?_
      refine aw_iaN 0 smOk rfl rfl (by omega) (oX7_keep.dec rfl) ?_
      refine aw_eqS (st := [.int ((va_cpy (G 11) (G 11) 0 199 s) 0)]) rfl ?_
      exact aw_iret rfl (oX7_keep.dec rfl) (⟨by rw [pk_cpy_out (by omega)], rfl, rfl, by rw [show s = 199 by omega]⟩)
    | succ n ih =>
      intro s x hsn hx
      refine aw_run oX7_keep smOk 2 (pc' := 17) (L' := [some (.ref 0), some (.int (nI 0)), some (.int x)]) (st' := [.int (nI 199), .int x]) (I' := I) (J' := J) (G' := va_up G 11 (va_cpy (G 11) (G 11) 0 199 s)) rfl ?_
      refine aw_geN hx rfl (by omega) (by omega) (oX7_keep.dec rfl) (tgt := 46) rfl (fun h17 => absurd h17 (by omega)) (fun h17 => ?_)
      refine aw_run oX7_keep smOk 12 (pc' := 38) (L' := [some (.ref 0), some (.int (nI 0)), some (.int x)]) (st' := [.int x, .ref 11, .int (((nI 199) * ((nI 1) + (nI 0))) + x), .ref 11]) (I' := I) (J' := J) (G' := va_up G 11 (va_cpy (G 11) (G 11) 0 199 s)) rfl ?_
      refine aw_iaN s smOk rfl hx (by omega) (oX7_keep.dec rfl) ?_
      refine aw_eqS (st := [.int ((va_cpy (G 11) (G 11) 0 199 s) s), .int (((nI 199) * ((nI 1) + (nI 0))) + x), .ref 11]) rfl ?_
      refine aw_isN (199 * (1 + 0) + s) smOk rfl (addN (mulN rfl (addN rfl rfl)) hx) (by omega) (oX7_keep.dec rfl) ?_
      refine aw_eqG (G' := va_up G 11 (upd (va_cpy (G 11) (G 11) 0 199 s) (199 * (1 + 0) + s) ((va_cpy (G 11) (G 11) 0 199 s) s))) (bx_uu _ _ _ _) ?_
      refine aw_run oX7_keep smOk 2 (pc' := 13) (L' := [some (.ref 0), some (.int (nI 0)), some (.int (x + (nI 1)))]) (st' := []) (I' := I) (J' := J) (G' := va_up G 11 (upd (va_cpy (G 11) (G 11) 0 199 s) (199 * (1 + 0) + s) ((va_cpy (G 11) (G 11) 0 199 s) s))) rfl ?_
      rw [show upd (va_cpy (G 11) (G 11) 0 199 s) (199 * (1 + 0) + s) ((va_cpy (G 11) (G 11) 0 199 s) (s)) = va_cpy (G 11) (G 11) 0 199 (s + 1) from by have h := cpy_step (f := G 11) (sp := 0) (dp := 199) (s := s) (by omega); rw [Nat.zero_add] at h; exact h]
      exact ih (s + 1) _ (by omega) (addN hx rfl)
  refine aw_run oX7_keep smOk 3 (pc' := 3) (L' := [some (.ref 0), some (.int (nI 0)), none]) (st' := [.int (nI 1), .int (nI 0), .int (nI 0)]) (I' := I) (J' := J) (G' := G) rfl ?_
  refine aw_cS (st := []) [.int (nI 0), .int (nI 0), .int (nI 1)] oX7_in k7_60 rfl rfl rfl rfl rfl (oX7_keep.dec rfl) (m_inN (by omega) (by omega) (by omega)) ?_
  refine aw_eqS (st := [.int (b1 (decide (0 ≤ 0 ∧ 0 ≤ 1)))]) rfl ?_
  refine aw_0neD (oX7_keep.dec rfl) (tgt := 11) rfl (fun h6 => ?_) (fun h6 => absurd h6 (by omega))
  refine aw_run oX7_keep smOk 2 (pc' := 13) (L' := [some (.ref 0), some (.int (nI 0)), some (.int (nI 0))]) (st' := []) (I' := I) (J' := J) (G' := G) rfl ?_
  refine aw_eqG (G' := va_up G 11 (va_cpy (G 11) (G 11) 0 199 0)) (by rw [cpy_0, upG_id]) ?_
  exact loop 199 0 _ (by omega) rfl
set_option maxRecDepth 20000 in
theorem m_back_0 {I : II} {J : JJ} {G : II} (hk : G 12 0 = nI 1) : AMet SM mX7_back [.ref 0, .int (nI 0)] I J G (PE (some (.int (G 11 199))) I J (va_up G 11 (va_cpy (G 11) (G 11) 199 0 199))) := by
  refine amet_en oX7_back rfl rfl (L := [some (.ref 0), some (.int (nI 0)), none]) rfl ?_
  have loop : ∀ (n s : Nat) (x : Int32), s + n = 199 → x = nI s → AW SM mX7_back 25 [some (.ref 0), some (.int (nI 0)), some (.int x)] [] I J (va_up G 11 (va_cpy (G 11) (G 11) 199 0 s)) (PE (some (.int (G 11 199))) I J (va_up G 11 (va_cpy (G 11) (G 11) 199 0 199))) := by
    intro n
    induction n with
    | zero =>
      intro s x hsn hx
      refine aw_run oX7_back smOk 2 (pc' := 29) (L' := [some (.ref 0), some (.int (nI 0)), some (.int x)]) (st' := [.int (nI 199), .int x]) (I' := I) (J' := J) (G' := va_up G 11 (va_cpy (G 11) (G 11) 199 0 s)) rfl ?_
      refine aw_geN hx rfl (by omega) (by omega) (oX7_back.dec rfl) (tgt := 58) rfl (fun h29 => ?_) (fun h29 => absurd h29 (by omega))
      refine aw_run oX7_back smOk 3 (pc' := 63) (L' := [some (.ref 0), some (.int (nI 0)), some (.int x)]) (st' := [.int (nI 0), .ref 11]) (I' := I) (J' := J) (G' := va_up G 11 (va_cpy (G 11) (G 11) 199 0 s)) rfl ?_
      refine aw_iaN 0 smOk rfl rfl (by omega) (oX7_back.dec rfl) ?_
      refine aw_eqS (st := [.int ((va_cpy (G 11) (G 11) 199 0 s) 0)]) rfl ?_
      exact aw_iret rfl (oX7_back.dec rfl) (⟨by rw [show s = 199 by omega, pk_cpy_in (by omega) (by omega)], rfl, rfl, by rw [show s = 199 by omega]⟩)
    | succ n ih =>
      intro s x hsn hx
      refine aw_run oX7_back smOk 2 (pc' := 29) (L' := [some (.ref 0), some (.int (nI 0)), some (.int x)]) (st' := [.int (nI 199), .int x]) (I' := I) (J' := J) (G' := va_up G 11 (va_cpy (G 11) (G 11) 199 0 s)) rfl ?_
      refine aw_geN hx rfl (by omega) (by omega) (oX7_back.dec rfl) (tgt := 58) rfl (fun h29 => absurd h29 (by omega)) (fun h29 => ?_)
      refine aw_run oX7_back smOk 12 (pc' := 50) (L' := [some (.ref 0), some (.int (nI 0)), some (.int x)]) (st' := [.int (((nI 199) * ((nI 1) + (nI 0))) + x), .ref 11, .int x, .ref 11]) (I' := I) (J' := J) (G' := va_up G 11 (va_cpy (G 11) (G 11) 199 0 s)) rfl ?_
      refine aw_iaN (199 * (1 + 0) + s) smOk rfl (addN (mulN rfl (addN rfl rfl)) hx) (by omega) (oX7_back.dec rfl) ?_
      refine aw_eqS (st := [.int ((va_cpy (G 11) (G 11) 199 0 s) (199 * (1 + 0) + s)), .int x, .ref 11]) rfl ?_
      refine aw_isN s smOk rfl hx (by omega) (oX7_back.dec rfl) ?_
      refine aw_eqG (G' := va_up G 11 (upd (va_cpy (G 11) (G 11) 199 0 s) s ((va_cpy (G 11) (G 11) 199 0 s) (199 * (1 + 0) + s)))) (bx_uu _ _ _ _) ?_
      refine aw_run oX7_back smOk 2 (pc' := 25) (L' := [some (.ref 0), some (.int (nI 0)), some (.int (x + (nI 1)))]) (st' := []) (I' := I) (J' := J) (G' := va_up G 11 (upd (va_cpy (G 11) (G 11) 199 0 s) s ((va_cpy (G 11) (G 11) 199 0 s) (199 * (1 + 0) + s)))) rfl ?_
      rw [show upd (va_cpy (G 11) (G 11) 199 0 s) (s) ((va_cpy (G 11) (G 11) 199 0 s) (199 * (1 + 0) + s)) = va_cpy (G 11) (G 11) 199 0 (s + 1) from by have h := cpy_step (f := G 11) (sp := 199) (dp := 0) (s := s) (by omega); rw [Nat.zero_add] at h; exact h]
      exact ih (s + 1) _ (by omega) (addN hx rfl)
  refine aw_run oX7_back smOk 3 (pc' := 3) (L' := [some (.ref 0), some (.int (nI 0)), none]) (st' := [.int (nI 1), .int (nI 0), .int (nI 0)]) (I' := I) (J' := J) (G' := G) rfl ?_
  refine aw_cS (st := []) [.int (nI 0), .int (nI 0), .int (nI 1)] oX7_in k7_60 rfl rfl rfl rfl rfl (oX7_back.dec rfl) (m_inN (by omega) (by omega) (by omega)) ?_
  refine aw_eqS (st := [.int (b1 (decide (0 ≤ 0 ∧ 0 ≤ 1)))]) rfl ?_
  refine aw_0neD (oX7_back.dec rfl) (tgt := 11) rfl (fun h6 => ?_) (fun h6 => absurd h6 (by omega))
  refine aw_run oX7_back smOk 3 (pc' := 16) (L' := [some (.ref 0), some (.int (nI 0)), none]) (st' := [.int (nI 0), .ref 12]) (I' := I) (J' := J) (G' := G) rfl ?_
  refine aw_zaN 0 smOk rfl rfl (by omega) (oX7_back.dec rfl) ?_
  refine aw_0neN hk (by omega) (oX7_back.dec rfl) (tgt := 23) rfl (fun h17 => ?_) (fun h17 => absurd h17 (by omega))
  refine aw_run oX7_back smOk 2 (pc' := 25) (L' := [some (.ref 0), some (.int (nI 0)), some (.int (nI 0))]) (st' := []) (I' := I) (J' := J) (G' := G) rfl ?_
  refine aw_eqG (G' := va_up G 11 (va_cpy (G 11) (G 11) 199 0 0)) (by rw [cpy_0, upG_id]) ?_
  exact loop 199 0 _ (by omega) rfl
set_option maxRecDepth 20000 in
theorem m_back_no_0 {I : II} {J : JJ} {G : II} (hk : G 12 0 = nI 0) : AMet SM mX7_back [.ref 0, .int (nI 0)] I J G (PE (some (.int (-nI 2))) I J G) := by
  refine amet_en oX7_back rfl rfl (L := [some (.ref 0), some (.int (nI 0)), none]) rfl ?_
  refine aw_run oX7_back smOk 3 (pc' := 3) (L' := [some (.ref 0), some (.int (nI 0)), none]) (st' := [.int (nI 1), .int (nI 0), .int (nI 0)]) (I' := I) (J' := J) (G' := G) rfl ?_
  refine aw_cS (st := []) [.int (nI 0), .int (nI 0), .int (nI 1)] oX7_in k7_60 rfl rfl rfl rfl rfl (oX7_back.dec rfl) (m_inN (by omega) (by omega) (by omega)) ?_
  refine aw_eqS (st := [.int (b1 (decide (0 ≤ 0 ∧ 0 ≤ 1)))]) rfl ?_
  refine aw_0neD (oX7_back.dec rfl) (tgt := 11) rfl (fun h6 => ?_) (fun h6 => absurd h6 (by omega))
  refine aw_run oX7_back smOk 3 (pc' := 16) (L' := [some (.ref 0), some (.int (nI 0)), none]) (st' := [.int (nI 0), .ref 12]) (I' := I) (J' := J) (G' := G) rfl ?_
  refine aw_zaN 0 smOk rfl rfl (by omega) (oX7_back.dec rfl) ?_
  refine aw_0neN hk (by omega) (oX7_back.dec rfl) (tgt := 23) rfl (fun h17 => absurd h17 (by omega)) (fun h17 => ?_)
  refine aw_run oX7_back smOk 1 (pc' := 22) (L' := [some (.ref 0), some (.int (nI 0)), none]) (st' := [.int (-nI 2)]) (I' := I) (J' := J) (G' := G) rfl ?_
  exact aw_iret rfl (oX7_back.dec rfl) pe_rfl
set_option maxRecDepth 20000 in
theorem m_keep_1 {I : II} {J : JJ} {G : II}  : AMet SM mX7_keep [.ref 0, .int (nI 1)] I J G (PE (some (.int (G 11 0))) I J (va_up (va_up G 11 (va_cpy (G 11) (G 11) 0 398 199)) 12 (upd (G 12) 1 (nI 1)))) := by
  refine amet_en oX7_keep rfl rfl (L := [some (.ref 0), some (.int (nI 1)), none]) rfl ?_
  have loop : ∀ (n s : Nat) (x : Int32), s + n = 199 → x = nI s → AW SM mX7_keep 13 [some (.ref 0), some (.int (nI 1)), some (.int x)] [] I J (va_up G 11 (va_cpy (G 11) (G 11) 0 398 s)) (PE (some (.int (G 11 0))) I J (va_up (va_up G 11 (va_cpy (G 11) (G 11) 0 398 199)) 12 (upd (G 12) 1 (nI 1)))) := by
    intro n
    induction n with
    | zero =>
      intro s x hsn hx
      refine aw_run oX7_keep smOk 2 (pc' := 17) (L' := [some (.ref 0), some (.int (nI 1)), some (.int x)]) (st' := [.int (nI 199), .int x]) (I' := I) (J' := J) (G' := va_up G 11 (va_cpy (G 11) (G 11) 0 398 s)) rfl ?_
      refine aw_geN hx rfl (by omega) (by omega) (oX7_keep.dec rfl) (tgt := 46) rfl (fun h17 => ?_) (fun h17 => absurd h17 (by omega))
      refine aw_run oX7_keep smOk 4 (pc' := 52) (L' := [some (.ref 0), some (.int (nI 1)), some (.int x)]) (st' := [.int (nI 1), .int (nI 1), .ref 12]) (I' := I) (J' := J) (G' := va_up G 11 (va_cpy (G 11) (G 11) 0 398 s)) rfl ?_
      refine aw_zsN 1 smOk rfl rfl (by omega) (oX7_keep.dec rfl) (by first | exact Or.inl rfl | exact Or.inr rfl) ?_
      refine aw_eqG (G' := va_up (va_up G 11 (va_cpy (G 11) (G 11) 0 398 s)) 12 (upd (G 12) 1 (nI 1))) (rfl) ?_
      refine aw_run oX7_keep smOk 3 (pc' := 58) (L' := [some (.ref 0), some (.int (nI 1)), some (.int x)]) (st' := [.int (nI 0), .ref 11]) (I' := I) (J' := J) (G' := va_up (va_up G 11 (va_cpy (G 11) (G 11) 0 398 s)) 12 (upd (G 12) 1 (nI 1))) rfl ?_
      refine aw_iaN 0 smOk rfl rfl (by omega) (oX7_keep.dec rfl) ?_
      refine aw_eqS (st := [.int ((va_cpy (G 11) (G 11) 0 398 s) 0)]) rfl ?_
      exact aw_iret rfl (oX7_keep.dec rfl) (⟨by rw [pk_cpy_out (by omega)], rfl, rfl, by rw [show s = 199 by omega]⟩)
    | succ n ih =>
      intro s x hsn hx
      refine aw_run oX7_keep smOk 2 (pc' := 17) (L' := [some (.ref 0), some (.int (nI 1)), some (.int x)]) (st' := [.int (nI 199), .int x]) (I' := I) (J' := J) (G' := va_up G 11 (va_cpy (G 11) (G 11) 0 398 s)) rfl ?_
      refine aw_geN hx rfl (by omega) (by omega) (oX7_keep.dec rfl) (tgt := 46) rfl (fun h17 => absurd h17 (by omega)) (fun h17 => ?_)
      refine aw_run oX7_keep smOk 12 (pc' := 38) (L' := [some (.ref 0), some (.int (nI 1)), some (.int x)]) (st' := [.int x, .ref 11, .int (((nI 199) * ((nI 1) + (nI 1))) + x), .ref 11]) (I' := I) (J' := J) (G' := va_up G 11 (va_cpy (G 11) (G 11) 0 398 s)) rfl ?_
      refine aw_iaN s smOk rfl hx (by omega) (oX7_keep.dec rfl) ?_
      refine aw_eqS (st := [.int ((va_cpy (G 11) (G 11) 0 398 s) s), .int (((nI 199) * ((nI 1) + (nI 1))) + x), .ref 11]) rfl ?_
      refine aw_isN (199 * (1 + 1) + s) smOk rfl (addN (mulN rfl (addN rfl rfl)) hx) (by omega) (oX7_keep.dec rfl) ?_
      refine aw_eqG (G' := va_up G 11 (upd (va_cpy (G 11) (G 11) 0 398 s) (199 * (1 + 1) + s) ((va_cpy (G 11) (G 11) 0 398 s) s))) (bx_uu _ _ _ _) ?_
      refine aw_run oX7_keep smOk 2 (pc' := 13) (L' := [some (.ref 0), some (.int (nI 1)), some (.int (x + (nI 1)))]) (st' := []) (I' := I) (J' := J) (G' := va_up G 11 (upd (va_cpy (G 11) (G 11) 0 398 s) (199 * (1 + 1) + s) ((va_cpy (G 11) (G 11) 0 398 s) s))) rfl ?_
      rw [show upd (va_cpy (G 11) (G 11) 0 398 s) (199 * (1 + 1) + s) ((va_cpy (G 11) (G 11) 0 398 s) (s)) = va_cpy (G 11) (G 11) 0 398 (s + 1) from by have h := cpy_step (f := G 11) (sp := 0) (dp := 398) (s := s) (by omega); rw [Nat.zero_add] at h; exact h]
      exact ih (s + 1) _ (by omega) (addN hx rfl)
  refine aw_run oX7_keep smOk 3 (pc' := 3) (L' := [some (.ref 0), some (.int (nI 1)), none]) (st' := [.int (nI 1), .int (nI 0), .int (nI 1)]) (I' := I) (J' := J) (G' := G) rfl ?_
  refine aw_cS (st := []) [.int (nI 1), .int (nI 0), .int (nI 1)] oX7_in k7_60 rfl rfl rfl rfl rfl (oX7_keep.dec rfl) (m_inN (by omega) (by omega) (by omega)) ?_
  refine aw_eqS (st := [.int (b1 (decide (0 ≤ 1 ∧ 1 ≤ 1)))]) rfl ?_
  refine aw_0neD (oX7_keep.dec rfl) (tgt := 11) rfl (fun h6 => ?_) (fun h6 => absurd h6 (by omega))
  refine aw_run oX7_keep smOk 2 (pc' := 13) (L' := [some (.ref 0), some (.int (nI 1)), some (.int (nI 0))]) (st' := []) (I' := I) (J' := J) (G' := G) rfl ?_
  refine aw_eqG (G' := va_up G 11 (va_cpy (G 11) (G 11) 0 398 0)) (by rw [cpy_0, upG_id]) ?_
  exact loop 199 0 _ (by omega) rfl
set_option maxRecDepth 20000 in
theorem m_back_1 {I : II} {J : JJ} {G : II} (hk : G 12 1 = nI 1) : AMet SM mX7_back [.ref 0, .int (nI 1)] I J G (PE (some (.int (G 11 398))) I J (va_up G 11 (va_cpy (G 11) (G 11) 398 0 199))) := by
  refine amet_en oX7_back rfl rfl (L := [some (.ref 0), some (.int (nI 1)), none]) rfl ?_
  have loop : ∀ (n s : Nat) (x : Int32), s + n = 199 → x = nI s → AW SM mX7_back 25 [some (.ref 0), some (.int (nI 1)), some (.int x)] [] I J (va_up G 11 (va_cpy (G 11) (G 11) 398 0 s)) (PE (some (.int (G 11 398))) I J (va_up G 11 (va_cpy (G 11) (G 11) 398 0 199))) := by
    intro n
    induction n with
    | zero =>
      intro s x hsn hx
      refine aw_run oX7_back smOk 2 (pc' := 29) (L' := [some (.ref 0), some (.int (nI 1)), some (.int x)]) (st' := [.int (nI 199), .int x]) (I' := I) (J' := J) (G' := va_up G 11 (va_cpy (G 11) (G 11) 398 0 s)) rfl ?_
      refine aw_geN hx rfl (by omega) (by omega) (oX7_back.dec rfl) (tgt := 58) rfl (fun h29 => ?_) (fun h29 => absurd h29 (by omega))
      refine aw_run oX7_back smOk 3 (pc' := 63) (L' := [some (.ref 0), some (.int (nI 1)), some (.int x)]) (st' := [.int (nI 0), .ref 11]) (I' := I) (J' := J) (G' := va_up G 11 (va_cpy (G 11) (G 11) 398 0 s)) rfl ?_
      refine aw_iaN 0 smOk rfl rfl (by omega) (oX7_back.dec rfl) ?_
      refine aw_eqS (st := [.int ((va_cpy (G 11) (G 11) 398 0 s) 0)]) rfl ?_
      exact aw_iret rfl (oX7_back.dec rfl) (⟨by rw [show s = 199 by omega, pk_cpy_in (by omega) (by omega)], rfl, rfl, by rw [show s = 199 by omega]⟩)
    | succ n ih =>
      intro s x hsn hx
      refine aw_run oX7_back smOk 2 (pc' := 29) (L' := [some (.ref 0), some (.int (nI 1)), some (.int x)]) (st' := [.int (nI 199), .int x]) (I' := I) (J' := J) (G' := va_up G 11 (va_cpy (G 11) (G 11) 398 0 s)) rfl ?_
      refine aw_geN hx rfl (by omega) (by omega) (oX7_back.dec rfl) (tgt := 58) rfl (fun h29 => absurd h29 (by omega)) (fun h29 => ?_)
      refine aw_run oX7_back smOk 12 (pc' := 50) (L' := [some (.ref 0), some (.int (nI 1)), some (.int x)]) (st' := [.int (((nI 199) * ((nI 1) + (nI 1))) + x), .ref 11, .int x, .ref 11]) (I' := I) (J' := J) (G' := va_up G 11 (va_cpy (G 11) (G 11) 398 0 s)) rfl ?_
      refine aw_iaN (199 * (1 + 1) + s) smOk rfl (addN (mulN rfl (addN rfl rfl)) hx) (by omega) (oX7_back.dec rfl) ?_
      refine aw_eqS (st := [.int ((va_cpy (G 11) (G 11) 398 0 s) (199 * (1 + 1) + s)), .int x, .ref 11]) rfl ?_
      refine aw_isN s smOk rfl hx (by omega) (oX7_back.dec rfl) ?_
      refine aw_eqG (G' := va_up G 11 (upd (va_cpy (G 11) (G 11) 398 0 s) s ((va_cpy (G 11) (G 11) 398 0 s) (199 * (1 + 1) + s)))) (bx_uu _ _ _ _) ?_
      refine aw_run oX7_back smOk 2 (pc' := 25) (L' := [some (.ref 0), some (.int (nI 1)), some (.int (x + (nI 1)))]) (st' := []) (I' := I) (J' := J) (G' := va_up G 11 (upd (va_cpy (G 11) (G 11) 398 0 s) s ((va_cpy (G 11) (G 11) 398 0 s) (199 * (1 + 1) + s)))) rfl ?_
      rw [show upd (va_cpy (G 11) (G 11) 398 0 s) (s) ((va_cpy (G 11) (G 11) 398 0 s) (199 * (1 + 1) + s)) = va_cpy (G 11) (G 11) 398 0 (s + 1) from by have h := cpy_step (f := G 11) (sp := 398) (dp := 0) (s := s) (by omega); rw [Nat.zero_add] at h; exact h]
      exact ih (s + 1) _ (by omega) (addN hx rfl)
  refine aw_run oX7_back smOk 3 (pc' := 3) (L' := [some (.ref 0), some (.int (nI 1)), none]) (st' := [.int (nI 1), .int (nI 0), .int (nI 1)]) (I' := I) (J' := J) (G' := G) rfl ?_
  refine aw_cS (st := []) [.int (nI 1), .int (nI 0), .int (nI 1)] oX7_in k7_60 rfl rfl rfl rfl rfl (oX7_back.dec rfl) (m_inN (by omega) (by omega) (by omega)) ?_
  refine aw_eqS (st := [.int (b1 (decide (0 ≤ 1 ∧ 1 ≤ 1)))]) rfl ?_
  refine aw_0neD (oX7_back.dec rfl) (tgt := 11) rfl (fun h6 => ?_) (fun h6 => absurd h6 (by omega))
  refine aw_run oX7_back smOk 3 (pc' := 16) (L' := [some (.ref 0), some (.int (nI 1)), none]) (st' := [.int (nI 1), .ref 12]) (I' := I) (J' := J) (G' := G) rfl ?_
  refine aw_zaN 1 smOk rfl rfl (by omega) (oX7_back.dec rfl) ?_
  refine aw_0neN hk (by omega) (oX7_back.dec rfl) (tgt := 23) rfl (fun h17 => ?_) (fun h17 => absurd h17 (by omega))
  refine aw_run oX7_back smOk 2 (pc' := 25) (L' := [some (.ref 0), some (.int (nI 1)), some (.int (nI 0))]) (st' := []) (I' := I) (J' := J) (G' := G) rfl ?_
  refine aw_eqG (G' := va_up G 11 (va_cpy (G 11) (G 11) 398 0 0)) (by rw [cpy_0, upG_id]) ?_
  exact loop 199 0 _ (by omega) rfl
set_option maxRecDepth 20000 in
theorem m_back_no_1 {I : II} {J : JJ} {G : II} (hk : G 12 1 = nI 0) : AMet SM mX7_back [.ref 0, .int (nI 1)] I J G (PE (some (.int (-nI 2))) I J G) := by
  refine amet_en oX7_back rfl rfl (L := [some (.ref 0), some (.int (nI 1)), none]) rfl ?_
  refine aw_run oX7_back smOk 3 (pc' := 3) (L' := [some (.ref 0), some (.int (nI 1)), none]) (st' := [.int (nI 1), .int (nI 0), .int (nI 1)]) (I' := I) (J' := J) (G' := G) rfl ?_
  refine aw_cS (st := []) [.int (nI 1), .int (nI 0), .int (nI 1)] oX7_in k7_60 rfl rfl rfl rfl rfl (oX7_back.dec rfl) (m_inN (by omega) (by omega) (by omega)) ?_
  refine aw_eqS (st := [.int (b1 (decide (0 ≤ 1 ∧ 1 ≤ 1)))]) rfl ?_
  refine aw_0neD (oX7_back.dec rfl) (tgt := 11) rfl (fun h6 => ?_) (fun h6 => absurd h6 (by omega))
  refine aw_run oX7_back smOk 3 (pc' := 16) (L' := [some (.ref 0), some (.int (nI 1)), none]) (st' := [.int (nI 1), .ref 12]) (I' := I) (J' := J) (G' := G) rfl ?_
  refine aw_zaN 1 smOk rfl rfl (by omega) (oX7_back.dec rfl) ?_
  refine aw_0neN hk (by omega) (oX7_back.dec rfl) (tgt := 23) rfl (fun h17 => absurd h17 (by omega)) (fun h17 => ?_)
  refine aw_run oX7_back smOk 1 (pc' := 22) (L' := [some (.ref 0), some (.int (nI 1)), none]) (st' := [.int (-nI 2)]) (I' := I) (J' := J) (G' := G) rfl ?_
  exact aw_iret rfl (oX7_back.dec rfl) pe_rfl
set_option maxRecDepth 20000 in
theorem m_keep_bad {I : II} {J : JJ} {G : II} {x : Int32} (hx : notIn x 2) : AMet SM mX7_keep [.ref 0, .int x] I J G (PE (some (.int (-nI 1))) I J G) := by
  refine amet_en oX7_keep rfl rfl (L := [some (.ref 0), some (.int x), none]) rfl ?_
  refine aw_run oX7_keep smOk 3 (pc' := 3) (L' := [some (.ref 0), some (.int x), none]) (st' := [.int (nI 1), .int (nI 0), .int x]) (I' := I) (J' := J) (G' := G) rfl ?_
  refine aw_cS (st := []) [.int x, .int (nI 0), .int (nI 1)] oX7_in k7_60 rfl rfl rfl rfl rfl (oX7_keep.dec rfl) (m_inF (notIn_in0 hx (by decide) (by decide))) ?_
  refine aw_eqS (st := [.int (nI 0)]) rfl ?_
  refine aw_0neN rfl (by omega) (oX7_keep.dec rfl) (tgt := 11) rfl (fun h6 => absurd h6 (by omega)) (fun h6 => ?_)
  refine aw_run oX7_keep smOk 1 (pc' := 10) (L' := [some (.ref 0), some (.int x), none]) (st' := [.int (-nI 1)]) (I' := I) (J' := J) (G' := G) rfl ?_
  exact aw_iret rfl (oX7_keep.dec rfl) pe_rfl
set_option maxRecDepth 20000 in
theorem m_back_bad {I : II} {J : JJ} {G : II} {x : Int32} (hx : notIn x 2) : AMet SM mX7_back [.ref 0, .int x] I J G (PE (some (.int (-nI 1))) I J G) := by
  refine amet_en oX7_back rfl rfl (L := [some (.ref 0), some (.int x), none]) rfl ?_
  refine aw_run oX7_back smOk 3 (pc' := 3) (L' := [some (.ref 0), some (.int x), none]) (st' := [.int (nI 1), .int (nI 0), .int x]) (I' := I) (J' := J) (G' := G) rfl ?_
  refine aw_cS (st := []) [.int x, .int (nI 0), .int (nI 1)] oX7_in k7_60 rfl rfl rfl rfl rfl (oX7_back.dec rfl) (m_inF (notIn_in0 hx (by decide) (by decide))) ?_
  refine aw_eqS (st := [.int (nI 0)]) rfl ?_
  refine aw_0neN rfl (by omega) (oX7_back.dec rfl) (tgt := 11) rfl (fun h6 => absurd h6 (by omega)) (fun h6 => ?_)
  refine aw_run oX7_back smOk 1 (pc' := 10) (L' := [some (.ref 0), some (.int x), none]) (st' := [.int (-nI 1)]) (I' := I) (J' := J) (G' := G) rfl ?_
  exact aw_iret rfl (oX7_back.dec rfl) pe_rfl
set_option maxRecDepth 20000 in
theorem m_count_0 {I : II} {J : JJ} {G : II}  : AMet SM mX7_count [.ref 0, .int (nI 0)] I J G (PE (some (.int (G 2 0))) I J G) := by
  refine amet_en oX7_count rfl rfl (L := [some (.ref 0), some (.int (nI 0))]) rfl ?_
  refine aw_run oX7_count smOk 1 (pc' := 1) (L' := [some (.ref 0), some (.int (nI 0))]) (st' := [.int (nI 0)]) (I' := I) (J' := J) (G' := G) rfl ?_
  refine aw_tableIn (x := nI 0) (oX7_count.dec rfl) (by decide) (by decide) (off := 35) (by decide) (tgt := 36) rfl ?_
  refine aw_run oX7_count smOk 3 (pc' := 41) (L' := [some (.ref 0), some (.int (nI 0))]) (st' := [.int (nI 0), .ref 2]) (I' := I) (J' := J) (G' := G) rfl ?_
  refine aw_iaN 0 smOk rfl rfl (by omega) (oX7_count.dec rfl) ?_
  exact aw_iret rfl (oX7_count.dec rfl) pe_rfl
set_option maxRecDepth 20000 in
theorem m_count_1 {I : II} {J : JJ} {G : II}  : AMet SM mX7_count [.ref 0, .int (nI 1)] I J G (PE (some (.int (G 5 0))) I J G) := by
  refine amet_en oX7_count rfl rfl (L := [some (.ref 0), some (.int (nI 1))]) rfl ?_
  refine aw_run oX7_count smOk 1 (pc' := 1) (L' := [some (.ref 0), some (.int (nI 1))]) (st' := [.int (nI 1)]) (I' := I) (J' := J) (G' := G) rfl ?_
  refine aw_tableIn (x := nI 1) (oX7_count.dec rfl) (by decide) (by decide) (off := 42) (by decide) (tgt := 43) rfl ?_
  refine aw_run oX7_count smOk 3 (pc' := 48) (L' := [some (.ref 0), some (.int (nI 1))]) (st' := [.int (nI 0), .ref 5]) (I' := I) (J' := J) (G' := G) rfl ?_
  refine aw_iaN 0 smOk rfl rfl (by omega) (oX7_count.dec rfl) ?_
  exact aw_iret rfl (oX7_count.dec rfl) pe_rfl
set_option maxRecDepth 20000 in
theorem m_count_2 {I : II} {J : JJ} {G : II}  : AMet SM mX7_count [.ref 0, .int (nI 2)] I J G (PE (some (.int (G 10 0))) I J G) := by
  refine amet_en oX7_count rfl rfl (L := [some (.ref 0), some (.int (nI 2))]) rfl ?_
  refine aw_run oX7_count smOk 1 (pc' := 1) (L' := [some (.ref 0), some (.int (nI 2))]) (st' := [.int (nI 2)]) (I' := I) (J' := J) (G' := G) rfl ?_
  refine aw_tableIn (x := nI 2) (oX7_count.dec rfl) (by decide) (by decide) (off := 49) (by decide) (tgt := 50) rfl ?_
  refine aw_run oX7_count smOk 3 (pc' := 55) (L' := [some (.ref 0), some (.int (nI 2))]) (st' := [.int (nI 0), .ref 10]) (I' := I) (J' := J) (G' := G) rfl ?_
  refine aw_iaN 0 smOk rfl rfl (by omega) (oX7_count.dec rfl) ?_
  exact aw_iret rfl (oX7_count.dec rfl) pe_rfl
set_option maxRecDepth 20000 in
theorem m_count_3 {I : II} {J : JJ} {G : II}  : AMet SM mX7_count [.ref 0, .int (nI 3)] I J G (PE (some (.int (G 11 18))) I J G) := by
  refine amet_en oX7_count rfl rfl (L := [some (.ref 0), some (.int (nI 3))]) rfl ?_
  refine aw_run oX7_count smOk 1 (pc' := 1) (L' := [some (.ref 0), some (.int (nI 3))]) (st' := [.int (nI 3)]) (I' := I) (J' := J) (G' := G) rfl ?_
  refine aw_tableIn (x := nI 3) (oX7_count.dec rfl) (by decide) (by decide) (off := 56) (by decide) (tgt := 57) rfl ?_
  refine aw_run oX7_count smOk 3 (pc' := 63) (L' := [some (.ref 0), some (.int (nI 3))]) (st' := [.int (nI 18), .ref 11]) (I' := I) (J' := J) (G' := G) rfl ?_
  refine aw_iaN 18 smOk rfl rfl (by omega) (oX7_count.dec rfl) ?_
  exact aw_iret rfl (oX7_count.dec rfl) pe_rfl
set_option maxRecDepth 20000 in
theorem m_count_4 {I : II} {J : JJ} {G : II}  : AMet SM mX7_count [.ref 0, .int (nI 4)] I J G (PE (some (.int (I 0 2))) I J G) := by
  refine amet_en oX7_count rfl rfl (L := [some (.ref 0), some (.int (nI 4))]) rfl ?_
  refine aw_run oX7_count smOk 1 (pc' := 1) (L' := [some (.ref 0), some (.int (nI 4))]) (st' := [.int (nI 4)]) (I' := I) (J' := J) (G' := G) rfl ?_
  refine aw_tableIn (x := nI 4) (oX7_count.dec rfl) (by decide) (by decide) (off := 64) (by decide) (tgt := 65) rfl ?_
  refine aw_run oX7_count smOk 2 (pc' := 69) (L' := [some (.ref 0), some (.int (nI 4))]) (st' := [.int (I 0 2)]) (I' := I) (J' := J) (G' := G) rfl ?_
  exact aw_iret rfl (oX7_count.dec rfl) pe_rfl
set_option maxRecDepth 20000 in
theorem m_count_bad {I : II} {J : JJ} {G : II} {x : Int32} (hx : notIn x 5) : AMet SM mX7_count [.ref 0, .int x] I J G (PE (some (.int (-nI 1))) I J G) := by
  refine amet_en oX7_count rfl rfl (L := [some (.ref 0), some (.int x)]) rfl ?_
  refine aw_run oX7_count smOk 1 (pc' := 1) (L' := [some (.ref 0), some (.int x)]) (st' := [.int x]) (I' := I) (J' := J) (G' := G) rfl ?_
  refine aw_tableOut (x := x) (oX7_count.dec rfl) (notIn_tab hx (by decide)) (tgt := 70) rfl ?_
  refine aw_run oX7_count smOk 1 (pc' := 71) (L' := [some (.ref 0), some (.int x)]) (st' := [.int (-nI 1)]) (I' := I) (J' := J) (G' := G) rfl ?_
  exact aw_iret rfl (oX7_count.dec rfl) pe_rfl
set_option maxRecDepth 20000 in
theorem m_trace {I : II} {J : JJ} {G : II}  : AMet SM mX7_trace [.ref 0] I J G (PE (some (.long (J 0 0))) I J G) := by
  refine amet_en oX7_trace rfl rfl (L := [some (.ref 0)]) rfl ?_
  refine aw_run oX7_trace smOk 2 (pc' := 4) (L' := [some (.ref 0)]) (st' := [.long (J 0 0)]) (I' := I) (J' := J) (G' := G) rfl ?_
  exact aw_lret rfl (oX7_trace.dec rfl) pe_rfl
