set_option maxRecDepth 20000 in
theorem c_isOver {I : II} {J : JJ} {G : II} {Wk : Nat} (hW : I 2 6 = nI Wk) (hWk : Wk ≤ 12) {t : Nat} (ht : G 24 0 = nI t) (ht12 : t ≤ 12) : AMet SX mX6_isOver [.ref 0] I J G (PE (some (.int (b1 (decide (Wk ≤ t))))) I J G) := by
  refine amet_en oX6_isOver rfl rfl (L := [some (.ref 0)]) rfl ?_
  refine aw_run oX6_isOver sxOk 2 (pc' := 4) (L' := [some (.ref 0)]) (st' := [.ref 4]) (I' := I) (J' := J) (G' := G) rfl ?_
  refine aw_cV (st := []) 4 [] oX2_theWeek k6_126 rfl rfl rfl rfl rfl rfl rfl rfl (oX6_isOver.dec rfl) c_theWeek ?_
  refine aw_eqS (st := [.int (G 24 0)]) rfl ?_
  refine aw_run oX6_isOver sxOk 3 (pc' := 14) (L' := [some (.ref 0)]) (st' := [.int (I 2 6), .int (G 24 0)]) (I' := I) (J' := J) (G' := G) rfl ?_
  refine aw_ltN ht hW (by omega) (by omega) (oX6_isOver.dec rfl) (tgt := 21) rfl (fun h14 => ?_) (fun h14 => ?_)
  · refine aw_run oX6_isOver sxOk 1 (pc' := 22) (L' := [some (.ref 0)]) (st' := [.int (nI 0)]) (I' := I) (J' := J) (G' := G) rfl ?_
    exact aw_zret rfl (by first | exact Or.inl rfl | exact Or.inr rfl) (oX6_isOver.dec rfl) (pe_i (b1_f (by omega)))
  · refine aw_run oX6_isOver sxOk 2 (pc' := 22) (L' := [some (.ref 0)]) (st' := [.int (nI 1)]) (I' := I) (J' := J) (G' := G) rfl ?_
    exact aw_zret rfl (by first | exact Or.inl rfl | exact Or.inr rfl) (oX6_isOver.dec rfl) (pe_i (b1_t (by omega)))
set_option maxRecDepth 20000 in
theorem c_drawOf {I : II} {J : JJ} {G : II} {s t z : Nat} (hs : s < 5) (ht : t ≤ 12) (hz : z ≤ 9999) : AMet SX mX6_drawOf [.int (nI s), .int (nI t), .int (nI z)] I J G (PE (some (.int (nI (dN z s t)))) I J G) := by
  refine amet_en oX6_drawOf rfl rfl (L := [some (.int (nI s)), some (.int (nI t)), some (.int (nI z)), none, none]) rfl ?_
  refine aw_run oX6_drawOf sxOk 21 (pc' := 29) (L' := [some (.int (nI s)), some (.int (nI t)), some (.int (nI z)), some (.long (((((7919 : Int64) * ((nI z).toInt64)) + ((6151 : Int64) * ((nI s).toInt64))) + ((12289 : Int64) * ((nI t).toInt64))) + (Int64.ofNat 1))), none]) (st' := [.long (65521 : Int64), .long ((((((7919 : Int64) * ((nI z).toInt64)) + ((6151 : Int64) * ((nI s).toInt64))) + ((12289 : Int64) * ((nI t).toInt64))) + (Int64.ofNat 1)) * (((((7919 : Int64) * ((nI z).toInt64)) + ((6151 : Int64) * ((nI s).toInt64))) + ((12289 : Int64) * ((nI t).toInt64))) + (Int64.ofNat 1)))]) (I' := I) (J' := J) (G' := G) rfl ?_
  refine aw_lrem (by decide) (oX6_drawOf.dec rfl) ?_
  refine aw_run oX6_drawOf sxOk 1 (pc' := 33) (L' := [some (.int (nI s)), some (.int (nI t)), some (.int (nI z)), some (.long (((((7919 : Int64) * ((nI z).toInt64)) + ((6151 : Int64) * ((nI s).toInt64))) + ((12289 : Int64) * ((nI t).toInt64))) + (Int64.ofNat 1))), none]) (st' := [.long (8 : Int64), .long (((((((7919 : Int64) * ((nI z).toInt64)) + ((6151 : Int64) * ((nI s).toInt64))) + ((12289 : Int64) * ((nI t).toInt64))) + (Int64.ofNat 1)) * (((((7919 : Int64) * ((nI z).toInt64)) + ((6151 : Int64) * ((nI s).toInt64))) + ((12289 : Int64) * ((nI t).toInt64))) + (Int64.ofNat 1))) - ((((((7919 : Int64) * ((nI z).toInt64)) + ((6151 : Int64) * ((nI s).toInt64))) + ((12289 : Int64) * ((nI t).toInt64))) + (Int64.ofNat 1)) * (((((7919 : Int64) * ((nI z).toInt64)) + ((6151 : Int64) * ((nI s).toInt64))) + ((12289 : Int64) * ((nI t).toInt64))) + (Int64.ofNat 1))) / (65521 : Int64) * (65521 : Int64))]) (I' := I) (J' := J) (G' := G) rfl ?_
  refine aw_ldiv (by decide) (oX6_drawOf.dec rfl) ?_
  refine aw_run oX6_drawOf sxOk 1 (pc' := 37) (L' := [some (.int (nI s)), some (.int (nI t)), some (.int (nI z)), some (.long (((((7919 : Int64) * ((nI z).toInt64)) + ((6151 : Int64) * ((nI s).toInt64))) + ((12289 : Int64) * ((nI t).toInt64))) + (Int64.ofNat 1))), none]) (st' := [.long (10 : Int64), .long ((((((((7919 : Int64) * ((nI z).toInt64)) + ((6151 : Int64) * ((nI s).toInt64))) + ((12289 : Int64) * ((nI t).toInt64))) + (Int64.ofNat 1)) * (((((7919 : Int64) * ((nI z).toInt64)) + ((6151 : Int64) * ((nI s).toInt64))) + ((12289 : Int64) * ((nI t).toInt64))) + (Int64.ofNat 1))) - ((((((7919 : Int64) * ((nI z).toInt64)) + ((6151 : Int64) * ((nI s).toInt64))) + ((12289 : Int64) * ((nI t).toInt64))) + (Int64.ofNat 1)) * (((((7919 : Int64) * ((nI z).toInt64)) + ((6151 : Int64) * ((nI s).toInt64))) + ((12289 : Int64) * ((nI t).toInt64))) + (Int64.ofNat 1))) / (65521 : Int64) * (65521 : Int64)) / (8 : Int64))]) (I' := I) (J' := J) (G' := G) rfl ?_
  refine aw_lrem (by decide) (oX6_drawOf.dec rfl) ?_
  refine aw_run oX6_drawOf sxOk 1 (pc' := 39) (L' := [some (.int (nI s)), some (.int (nI t)), some (.int (nI z)), some (.long (((((7919 : Int64) * ((nI z).toInt64)) + ((6151 : Int64) * ((nI s).toInt64))) + ((12289 : Int64) * ((nI t).toInt64))) + (Int64.ofNat 1))), none]) (st' := [.int ((((((((((7919 : Int64) * ((nI z).toInt64)) + ((6151 : Int64) * ((nI s).toInt64))) + ((12289 : Int64) * ((nI t).toInt64))) + (Int64.ofNat 1)) * (((((7919 : Int64) * ((nI z).toInt64)) + ((6151 : Int64) * ((nI s).toInt64))) + ((12289 : Int64) * ((nI t).toInt64))) + (Int64.ofNat 1))) - ((((((7919 : Int64) * ((nI z).toInt64)) + ((6151 : Int64) * ((nI s).toInt64))) + ((12289 : Int64) * ((nI t).toInt64))) + (Int64.ofNat 1)) * (((((7919 : Int64) * ((nI z).toInt64)) + ((6151 : Int64) * ((nI s).toInt64))) + ((12289 : Int64) * ((nI t).toInt64))) + (Int64.ofNat 1))) / (65521 : Int64) * (65521 : Int64)) / (8 : Int64)) - ((((((((7919 : Int64) * ((nI z).toInt64)) + ((6151 : Int64) * ((nI s).toInt64))) + ((12289 : Int64) * ((nI t).toInt64))) + (Int64.ofNat 1)) * (((((7919 : Int64) * ((nI z).toInt64)) + ((6151 : Int64) * ((nI s).toInt64))) + ((12289 : Int64) * ((nI t).toInt64))) + (Int64.ofNat 1))) - ((((((7919 : Int64) * ((nI z).toInt64)) + ((6151 : Int64) * ((nI s).toInt64))) + ((12289 : Int64) * ((nI t).toInt64))) + (Int64.ofNat 1)) * (((((7919 : Int64) * ((nI z).toInt64)) + ((6151 : Int64) * ((nI s).toInt64))) + ((12289 : Int64) * ((nI t).toInt64))) + (Int64.ofNat 1))) / (65521 : Int64) * (65521 : Int64)) / (8 : Int64)) / (10 : Int64) * (10 : Int64)).toInt32)]) (I' := I) (J' := J) (G' := G) rfl ?_
  exact aw_iret rfl (oX6_drawOf.dec rfl) (pe_i (draw_x z s t (by omega) (by omega) (by omega) _ (dq_eq z s t (by omega) (by omega) (by omega))))
set_option maxRecDepth 20000 in
theorem c_sailOne_t {I : II} {J : JJ} {G : II} {s t z : Nat} (hs : s < 5) (ht : G 24 0 = nI t) (ht12 : t < 12) (hz : z ≤ 9999) : AMet SX mX6_sailOne [.ref 0, .int (nI s), .int (nI 1), .int (nI z)] I J G (PE (some (.int (nI 0))) I J (va_up G 24 (sail1 (G 24) (I 2 8) (G 12 t) true (dN z s t) s))) := by
  refine amet_en oX6_sailOne rfl rfl (L := [some (.ref 0), some (.int (nI s)), some (.int (nI 1)), some (.int (nI z)), none]) rfl ?_
  refine aw_run oX6_sailOne sxOk 2 (pc' := 4) (L' := [some (.ref 0), some (.int (nI s)), some (.int (nI 1)), some (.int (nI z)), none]) (st' := [.ref 4]) (I' := I) (J' := J) (G' := G) rfl ?_
  refine aw_cV (st := []) 4 [] oX2_theWeek k6_126 rfl rfl rfl rfl rfl rfl rfl rfl (oX6_sailOne.dec rfl) c_theWeek ?_
  refine aw_eqS (st := [.int (G 24 0)]) rfl ?_
  refine aw_run oX6_sailOne sxOk 2 (pc' := 10) (L' := [some (.ref 0), some (.int (nI s)), some (.int (nI 1)), some (.int (nI z)), some (.int (G 24 0))]) (st' := [.int (nI 1)]) (I' := I) (J' := J) (G' := G) rfl ?_
  refine aw_0eqN rfl (by omega) (oX6_sailOne.dec rfl) (tgt := 27) rfl (fun h10 => absurd h10 (by omega)) (fun h10 => ?_)
  refine aw_run oX6_sailOne sxOk 7 (pc' := 24) (L' := [some (.ref 0), some (.int (nI s)), some (.int (nI 1)), some (.int (nI z)), some (.int (G 24 0))]) (st' := [.int (nI 2), .int ((nI 3) + (nI s)), .ref 24]) (I' := I) (J' := J) (G' := G) rfl ?_
  refine aw_isN (3 + s) sxOk rfl (addN rfl rfl) (by omega) (oX6_sailOne.dec rfl) ?_
  refine aw_eqG (G' := va_up G 24 (upd (G 24) (3 + s) (nI 2))) (rfl) ?_
  refine aw_run oX6_sailOne sxOk 1 (pc' := 26) (L' := [some (.ref 0), some (.int (nI s)), some (.int (nI 1)), some (.int (nI z)), some (.int (G 24 0))]) (st' := [.int (nI 0)]) (I' := I) (J' := J) (G' := va_up G 24 (upd (G 24) (3 + s) (nI 2))) rfl ?_
  exact aw_iret rfl (oX6_sailOne.dec rfl) (⟨rfl, rfl, rfl, rfl⟩)
set_option maxRecDepth 20000 in
theorem c_sailOne_f {I : II} {J : JJ} {G : II} {s t z : Nat} (hs : s < 5) (ht : G 24 0 = nI t) (ht12 : t < 12) (hz : z ≤ 9999) : AMet SX mX6_sailOne [.ref 0, .int (nI s), .int (nI 0), .int (nI z)] I J G (PE (some (.int (b1 (home1 (G 12 t) false (dN z s t))))) I J (va_up G 24 (sail1 (G 24) (I 2 8) (G 12 t) false (dN z s t) s))) := by
  refine amet_en oX6_sailOne rfl rfl (L := [some (.ref 0), some (.int (nI s)), some (.int (nI 0)), some (.int (nI z)), none]) rfl ?_
  refine aw_run oX6_sailOne sxOk 2 (pc' := 4) (L' := [some (.ref 0), some (.int (nI s)), some (.int (nI 0)), some (.int (nI z)), none]) (st' := [.ref 4]) (I' := I) (J' := J) (G' := G) rfl ?_
  refine aw_cV (st := []) 4 [] oX2_theWeek k6_126 rfl rfl rfl rfl rfl rfl rfl rfl (oX6_sailOne.dec rfl) c_theWeek ?_
  refine aw_eqS (st := [.int (G 24 0)]) rfl ?_
  refine aw_run oX6_sailOne sxOk 2 (pc' := 10) (L' := [some (.ref 0), some (.int (nI s)), some (.int (nI 0)), some (.int (nI z)), some (.int (G 24 0))]) (st' := [.int (nI 0)]) (I' := I) (J' := J) (G' := G) rfl ?_
  refine aw_0eqN rfl (by omega) (oX6_sailOne.dec rfl) (tgt := 27) rfl (fun h10 => ?_) (fun h10 => absurd h10 (by omega))
  refine aw_run oX6_sailOne sxOk 3 (pc' := 31) (L' := [some (.ref 0), some (.int (nI s)), some (.int (nI 0)), some (.int (nI z)), some (.int (G 24 0))]) (st' := [.int (nI z), .int (G 24 0), .int (nI s)]) (I' := I) (J' := J) (G' := G) rfl ?_
  refine aw_eqS (st := [.int (nI z), .int (nI t), .int (nI s)]) (by rw [show G 24 0 = nI t from ht]) ?_
  refine aw_cS (st := []) [.int (nI s), .int (nI t), .int (nI z)] oX6_drawOf k6_229 rfl rfl rfl rfl rfl (oX6_sailOne.dec rfl) (c_drawOf (by omega) (by omega) (by omega)) ?_
  refine aw_eqS (st := [.int (nI (dN z s t))]) rfl ?_
  refine aw_run oX6_sailOne sxOk 4 (pc' := 43) (L' := [some (.ref 0), some (.int (nI s)), some (.int (nI 0)), some (.int (nI z)), some (.int (G 24 0))]) (st' := [.int (G 24 0), .ref 12, .int (nI (dN z s t))]) (I' := I) (J' := J) (G' := G) rfl ?_
  refine aw_iaN t sxOk rfl ht (by omega) (oX6_sailOne.dec rfl) ?_
  refine aw_icmp_ge (oX6_sailOne.dec rfl) (tgt := 61) rfl (fun h44 => ?_) (fun h44 => ?_)
  · refine aw_run oX6_sailOne sxOk 7 (pc' := 72) (L' := [some (.ref 0), some (.int (nI s)), some (.int (nI 0)), some (.int (nI z)), some (.int (G 24 0))]) (st' := [.int (nI 1), .int ((nI 3) + (nI s)), .ref 24]) (I' := I) (J' := J) (G' := G) rfl ?_
    refine aw_isN (3 + s) sxOk rfl (addN rfl rfl) (by omega) (oX6_sailOne.dec rfl) ?_
    refine aw_eqG (G' := va_up G 24 (upd (G 24) (3 + s) (nI 1))) (rfl) ?_
    refine aw_run oX6_sailOne sxOk 5 (pc' := 82) (L' := [some (.ref 0), some (.int (nI s)), some (.int (nI 0)), some (.int (nI z)), some (.int (G 24 0))]) (st' := [.int (nI 1), .ref 24, .int (nI 1), .ref 24]) (I' := I) (J' := J) (G' := va_up G 24 (upd (G 24) (3 + s) (nI 1))) rfl ?_
    refine aw_iaN 1 sxOk rfl rfl (by omega) (oX6_sailOne.dec rfl) ?_
    refine aw_eqS (st := [.int ((upd (G 24) (3 + s) (nI 1)) 1), .int (nI 1), .ref 24]) rfl ?_
    refine aw_run oX6_sailOne sxOk 3 (pc' := 88) (L' := [some (.ref 0), some (.int (nI s)), some (.int (nI 0)), some (.int (nI z)), some (.int (G 24 0))]) (st' := [.int (nI s), .ref 4, .int ((upd (G 24) (3 + s) (nI 1)) 1), .int (nI 1), .ref 24]) (I' := I) (J' := J) (G' := va_up G 24 (upd (G 24) (3 + s) (nI 1))) rfl ?_
    refine aw_cV (st := [.int ((upd (G 24) (3 + s) (nI 1)) 1), .int (nI 1), .ref 24]) 4 [.int (nI s)] oX2_silverOf k6_158 rfl rfl rfl rfl rfl rfl rfl rfl (oX6_sailOne.dec rfl) (c_silverOf (by omega)) ?_
    refine aw_eqS (st := [.int (sil (upd (G 24) (3 + s) (nI 1)) s), .int ((upd (G 24) (3 + s) (nI 1)) 1), .int (nI 1), .ref 24]) rfl ?_
    refine aw_run oX6_sailOne sxOk 1 (pc' := 92) (L' := [some (.ref 0), some (.int (nI s)), some (.int (nI 0)), some (.int (nI z)), some (.int (G 24 0))]) (st' := [.int (((upd (G 24) (3 + s) (nI 1)) 1) + (sil (upd (G 24) (3 + s) (nI 1)) s)), .int (nI 1), .ref 24]) (I' := I) (J' := J) (G' := va_up G 24 (upd (G 24) (3 + s) (nI 1))) rfl ?_
    refine aw_isN 1 sxOk rfl rfl (by omega) (oX6_sailOne.dec rfl) ?_
    refine aw_eqG (G' := va_up G 24 (upd (upd (G 24) (3 + s) (nI 1)) 1 (((upd (G 24) (3 + s) (nI 1)) 1) + (sil (upd (G 24) (3 + s) (nI 1)) s)))) (bx_uu _ _ _ _) ?_
    refine aw_run oX6_sailOne sxOk 5 (pc' := 102) (L' := [some (.ref 0), some (.int (nI s)), some (.int (nI 0)), some (.int (nI z)), some (.int (G 24 0))]) (st' := [.int (nI 2), .ref 24, .int (nI 2), .ref 24]) (I' := I) (J' := J) (G' := va_up G 24 (upd (upd (G 24) (3 + s) (nI 1)) 1 (((upd (G 24) (3 + s) (nI 1)) 1) + (sil (upd (G 24) (3 + s) (nI 1)) s)))) rfl ?_
    refine aw_iaN 2 sxOk rfl rfl (by omega) (oX6_sailOne.dec rfl) ?_
    refine aw_eqS (st := [.int ((upd (upd (G 24) (3 + s) (nI 1)) 1 (((upd (G 24) (3 + s) (nI 1)) 1) + (sil (upd (G 24) (3 + s) (nI 1)) s))) 2), .int (nI 2), .ref 24]) rfl ?_
    refine aw_run oX6_sailOne sxOk 6 (pc' := 115) (L' := [some (.ref 0), some (.int (nI s)), some (.int (nI 0)), some (.int (nI z)), some (.int (G 24 0))]) (st' := [.int (nI s), .ref 4, .int (I 2 8), .int ((upd (upd (G 24) (3 + s) (nI 1)) 1 (((upd (G 24) (3 + s) (nI 1)) 1) + (sil (upd (G 24) (3 + s) (nI 1)) s))) 2), .int (nI 2), .ref 24]) (I' := I) (J' := J) (G' := va_up G 24 (upd (upd (G 24) (3 + s) (nI 1)) 1 (((upd (G 24) (3 + s) (nI 1)) 1) + (sil (upd (G 24) (3 + s) (nI 1)) s)))) rfl ?_
    refine aw_cV (st := [.int (I 2 8), .int ((upd (upd (G 24) (3 + s) (nI 1)) 1 (((upd (G 24) (3 + s) (nI 1)) 1) + (sil (upd (G 24) (3 + s) (nI 1)) s))) 2), .int (nI 2), .ref 24]) 4 [.int (nI s)] oX2_listedOf k6_100 rfl rfl rfl rfl rfl rfl rfl rfl (oX6_sailOne.dec rfl) (c_listedOf (by omega)) ?_
    refine aw_eqS (st := [.int ((upd (upd (G 24) (3 + s) (nI 1)) 1 (((upd (G 24) (3 + s) (nI 1)) 1) + (sil (upd (G 24) (3 + s) (nI 1)) s))) (8 + s)), .int (I 2 8), .int ((upd (upd (G 24) (3 + s) (nI 1)) 1 (((upd (G 24) (3 + s) (nI 1)) 1) + (sil (upd (G 24) (3 + s) (nI 1)) s))) 2), .int (nI 2), .ref 24]) rfl ?_
    refine aw_run oX6_sailOne sxOk 2 (pc' := 121) (L' := [some (.ref 0), some (.int (nI s)), some (.int (nI 0)), some (.int (nI z)), some (.int (G 24 0))]) (st' := [.int (nI 10), .int ((I 2 8) * ((upd (upd (G 24) (3 + s) (nI 1)) 1 (((upd (G 24) (3 + s) (nI 1)) 1) + (sil (upd (G 24) (3 + s) (nI 1)) s))) (8 + s))), .int ((upd (upd (G 24) (3 + s) (nI 1)) 1 (((upd (G 24) (3 + s) (nI 1)) 1) + (sil (upd (G 24) (3 + s) (nI 1)) s))) 2), .int (nI 2), .ref 24]) (I' := I) (J' := J) (G' := va_up G 24 (upd (upd (G 24) (3 + s) (nI 1)) 1 (((upd (G 24) (3 + s) (nI 1)) 1) + (sil (upd (G 24) (3 + s) (nI 1)) s)))) rfl ?_
    refine aw_idiv (by decide) (oX6_sailOne.dec rfl) ?_
    refine aw_run oX6_sailOne sxOk 1 (pc' := 123) (L' := [some (.ref 0), some (.int (nI s)), some (.int (nI 0)), some (.int (nI z)), some (.int (G 24 0))]) (st' := [.int (((upd (upd (G 24) (3 + s) (nI 1)) 1 (((upd (G 24) (3 + s) (nI 1)) 1) + (sil (upd (G 24) (3 + s) (nI 1)) s))) 2) + (((I 2 8) * ((upd (upd (G 24) (3 + s) (nI 1)) 1 (((upd (G 24) (3 + s) (nI 1)) 1) + (sil (upd (G 24) (3 + s) (nI 1)) s))) (8 + s))) / (nI 10))), .int (nI 2), .ref 24]) (I' := I) (J' := J) (G' := va_up G 24 (upd (upd (G 24) (3 + s) (nI 1)) 1 (((upd (G 24) (3 + s) (nI 1)) 1) + (sil (upd (G 24) (3 + s) (nI 1)) s)))) rfl ?_
    refine aw_isN 2 sxOk rfl rfl (by omega) (oX6_sailOne.dec rfl) ?_
    refine aw_eqG (G' := va_up G 24 (upd (upd (upd (G 24) (3 + s) (nI 1)) 1 (((upd (G 24) (3 + s) (nI 1)) 1) + (sil (upd (G 24) (3 + s) (nI 1)) s))) 2 (((upd (upd (G 24) (3 + s) (nI 1)) 1 (((upd (G 24) (3 + s) (nI 1)) 1) + (sil (upd (G 24) (3 + s) (nI 1)) s))) 2) + (((I 2 8) * ((upd (upd (G 24) (3 + s) (nI 1)) 1 (((upd (G 24) (3 + s) (nI 1)) 1) + (sil (upd (G 24) (3 + s) (nI 1)) s))) (8 + s))) / (nI 10))))) (bx_uu _ _ _ _) ?_
    refine aw_run oX6_sailOne sxOk 1 (pc' := 125) (L' := [some (.ref 0), some (.int (nI s)), some (.int (nI 0)), some (.int (nI z)), some (.int (G 24 0))]) (st' := [.int (nI 1)]) (I' := I) (J' := J) (G' := va_up G 24 (upd (upd (upd (G 24) (3 + s) (nI 1)) 1 (((upd (G 24) (3 + s) (nI 1)) 1) + (sil (upd (G 24) (3 + s) (nI 1)) s))) 2 (((upd (upd (G 24) (3 + s) (nI 1)) 1 (((upd (G 24) (3 + s) (nI 1)) 1) + (sil (upd (G 24) (3 + s) (nI 1)) s))) 2) + (((I 2 8) * ((upd (upd (G 24) (3 + s) (nI 1)) 1 (((upd (G 24) (3 + s) (nI 1)) 1) + (sil (upd (G 24) (3 + s) (nI 1)) s))) (8 + s))) / (nI 10))))) rfl ?_
    exact aw_iret rfl (oX6_sailOne.dec rfl) (⟨by rw [show home1 (G 12 t) false (dN z s t) = true by unfold home1; rw [decide_eq_false (Int32.not_lt.mpr h44)]; rfl]; rfl, rfl, rfl, by rw [show sail1 (G 24) (I 2 8) (G 12 t) false (dN z s t) s = _ from (if_neg (by decide)).trans (if_neg (Int32.not_lt.mpr h44))]⟩)
  · refine aw_run oX6_sailOne sxOk 7 (pc' := 58) (L' := [some (.ref 0), some (.int (nI s)), some (.int (nI 0)), some (.int (nI z)), some (.int (G 24 0))]) (st' := [.int (nI 3), .int ((nI 3) + (nI s)), .ref 24]) (I' := I) (J' := J) (G' := G) rfl ?_
    refine aw_isN (3 + s) sxOk rfl (addN rfl rfl) (by omega) (oX6_sailOne.dec rfl) ?_
    refine aw_eqG (G' := va_up G 24 (upd (G 24) (3 + s) (nI 3))) (rfl) ?_
    refine aw_run oX6_sailOne sxOk 1 (pc' := 60) (L' := [some (.ref 0), some (.int (nI s)), some (.int (nI 0)), some (.int (nI z)), some (.int (G 24 0))]) (st' := [.int (nI 0)]) (I' := I) (J' := J) (G' := va_up G 24 (upd (G 24) (3 + s) (nI 3))) rfl ?_
    exact aw_iret rfl (oX6_sailOne.dec rfl) (⟨by rw [show home1 (G 12 t) false (dN z s t) = false by unfold home1; rw [decide_eq_true (Int32.not_le.mp h44)]; rfl]; rfl, rfl, rfl, by rw [show sail1 (G 24) (I 2 8) (G 12 t) false (dN z s t) s = _ from (if_neg (by decide)).trans (if_pos (Int32.not_le.mp h44))]⟩)
set_option maxRecDepth 20000 in
theorem c_canSail {I : II} {J : JJ} {G : II} {P : Nat} (hP : I 2 7 = nI P) (hP5 : P ≤ 5) {σ t : Nat} (hσ : σ < 32) (ht : G 24 0 = nI t) : AMet SX mX6_canSail [.ref 0, .int (nI σ)] I J G (PE (some (.int (b1 (allB (sq (G 24) (G 17) σ t) P)))) I J G) := by
  refine amet_en oX6_canSail rfl rfl (L := [some (.ref 0), some (.int (nI σ)), none]) rfl ?_
  have loop : ∀ (n s : Nat) (x : Int32), (s + n = P) → (x = nI s) → (∀ j, j < s → sq (G 24) (G 17) σ t j = true) → AW SX mX6_canSail 2 [some (.ref 0), some (.int (nI σ)), some (.int x)] [] I J G (PE (some (.int (b1 (allB (sq (G 24) (G 17) σ t) P)))) I J G) := by
    intro n
    induction n with
    | zero =>
      intro s x hsn hx hq
      refine aw_run oX6_canSail sxOk 4 (pc' := 10) (L' := [some (.ref 0), some (.int (nI σ)), some (.int x)]) (st' := [.int (I 2 7), .int x]) (I' := I) (J' := J) (G' := G) rfl ?_
      refine aw_geN hx hP (by omega) (by omega) (oX6_canSail.dec rfl) (tgt := 59) rfl (fun h10 => ?_) (fun h10 => absurd h10 (by omega))
      refine aw_run oX6_canSail sxOk 1 (pc' := 60) (L' := [some (.ref 0), some (.int (nI σ)), some (.int x)]) (st' := [.int (nI 1)]) (I' := I) (J' := J) (G' := G) rfl ?_
      exact aw_zret rfl (by first | exact Or.inl rfl | exact Or.inr rfl) (oX6_canSail.dec rfl) (pe_i (by rw [allB_iff.mpr (by rw [← show s = P by omega]; exact hq)]; rfl))
    | succ n ih =>
      intro s x hsn hx hq
      refine aw_run oX6_canSail sxOk 4 (pc' := 10) (L' := [some (.ref 0), some (.int (nI σ)), some (.int x)]) (st' := [.int (I 2 7), .int x]) (I' := I) (J' := J) (G' := G) rfl ?_
      refine aw_geN hx hP (by omega) (by omega) (oX6_canSail.dec rfl) (tgt := 59) rfl (fun h10 => absurd h10 (by omega)) (fun h10 => ?_)
      refine aw_run oX6_canSail sxOk 2 (pc' := 15) (L' := [some (.ref 0), some (.int (nI σ)), some (.int x)]) (st' := [.int (nI σ), .int x]) (I' := I) (J' := J) (G' := G) rfl ?_
      refine aw_eqS (st := [.int (nI σ), .int (nI s)]) (by rw [show x = nI s from hx]) ?_
      refine aw_cS (st := []) [.int (nI s), .int (nI σ)] oX6_isIn k6_143 rfl rfl rfl rfl rfl (oX6_canSail.dec rfl) (c_isIn (by omega) (by omega)) ?_
      refine aw_eqS (st := [.int (nI (bitN σ s))]) rfl ?_
      refine aw_0eqN rfl (bitN_b _ _) (oX6_canSail.dec rfl) (tgt := 53) rfl (fun h18 => ?_) (fun h18 => ?_)
      · refine aw_run oX6_canSail sxOk 2 (pc' := 2) (L' := [some (.ref 0), some (.int (nI σ)), some (.int (x + (nI 1)))]) (st' := []) (I' := I) (J' := J) (G' := G) rfl ?_
        exact ih (s + 1) _ (by omega) (addN hx rfl) (allB_s hq (by unfold sq; rw [bitN_0 h18]; rfl))
      · refine aw_run oX6_canSail sxOk 3 (pc' := 26) (L' := [some (.ref 0), some (.int (nI σ)), some (.int x)]) (st' := [.int x, .ref 4]) (I' := I) (J' := J) (G' := G) rfl ?_
        refine aw_eqS (st := [.int (nI s), .ref 4]) (by rw [show x = nI s from hx]) ?_
        refine aw_cV (st := []) 4 [.int (nI s)] oX2_isInPort k6_151 rfl rfl rfl rfl rfl rfl rfl rfl (oX6_canSail.dec rfl) (c_isInPort (by omega)) ?_
        refine aw_eqS (st := [.int (b1 (decide (G 24 (3 + s) = nI 0)))]) rfl ?_
        refine aw_0eqD (oX6_canSail.dec rfl) (tgt := 51) rfl (fun h29 => ?_) (fun h29 => ?_)
        · refine aw_run oX6_canSail sxOk 1 (pc' := 52) (L' := [some (.ref 0), some (.int (nI σ)), some (.int x)]) (st' := [.int (nI 0)]) (I' := I) (J' := J) (G' := G) rfl ?_
          exact aw_zret rfl (by first | exact Or.inl rfl | exact Or.inr rfl) (oX6_canSail.dec rfl) (pe_i (by rw [allB_no (j := s) (by omega) (by unfold sq; rw [bitN_n0 h18, decide_eq_false h29]; rfl)]; rfl))
        · refine aw_run oX6_canSail sxOk 2 (pc' := 36) (L' := [some (.ref 0), some (.int (nI σ)), some (.int x)]) (st' := [.ref 4]) (I' := I) (J' := J) (G' := G) rfl ?_
          refine aw_cV (st := []) 4 [] oX2_theWeek k6_126 rfl rfl rfl rfl rfl rfl rfl rfl (oX6_canSail.dec rfl) c_theWeek ?_
          refine aw_eqS (st := [.int (G 24 0)]) rfl ?_
          refine aw_run oX6_canSail sxOk 4 (pc' := 47) (L' := [some (.ref 0), some (.int (nI σ)), some (.int x)]) (st' := [.int x, .ref 17, .int (G 24 0)]) (I' := I) (J' := J) (G' := G) rfl ?_
          refine aw_iaN s sxOk rfl hx (by omega) (oX6_canSail.dec rfl) ?_
          refine aw_icmp_ge (oX6_canSail.dec rfl) (tgt := 53) rfl (fun h48 => ?_) (fun h48 => ?_)
          · refine aw_run oX6_canSail sxOk 2 (pc' := 2) (L' := [some (.ref 0), some (.int (nI σ)), some (.int (x + (nI 1)))]) (st' := []) (I' := I) (J' := J) (G' := G) rfl ?_
            exact ih (s + 1) _ (by omega) (addN hx rfl) (allB_s hq (by unfold sq; rw [decide_eq_true h29, decide_eq_true (by rw [← ht]; exact h48)]; simp))
          · refine aw_run oX6_canSail sxOk 1 (pc' := 52) (L' := [some (.ref 0), some (.int (nI σ)), some (.int x)]) (st' := [.int (nI 0)]) (I' := I) (J' := J) (G' := G) rfl ?_
            exact aw_zret rfl (by first | exact Or.inl rfl | exact Or.inr rfl) (oX6_canSail.dec rfl) (pe_i (by rw [allB_no (j := s) (by omega) (by unfold sq; rw [bitN_n0 h18, decide_eq_false (p := G 17 s ≤ nI t) (by rw [← ht]; exact h48)]; simp)]; rfl))
  refine aw_run oX6_canSail sxOk 2 (pc' := 2) (L' := [some (.ref 0), some (.int (nI σ)), some (.int (nI 0))]) (st' := []) (I' := I) (J' := J) (G' := G) rfl ?_
  exact loop P 0 _ (by omega) rfl (fun j hj => absurd hj (by omega))
set_option maxRecDepth 20000 in
theorem c_isNoHalf_0 {I : II} {J : JJ} {G : II}  : AMet SX mX6_isNoHalf [.int (nI 0)] I J G (PE (some (.int (nI 0))) I J G) := by
  refine amet_en oX6_isNoHalf rfl rfl (L := [some (.int (nI 0))]) rfl ?_
  refine aw_run oX6_isNoHalf sxOk 1 (pc' := 1) (L' := [some (.int (nI 0))]) (st' := [.int (nI 0)]) (I' := I) (J' := J) (G' := G) rfl ?_
  refine aw_0eqN rfl (by omega) (oX6_isNoHalf.dec rfl) (tgt := 13) rfl (fun h1 => ?_) (fun h1 => absurd h1 (by omega))
  refine aw_run oX6_isNoHalf sxOk 1 (pc' := 14) (L' := [some (.int (nI 0))]) (st' := [.int (nI 0)]) (I' := I) (J' := J) (G' := G) rfl ?_
  exact aw_zret rfl (by first | exact Or.inl rfl | exact Or.inr rfl) (oX6_isNoHalf.dec rfl) pe_rfl
set_option maxRecDepth 20000 in
theorem c_isImage_0 {I : II} {J : JJ} {G : II}  : AMet SX mX6_isImage [.int (nI 0)] I J G (PE (some (.int (nI 1))) I J G) := by
  refine amet_en oX6_isImage rfl rfl (L := [some (.int (nI 0))]) rfl ?_
  refine aw_run oX6_isImage sxOk 1 (pc' := 1) (L' := [some (.int (nI 0))]) (st' := [.int (nI 0)]) (I' := I) (J' := J) (G' := G) rfl ?_
  refine aw_0eqN rfl (by omega) (oX6_isImage.dec rfl) (tgt := 9) rfl (fun h1 => ?_) (fun h1 => absurd h1 (by omega))
  refine aw_run oX6_isImage sxOk 2 (pc' := 14) (L' := [some (.int (nI 0))]) (st' := [.int (nI 1)]) (I' := I) (J' := J) (G' := G) rfl ?_
  exact aw_zret rfl (by first | exact Or.inl rfl | exact Or.inr rfl) (oX6_isImage.dec rfl) pe_rfl
set_option maxRecDepth 20000 in
theorem c_imageOf_0 {I : II} {J : JJ} {G : II}  : AMet SX mX6_imageOf [.ref 0, .int (nI 0)] I J G (PE (some (.ref 5)) I J G) := by
  refine amet_en oX6_imageOf rfl rfl (L := [some (.ref 0), some (.int (nI 0))]) rfl ?_
  refine aw_run oX6_imageOf sxOk 1 (pc' := 1) (L' := [some (.ref 0), some (.int (nI 0))]) (st' := [.int (nI 0)]) (I' := I) (J' := J) (G' := G) rfl ?_
  refine aw_0neN rfl (by omega) (oX6_imageOf.dec rfl) (tgt := 11) rfl (fun h1 => absurd h1 (by omega)) (fun h1 => ?_)
  refine aw_run oX6_imageOf sxOk 3 (pc' := 15) (L' := [some (.ref 0), some (.int (nI 0))]) (st' := [.ref 5]) (I' := I) (J' := J) (G' := G) rfl ?_
  exact aw_aret rfl (by first | exact Or.inl ⟨_, rfl⟩ | exact Or.inr ⟨_, rfl⟩) (oX6_imageOf.dec rfl) pe_rfl
set_option maxRecDepth 20000 in
theorem c_isNoHalf_1 {I : II} {J : JJ} {G : II}  : AMet SX mX6_isNoHalf [.int (nI 1)] I J G (PE (some (.int (nI 0))) I J G) := by
  refine amet_en oX6_isNoHalf rfl rfl (L := [some (.int (nI 1))]) rfl ?_
  refine aw_run oX6_isNoHalf sxOk 1 (pc' := 1) (L' := [some (.int (nI 1))]) (st' := [.int (nI 1)]) (I' := I) (J' := J) (G' := G) rfl ?_
  refine aw_0eqN rfl (by omega) (oX6_isNoHalf.dec rfl) (tgt := 13) rfl (fun h1 => absurd h1 (by omega)) (fun h1 => ?_)
  refine aw_run oX6_isNoHalf sxOk 2 (pc' := 6) (L' := [some (.int (nI 1))]) (st' := [.int (nI 1), .int (nI 1)]) (I' := I) (J' := J) (G' := G) rfl ?_
  refine aw_eqN rfl rfl (by omega) (by omega) (oX6_isNoHalf.dec rfl) (tgt := 13) rfl (fun h6 => ?_) (fun h6 => absurd h6 (by omega))
  refine aw_run oX6_isNoHalf sxOk 1 (pc' := 14) (L' := [some (.int (nI 1))]) (st' := [.int (nI 0)]) (I' := I) (J' := J) (G' := G) rfl ?_
  exact aw_zret rfl (by first | exact Or.inl rfl | exact Or.inr rfl) (oX6_isNoHalf.dec rfl) pe_rfl
set_option maxRecDepth 20000 in
theorem c_isImage_1 {I : II} {J : JJ} {G : II}  : AMet SX mX6_isImage [.int (nI 1)] I J G (PE (some (.int (nI 1))) I J G) := by
  refine amet_en oX6_isImage rfl rfl (L := [some (.int (nI 1))]) rfl ?_
  refine aw_run oX6_isImage sxOk 1 (pc' := 1) (L' := [some (.int (nI 1))]) (st' := [.int (nI 1)]) (I' := I) (J' := J) (G' := G) rfl ?_
  refine aw_0eqN rfl (by omega) (oX6_isImage.dec rfl) (tgt := 9) rfl (fun h1 => absurd h1 (by omega)) (fun h1 => ?_)
  refine aw_run oX6_isImage sxOk 2 (pc' := 6) (L' := [some (.int (nI 1))]) (st' := [.int (nI 1), .int (nI 1)]) (I' := I) (J' := J) (G' := G) rfl ?_
  refine aw_neN rfl rfl (by omega) (by omega) (oX6_isImage.dec rfl) (tgt := 13) rfl (fun h6 => absurd h6 (by omega)) (fun h6 => ?_)
  refine aw_run oX6_isImage sxOk 2 (pc' := 14) (L' := [some (.int (nI 1))]) (st' := [.int (nI 1)]) (I' := I) (J' := J) (G' := G) rfl ?_
  exact aw_zret rfl (by first | exact Or.inl rfl | exact Or.inr rfl) (oX6_isImage.dec rfl) pe_rfl
set_option maxRecDepth 20000 in
theorem c_imageOf_1 {I : II} {J : JJ} {G : II}  : AMet SX mX6_imageOf [.ref 0, .int (nI 1)] I J G (PE (some (.ref 6)) I J G) := by
  refine amet_en oX6_imageOf rfl rfl (L := [some (.ref 0), some (.int (nI 1))]) rfl ?_
  refine aw_run oX6_imageOf sxOk 1 (pc' := 1) (L' := [some (.ref 0), some (.int (nI 1))]) (st' := [.int (nI 1)]) (I' := I) (J' := J) (G' := G) rfl ?_
  refine aw_0neN rfl (by omega) (oX6_imageOf.dec rfl) (tgt := 11) rfl (fun h1 => ?_) (fun h1 => absurd h1 (by omega))
  refine aw_run oX6_imageOf sxOk 2 (pc' := 15) (L' := [some (.ref 0), some (.int (nI 1))]) (st' := [.ref 6]) (I' := I) (J' := J) (G' := G) rfl ?_
  exact aw_aret rfl (by first | exact Or.inl ⟨_, rfl⟩ | exact Or.inr ⟨_, rfl⟩) (oX6_imageOf.dec rfl) pe_rfl
set_option maxRecDepth 20000 in
theorem c_isNoHalf_f {I : II} {J : JJ} {G : II} {x : Int32} (hx : notIn x 2) : AMet SX mX6_isNoHalf [.int x] I J G (PE (some (.int (nI 1))) I J G) := by
  refine amet_en oX6_isNoHalf rfl rfl (L := [some (.int x)]) rfl ?_
  refine aw_run oX6_isNoHalf sxOk 1 (pc' := 1) (L' := [some (.int x)]) (st' := [.int x]) (I' := I) (J' := J) (G' := G) rfl ?_
  refine aw_if_eq (oX6_isNoHalf.dec rfl) (tgt := 13) rfl (fun h1 => absurd h1 (hx 0 (by decide))) (fun h1 => ?_)
  refine aw_run oX6_isNoHalf sxOk 2 (pc' := 6) (L' := [some (.int x)]) (st' := [.int (nI 1), .int x]) (I' := I) (J' := J) (G' := G) rfl ?_
  refine aw_icmp_eq (oX6_isNoHalf.dec rfl) (tgt := 13) rfl (fun h6 => absurd h6 (hx 1 (by decide))) (fun h6 => ?_)
  refine aw_run oX6_isNoHalf sxOk 2 (pc' := 14) (L' := [some (.int x)]) (st' := [.int (nI 1)]) (I' := I) (J' := J) (G' := G) rfl ?_
  exact aw_zret rfl (by first | exact Or.inl rfl | exact Or.inr rfl) (oX6_isNoHalf.dec rfl) pe_rfl
set_option maxRecDepth 20000 in
theorem c_isImage_f {I : II} {J : JJ} {G : II} {x : Int32} (hx : notIn x 2) : AMet SX mX6_isImage [.int x] I J G (PE (some (.int (nI 0))) I J G) := by
  refine amet_en oX6_isImage rfl rfl (L := [some (.int x)]) rfl ?_
  refine aw_run oX6_isImage sxOk 1 (pc' := 1) (L' := [some (.int x)]) (st' := [.int x]) (I' := I) (J' := J) (G' := G) rfl ?_
  refine aw_if_eq (oX6_isImage.dec rfl) (tgt := 9) rfl (fun h1 => absurd h1 (hx 0 (by decide))) (fun h1 => ?_)
  refine aw_run oX6_isImage sxOk 2 (pc' := 6) (L' := [some (.int x)]) (st' := [.int (nI 1), .int x]) (I' := I) (J' := J) (G' := G) rfl ?_
  refine aw_icmp_ne (oX6_isImage.dec rfl) (tgt := 13) rfl (fun h6 => ?_) (fun h6 => absurd h6 (hx 1 (by decide)))
  refine aw_run oX6_isImage sxOk 1 (pc' := 14) (L' := [some (.int x)]) (st' := [.int (nI 0)]) (I' := I) (J' := J) (G' := G) rfl ?_
  exact aw_zret rfl (by first | exact Or.inl rfl | exact Or.inr rfl) (oX6_isImage.dec rfl) pe_rfl
set_option maxRecDepth 20000 in
theorem c_markShip {I : II} {J : JJ} {G : II} {s : Nat} (hs : s < 5) : AMet SX mX1_markShip [.ref 9, .int (nI s)] I J G (PE (some (.int (G 24 (8 + s)))) I (up2 J 9 2 ((J 9 2) + (Int64.ofNat 1))) G) := by
  refine amet_en oX1_markShip rfl rfl (L := [some (.ref 9), some (.int (nI s))]) rfl ?_
  refine aw_run oX1_markShip sxOk 9 (pc' := 15) (L' := [some (.ref 9), some (.int (nI s))]) (st' := [.int (nI s), .ref 4]) (I' := I) (J' := up2 J 9 2 ((J 9 2) + (Int64.ofNat 1))) (G' := G) rfl ?_
  refine aw_cV (st := []) 4 [.int (nI s)] oX2_listedOf k1_43 rfl rfl rfl rfl rfl rfl rfl rfl (oX1_markShip.dec rfl) (c_listedOf (by omega)) ?_
  refine aw_eqS (st := [.int (G 24 (8 + s))]) rfl ?_
  exact aw_iret rfl (oX1_markShip.dec rfl) pe_rfl
set_option maxRecDepth 20000 in
theorem c_markDecoy {I : II} {J : JJ} {G : II} {s : Nat} (hs : s < 5) : AMet SX mX1_markDecoy [.ref 9, .int (nI s)] I J G (PE (some (.int ((G 24 (8 + s)) + (G 16 s)))) I (up2 J 9 2 ((((J 9 2) + (10 : Int64))) + (Int64.ofNat 1))) G) := by
  refine amet_en oX1_markDecoy rfl rfl (L := [some (.ref 9), some (.int (nI s))]) rfl ?_
  refine aw_run oX1_markDecoy sxOk 8 (pc' := 14) (L' := [some (.ref 9), some (.int (nI s))]) (st' := [.int (nI s), .ref 9]) (I' := I) (J' := up2 J 9 2 ((J 9 2) + (10 : Int64))) (G' := G) rfl ?_
  refine aw_cV (st := []) 9 [.int (nI s)] oX1_markShip k1_19 rfl rfl rfl rfl rfl rfl rfl rfl (oX1_markDecoy.dec rfl) (c_markShip (by omega)) ?_
  refine aw_eqJ (J' := up2 J 9 2 ((((J 9 2) + (10 : Int64))) + (Int64.ofNat 1))) (up2_uu _ _ _ _ _) ?_
  refine aw_eqS (st := [.int (G 24 (8 + s))]) rfl ?_
  refine aw_run oX1_markDecoy sxOk 4 (pc' := 25) (L' := [some (.ref 9), some (.int (nI s))]) (st' := [.int (nI s), .ref 16, .int (G 24 (8 + s))]) (I' := I) (J' := up2 J 9 2 ((((J 9 2) + (10 : Int64))) + (Int64.ofNat 1))) (G' := G) rfl ?_
  refine aw_iaN s sxOk rfl rfl (by omega) (oX1_markDecoy.dec rfl) ?_
  refine aw_run oX1_markDecoy sxOk 1 (pc' := 27) (L' := [some (.ref 9), some (.int (nI s))]) (st' := [.int ((G 24 (8 + s)) + (G 16 s))]) (I' := I) (J' := up2 J 9 2 ((((J 9 2) + (10 : Int64))) + (Int64.ofNat 1))) (G' := G) rfl ?_
  exact aw_iret rfl (oX1_markDecoy.dec rfl) pe_rfl
set_option maxRecDepth 20000 in
theorem c_markSlow {I : II} {J : JJ} {G : II} {s : Nat} (hs : s < 5) : AMet SX mX1_markSlow [.ref 9, .int (nI s)] I J G (PE (some (.int ((G 24 (8 + s)) - (G 17 s)))) I (up2 J 9 2 ((((J 9 2) + (100 : Int64))) + (Int64.ofNat 1))) G) := by
  refine amet_en oX1_markSlow rfl rfl (L := [some (.ref 9), some (.int (nI s))]) rfl ?_
  refine aw_run oX1_markSlow sxOk 8 (pc' := 14) (L' := [some (.ref 9), some (.int (nI s))]) (st' := [.int (nI s), .ref 9]) (I' := I) (J' := up2 J 9 2 ((J 9 2) + (100 : Int64))) (G' := G) rfl ?_
  refine aw_cV (st := []) 9 [.int (nI s)] oX1_markShip k1_19 rfl rfl rfl rfl rfl rfl rfl rfl (oX1_markSlow.dec rfl) (c_markShip (by omega)) ?_
  refine aw_eqJ (J' := up2 J 9 2 ((((J 9 2) + (100 : Int64))) + (Int64.ofNat 1))) (up2_uu _ _ _ _ _) ?_
  refine aw_eqS (st := [.int (G 24 (8 + s))]) rfl ?_
  refine aw_run oX1_markSlow sxOk 4 (pc' := 25) (L' := [some (.ref 9), some (.int (nI s))]) (st' := [.int (nI s), .ref 17, .int (G 24 (8 + s))]) (I' := I) (J' := up2 J 9 2 ((((J 9 2) + (100 : Int64))) + (Int64.ofNat 1))) (G' := G) rfl ?_
  refine aw_iaN s sxOk rfl rfl (by omega) (oX1_markSlow.dec rfl) ?_
  refine aw_run oX1_markSlow sxOk 1 (pc' := 27) (L' := [some (.ref 9), some (.int (nI s))]) (st' := [.int ((G 24 (8 + s)) - (G 17 s))]) (I' := I) (J' := up2 J 9 2 ((((J 9 2) + (100 : Int64))) + (Int64.ofNat 1))) (G' := G) rfl ?_
  exact aw_iret rfl (oX1_markSlow.dec rfl) pe_rfl
set_option maxRecDepth 20000 in
theorem c_markChest {I : II} {J : JJ} {G : II} {s : Nat} (hs : s < 5) : AMet SX mX1_markChest [.ref 9, .int (nI s)] I J G (PE (some (.int (((G 24 (8 + s)) + (G 16 s)) * (nI 2)))) I (up2 J 9 2 ((((((J 9 2) + (1000 : Int64))) + (10 : Int64))) + (Int64.ofNat 1))) G) := by
  refine amet_en oX1_markChest rfl rfl (L := [some (.ref 9), some (.int (nI s))]) rfl ?_
  refine aw_run oX1_markChest sxOk 8 (pc' := 14) (L' := [some (.ref 9), some (.int (nI s))]) (st' := [.int (nI s), .ref 9]) (I' := I) (J' := up2 J 9 2 ((J 9 2) + (1000 : Int64))) (G' := G) rfl ?_
  refine aw_cV (st := []) 9 [.int (nI s)] oX1_markDecoy k1_23 rfl rfl rfl rfl rfl rfl rfl rfl (oX1_markChest.dec rfl) (c_markDecoy (by omega)) ?_
  refine aw_eqJ (J' := up2 J 9 2 ((((((J 9 2) + (1000 : Int64))) + (10 : Int64))) + (Int64.ofNat 1))) (up2_uu _ _ _ _ _) ?_
  refine aw_eqS (st := [.int ((G 24 (8 + s)) + (G 16 s))]) rfl ?_
  refine aw_run oX1_markChest sxOk 2 (pc' := 19) (L' := [some (.ref 9), some (.int (nI s))]) (st' := [.int (((G 24 (8 + s)) + (G 16 s)) * (nI 2))]) (I' := I) (J' := up2 J 9 2 ((((((J 9 2) + (1000 : Int64))) + (10 : Int64))) + (Int64.ofNat 1))) (G' := G) rfl ?_
  exact aw_iret rfl (oX1_markChest.dec rfl) pe_rfl
set_option maxRecDepth 20000 in
theorem c_markLetter {I : II} {J : JJ} {G : II} {s : Nat} (hs : s < 5) : AMet SX mX1_markLetter [.ref 9, .int (nI s)] I J G (PE (some (.int (((G 24 (8 + s)) - (G 17 s)) + (nI s)))) I (up2 J 9 2 ((((((J 9 2) + (10000 : Int64))) + (100 : Int64))) + (Int64.ofNat 1))) G) := by
  refine amet_en oX1_markLetter rfl rfl (L := [some (.ref 9), some (.int (nI s))]) rfl ?_
  refine aw_run oX1_markLetter sxOk 8 (pc' := 14) (L' := [some (.ref 9), some (.int (nI s))]) (st' := [.int (nI s), .ref 9]) (I' := I) (J' := up2 J 9 2 ((J 9 2) + (10000 : Int64))) (G' := G) rfl ?_
  refine aw_cV (st := []) 9 [.int (nI s)] oX1_markSlow k1_26 rfl rfl rfl rfl rfl rfl rfl rfl (oX1_markLetter.dec rfl) (c_markSlow (by omega)) ?_
  refine aw_eqJ (J' := up2 J 9 2 ((((((J 9 2) + (10000 : Int64))) + (100 : Int64))) + (Int64.ofNat 1))) (up2_uu _ _ _ _ _) ?_
  refine aw_eqS (st := [.int ((G 24 (8 + s)) - (G 17 s))]) rfl ?_
  refine aw_run oX1_markLetter sxOk 2 (pc' := 19) (L' := [some (.ref 9), some (.int (nI s))]) (st' := [.int (((G 24 (8 + s)) - (G 17 s)) + (nI s))]) (I' := I) (J' := up2 J 9 2 ((((((J 9 2) + (10000 : Int64))) + (100 : Int64))) + (Int64.ofNat 1))) (G' := G) rfl ?_
  exact aw_iret rfl (oX1_markLetter.dec rfl) pe_rfl
set_option maxRecDepth 20000 in
theorem c_markPilot {I : II} {J : JJ} {G : II} {s : Nat} (hs : s < 5) : AMet SX mX1_markPilot [.ref 9, .int (nI s)] I J G (PE (some (.int ((G 24 (8 + s)) + (G 24 0)))) I (up2 J 9 2 ((((J 9 2) + (100000 : Int64))) + (Int64.ofNat 1))) G) := by
  refine amet_en oX1_markPilot rfl rfl (L := [some (.ref 9), some (.int (nI s))]) rfl ?_
  refine aw_run oX1_markPilot sxOk 8 (pc' := 14) (L' := [some (.ref 9), some (.int (nI s))]) (st' := [.int (nI s), .ref 9]) (I' := I) (J' := up2 J 9 2 ((J 9 2) + (100000 : Int64))) (G' := G) rfl ?_
  refine aw_cV (st := []) 9 [.int (nI s)] oX1_markShip k1_19 rfl rfl rfl rfl rfl rfl rfl rfl (oX1_markPilot.dec rfl) (c_markShip (by omega)) ?_
  refine aw_eqJ (J' := up2 J 9 2 ((((J 9 2) + (100000 : Int64))) + (Int64.ofNat 1))) (up2_uu _ _ _ _ _) ?_
  refine aw_eqS (st := [.int (G 24 (8 + s))]) rfl ?_
  refine aw_run oX1_markPilot sxOk 2 (pc' := 21) (L' := [some (.ref 9), some (.int (nI s))]) (st' := [.ref 4, .int (G 24 (8 + s))]) (I' := I) (J' := up2 J 9 2 ((((J 9 2) + (100000 : Int64))) + (Int64.ofNat 1))) (G' := G) rfl ?_
  refine aw_cV (st := [.int (G 24 (8 + s))]) 4 [] oX2_theWeek k1_67 rfl rfl rfl rfl rfl rfl rfl rfl (oX1_markPilot.dec rfl) c_theWeek ?_
  refine aw_eqS (st := [.int (G 24 0), .int (G 24 (8 + s))]) rfl ?_
  refine aw_run oX1_markPilot sxOk 1 (pc' := 25) (L' := [some (.ref 9), some (.int (nI s))]) (st' := [.int ((G 24 (8 + s)) + (G 24 0))]) (I' := I) (J' := up2 J 9 2 ((((J 9 2) + (100000 : Int64))) + (Int64.ofNat 1))) (G' := G) rfl ?_
  exact aw_iret rfl (oX1_markPilot.dec rfl) pe_rfl
set_option maxRecDepth 20000 in
theorem c_markAs_0 {I : II} {J : JJ} {G : II} {s : Nat} (hs : s < 5) : AMet SX mX1_markAs [.ref 9, .int (nI 0), .int (nI s)] I J G (PE (some (.int (G 24 (8 + s)))) I (up2 J 9 2 (((J 9 2)) + (Int64.ofNat 1))) G) := by
  refine amet_en oX1_markAs rfl rfl (L := [some (.ref 9), some (.int (nI 0)), some (.int (nI s))]) rfl ?_
  refine aw_run oX1_markAs sxOk 1 (pc' := 1) (L' := [some (.ref 9), some (.int (nI 0)), some (.int (nI s))]) (st' := [.int (nI 0)]) (I' := I) (J' := J) (G' := G) rfl ?_
  refine aw_tableIn (x := nI 0) (oX1_markAs.dec rfl) (by decide) (by decide) (off := 39) (by decide) (tgt := 40) rfl ?_
  refine aw_run oX1_markAs sxOk 2 (pc' := 42) (L' := [some (.ref 9), some (.int (nI 0)), some (.int (nI s))]) (st' := [.int (nI s), .ref 9]) (I' := I) (J' := J) (G' := G) rfl ?_
  refine aw_cV (st := []) 9 [.int (nI s)] oX1_markShip k1_19 rfl rfl rfl rfl rfl rfl rfl rfl (oX1_markAs.dec rfl) (c_markShip (by omega)) ?_
  refine aw_eqS (st := [.int (G 24 (8 + s))]) rfl ?_
  exact aw_iret rfl (oX1_markAs.dec rfl) pe_rfl
set_option maxRecDepth 20000 in
theorem c_markAs_1 {I : II} {J : JJ} {G : II} {s : Nat} (hs : s < 5) : AMet SX mX1_markAs [.ref 9, .int (nI 1), .int (nI s)] I J G (PE (some (.int ((G 24 (8 + s)) + (G 16 s)))) I (up2 J 9 2 (((((J 9 2)) + (10 : Int64))) + (Int64.ofNat 1))) G) := by
  refine amet_en oX1_markAs rfl rfl (L := [some (.ref 9), some (.int (nI 1)), some (.int (nI s))]) rfl ?_
  refine aw_run oX1_markAs sxOk 1 (pc' := 1) (L' := [some (.ref 9), some (.int (nI 1)), some (.int (nI s))]) (st' := [.int (nI 1)]) (I' := I) (J' := J) (G' := G) rfl ?_
  refine aw_tableIn (x := nI 1) (oX1_markAs.dec rfl) (by decide) (by decide) (off := 45) (by decide) (tgt := 46) rfl ?_
  refine aw_run oX1_markAs sxOk 2 (pc' := 48) (L' := [some (.ref 9), some (.int (nI 1)), some (.int (nI s))]) (st' := [.int (nI s), .ref 9]) (I' := I) (J' := J) (G' := G) rfl ?_
  refine aw_cV (st := []) 9 [.int (nI s)] oX1_markDecoy k1_23 rfl rfl rfl rfl rfl rfl rfl rfl (oX1_markAs.dec rfl) (c_markDecoy (by omega)) ?_
  refine aw_eqS (st := [.int ((G 24 (8 + s)) + (G 16 s))]) rfl ?_
  exact aw_iret rfl (oX1_markAs.dec rfl) pe_rfl
set_option maxRecDepth 20000 in
theorem c_markAs_2 {I : II} {J : JJ} {G : II} {s : Nat} (hs : s < 5) : AMet SX mX1_markAs [.ref 9, .int (nI 2), .int (nI s)] I J G (PE (some (.int ((G 24 (8 + s)) - (G 17 s)))) I (up2 J 9 2 (((((J 9 2)) + (100 : Int64))) + (Int64.ofNat 1))) G) := by
  refine amet_en oX1_markAs rfl rfl (L := [some (.ref 9), some (.int (nI 2)), some (.int (nI s))]) rfl ?_
  refine aw_run oX1_markAs sxOk 1 (pc' := 1) (L' := [some (.ref 9), some (.int (nI 2)), some (.int (nI s))]) (st' := [.int (nI 2)]) (I' := I) (J' := J) (G' := G) rfl ?_
  refine aw_tableIn (x := nI 2) (oX1_markAs.dec rfl) (by decide) (by decide) (off := 51) (by decide) (tgt := 52) rfl ?_
  refine aw_run oX1_markAs sxOk 2 (pc' := 54) (L' := [some (.ref 9), some (.int (nI 2)), some (.int (nI s))]) (st' := [.int (nI s), .ref 9]) (I' := I) (J' := J) (G' := G) rfl ?_
  refine aw_cV (st := []) 9 [.int (nI s)] oX1_markSlow k1_26 rfl rfl rfl rfl rfl rfl rfl rfl (oX1_markAs.dec rfl) (c_markSlow (by omega)) ?_
  refine aw_eqS (st := [.int ((G 24 (8 + s)) - (G 17 s))]) rfl ?_
  exact aw_iret rfl (oX1_markAs.dec rfl) pe_rfl
set_option maxRecDepth 20000 in
theorem c_markAs_3 {I : II} {J : JJ} {G : II} {s : Nat} (hs : s < 5) : AMet SX mX1_markAs [.ref 9, .int (nI 3), .int (nI s)] I J G (PE (some (.int (((G 24 (8 + s)) + (G 16 s)) * (nI 2)))) I (up2 J 9 2 (((((((J 9 2)) + (1000 : Int64))) + (10 : Int64))) + (Int64.ofNat 1))) G) := by
  refine amet_en oX1_markAs rfl rfl (L := [some (.ref 9), some (.int (nI 3)), some (.int (nI s))]) rfl ?_
  refine aw_run oX1_markAs sxOk 1 (pc' := 1) (L' := [some (.ref 9), some (.int (nI 3)), some (.int (nI s))]) (st' := [.int (nI 3)]) (I' := I) (J' := J) (G' := G) rfl ?_
  refine aw_tableIn (x := nI 3) (oX1_markAs.dec rfl) (by decide) (by decide) (off := 57) (by decide) (tgt := 58) rfl ?_
  refine aw_run oX1_markAs sxOk 2 (pc' := 60) (L' := [some (.ref 9), some (.int (nI 3)), some (.int (nI s))]) (st' := [.int (nI s), .ref 9]) (I' := I) (J' := J) (G' := G) rfl ?_
  refine aw_cV (st := []) 9 [.int (nI s)] oX1_markChest k1_29 rfl rfl rfl rfl rfl rfl rfl rfl (oX1_markAs.dec rfl) (c_markChest (by omega)) ?_
  refine aw_eqS (st := [.int (((G 24 (8 + s)) + (G 16 s)) * (nI 2))]) rfl ?_
  exact aw_iret rfl (oX1_markAs.dec rfl) pe_rfl
set_option maxRecDepth 20000 in
theorem c_markAs_4 {I : II} {J : JJ} {G : II} {s : Nat} (hs : s < 5) : AMet SX mX1_markAs [.ref 9, .int (nI 4), .int (nI s)] I J G (PE (some (.int (((G 24 (8 + s)) - (G 17 s)) + (nI s)))) I (up2 J 9 2 (((((((J 9 2)) + (10000 : Int64))) + (100 : Int64))) + (Int64.ofNat 1))) G) := by
  refine amet_en oX1_markAs rfl rfl (L := [some (.ref 9), some (.int (nI 4)), some (.int (nI s))]) rfl ?_
  refine aw_run oX1_markAs sxOk 1 (pc' := 1) (L' := [some (.ref 9), some (.int (nI 4)), some (.int (nI s))]) (st' := [.int (nI 4)]) (I' := I) (J' := J) (G' := G) rfl ?_
  refine aw_tableIn (x := nI 4) (oX1_markAs.dec rfl) (by decide) (by decide) (off := 63) (by decide) (tgt := 64) rfl ?_
  refine aw_run oX1_markAs sxOk 2 (pc' := 66) (L' := [some (.ref 9), some (.int (nI 4)), some (.int (nI s))]) (st' := [.int (nI s), .ref 9]) (I' := I) (J' := J) (G' := G) rfl ?_
  refine aw_cV (st := []) 9 [.int (nI s)] oX1_markLetter k1_32 rfl rfl rfl rfl rfl rfl rfl rfl (oX1_markAs.dec rfl) (c_markLetter (by omega)) ?_
  refine aw_eqS (st := [.int (((G 24 (8 + s)) - (G 17 s)) + (nI s))]) rfl ?_
  exact aw_iret rfl (oX1_markAs.dec rfl) pe_rfl
set_option maxRecDepth 20000 in
theorem c_markAs_5 {I : II} {J : JJ} {G : II} {s : Nat} (hs : s < 5) : AMet SX mX1_markAs [.ref 9, .int (nI 5), .int (nI s)] I J G (PE (some (.int ((G 24 (8 + s)) + (G 24 0)))) I (up2 J 9 2 (((((J 9 2)) + (100000 : Int64))) + (Int64.ofNat 1))) G) := by
  refine amet_en oX1_markAs rfl rfl (L := [some (.ref 9), some (.int (nI 5)), some (.int (nI s))]) rfl ?_
  refine aw_run oX1_markAs sxOk 1 (pc' := 1) (L' := [some (.ref 9), some (.int (nI 5)), some (.int (nI s))]) (st' := [.int (nI 5)]) (I' := I) (J' := J) (G' := G) rfl ?_
  refine aw_tableIn (x := nI 5) (oX1_markAs.dec rfl) (by decide) (by decide) (off := 69) (by decide) (tgt := 70) rfl ?_
  refine aw_run oX1_markAs sxOk 2 (pc' := 72) (L' := [some (.ref 9), some (.int (nI 5)), some (.int (nI s))]) (st' := [.int (nI s), .ref 9]) (I' := I) (J' := J) (G' := G) rfl ?_
  refine aw_cV (st := []) 9 [.int (nI s)] oX1_markPilot k1_35 rfl rfl rfl rfl rfl rfl rfl rfl (oX1_markAs.dec rfl) (c_markPilot (by omega)) ?_
  refine aw_eqS (st := [.int ((G 24 (8 + s)) + (G 24 0))]) rfl ?_
  exact aw_iret rfl (oX1_markAs.dec rfl) pe_rfl
