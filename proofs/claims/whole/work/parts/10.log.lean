set_option maxRecDepth 20000 in
theorem c_theWeek {I : II} {J : JJ} {G : II}  : AMet SX mX2_theWeek [.ref 4] I J G (PE (some (.int (G 24 0))) I J G) := by
  refine amet_en oX2_theWeek rfl rfl (L := [some (.ref 4)]) rfl ?_
  refine aw_run oX2_theWeek sxOk 3 (pc' := 5) (L' := [some (.ref 4)]) (st' := [.int (nI 0), .ref 24]) (I' := I) (J' := J) (G' := G) rfl ?_
  refine aw_iaN 0 sxOk rfl rfl (by omega) (oX2_theWeek.dec rfl) ?_
  exact aw_iret rfl (oX2_theWeek.dec rfl) pe_rfl
set_option maxRecDepth 20000 in
theorem c_placeOf {I : II} {J : JJ} {G : II} {s : Nat} (hs : s < 5) : AMet SX mX2_placeOf [.ref 4, .int (nI s)] I J G (PE (some (.int (G 24 (3 + s)))) I J G) := by
  refine amet_en oX2_placeOf rfl rfl (L := [some (.ref 4), some (.int (nI s))]) rfl ?_
  refine aw_run oX2_placeOf sxOk 5 (pc' := 7) (L' := [some (.ref 4), some (.int (nI s))]) (st' := [.int ((nI 3) + (nI s)), .ref 24]) (I' := I) (J' := J) (G' := G) rfl ?_
  refine aw_iaN (3 + s) sxOk rfl (addN rfl rfl) (by omega) (oX2_placeOf.dec rfl) ?_
  exact aw_iret rfl (oX2_placeOf.dec rfl) pe_rfl
set_option maxRecDepth 20000 in
theorem c_listedOf {I : II} {J : JJ} {G : II} {s : Nat} (hs : s < 5) : AMet SX mX2_listedOf [.ref 4, .int (nI s)] I J G (PE (some (.int (G 24 (8 + s)))) I J G) := by
  refine amet_en oX2_listedOf rfl rfl (L := [some (.ref 4), some (.int (nI s))]) rfl ?_
  refine aw_run oX2_listedOf sxOk 5 (pc' := 8) (L' := [some (.ref 4), some (.int (nI s))]) (st' := [.int ((nI 8) + (nI s)), .ref 24]) (I' := I) (J' := J) (G' := G) rfl ?_
  refine aw_iaN (8 + s) sxOk rfl (addN rfl rfl) (by omega) (oX2_listedOf.dec rfl) ?_
  exact aw_iret rfl (oX2_listedOf.dec rfl) pe_rfl
set_option maxRecDepth 20000 in
theorem c_hiddenOf {I : II} {J : JJ} {G : II} {s : Nat} (hs : s < 5) : AMet SX mX2_hiddenOf [.ref 4, .int (nI s)] I J G (PE (some (.int (G 24 (13 + s)))) I J G) := by
  refine amet_en oX2_hiddenOf rfl rfl (L := [some (.ref 4), some (.int (nI s))]) rfl ?_
  refine aw_run oX2_hiddenOf sxOk 5 (pc' := 8) (L' := [some (.ref 4), some (.int (nI s))]) (st' := [.int ((nI 13) + (nI s)), .ref 24]) (I' := I) (J' := J) (G' := G) rfl ?_
  refine aw_iaN (13 + s) sxOk rfl (addN rfl rfl) (by omega) (oX2_hiddenOf.dec rfl) ?_
  exact aw_iret rfl (oX2_hiddenOf.dec rfl) pe_rfl
set_option maxRecDepth 20000 in
theorem c_silverOf {I : II} {J : JJ} {G : II} {s : Nat} (hs : s < 5) : AMet SX mX2_silverOf [.ref 4, .int (nI s)] I J G (PE (some (.int (sil (G 24) s))) I J G) := by
  refine amet_en oX2_silverOf rfl rfl (L := [some (.ref 4), some (.int (nI s))]) rfl ?_
  refine aw_run oX2_silverOf sxOk 5 (pc' := 8) (L' := [some (.ref 4), some (.int (nI s))]) (st' := [.int ((nI 8) + (nI s)), .ref 24]) (I' := I) (J' := J) (G' := G) rfl ?_
  refine aw_iaN (8 + s) sxOk rfl (addN rfl rfl) (by omega) (oX2_silverOf.dec rfl) ?_
  refine aw_run oX2_silverOf sxOk 5 (pc' := 17) (L' := [some (.ref 4), some (.int (nI s))]) (st' := [.int ((nI 13) + (nI s)), .ref 24, .int (G 24 (8 + s))]) (I' := I) (J' := J) (G' := G) rfl ?_
  refine aw_iaN (13 + s) sxOk rfl (addN rfl rfl) (by omega) (oX2_silverOf.dec rfl) ?_
  refine aw_run oX2_silverOf sxOk 1 (pc' := 19) (L' := [some (.ref 4), some (.int (nI s))]) (st' := [.int ((G 24 (8 + s)) + (G 24 (13 + s)))]) (I' := I) (J' := J) (G' := G) rfl ?_
  exact aw_iret rfl (oX2_silverOf.dec rfl) pe_rfl
set_option maxRecDepth 20000 in
theorem c_isInPort {I : II} {J : JJ} {G : II} {s : Nat} (hs : s < 5) : AMet SX mX2_isInPort [.ref 4, .int (nI s)] I J G (PE (some (.int (b1 (decide (G 24 (3 + s) = nI 0))))) I J G) := by
  refine amet_en oX2_isInPort rfl rfl (L := [some (.ref 4), some (.int (nI s))]) rfl ?_
  refine aw_run oX2_isInPort sxOk 5 (pc' := 7) (L' := [some (.ref 4), some (.int (nI s))]) (st' := [.int ((nI 3) + (nI s)), .ref 24]) (I' := I) (J' := J) (G' := G) rfl ?_
  refine aw_iaN (3 + s) sxOk rfl (addN rfl rfl) (by omega) (oX2_isInPort.dec rfl) ?_
  refine aw_if_ne (oX2_isInPort.dec rfl) (tgt := 15) rfl (fun h8 => ?_) (fun h8 => ?_)
  · refine aw_run oX2_isInPort sxOk 1 (pc' := 16) (L' := [some (.ref 4), some (.int (nI s))]) (st' := [.int (nI 0)]) (I' := I) (J' := J) (G' := G) rfl ?_
    exact aw_zret rfl (by first | exact Or.inl rfl | exact Or.inr rfl) (oX2_isInPort.dec rfl) (pe_i (b1_f h8))
  · refine aw_run oX2_isInPort sxOk 2 (pc' := 16) (L' := [some (.ref 4), some (.int (nI s))]) (st' := [.int (nI 1)]) (I' := I) (J' := J) (G' := G) rfl ?_
    exact aw_zret rfl (by first | exact Or.inl rfl | exact Or.inr rfl) (oX2_isInPort.dec rfl) (pe_i (b1_t h8))
set_option maxRecDepth 20000 in
theorem c_setBars {I : II} {J : JJ} {G : II} {s : Nat} {a b : Int32} (hs : s < 5) : AMet SX mX2_setBars [.ref 4, .int (nI s), .int a, .int b] I J G (PE none I J (va_up G 24 (upd (upd (G 24) (8 + s) a) (13 + s) b))) := by
  refine amet_en oX2_setBars rfl rfl (L := [some (.ref 4), some (.int (nI s)), some (.int a), some (.int b)]) rfl ?_
  refine aw_run oX2_setBars sxOk 6 (pc' := 9) (L' := [some (.ref 4), some (.int (nI s)), some (.int a), some (.int b)]) (st' := [.int a, .int ((nI 8) + (nI s)), .ref 24]) (I' := I) (J' := J) (G' := G) rfl ?_
  refine aw_isN (8 + s) sxOk rfl (addN rfl rfl) (by omega) (oX2_setBars.dec rfl) ?_
  refine aw_eqG (G' := va_up G 24 (upd (G 24) (8 + s) a)) (rfl) ?_
  refine aw_run oX2_setBars sxOk 6 (pc' := 19) (L' := [some (.ref 4), some (.int (nI s)), some (.int a), some (.int b)]) (st' := [.int b, .int ((nI 13) + (nI s)), .ref 24]) (I' := I) (J' := J) (G' := va_up G 24 (upd (G 24) (8 + s) a)) rfl ?_
  refine aw_isN (13 + s) sxOk rfl (addN rfl rfl) (by omega) (oX2_setBars.dec rfl) ?_
  refine aw_eqG (G' := va_up G 24 (upd (upd (G 24) (8 + s) a) (13 + s) b)) (bx_uu _ _ _ _) ?_
  exact aw_vret rfl (oX2_setBars.dec rfl) pe_rfl
