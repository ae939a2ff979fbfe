set_option maxRecDepth 20000 in
theorem c_type_bad {I : II} {J : JJ} {G : II} {x : Int32} (hx : notIn x 256) : AMet SX mX6_type [.ref 0, .int x] I J G (PE (some (.int (-nI 1))) I J G) := by
  refine amet_en oX6_type rfl rfl (L := [some (.ref 0), some (.int x)]) rfl ?_
  refine aw_run oX6_type sxOk 1 (pc' := 1) (L' := [some (.ref 0), some (.int x)]) (st' := [.int x]) (I' := I) (J' := J) (G' := G) rfl ?_
  refine aw_if_lt (oX6_type.dec rfl) (tgt := 11) rfl (fun h1 => ?_) (fun h1 => ?_)
  · refine aw_run oX6_type sxOk 1 (pc' := 12) (L' := [some (.ref 0), some (.int x)]) (st' := [.int (-nI 1)]) (I' := I) (J' := J) (G' := G) rfl ?_
    exact aw_iret rfl (oX6_type.dec rfl) pe_rfl
  · refine aw_run oX6_type sxOk 2 (pc' := 8) (L' := [some (.ref 0), some (.int x)]) (st' := [.int (nI 255), .int x]) (I' := I) (J' := J) (G' := G) rfl ?_
    refine aw_icmp_le (oX6_type.dec rfl) (tgt := 13) rfl (fun h8 => absurd h8 (Int32.not_le.mpr (notIn_gt hx (by decide) h1))) (fun h8 => ?_)
    refine aw_run oX6_type sxOk 1 (pc' := 12) (L' := [some (.ref 0), some (.int x)]) (st' := [.int (-nI 1)]) (I' := I) (J' := J) (G' := G) rfl ?_
    exact aw_iret rfl (oX6_type.dec rfl) pe_rfl
set_option maxRecDepth 20000 in
theorem c_type_full {I : II} {J : JJ} {G : II} {n : Nat} (hn : I 1 1 = nI n) (hn180 : n ≤ 180) {c : Nat} (hc : c < 256) (h180 : n = 180) : AMet SX mX6_type [.ref 0, .int (nI c)] I J G (PE (some (.int (-nI 3))) I J G) := by
  refine amet_en oX6_type rfl rfl (L := [some (.ref 0), some (.int (nI c))]) rfl ?_
  refine aw_run oX6_type sxOk 1 (pc' := 1) (L' := [some (.ref 0), some (.int (nI c))]) (st' := [.int (nI c)]) (I' := I) (J' := J) (G' := G) rfl ?_
  refine aw_0ltN rfl (by omega) (oX6_type.dec rfl) (tgt := 11) rfl ?_
  refine aw_run oX6_type sxOk 2 (pc' := 8) (L' := [some (.ref 0), some (.int (nI c))]) (st' := [.int (nI 255), .int (nI c)]) (I' := I) (J' := J) (G' := G) rfl ?_
  refine aw_leN rfl rfl (by omega) (by omega) (oX6_type.dec rfl) (tgt := 13) rfl (fun h8 => ?_) (fun h8 => absurd h8 (by omega))
  refine aw_run oX6_type sxOk 4 (pc' := 23) (L' := [some (.ref 0), some (.int (nI c))]) (st' := [.int (nI 180), .int (I 1 1)]) (I' := I) (J' := J) (G' := G) rfl ?_
  refine aw_ltN hn rfl (by omega) (by omega) (oX6_type.dec rfl) (tgt := 29) rfl (fun h23 => absurd h23 (by omega)) (fun h23 => ?_)
  refine aw_run oX6_type sxOk 1 (pc' := 28) (L' := [some (.ref 0), some (.int (nI c))]) (st' := [.int (-nI 3)]) (I' := I) (J' := J) (G' := G) rfl ?_
  exact aw_iret rfl (oX6_type.dec rfl) pe_rfl
set_option maxRecDepth 20000 in
theorem c_type_ok {I : II} {J : JJ} {G : II} {n : Nat} (hn : I 1 1 = nI n) (hn180 : n ≤ 180) {c : Nat} (hc : c < 256) (h180 : n < 180) : AMet SX mX6_type [.ref 0, .int (nI c)] I J G (PE (some (.int ((I 1 1) + (nI 1)))) (up2 I 1 1 ((I 1 1) + (nI 1))) J (va_up G 10 (upd (G 10) n (nI c)))) := by
  refine amet_en oX6_type rfl rfl (L := [some (.ref 0), some (.int (nI c))]) rfl ?_
  refine aw_run oX6_type sxOk 1 (pc' := 1) (L' := [some (.ref 0), some (.int (nI c))]) (st' := [.int (nI c)]) (I' := I) (J' := J) (G' := G) rfl ?_
  refine aw_0ltN rfl (by omega) (oX6_type.dec rfl) (tgt := 11) rfl ?_
  refine aw_run oX6_type sxOk 2 (pc' := 8) (L' := [some (.ref 0), some (.int (nI c))]) (st' := [.int (nI 255), .int (nI c)]) (I' := I) (J' := J) (G' := G) rfl ?_
  refine aw_leN rfl rfl (by omega) (by omega) (oX6_type.dec rfl) (tgt := 13) rfl (fun h8 => ?_) (fun h8 => absurd h8 (by omega))
  refine aw_run oX6_type sxOk 4 (pc' := 23) (L' := [some (.ref 0), some (.int (nI c))]) (st' := [.int (nI 180), .int (I 1 1)]) (I' := I) (J' := J) (G' := G) rfl ?_
  refine aw_ltN hn rfl (by omega) (by omega) (oX6_type.dec rfl) (tgt := 29) rfl (fun h23 => ?_) (fun h23 => absurd h23 (by omega))
  refine aw_run oX6_type sxOk 7 (pc' := 44) (L' := [some (.ref 0), some (.int (nI c))]) (st' := [.int (nI c), .int (I 1 1), .ref 10]) (I' := I) (J' := J) (G' := G) rfl ?_
  refine aw_isN n sxOk rfl hn (by omega) (oX6_type.dec rfl) ?_
  refine aw_eqG (G' := va_up G 10 (upd (G 10) n (nI c))) (rfl) ?_
  refine aw_run oX6_type sxOk 10 (pc' := 65) (L' := [some (.ref 0), some (.int (nI c))]) (st' := [.int ((I 1 1) + (nI 1))]) (I' := up2 I 1 1 ((I 1 1) + (nI 1))) (J' := J) (G' := va_up G 10 (upd (G 10) n (nI c))) rfl ?_
  exact aw_iret rfl (oX6_type.dec rfl) pe_rfl
set_option maxRecDepth 20000 in
theorem c_clear {I : II} {J : JJ} {G : II}  : AMet SX mX6_clear [.ref 0] I J G (PE (some (.int (I 1 1))) (up2 I 1 1 (nI 0)) J G) := by
  refine amet_en oX6_clear rfl rfl (L := [some (.ref 0), none]) rfl ?_
  refine aw_run oX6_clear sxOk 9 (pc' := 17) (L' := [some (.ref 0), some (.int (I 1 1))]) (st' := [.int (I 1 1)]) (I' := up2 I 1 1 (nI 0)) (J' := J) (G' := G) rfl ?_
  exact aw_iret rfl (oX6_clear.dec rfl) pe_rfl
set_option maxRecDepth 20000 in
theorem c_week_bad {I : II} {J : JJ} {G : II} {Wk : Nat} (hW : I 2 6 = nI Wk) (hWk : Wk ≤ 12) {x y : Int32} (hx : notIn x Wk) : AMet SX mX6_week [.ref 0, .int x, .int y] I J G (PE (some (.int (-nI 1))) I J G) := by
  refine amet_en oX6_week rfl rfl (L := [some (.ref 0), some (.int x), some (.int y)]) rfl ?_
  refine aw_run oX6_week sxOk 3 (pc' := 5) (L' := [some (.ref 0), some (.int x), some (.int y)]) (st' := [.int x, .ref 2]) (I' := I) (J' := J) (G' := G) rfl ?_
  refine aw_cV (st := []) 2 [.int x] oX4_hasWeek k6_87 rfl rfl rfl rfl rfl rfl rfl rfl (oX6_week.dec rfl) (c_hasWeek_f hW (by omega) (by assumption)) ?_
  refine aw_eqS (st := [.int (nI 0)]) rfl ?_
  refine aw_0neN rfl (by omega) (oX6_week.dec rfl) (tgt := 13) rfl (fun h8 => absurd h8 (by omega)) (fun h8 => ?_)
  refine aw_run oX6_week sxOk 1 (pc' := 12) (L' := [some (.ref 0), some (.int x), some (.int y)]) (st' := [.int (-nI 1)]) (I' := I) (J' := J) (G' := G) rfl ?_
  exact aw_iret rfl (oX6_week.dec rfl) pe_rfl
set_option maxRecDepth 20000 in
theorem c_week_bad2 {I : II} {J : JJ} {G : II} {Wk : Nat} (hW : I 2 6 = nI Wk) (hWk : Wk ≤ 12) {j : Nat} {x : Int32} (hj : j < Wk) (hx : notIn x 2) : AMet SX mX6_week [.ref 0, .int (nI j), .int x] I J G (PE (some (.int (-nI 1))) I J G) := by
  refine amet_en oX6_week rfl rfl (L := [some (.ref 0), some (.int (nI j)), some (.int x)]) rfl ?_
  refine aw_run oX6_week sxOk 3 (pc' := 5) (L' := [some (.ref 0), some (.int (nI j)), some (.int x)]) (st' := [.int (nI j), .ref 2]) (I' := I) (J' := J) (G' := G) rfl ?_
  refine aw_cV (st := []) 2 [.int (nI j)] oX4_hasWeek k6_87 rfl rfl rfl rfl rfl rfl rfl rfl (oX6_week.dec rfl) (c_hasWeek_t hW (by omega) (by omega)) ?_
  refine aw_eqS (st := [.int (nI 1)]) rfl ?_
  refine aw_0neN rfl (by omega) (oX6_week.dec rfl) (tgt := 13) rfl (fun h8 => ?_) (fun h8 => absurd h8 (by omega))
  refine aw_run oX6_week sxOk 1 (pc' := 14) (L' := [some (.ref 0), some (.int (nI j)), some (.int x)]) (st' := [.int x]) (I' := I) (J' := J) (G' := G) rfl ?_
  refine aw_lookup (x := x) (oX6_week.dec rfl) (by decide) (off := 46) (by have h9 := notIn_tab hx (by decide); show (if (0 : Int) = x.toInt then (26 : Int) else if (1 : Int) = x.toInt then 36 else 46) = 46; rw [if_neg (by omega), if_neg (by omega)]) (tgt := 60) rfl ?_
  refine aw_run oX6_week sxOk 1 (pc' := 61) (L' := [some (.ref 0), some (.int (nI j)), some (.int x)]) (st' := [.int (-nI 1)]) (I' := I) (J' := J) (G' := G) rfl ?_
  exact aw_iret rfl (oX6_week.dec rfl) pe_rfl
set_option maxRecDepth 20000 in
theorem c_week_0 {I : II} {J : JJ} {G : II} {Wk : Nat} (hW : I 2 6 = nI Wk) (hWk : Wk ≤ 12) {j : Nat} (hj : j < Wk) : AMet SX mX6_week [.ref 0, .int (nI j), .int (nI 0)] I J G (PE (some (.int (G 12 j))) I J G) := by
  refine amet_en oX6_week rfl rfl (L := [some (.ref 0), some (.int (nI j)), some (.int (nI 0))]) rfl ?_
  refine aw_run oX6_week sxOk 3 (pc' := 5) (L' := [some (.ref 0), some (.int (nI j)), some (.int (nI 0))]) (st' := [.int (nI j), .ref 2]) (I' := I) (J' := J) (G' := G) rfl ?_
  refine aw_cV (st := []) 2 [.int (nI j)] oX4_hasWeek k6_87 rfl rfl rfl rfl rfl rfl rfl rfl (oX6_week.dec rfl) (c_hasWeek_t hW (by omega) (by omega)) ?_
  refine aw_eqS (st := [.int (nI 1)]) rfl ?_
  refine aw_0neN rfl (by omega) (oX6_week.dec rfl) (tgt := 13) rfl (fun h8 => ?_) (fun h8 => absurd h8 (by omega))
  refine aw_run oX6_week sxOk 1 (pc' := 14) (L' := [some (.ref 0), some (.int (nI j)), some (.int (nI 0))]) (st' := [.int (nI 0)]) (I' := I) (J' := J) (G' := G) rfl ?_
  refine aw_lookup (x := nI 0) (oX6_week.dec rfl) (by decide) (off := 26) (by decide) (tgt := 40) rfl ?_
  refine aw_run oX6_week sxOk 4 (pc' := 48) (L' := [some (.ref 0), some (.int (nI j)), some (.int (nI 0))]) (st' := [.int (nI j), .ref 12]) (I' := I) (J' := J) (G' := G) rfl ?_
  refine aw_iaN j sxOk rfl rfl (by omega) (oX6_week.dec rfl) ?_
  exact aw_iret rfl (oX6_week.dec rfl) pe_rfl
set_option maxRecDepth 20000 in
theorem c_week_1 {I : II} {J : JJ} {G : II} {Wk : Nat} (hW : I 2 6 = nI Wk) (hWk : Wk ≤ 12) {j : Nat} (hj : j < Wk) : AMet SX mX6_week [.ref 0, .int (nI j), .int (nI 1)] I J G (PE (some (.int (G 13 j))) I J G) := by
  refine amet_en oX6_week rfl rfl (L := [some (.ref 0), some (.int (nI j)), some (.int (nI 1))]) rfl ?_
  refine aw_run oX6_week sxOk 3 (pc' := 5) (L' := [some (.ref 0), some (.int (nI j)), some (.int (nI 1))]) (st' := [.int (nI j), .ref 2]) (I' := I) (J' := J) (G' := G) rfl ?_
  refine aw_cV (st := []) 2 [.int (nI j)] oX4_hasWeek k6_87 rfl rfl rfl rfl rfl rfl rfl rfl (oX6_week.dec rfl) (c_hasWeek_t hW (by omega) (by omega)) ?_
  refine aw_eqS (st := [.int (nI 1)]) rfl ?_
  refine aw_0neN rfl (by omega) (oX6_week.dec rfl) (tgt := 13) rfl (fun h8 => ?_) (fun h8 => absurd h8 (by omega))
  refine aw_run oX6_week sxOk 1 (pc' := 14) (L' := [some (.ref 0), some (.int (nI j)), some (.int (nI 1))]) (st' := [.int (nI 1)]) (I' := I) (J' := J) (G' := G) rfl ?_
  refine aw_lookup (x := nI 1) (oX6_week.dec rfl) (by decide) (off := 36) (by decide) (tgt := 50) rfl ?_
  refine aw_run oX6_week sxOk 4 (pc' := 58) (L' := [some (.ref 0), some (.int (nI j)), some (.int (nI 1))]) (st' := [.int (nI j), .ref 13]) (I' := I) (J' := J) (G' := G) rfl ?_
  refine aw_iaN j sxOk rfl rfl (by omega) (oX6_week.dec rfl) ?_
  exact aw_iret rfl (oX6_week.dec rfl) pe_rfl
set_option maxRecDepth 20000 in
theorem c_ship_bad {I : II} {J : JJ} {G : II} {P : Nat} (hP : I 2 7 = nI P) (hP5 : P ≤ 5) {x y : Int32} (hx : notIn x P) : AMet SX mX6_ship [.ref 0, .int x, .int y] I J G (PE (some (.int (-nI 1))) I J G) := by
  refine amet_en oX6_ship rfl rfl (L := [some (.ref 0), some (.int x), some (.int y)]) rfl ?_
  refine aw_run oX6_ship sxOk 3 (pc' := 5) (L' := [some (.ref 0), some (.int x), some (.int y)]) (st' := [.int x, .ref 2]) (I' := I) (J' := J) (G' := G) rfl ?_
  refine aw_cV (st := []) 2 [.int x] oX4_hasShip k6_97 rfl rfl rfl rfl rfl rfl rfl rfl (oX6_ship.dec rfl) (c_hasShip_f hP (by omega) (by assumption)) ?_
  refine aw_eqS (st := [.int (nI 0)]) rfl ?_
  refine aw_0neN rfl (by omega) (oX6_ship.dec rfl) (tgt := 13) rfl (fun h8 => absurd h8 (by omega)) (fun h8 => ?_)
  refine aw_run oX6_ship sxOk 1 (pc' := 12) (L' := [some (.ref 0), some (.int x), some (.int y)]) (st' := [.int (-nI 1)]) (I' := I) (J' := J) (G' := G) rfl ?_
  exact aw_iret rfl (oX6_ship.dec rfl) pe_rfl
set_option maxRecDepth 20000 in
theorem c_ship_bad2 {I : II} {J : JJ} {G : II} {P : Nat} (hP : I 2 7 = nI P) (hP5 : P ≤ 5) {j : Nat} {x : Int32} (hj : j < P) (hx : notIn x 5) : AMet SX mX6_ship [.ref 0, .int (nI j), .int x] I J G (PE (some (.int (-nI 1))) I J G) := by
  refine amet_en oX6_ship rfl rfl (L := [some (.ref 0), some (.int (nI j)), some (.int x)]) rfl ?_
  refine aw_run oX6_ship sxOk 3 (pc' := 5) (L' := [some (.ref 0), some (.int (nI j)), some (.int x)]) (st' := [.int (nI j), .ref 2]) (I' := I) (J' := J) (G' := G) rfl ?_
  refine aw_cV (st := []) 2 [.int (nI j)] oX4_hasShip k6_97 rfl rfl rfl rfl rfl rfl rfl rfl (oX6_ship.dec rfl) (c_hasShip_t hP (by omega) (by omega)) ?_
  refine aw_eqS (st := [.int (nI 1)]) rfl ?_
  refine aw_0neN rfl (by omega) (oX6_ship.dec rfl) (tgt := 13) rfl (fun h8 => ?_) (fun h8 => absurd h8 (by omega))
  refine aw_run oX6_ship sxOk 1 (pc' := 14) (L' := [some (.ref 0), some (.int (nI j)), some (.int x)]) (st' := [.int x]) (I' := I) (J' := J) (G' := G) rfl ?_
  refine aw_tableOut (x := x) (oX6_ship.dec rfl) (notIn_tab hx (by decide)) (tgt := 95) rfl ?_
  refine aw_run oX6_ship sxOk 1 (pc' := 96) (L' := [some (.ref 0), some (.int (nI j)), some (.int x)]) (st' := [.int (-nI 1)]) (I' := I) (J' := J) (G' := G) rfl ?_
  exact aw_iret rfl (oX6_ship.dec rfl) pe_rfl
set_option maxRecDepth 20000 in
theorem c_ship_0 {I : II} {J : JJ} {G : II} {P : Nat} (hP : I 2 7 = nI P) (hP5 : P ≤ 5) {j : Nat} (hj : j < P) : AMet SX mX6_ship [.ref 0, .int (nI j), .int (nI 0)] I J G (PE (some (.int (G 24 (8 + j)))) I J G) := by
  refine amet_en oX6_ship rfl rfl (L := [some (.ref 0), some (.int (nI j)), some (.int (nI 0))]) rfl ?_
  refine aw_run oX6_ship sxOk 3 (pc' := 5) (L' := [some (.ref 0), some (.int (nI j)), some (.int (nI 0))]) (st' := [.int (nI j), .ref 2]) (I' := I) (J' := J) (G' := G) rfl ?_
  refine aw_cV (st := []) 2 [.int (nI j)] oX4_hasShip k6_97 rfl rfl rfl rfl rfl rfl rfl rfl (oX6_ship.dec rfl) (c_hasShip_t hP (by omega) (by omega)) ?_
  refine aw_eqS (st := [.int (nI 1)]) rfl ?_
  refine aw_0neN rfl (by omega) (oX6_ship.dec rfl) (tgt := 13) rfl (fun h8 => ?_) (fun h8 => absurd h8 (by omega))
  refine aw_run oX6_ship sxOk 1 (pc' := 14) (L' := [some (.ref 0), some (.int (nI j)), some (.int (nI 0))]) (st' := [.int (nI 0)]) (I' := I) (J' := J) (G' := G) rfl ?_
  refine aw_tableIn (x := nI 0) (oX6_ship.dec rfl) (by decide) (by decide) (off := 34) (by decide) (tgt := 48) rfl ?_
  refine aw_run oX6_ship sxOk 3 (pc' := 53) (L' := [some (.ref 0), some (.int (nI j)), some (.int (nI 0))]) (st' := [.int (nI j), .ref 4]) (I' := I) (J' := J) (G' := G) rfl ?_
  refine aw_cV (st := []) 4 [.int (nI j)] oX2_listedOf k6_100 rfl rfl rfl rfl rfl rfl rfl rfl (oX6_ship.dec rfl) (c_listedOf (by omega)) ?_
  refine aw_eqS (st := [.int (G 24 (8 + j))]) rfl ?_
  exact aw_iret rfl (oX6_ship.dec rfl) pe_rfl
set_option maxRecDepth 20000 in
theorem c_ship_1 {I : II} {J : JJ} {G : II} {P : Nat} (hP : I 2 7 = nI P) (hP5 : P ≤ 5) {j : Nat} (hj : j < P) : AMet SX mX6_ship [.ref 0, .int (nI j), .int (nI 1)] I J G (PE (some (.int (G 24 (13 + j)))) I J G) := by
  refine amet_en oX6_ship rfl rfl (L := [some (.ref 0), some (.int (nI j)), some (.int (nI 1))]) rfl ?_
  refine aw_run oX6_ship sxOk 3 (pc' := 5) (L' := [some (.ref 0), some (.int (nI j)), some (.int (nI 1))]) (st' := [.int (nI j), .ref 2]) (I' := I) (J' := J) (G' := G) rfl ?_
  refine aw_cV (st := []) 2 [.int (nI j)] oX4_hasShip k6_97 rfl rfl rfl rfl rfl rfl rfl rfl (oX6_ship.dec rfl) (c_hasShip_t hP (by omega) (by omega)) ?_
  refine aw_eqS (st := [.int (nI 1)]) rfl ?_
  refine aw_0neN rfl (by omega) (oX6_ship.dec rfl) (tgt := 13) rfl (fun h8 => ?_) (fun h8 => absurd h8 (by omega))
  refine aw_run oX6_ship sxOk 1 (pc' := 14) (L' := [some (.ref 0), some (.int (nI j)), some (.int (nI 1))]) (st' := [.int (nI 1)]) (I' := I) (J' := J) (G' := G) rfl ?_
  refine aw_tableIn (x := nI 1) (oX6_ship.dec rfl) (by decide) (by decide) (off := 43) (by decide) (tgt := 57) rfl ?_
  refine aw_run oX6_ship sxOk 3 (pc' := 62) (L' := [some (.ref 0), some (.int (nI j)), some (.int (nI 1))]) (st' := [.int (nI j), .ref 4]) (I' := I) (J' := J) (G' := G) rfl ?_
  refine aw_cV (st := []) 4 [.int (nI j)] oX2_hiddenOf k6_104 rfl rfl rfl rfl rfl rfl rfl rfl (oX6_ship.dec rfl) (c_hiddenOf (by omega)) ?_
  refine aw_eqS (st := [.int (G 24 (13 + j))]) rfl ?_
  exact aw_iret rfl (oX6_ship.dec rfl) pe_rfl
set_option maxRecDepth 20000 in
theorem c_ship_2 {I : II} {J : JJ} {G : II} {P : Nat} (hP : I 2 7 = nI P) (hP5 : P ≤ 5) {j : Nat} (hj : j < P) : AMet SX mX6_ship [.ref 0, .int (nI j), .int (nI 2)] I J G (PE (some (.int (G 16 j))) I J G) := by
  refine amet_en oX6_ship rfl rfl (L := [some (.ref 0), some (.int (nI j)), some (.int (nI 2))]) rfl ?_
  refine aw_run oX6_ship sxOk 3 (pc' := 5) (L' := [some (.ref 0), some (.int (nI j)), some (.int (nI 2))]) (st' := [.int (nI j), .ref 2]) (I' := I) (J' := J) (G' := G) rfl ?_
  refine aw_cV (st := []) 2 [.int (nI j)] oX4_hasShip k6_97 rfl rfl rfl rfl rfl rfl rfl rfl (oX6_ship.dec rfl) (c_hasShip_t hP (by omega) (by omega)) ?_
  refine aw_eqS (st := [.int (nI 1)]) rfl ?_
  refine aw_0neN rfl (by omega) (oX6_ship.dec rfl) (tgt := 13) rfl (fun h8 => ?_) (fun h8 => absurd h8 (by omega))
  refine aw_run oX6_ship sxOk 1 (pc' := 14) (L' := [some (.ref 0), some (.int (nI j)), some (.int (nI 2))]) (st' := [.int (nI 2)]) (I' := I) (J' := J) (G' := G) rfl ?_
  refine aw_tableIn (x := nI 2) (oX6_ship.dec rfl) (by decide) (by decide) (off := 52) (by decide) (tgt := 66) rfl ?_
  refine aw_run oX6_ship sxOk 4 (pc' := 74) (L' := [some (.ref 0), some (.int (nI j)), some (.int (nI 2))]) (st' := [.int (nI j), .ref 16]) (I' := I) (J' := J) (G' := G) rfl ?_
  refine aw_iaN j sxOk rfl rfl (by omega) (oX6_ship.dec rfl) ?_
  exact aw_iret rfl (oX6_ship.dec rfl) pe_rfl
set_option maxRecDepth 20000 in
theorem c_ship_3 {I : II} {J : JJ} {G : II} {P : Nat} (hP : I 2 7 = nI P) (hP5 : P ≤ 5) {j : Nat} (hj : j < P) : AMet SX mX6_ship [.ref 0, .int (nI j), .int (nI 3)] I J G (PE (some (.int (G 17 j))) I J G) := by
  refine amet_en oX6_ship rfl rfl (L := [some (.ref 0), some (.int (nI j)), some (.int (nI 3))]) rfl ?_
  refine aw_run oX6_ship sxOk 3 (pc' := 5) (L' := [some (.ref 0), some (.int (nI j)), some (.int (nI 3))]) (st' := [.int (nI j), .ref 2]) (I' := I) (J' := J) (G' := G) rfl ?_
  refine aw_cV (st := []) 2 [.int (nI j)] oX4_hasShip k6_97 rfl rfl rfl rfl rfl rfl rfl rfl (oX6_ship.dec rfl) (c_hasShip_t hP (by omega) (by omega)) ?_
  refine aw_eqS (st := [.int (nI 1)]) rfl ?_
  refine aw_0neN rfl (by omega) (oX6_ship.dec rfl) (tgt := 13) rfl (fun h8 => ?_) (fun h8 => absurd h8 (by omega))
  refine aw_run oX6_ship sxOk 1 (pc' := 14) (L' := [some (.ref 0), some (.int (nI j)), some (.int (nI 3))]) (st' := [.int (nI 3)]) (I' := I) (J' := J) (G' := G) rfl ?_
  refine aw_tableIn (x := nI 3) (oX6_ship.dec rfl) (by decide) (by decide) (off := 62) (by decide) (tgt := 76) rfl ?_
  refine aw_run oX6_ship sxOk 4 (pc' := 84) (L' := [some (.ref 0), some (.int (nI j)), some (.int (nI 3))]) (st' := [.int (nI j), .ref 17]) (I' := I) (J' := J) (G' := G) rfl ?_
  refine aw_iaN j sxOk rfl rfl (by omega) (oX6_ship.dec rfl) ?_
  exact aw_iret rfl (oX6_ship.dec rfl) pe_rfl
set_option maxRecDepth 20000 in
theorem c_ship_4 {I : II} {J : JJ} {G : II} {P : Nat} (hP : I 2 7 = nI P) (hP5 : P ≤ 5) {j : Nat} (hj : j < P) : AMet SX mX6_ship [.ref 0, .int (nI j), .int (nI 4)] I J G (PE (some (.int (G 24 (3 + j)))) I J G) := by
  refine amet_en oX6_ship rfl rfl (L := [some (.ref 0), some (.int (nI j)), some (.int (nI 4))]) rfl ?_
  refine aw_run oX6_ship sxOk 3 (pc' := 5) (L' := [some (.ref 0), some (.int (nI j)), some (.int (nI 4))]) (st' := [.int (nI j), .ref 2]) (I' := I) (J' := J) (G' := G) rfl ?_
  refine aw_cV (st := []) 2 [.int (nI j)] oX4_hasShip k6_97 rfl rfl rfl rfl rfl rfl rfl rfl (oX6_ship.dec rfl) (c_hasShip_t hP (by omega) (by omega)) ?_
  refine aw_eqS (st := [.int (nI 1)]) rfl ?_
  refine aw_0neN rfl (by omega) (oX6_ship.dec rfl) (tgt := 13) rfl (fun h8 => ?_) (fun h8 => absurd h8 (by omega))
  refine aw_run oX6_ship sxOk 1 (pc' := 14) (L' := [some (.ref 0), some (.int (nI j)), some (.int (nI 4))]) (st' := [.int (nI 4)]) (I' := I) (J' := J) (G' := G) rfl ?_
  refine aw_tableIn (x := nI 4) (oX6_ship.dec rfl) (by decide) (by decide) (off := 72) (by decide) (tgt := 86) rfl ?_
  refine aw_run oX6_ship sxOk 3 (pc' := 91) (L' := [some (.ref 0), some (.int (nI j)), some (.int (nI 4))]) (st' := [.int (nI j), .ref 4]) (I' := I) (J' := J) (G' := G) rfl ?_
  refine aw_cV (st := []) 4 [.int (nI j)] oX2_placeOf k6_113 rfl rfl rfl rfl rfl rfl rfl rfl (oX6_ship.dec rfl) (c_placeOf (by omega)) ?_
  refine aw_eqS (st := [.int (G 24 (3 + j))]) rfl ?_
  exact aw_iret rfl (oX6_ship.dec rfl) pe_rfl
set_option maxRecDepth 20000 in
theorem c_waits_over {I : II} {J : JJ} {G : II} {Wk : Nat} (hW : I 2 6 = nI Wk) (hWk : Wk ≤ 12) {t : Nat} (ht : G 24 0 = nI t) (ht12 : t ≤ 12) (ho : Wk ≤ t) : AMet SX mX6_waits [.ref 0] I J G (PE (some (.int (-nI 2))) I J G) := by
  refine amet_en oX6_waits rfl rfl (L := [some (.ref 0)]) rfl ?_
  refine aw_run oX6_waits sxOk 1 (pc' := 1) (L' := [some (.ref 0)]) (st' := [.ref 0]) (I' := I) (J' := J) (G' := G) rfl ?_
  refine aw_cV (st := []) 0 [] oX6_isOver k6_116 rfl rfl rfl rfl rfl rfl rfl rfl (oX6_waits.dec rfl) (c_isOver hW hWk ht (by omega)) ?_
  refine aw_eqS (st := [.int (b1 (decide (Wk ≤ t)))]) rfl ?_
  refine aw_0eqD (oX6_waits.dec rfl) (tgt := 10) rfl (fun h4 => absurd h4 (by omega)) (fun h4 => ?_)
  refine aw_run oX6_waits sxOk 1 (pc' := 9) (L' := [some (.ref 0)]) (st' := [.int (-nI 2)]) (I' := I) (J' := J) (G' := G) rfl ?_
  exact aw_iret rfl (oX6_waits.dec rfl) pe_rfl
set_option maxRecDepth 20000 in
theorem c_waits_ok {I : II} {J : JJ} {G : II} {Wk : Nat} (hW : I 2 6 = nI Wk) (hWk : Wk ≤ 12) {t : Nat} (ht : G 24 0 = nI t) (ht12 : t ≤ 12) {K : Nat} (hK : I 4 2 = nI K) (hK10 : K ≤ 10) (ho : t < Wk) : AMet SX mX6_waits [.ref 0] I J G (PE (some (.int ((upd (G 24) 0 ((G 24 0) + (nI 1))) 0))) (up2 I 4 2 (nI (remK K))) J (va_up (va_up G 25 (remP (G 24) (G 25) K)) 24 (upd (G 24) 0 ((G 24 0) + (nI 1))))) := by
  refine amet_en oX6_waits rfl rfl (L := [some (.ref 0)]) rfl ?_
  refine aw_run oX6_waits sxOk 1 (pc' := 1) (L' := [some (.ref 0)]) (st' := [.ref 0]) (I' := I) (J' := J) (G' := G) rfl ?_
  refine aw_cV (st := []) 0 [] oX6_isOver k6_116 rfl rfl rfl rfl rfl rfl rfl rfl (oX6_waits.dec rfl) (c_isOver hW hWk ht (by omega)) ?_
  refine aw_eqS (st := [.int (b1 (decide (Wk ≤ t)))]) rfl ?_
  refine aw_0eqD (oX6_waits.dec rfl) (tgt := 10) rfl (fun h4 => ?_) (fun h4 => absurd h4 (by omega))
  refine aw_run oX6_waits sxOk 2 (pc' := 14) (L' := [some (.ref 0)]) (st' := [.ref 4]) (I' := I) (J' := J) (G' := G) rfl ?_
  refine aw_cV (st := []) 4 [] oX2_remember k6_120 rfl rfl rfl rfl rfl rfl rfl rfl (oX6_waits.dec rfl) (c_remember hK (by omega)) ?_
  refine aw_eqG (G' := va_up G 25 (remP (G 24) (G 25) K)) (rfl) ?_
  refine aw_eqS (st := []) rfl ?_
  refine aw_run oX6_waits sxOk 5 (pc' := 26) (L' := [some (.ref 0)]) (st' := [.int (nI 0), .ref 24, .int (nI 0), .ref 24]) (I' := up2 I 4 2 (nI (remK K))) (J' := J) (G' := va_up G 25 (remP (G 24) (G 25) K)) rfl ?_
  refine aw_iaN 0 sxOk rfl rfl (by omega) (oX6_waits.dec rfl) ?_
  refine aw_eqS (st := [.int (G 24 0), .int (nI 0), .ref 24]) rfl ?_
  refine aw_run oX6_waits sxOk 2 (pc' := 29) (L' := [some (.ref 0)]) (st' := [.int ((G 24 0) + (nI 1)), .int (nI 0), .ref 24]) (I' := up2 I 4 2 (nI (remK K))) (J' := J) (G' := va_up G 25 (remP (G 24) (G 25) K)) rfl ?_
  refine aw_isN 0 sxOk rfl rfl (by omega) (oX6_waits.dec rfl) ?_
  refine aw_eqG (G' := va_up (va_up G 25 (remP (G 24) (G 25) K)) 24 (upd (G 24) 0 ((G 24 0) + (nI 1)))) (rfl) ?_
  refine aw_run oX6_waits sxOk 2 (pc' := 34) (L' := [some (.ref 0)]) (st' := [.ref 4]) (I' := up2 I 4 2 (nI (remK K))) (J' := J) (G' := va_up (va_up G 25 (remP (G 24) (G 25) K)) 24 (upd (G 24) 0 ((G 24 0) + (nI 1)))) rfl ?_
  refine aw_cV (st := []) 4 [] oX2_theWeek k6_126 rfl rfl rfl rfl rfl rfl rfl rfl (oX6_waits.dec rfl) c_theWeek ?_
  refine aw_eqS (st := [.int ((upd (G 24) 0 ((G 24 0) + (nI 1))) 0)]) rfl ?_
  exact aw_iret rfl (oX6_waits.dec rfl) pe_rfl
set_option maxRecDepth 20000 in
theorem c_lists_bad {I : II} {J : JJ} {G : II} {P : Nat} (hP : I 2 7 = nI P) (hP5 : P ≤ 5) {x y : Int32} (hx : notIn x P) : AMet SX mX6_lists [.ref 0, .int x, .int y] I J G (PE (some (.int (-nI 1))) I J G) := by
  refine amet_en oX6_lists rfl rfl (L := [some (.ref 0), some (.int x), some (.int y)]) rfl ?_
  refine aw_run oX6_lists sxOk 3 (pc' := 5) (L' := [some (.ref 0), some (.int x), some (.int y)]) (st' := [.int x, .ref 2]) (I' := I) (J' := J) (G' := G) rfl ?_
  refine aw_cV (st := []) 2 [.int x] oX4_hasShip k6_97 rfl rfl rfl rfl rfl rfl rfl rfl (oX6_lists.dec rfl) (c_hasShip_f hP (by omega) (by assumption)) ?_
  refine aw_eqS (st := [.int (nI 0)]) rfl ?_
  refine aw_0eqN rfl (by omega) (oX6_lists.dec rfl) (tgt := 22) rfl (fun h8 => ?_) (fun h8 => absurd h8 (by omega))
  refine aw_run oX6_lists sxOk 1 (pc' := 23) (L' := [some (.ref 0), some (.int x), some (.int y)]) (st' := [.int (-nI 1)]) (I' := I) (J' := J) (G' := G) rfl ?_
  exact aw_iret rfl (oX6_lists.dec rfl) pe_rfl
set_option maxRecDepth 20000 in
theorem c_lists_bad0 {I : II} {J : JJ} {G : II} {P : Nat} (hP : I 2 7 = nI P) (hP5 : P ≤ 5) {s : Nat} (hs : s < P) : AMet SX mX6_lists [.ref 0, .int (nI s), .int (nI 0)] I J G (PE (some (.int (-nI 1))) I J G) := by
  refine amet_en oX6_lists rfl rfl (L := [some (.ref 0), some (.int (nI s)), some (.int (nI 0))]) rfl ?_
  refine aw_run oX6_lists sxOk 3 (pc' := 5) (L' := [some (.ref 0), some (.int (nI s)), some (.int (nI 0))]) (st' := [.int (nI s), .ref 2]) (I' := I) (J' := J) (G' := G) rfl ?_
  refine aw_cV (st := []) 2 [.int (nI s)] oX4_hasShip k6_97 rfl rfl rfl rfl rfl rfl rfl rfl (oX6_lists.dec rfl) (c_hasShip_t hP (by omega) (by omega)) ?_
  refine aw_eqS (st := [.int (nI 1)]) rfl ?_
  refine aw_0eqN rfl (by omega) (oX6_lists.dec rfl) (tgt := 22) rfl (fun h8 => absurd h8 (by omega)) (fun h8 => ?_)
  refine aw_run oX6_lists sxOk 2 (pc' := 13) (L' := [some (.ref 0), some (.int (nI s)), some (.int (nI 0))]) (st' := [.int (nI 1), .int (nI 0)]) (I' := I) (J' := J) (G' := G) rfl ?_
  refine aw_ltN rfl rfl (by omega) (by omega) (oX6_lists.dec rfl) (tgt := 22) rfl (fun h13 => ?_) (fun h13 => absurd h13 (by omega))
  refine aw_run oX6_lists sxOk 1 (pc' := 23) (L' := [some (.ref 0), some (.int (nI s)), some (.int (nI 0))]) (st' := [.int (-nI 1)]) (I' := I) (J' := J) (G' := G) rfl ?_
  exact aw_iret rfl (oX6_lists.dec rfl) pe_rfl
set_option maxRecDepth 20000 in
theorem c_lists_bad2 {I : II} {J : JJ} {G : II} {P : Nat} (hP : I 2 7 = nI P) (hP5 : P ≤ 5) {s : Nat} {x : Int32} (hs : s < P) (hx : notIn x 61) : AMet SX mX6_lists [.ref 0, .int (nI s), .int x] I J G (PE (some (.int (-nI 1))) I J G) := by
  refine amet_en oX6_lists rfl rfl (L := [some (.ref 0), some (.int (nI s)), some (.int x)]) rfl ?_
  refine aw_run oX6_lists sxOk 3 (pc' := 5) (L' := [some (.ref 0), some (.int (nI s)), some (.int x)]) (st' := [.int (nI s), .ref 2]) (I' := I) (J' := J) (G' := G) rfl ?_
  refine aw_cV (st := []) 2 [.int (nI s)] oX4_hasShip k6_97 rfl rfl rfl rfl rfl rfl rfl rfl (oX6_lists.dec rfl) (c_hasShip_t hP (by omega) (by omega)) ?_
  refine aw_eqS (st := [.int (nI 1)]) rfl ?_
  refine aw_0eqN rfl (by omega) (oX6_lists.dec rfl) (tgt := 22) rfl (fun h8 => absurd h8 (by omega)) (fun h8 => ?_)
  refine aw_run oX6_lists sxOk 2 (pc' := 13) (L' := [some (.ref 0), some (.int (nI s)), some (.int x)]) (st' := [.int (nI 1), .int x]) (I' := I) (J' := J) (G' := G) rfl ?_
  refine aw_icmp_lt (oX6_lists.dec rfl) (tgt := 22) rfl (fun h13 => ?_) (fun h13 => ?_)
  · refine aw_run oX6_lists sxOk 1 (pc' := 23) (L' := [some (.ref 0), some (.int (nI s)), some (.int x)]) (st' := [.int (-nI 1)]) (I' := I) (J' := J) (G' := G) rfl ?_
    exact aw_iret rfl (oX6_lists.dec rfl) pe_rfl
  · refine aw_run oX6_lists sxOk 2 (pc' := 19) (L' := [some (.ref 0), some (.int (nI s)), some (.int x)]) (st' := [.int (nI 60), .int x]) (I' := I) (J' := J) (G' := G) rfl ?_
    refine aw_icmp_le (oX6_lists.dec rfl) (tgt := 24) rfl (fun h19 => absurd h19 (Int32.not_le.mpr (notIn_gt hx (by decide) (fun h => h13 (Int32.lt_trans h (by decide)))))) (fun h19 => ?_)
    refine aw_run oX6_lists sxOk 1 (pc' := 23) (L' := [some (.ref 0), some (.int (nI s)), some (.int x)]) (st' := [.int (-nI 1)]) (I' := I) (J' := J) (G' := G) rfl ?_
    exact aw_iret rfl (oX6_lists.dec rfl) pe_rfl
set_option maxRecDepth 20000 in
theorem c_lists_port {I : II} {J : JJ} {G : II} {P : Nat} (hP : I 2 7 = nI P) (hP5 : P ≤ 5) {s k : Nat} (hs : s < P) (hk1 : 1 ≤ k) (hk : k ≤ 60) (hp : ¬ G 24 (3 + s) = nI 0) : AMet SX mX6_lists [.ref 0, .int (nI s), .int (nI k)] I J G (PE (some (.int (-nI 2))) I J G) := by
  refine amet_en oX6_lists rfl rfl (L := [some (.ref 0), some (.int (nI s)), some (.int (nI k))]) rfl ?_
  refine aw_run oX6_lists sxOk 3 (pc' := 5) (L' := [some (.ref 0), some (.int (nI s)), some (.int (nI k))]) (st' := [.int (nI s), .ref 2]) (I' := I) (J' := J) (G' := G) rfl ?_
  refine aw_cV (st := []) 2 [.int (nI s)] oX4_hasShip k6_97 rfl rfl rfl rfl rfl rfl rfl rfl (oX6_lists.dec rfl) (c_hasShip_t hP (by omega) (by omega)) ?_
  refine aw_eqS (st := [.int (nI 1)]) rfl ?_
  refine aw_0eqN rfl (by omega) (oX6_lists.dec rfl) (tgt := 22) rfl (fun h8 => absurd h8 (by omega)) (fun h8 => ?_)
  refine aw_run oX6_lists sxOk 2 (pc' := 13) (L' := [some (.ref 0), some (.int (nI s)), some (.int (nI k))]) (st' := [.int (nI 1), .int (nI k)]) (I' := I) (J' := J) (G' := G) rfl ?_
  refine aw_ltN rfl rfl (by omega) (by omega) (oX6_lists.dec rfl) (tgt := 22) rfl (fun h13 => absurd h13 (by omega)) (fun h13 => ?_)
  refine aw_run oX6_lists sxOk 2 (pc' := 19) (L' := [some (.ref 0), some (.int (nI s)), some (.int (nI k))]) (st' := [.int (nI 60), .int (nI k)]) (I' := I) (J' := J) (G' := G) rfl ?_
  refine aw_leN rfl rfl (by omega) (by omega) (oX6_lists.dec rfl) (tgt := 24) rfl (fun h19 => ?_) (fun h19 => absurd h19 (by omega))
  refine aw_run oX6_lists sxOk 3 (pc' := 29) (L' := [some (.ref 0), some (.int (nI s)), some (.int (nI k))]) (st' := [.int (nI s), .ref 4]) (I' := I) (J' := J) (G' := G) rfl ?_
  refine aw_cV (st := []) 4 [.int (nI s)] oX2_isInPort k6_151 rfl rfl rfl rfl rfl rfl rfl rfl (oX6_lists.dec rfl) (c_isInPort (by omega)) ?_
  refine aw_eqS (st := [.int (b1 (decide (G 24 (3 + s) = nI 0)))]) rfl ?_
  refine aw_0eqD (oX6_lists.dec rfl) (tgt := 62) rfl (fun h32 => ?_) (fun h32 => by first | exact absurd h32 (by assumption) | exact absurd (by assumption) h32 | (exfalso; revert h32; decide) | simp_all)
  refine aw_run oX6_lists sxOk 1 (pc' := 64) (L' := [some (.ref 0), some (.int (nI s)), some (.int (nI k))]) (st' := [.int (-nI 2)]) (I' := I) (J' := J) (G' := G) rfl ?_
  exact aw_iret rfl (oX6_lists.dec rfl) pe_rfl
set_option maxRecDepth 20000 in
theorem c_lists_few {I : II} {J : JJ} {G : II} {P : Nat} (hP : I 2 7 = nI P) (hP5 : P ≤ 5) {s k : Nat} (hs : s < P) (hk1 : 1 ≤ k) (hk : k ≤ 60) (hp : G 24 (3 + s) = nI 0) {l h : Nat} (hl : G 24 (8 + s) = nI l) (hh : G 24 (13 + s) = nI h) (hl60 : l ≤ 60) (hh60 : h ≤ 60) (hf : h < k) : AMet SX mX6_lists [.ref 0, .int (nI s), .int (nI k)] I J G (PE (some (.int (-nI 2))) I J G) := by
  refine amet_en oX6_lists rfl rfl (L := [some (.ref 0), some (.int (nI s)), some (.int (nI k))]) rfl ?_
  refine aw_run oX6_lists sxOk 3 (pc' := 5) (L' := [some (.ref 0), some (.int (nI s)), some (.int (nI k))]) (st' := [.int (nI s), .ref 2]) (I' := I) (J' := J) (G' := G) rfl ?_
  refine aw_cV (st := []) 2 [.int (nI s)] oX4_hasShip k6_97 rfl rfl rfl rfl rfl rfl rfl rfl (oX6_lists.dec rfl) (c_hasShip_t hP (by omega) (by omega)) ?_
  refine aw_eqS (st := [.int (nI 1)]) rfl ?_
  refine aw_0eqN rfl (by omega) (oX6_lists.dec rfl) (tgt := 22) rfl (fun h8 => absurd h8 (by omega)) (fun h8 => ?_)
  refine aw_run oX6_lists sxOk 2 (pc' := 13) (L' := [some (.ref 0), some (.int (nI s)), some (.int (nI k))]) (st' := [.int (nI 1), .int (nI k)]) (I' := I) (J' := J) (G' := G) rfl ?_
  refine aw_ltN rfl rfl (by omega) (by omega) (oX6_lists.dec rfl) (tgt := 22) rfl (fun h13 => absurd h13 (by omega)) (fun h13 => ?_)
  refine aw_run oX6_lists sxOk 2 (pc' := 19) (L' := [some (.ref 0), some (.int (nI s)), some (.int (nI k))]) (st' := [.int (nI 60), .int (nI k)]) (I' := I) (J' := J) (G' := G) rfl ?_
  refine aw_leN rfl rfl (by omega) (by omega) (oX6_lists.dec rfl) (tgt := 24) rfl (fun h19 => ?_) (fun h19 => absurd h19 (by omega))
  refine aw_run oX6_lists sxOk 3 (pc' := 29) (L' := [some (.ref 0), some (.int (nI s)), some (.int (nI k))]) (st' := [.int (nI s), .ref 4]) (I' := I) (J' := J) (G' := G) rfl ?_
  refine aw_cV (st := []) 4 [.int (nI s)] oX2_isInPort k6_151 rfl rfl rfl rfl rfl rfl rfl rfl (oX6_lists.dec rfl) (c_isInPort (by omega)) ?_
  refine aw_eqS (st := [.int (b1 (decide (G 24 (3 + s) = nI 0)))]) rfl ?_
  refine aw_0eqD (oX6_lists.dec rfl) (tgt := 62) rfl (fun h32 => by first | exact absurd h32 (by assumption) | exact absurd (by assumption) h32 | (exfalso; revert h32; decide) | simp_all) (fun h32 => ?_)
  refine aw_run oX6_lists sxOk 3 (pc' := 40) (L' := [some (.ref 0), some (.int (nI s)), some (.int (nI k))]) (st' := [.int (nI s), .ref 4]) (I' := I) (J' := J) (G' := G) rfl ?_
  refine aw_cV (st := []) 4 [.int (nI s)] oX2_hiddenOf k6_104 rfl rfl rfl rfl rfl rfl rfl rfl (oX6_lists.dec rfl) (c_hiddenOf (by omega)) ?_
  refine aw_eqS (st := [.int (G 24 (13 + s))]) rfl ?_
  refine aw_run oX6_lists sxOk 1 (pc' := 44) (L' := [some (.ref 0), some (.int (nI s)), some (.int (nI k))]) (st' := [.int (nI k), .int (G 24 (13 + s))]) (I' := I) (J' := J) (G' := G) rfl ?_
  refine aw_ltN hh rfl (by omega) (by omega) (oX6_lists.dec rfl) (tgt := 62) rfl (fun h44 => ?_) (fun h44 => absurd h44 (by omega))
  refine aw_run oX6_lists sxOk 1 (pc' := 64) (L' := [some (.ref 0), some (.int (nI s)), some (.int (nI k))]) (st' := [.int (-nI 2)]) (I' := I) (J' := J) (G' := G) rfl ?_
  exact aw_iret rfl (oX6_lists.dec rfl) pe_rfl
set_option maxRecDepth 20000 in
theorem c_lists_many {I : II} {J : JJ} {G : II} {P : Nat} (hP : I 2 7 = nI P) (hP5 : P ≤ 5) {s k : Nat} (hs : s < P) (hk1 : 1 ≤ k) (hk : k ≤ 60) (hp : G 24 (3 + s) = nI 0) {l h : Nat} (hl : G 24 (8 + s) = nI l) (hh : G 24 (13 + s) = nI h) (hl60 : l ≤ 60) (hh60 : h ≤ 60) (hf : k ≤ h) (hm : 60 < l + k) : AMet SX mX6_lists [.ref 0, .int (nI s), .int (nI k)] I J G (PE (some (.int (-nI 2))) I J G) := by
  refine amet_en oX6_lists rfl rfl (L := [some (.ref 0), some (.int (nI s)), some (.int (nI k))]) rfl ?_
  refine aw_run oX6_lists sxOk 3 (pc' := 5) (L' := [some (.ref 0), some (.int (nI s)), some (.int (nI k))]) (st' := [.int (nI s), .ref 2]) (I' := I) (J' := J) (G' := G) rfl ?_
  refine aw_cV (st := []) 2 [.int (nI s)] oX4_hasShip k6_97 rfl rfl rfl rfl rfl rfl rfl rfl (oX6_lists.dec rfl) (c_hasShip_t hP (by omega) (by omega)) ?_
  refine aw_eqS (st := [.int (nI 1)]) rfl ?_
  refine aw_0eqN rfl (by omega) (oX6_lists.dec rfl) (tgt := 22) rfl (fun h8 => absurd h8 (by omega)) (fun h8 => ?_)
  refine aw_run oX6_lists sxOk 2 (pc' := 13) (L' := [some (.ref 0), some (.int (nI s)), some (.int (nI k))]) (st' := [.int (nI 1), .int (nI k)]) (I' := I) (J' := J) (G' := G) rfl ?_
  refine aw_ltN rfl rfl (by omega) (by omega) (oX6_lists.dec rfl) (tgt := 22) rfl (fun h13 => absurd h13 (by omega)) (fun h13 => ?_)
  refine aw_run oX6_lists sxOk 2 (pc' := 19) (L' := [some (.ref 0), some (.int (nI s)), some (.int (nI k))]) (st' := [.int (nI 60), .int (nI k)]) (I' := I) (J' := J) (G' := G) rfl ?_
  refine aw_leN rfl rfl (by omega) (by omega) (oX6_lists.dec rfl) (tgt := 24) rfl (fun h19 => ?_) (fun h19 => absurd h19 (by omega))
  refine aw_run oX6_lists sxOk 3 (pc' := 29) (L' := [some (.ref 0), some (.int (nI s)), some (.int (nI k))]) (st' := [.int (nI s), .ref 4]) (I' := I) (J' := J) (G' := G) rfl ?_
  refine aw_cV (st := []) 4 [.int (nI s)] oX2_isInPort k6_151 rfl rfl rfl rfl rfl rfl rfl rfl (oX6_lists.dec rfl) (c_isInPort (by omega)) ?_
  refine aw_eqS (st := [.int (b1 (decide (G 24 (3 + s) = nI 0)))]) rfl ?_
  refine aw_0eqD (oX6_lists.dec rfl) (tgt := 62) rfl (fun h32 => by first | exact absurd h32 (by assumption) | exact absurd (by assumption) h32 | (exfalso; revert h32; decide) | simp_all) (fun h32 => ?_)
  refine aw_run oX6_lists sxOk 3 (pc' := 40) (L' := [some (.ref 0), some (.int (nI s)), some (.int (nI k))]) (st' := [.int (nI s), .ref 4]) (I' := I) (J' := J) (G' := G) rfl ?_
  refine aw_cV (st := []) 4 [.int (nI s)] oX2_hiddenOf k6_104 rfl rfl rfl rfl rfl rfl rfl rfl (oX6_lists.dec rfl) (c_hiddenOf (by omega)) ?_
  refine aw_eqS (st := [.int (G 24 (13 + s))]) rfl ?_
  refine aw_run oX6_lists sxOk 1 (pc' := 44) (L' := [some (.ref 0), some (.int (nI s)), some (.int (nI k))]) (st' := [.int (nI k), .int (G 24 (13 + s))]) (I' := I) (J' := J) (G' := G) rfl ?_
  refine aw_ltN hh rfl (by omega) (by omega) (oX6_lists.dec rfl) (tgt := 62) rfl (fun h44 => absurd h44 (by omega)) (fun h44 => ?_)
  refine aw_run oX6_lists sxOk 3 (pc' := 52) (L' := [some (.ref 0), some (.int (nI s)), some (.int (nI k))]) (st' := [.int (nI s), .ref 4]) (I' := I) (J' := J) (G' := G) rfl ?_
  refine aw_cV (st := []) 4 [.int (nI s)] oX2_listedOf k6_100 rfl rfl rfl rfl rfl rfl rfl rfl (oX6_lists.dec rfl) (c_listedOf (by omega)) ?_
  refine aw_eqS (st := [.int (G 24 (8 + s))]) rfl ?_
  refine aw_run oX6_lists sxOk 3 (pc' := 59) (L' := [some (.ref 0), some (.int (nI s)), some (.int (nI k))]) (st' := [.int (nI 60), .int ((G 24 (8 + s)) + (nI k))]) (I' := I) (J' := J) (G' := G) rfl ?_
  refine aw_leN (addN hl rfl) rfl (by omega) (by omega) (oX6_lists.dec rfl) (tgt := 65) rfl (fun h59 => absurd h59 (by omega)) (fun h59 => ?_)
  refine aw_run oX6_lists sxOk 1 (pc' := 64) (L' := [some (.ref 0), some (.int (nI s)), some (.int (nI k))]) (st' := [.int (-nI 2)]) (I' := I) (J' := J) (G' := G) rfl ?_
  exact aw_iret rfl (oX6_lists.dec rfl) pe_rfl
set_option maxRecDepth 20000 in
theorem c_lists_ok {I : II} {J : JJ} {G : II} {P : Nat} (hP : I 2 7 = nI P) (hP5 : P ≤ 5) {s k : Nat} (hs : s < P) (hk1 : 1 ≤ k) (hk : k ≤ 60) {K : Nat} (hK : I 4 2 = nI K) (hK10 : K ≤ 10) (hp : G 24 (3 + s) = nI 0) {l h : Nat} (hl : G 24 (8 + s) = nI l) (hh : G 24 (13 + s) = nI h) (hl60 : l ≤ 60) (hh60 : h ≤ 60) (hf : k ≤ h) (hm : l + k ≤ 60) : AMet SX mX6_lists [.ref 0, .int (nI s), .int (nI k)] I J G (PE (some (.int ((upd (upd (G 24) (8 + s) (nI (l + k))) (13 + s) (nI (h - k))) (8 + s)))) (up2 I 4 2 (nI (remK K))) J (va_up (va_up G 25 (remP (G 24) (G 25) K)) 24 (upd (upd (G 24) (8 + s) (nI (l + k))) (13 + s) (nI (h - k))))) := by
  refine amet_en oX6_lists rfl rfl (L := [some (.ref 0), some (.int (nI s)), some (.int (nI k))]) rfl ?_
  refine aw_run oX6_lists sxOk 3 (pc' := 5) (L' := [some (.ref 0), some (.int (nI s)), some (.int (nI k))]) (st' := [.int (nI s), .ref 2]) (I' := I) (J' := J) (G' := G) rfl ?_
  refine aw_cV (st := []) 2 [.int (nI s)] oX4_hasShip k6_97 rfl rfl rfl rfl rfl rfl rfl rfl (oX6_lists.dec rfl) (c_hasShip_t hP (by omega) (by omega)) ?_
  refine aw_eqS (st := [.int (nI 1)]) rfl ?_
  refine aw_0eqN rfl (by omega) (oX6_lists.dec rfl) (tgt := 22) rfl (fun h8 => absurd h8 (by omega)) (fun h8 => ?_)
  refine aw_run oX6_lists sxOk 2 (pc' := 13) (L' := [some (.ref 0), some (.int (nI s)), some (.int (nI k))]) (st' := [.int (nI 1), .int (nI k)]) (I' := I) (J' := J) (G' := G) rfl ?_
  refine aw_ltN rfl rfl (by omega) (by omega) (oX6_lists.dec rfl) (tgt := 22) rfl (fun h13 => absurd h13 (by omega)) (fun h13 => ?_)
  refine aw_run oX6_lists sxOk 2 (pc' := 19) (L' := [some (.ref 0), some (.int (nI s)), some (.int (nI k))]) (st' := [.int (nI 60), .int (nI k)]) (I' := I) (J' := J) (G' := G) rfl ?_
  refine aw_leN rfl rfl (by omega) (by omega) (oX6_lists.dec rfl) (tgt := 24) rfl (fun h19 => ?_) (fun h19 => absurd h19 (by omega))
  refine aw_run oX6_lists sxOk 3 (pc' := 29) (L' := [some (.ref 0), some (.int (nI s)), some (.int (nI k))]) (st' := [.int (nI s), .ref 4]) (I' := I) (J' := J) (G' := G) rfl ?_
  refine aw_cV (st := []) 4 [.int (nI s)] oX2_isInPort k6_151 rfl rfl rfl rfl rfl rfl rfl rfl (oX6_lists.dec rfl) (c_isInPort (by omega)) ?_
  refine aw_eqS (st := [.int (b1 (decide (G 24 (3 + s) = nI 0)))]) rfl ?_
  refine aw_0eqD (oX6_lists.dec rfl) (tgt := 62) rfl (fun h32 => by first | exact absurd h32 (by assumption) | exact absurd (by assumption) h32 | (exfalso; revert h32; decide) | simp_all) (fun h32 => ?_)
  refine aw_run oX6_lists sxOk 3 (pc' := 40) (L' := [some (.ref 0), some (.int (nI s)), some (.int (nI k))]) (st' := [.int (nI s), .ref 4]) (I' := I) (J' := J) (G' := G) rfl ?_
  refine aw_cV (st := []) 4 [.int (nI s)] oX2_hiddenOf k6_104 rfl rfl rfl rfl rfl rfl rfl rfl (oX6_lists.dec rfl) (c_hiddenOf (by omega)) ?_
  refine aw_eqS (st := [.int (G 24 (13 + s))]) rfl ?_
  refine aw_run oX6_lists sxOk 1 (pc' := 44) (L' := [some (.ref 0), some (.int (nI s)), some (.int (nI k))]) (st' := [.int (nI k), .int (G 24 (13 + s))]) (I' := I) (J' := J) (G' := G) rfl ?_
  refine aw_ltN hh rfl (by omega) (by omega) (oX6_lists.dec rfl) (tgt := 62) rfl (fun h44 => absurd h44 (by omega)) (fun h44 => ?_)
  refine aw_run oX6_lists sxOk 3 (pc' := 52) (L' := [some (.ref 0), some (.int (nI s)), some (.int (nI k))]) (st' := [.int (nI s), .ref 4]) (I' := I) (J' := J) (G' := G) rfl ?_
  refine aw_cV (st := []) 4 [.int (nI s)] oX2_listedOf k6_100 rfl rfl rfl rfl rfl rfl rfl rfl (oX6_lists.dec rfl) (c_listedOf (by omega)) ?_
  refine aw_eqS (st := [.int (G 24 (8 + s))]) rfl ?_
  refine aw_run oX6_lists sxOk 3 (pc' := 59) (L' := [some (.ref 0), some (.int (nI s)), some (.int (nI k))]) (st' := [.int (nI 60), .int ((G 24 (8 + s)) + (nI k))]) (I' := I) (J' := J) (G' := G) rfl ?_
  refine aw_leN (addN hl rfl) rfl (by omega) (by omega) (oX6_lists.dec rfl) (tgt := 65) rfl (fun h59 => ?_) (fun h59 => absurd h59 (by omega))
  refine aw_run oX6_lists sxOk 2 (pc' := 69) (L' := [some (.ref 0), some (.int (nI s)), some (.int (nI k))]) (st' := [.ref 4]) (I' := I) (J' := J) (G' := G) rfl ?_
  refine aw_cV (st := []) 4 [] oX2_remember k6_120 rfl rfl rfl rfl rfl rfl rfl rfl (oX6_lists.dec rfl) (c_remember hK (by omega)) ?_
  refine aw_eqG (G' := va_up G 25 (remP (G 24) (G 25) K)) (rfl) ?_
  refine aw_eqS (st := []) rfl ?_
  refine aw_run oX6_lists sxOk 6 (pc' := 82) (L' := [some (.ref 0), some (.int (nI s)), some (.int (nI k))]) (st' := [.int (nI s), .ref 4, .int (nI s), .ref 4]) (I' := up2 I 4 2 (nI (remK K))) (J' := J) (G' := va_up G 25 (remP (G 24) (G 25) K)) rfl ?_
  refine aw_cV (st := [.int (nI s), .ref 4]) 4 [.int (nI s)] oX2_listedOf k6_100 rfl rfl rfl rfl rfl rfl rfl rfl (oX6_lists.dec rfl) (c_listedOf (by omega)) ?_
  refine aw_eqS (st := [.int (G 24 (8 + s)), .int (nI s), .ref 4]) rfl ?_
  refine aw_run oX6_lists sxOk 5 (pc' := 92) (L' := [some (.ref 0), some (.int (nI s)), some (.int (nI k))]) (st' := [.int (nI s), .ref 4, .int ((G 24 (8 + s)) + (nI k)), .int (nI s), .ref 4]) (I' := up2 I 4 2 (nI (remK K))) (J' := J) (G' := va_up G 25 (remP (G 24) (G 25) K)) rfl ?_
  refine aw_cV (st := [.int ((G 24 (8 + s)) + (nI k)), .int (nI s), .ref 4]) 4 [.int (nI s)] oX2_hiddenOf k6_104 rfl rfl rfl rfl rfl rfl rfl rfl (oX6_lists.dec rfl) (c_hiddenOf (by omega)) ?_
  refine aw_eqS (st := [.int (G 24 (13 + s)), .int ((G 24 (8 + s)) + (nI k)), .int (nI s), .ref 4]) rfl ?_
  refine aw_run oX6_lists sxOk 2 (pc' := 97) (L' := [some (.ref 0), some (.int (nI s)), some (.int (nI k))]) (st' := [.int ((G 24 (13 + s)) - (nI k)), .int ((G 24 (8 + s)) + (nI k)), .int (nI s), .ref 4]) (I' := up2 I 4 2 (nI (remK K))) (J' := J) (G' := va_up G 25 (remP (G 24) (G 25) K)) rfl ?_
  refine aw_eqS (st := [.int (nI (h - k)), .int (nI (l + k)), .int (nI s), .ref 4]) (by rw [show (G 24 (8 + s)) + (nI k) = nI (l + k) from addN hl rfl, show (G 24 (13 + s)) - (nI k) = nI (h - k) from subN hh rfl (by omega)]) ?_
  refine aw_cV (st := []) 4 [.int (nI s), .int (nI (l + k)), .int (nI (h - k))] oX2_setBars k6_154 rfl rfl rfl rfl rfl rfl rfl rfl (oX6_lists.dec rfl) (c_setBars (by omega)) ?_
  refine aw_eqG (G' := va_up (va_up G 25 (remP (G 24) (G 25) K)) 24 (upd (upd (G 24) (8 + s) (nI (l + k))) (13 + s) (nI (h - k)))) (rfl) ?_
  refine aw_eqS (st := []) rfl ?_
  refine aw_run oX6_lists sxOk 3 (pc' := 105) (L' := [some (.ref 0), some (.int (nI s)), some (.int (nI k))]) (st' := [.int (nI s), .ref 4]) (I' := up2 I 4 2 (nI (remK K))) (J' := J) (G' := va_up (va_up G 25 (remP (G 24) (G 25) K)) 24 (upd (upd (G 24) (8 + s) (nI (l + k))) (13 + s) (nI (h - k)))) rfl ?_
  refine aw_cV (st := []) 4 [.int (nI s)] oX2_listedOf k6_100 rfl rfl rfl rfl rfl rfl rfl rfl (oX6_lists.dec rfl) (c_listedOf (by omega)) ?_
  refine aw_eqS (st := [.int ((upd (upd (G 24) (8 + s) (nI (l + k))) (13 + s) (nI (h - k))) (8 + s))]) rfl ?_
  exact aw_iret rfl (oX6_lists.dec rfl) pe_rfl
set_option maxRecDepth 20000 in
theorem c_hides_bad {I : II} {J : JJ} {G : II} {P : Nat} (hP : I 2 7 = nI P) (hP5 : P ≤ 5) {x y : Int32} (hx : notIn x P) : AMet SX mX6_hides [.ref 0, .int x, .int y] I J G (PE (some (.int (-nI 1))) I J G) := by
  refine amet_en oX6_hides rfl rfl (L := [some (.ref 0), some (.int x), some (.int y)]) rfl ?_
  refine aw_run oX6_hides sxOk 3 (pc' := 5) (L' := [some (.ref 0), some (.int x), some (.int y)]) (st' := [.int x, .ref 2]) (I' := I) (J' := J) (G' := G) rfl ?_
  refine aw_cV (st := []) 2 [.int x] oX4_hasShip k6_97 rfl rfl rfl rfl rfl rfl rfl rfl (oX6_hides.dec rfl) (c_hasShip_f hP (by omega) (by assumption)) ?_
  refine aw_eqS (st := [.int (nI 0)]) rfl ?_
  refine aw_0eqN rfl (by omega) (oX6_hides.dec rfl) (tgt := 22) rfl (fun h8 => ?_) (fun h8 => absurd h8 (by omega))
  refine aw_run oX6_hides sxOk 1 (pc' := 23) (L' := [some (.ref 0), some (.int x), some (.int y)]) (st' := [.int (-nI 1)]) (I' := I) (J' := J) (G' := G) rfl ?_
  exact aw_iret rfl (oX6_hides.dec rfl) pe_rfl
set_option maxRecDepth 20000 in
theorem c_hides_bad0 {I : II} {J : JJ} {G : II} {P : Nat} (hP : I 2 7 = nI P) (hP5 : P ≤ 5) {s : Nat} (hs : s < P) : AMet SX mX6_hides [.ref 0, .int (nI s), .int (nI 0)] I J G (PE (some (.int (-nI 1))) I J G) := by
  refine amet_en oX6_hides rfl rfl (L := [some (.ref 0), some (.int (nI s)), some (.int (nI 0))]) rfl ?_
  refine aw_run oX6_hides sxOk 3 (pc' := 5) (L' := [some (.ref 0), some (.int (nI s)), some (.int (nI 0))]) (st' := [.int (nI s), .ref 2]) (I' := I) (J' := J) (G' := G) rfl ?_
  refine aw_cV (st := []) 2 [.int (nI s)] oX4_hasShip k6_97 rfl rfl rfl rfl rfl rfl rfl rfl (oX6_hides.dec rfl) (c_hasShip_t hP (by omega) (by omega)) ?_
  refine aw_eqS (st := [.int (nI 1)]) rfl ?_
  refine aw_0eqN rfl (by omega) (oX6_hides.dec rfl) (tgt := 22) rfl (fun h8 => absurd h8 (by omega)) (fun h8 => ?_)
  refine aw_run oX6_hides sxOk 2 (pc' := 13) (L' := [some (.ref 0), some (.int (nI s)), some (.int (nI 0))]) (st' := [.int (nI 1), .int (nI 0)]) (I' := I) (J' := J) (G' := G) rfl ?_
  refine aw_ltN rfl rfl (by omega) (by omega) (oX6_hides.dec rfl) (tgt := 22) rfl (fun h13 => ?_) (fun h13 => absurd h13 (by omega))
  refine aw_run oX6_hides sxOk 1 (pc' := 23) (L' := [some (.ref 0), some (.int (nI s)), some (.int (nI 0))]) (st' := [.int (-nI 1)]) (I' := I) (J' := J) (G' := G) rfl ?_
  exact aw_iret rfl (oX6_hides.dec rfl) pe_rfl
set_option maxRecDepth 20000 in
theorem c_hides_bad2 {I : II} {J : JJ} {G : II} {P : Nat} (hP : I 2 7 = nI P) (hP5 : P ≤ 5) {s : Nat} {x : Int32} (hs : s < P) (hx : notIn x 61) : AMet SX mX6_hides [.ref 0, .int (nI s), .int x] I J G (PE (some (.int (-nI 1))) I J G) := by
  refine amet_en oX6_hides rfl rfl (L := [some (.ref 0), some (.int (nI s)), some (.int x)]) rfl ?_
  refine aw_run oX6_hides sxOk 3 (pc' := 5) (L' := [some (.ref 0), some (.int (nI s)), some (.int x)]) (st' := [.int (nI s), .ref 2]) (I' := I) (J' := J) (G' := G) rfl ?_
  refine aw_cV (st := []) 2 [.int (nI s)] oX4_hasShip k6_97 rfl rfl rfl rfl rfl rfl rfl rfl (oX6_hides.dec rfl) (c_hasShip_t hP (by omega) (by omega)) ?_
  refine aw_eqS (st := [.int (nI 1)]) rfl ?_
  refine aw_0eqN rfl (by omega) (oX6_hides.dec rfl) (tgt := 22) rfl (fun h8 => absurd h8 (by omega)) (fun h8 => ?_)
  refine aw_run oX6_hides sxOk 2 (pc' := 13) (L' := [some (.ref 0), some (.int (nI s)), some (.int x)]) (st' := [.int (nI 1), .int x]) (I' := I) (J' := J) (G' := G) rfl ?_
  refine aw_icmp_lt (oX6_hides.dec rfl) (tgt := 22) rfl (fun h13 => ?_) (fun h13 => ?_)
  · refine aw_run oX6_hides sxOk 1 (pc' := 23) (L' := [some (.ref 0), some (.int (nI s)), some (.int x)]) (st' := [.int (-nI 1)]) (I' := I) (J' := J) (G' := G) rfl ?_
    exact aw_iret rfl (oX6_hides.dec rfl) pe_rfl
  · refine aw_run oX6_hides sxOk 2 (pc' := 19) (L' := [some (.ref 0), some (.int (nI s)), some (.int x)]) (st' := [.int (nI 60), .int x]) (I' := I) (J' := J) (G' := G) rfl ?_
    refine aw_icmp_le (oX6_hides.dec rfl) (tgt := 24) rfl (fun h19 => absurd h19 (Int32.not_le.mpr (notIn_gt hx (by decide) (fun h => h13 (Int32.lt_trans h (by decide)))))) (fun h19 => ?_)
    refine aw_run oX6_hides sxOk 1 (pc' := 23) (L' := [some (.ref 0), some (.int (nI s)), some (.int x)]) (st' := [.int (-nI 1)]) (I' := I) (J' := J) (G' := G) rfl ?_
    exact aw_iret rfl (oX6_hides.dec rfl) pe_rfl
set_option maxRecDepth 20000 in
theorem c_hides_port {I : II} {J : JJ} {G : II} {P : Nat} (hP : I 2 7 = nI P) (hP5 : P ≤ 5) {s k : Nat} (hs : s < P) (hk1 : 1 ≤ k) (hk : k ≤ 60) (hp : ¬ G 24 (3 + s) = nI 0) : AMet SX mX6_hides [.ref 0, .int (nI s), .int (nI k)] I J G (PE (some (.int (-nI 2))) I J G) := by
  refine amet_en oX6_hides rfl rfl (L := [some (.ref 0), some (.int (nI s)), some (.int (nI k))]) rfl ?_
  refine aw_run oX6_hides sxOk 3 (pc' := 5) (L' := [some (.ref 0), some (.int (nI s)), some (.int (nI k))]) (st' := [.int (nI s), .ref 2]) (I' := I) (J' := J) (G' := G) rfl ?_
  refine aw_cV (st := []) 2 [.int (nI s)] oX4_hasShip k6_97 rfl rfl rfl rfl rfl rfl rfl rfl (oX6_hides.dec rfl) (c_hasShip_t hP (by omega) (by omega)) ?_
  refine aw_eqS (st := [.int (nI 1)]) rfl ?_
  refine aw_0eqN rfl (by omega) (oX6_hides.dec rfl) (tgt := 22) rfl (fun h8 => absurd h8 (by omega)) (fun h8 => ?_)
  refine aw_run oX6_hides sxOk 2 (pc' := 13) (L' := [some (.ref 0), some (.int (nI s)), some (.int (nI k))]) (st' := [.int (nI 1), .int (nI k)]) (I' := I) (J' := J) (G' := G) rfl ?_
  refine aw_ltN rfl rfl (by omega) (by omega) (oX6_hides.dec rfl) (tgt := 22) rfl (fun h13 => absurd h13 (by omega)) (fun h13 => ?_)
  refine aw_run oX6_hides sxOk 2 (pc' := 19) (L' := [some (.ref 0), some (.int (nI s)), some (.int (nI k))]) (st' := [.int (nI 60), .int (nI k)]) (I' := I) (J' := J) (G' := G) rfl ?_
  refine aw_leN rfl rfl (by omega) (by omega) (oX6_hides.dec rfl) (tgt := 24) rfl (fun h19 => ?_) (fun h19 => absurd h19 (by omega))
  refine aw_run oX6_hides sxOk 3 (pc' := 29) (L' := [some (.ref 0), some (.int (nI s)), some (.int (nI k))]) (st' := [.int (nI s), .ref 4]) (I' := I) (J' := J) (G' := G) rfl ?_
  refine aw_cV (st := []) 4 [.int (nI s)] oX2_isInPort k6_151 rfl rfl rfl rfl rfl rfl rfl rfl (oX6_hides.dec rfl) (c_isInPort (by omega)) ?_
  refine aw_eqS (st := [.int (b1 (decide (G 24 (3 + s) = nI 0)))]) rfl ?_
  refine aw_0eqD (oX6_hides.dec rfl) (tgt := 62) rfl (fun h32 => ?_) (fun h32 => by first | exact absurd h32 (by assumption) | exact absurd (by assumption) h32 | (exfalso; revert h32; decide) | simp_all)
  refine aw_run oX6_hides sxOk 1 (pc' := 64) (L' := [some (.ref 0), some (.int (nI s)), some (.int (nI k))]) (st' := [.int (-nI 2)]) (I' := I) (J' := J) (G' := G) rfl ?_
  exact aw_iret rfl (oX6_hides.dec rfl) pe_rfl
set_option maxRecDepth 20000 in
theorem c_hides_few {I : II} {J : JJ} {G : II} {P : Nat} (hP : I 2 7 = nI P) (hP5 : P ≤ 5) {s k : Nat} (hs : s < P) (hk1 : 1 ≤ k) (hk : k ≤ 60) (hp : G 24 (3 + s) = nI 0) {l h : Nat} (hl : G 24 (8 + s) = nI l) (hh : G 24 (13 + s) = nI h) (hl60 : l ≤ 60) (hh60 : h ≤ 60) (hf : l < k) : AMet SX mX6_hides [.ref 0, .int (nI s), .int (nI k)] I J G (PE (some (.int (-nI 2))) I J G) := by
  refine amet_en oX6_hides rfl rfl (L := [some (.ref 0), some (.int (nI s)), some (.int (nI k))]) rfl ?_
  refine aw_run oX6_hides sxOk 3 (pc' := 5) (L' := [some (.ref 0), some (.int (nI s)), some (.int (nI k))]) (st' := [.int (nI s), .ref 2]) (I' := I) (J' := J) (G' := G) rfl ?_
  refine aw_cV (st := []) 2 [.int (nI s)] oX4_hasShip k6_97 rfl rfl rfl rfl rfl rfl rfl rfl (oX6_hides.dec rfl) (c_hasShip_t hP (by omega) (by omega)) ?_
  refine aw_eqS (st := [.int (nI 1)]) rfl ?_
  refine aw_0eqN rfl (by omega) (oX6_hides.dec rfl) (tgt := 22) rfl (fun h8 => absurd h8 (by omega)) (fun h8 => ?_)
  refine aw_run oX6_hides sxOk 2 (pc' := 13) (L' := [some (.ref 0), some (.int (nI s)), some (.int (nI k))]) (st' := [.int (nI 1), .int (nI k)]) (I' := I) (J' := J) (G' := G) rfl ?_
  refine aw_ltN rfl rfl (by omega) (by omega) (oX6_hides.dec rfl) (tgt := 22) rfl (fun h13 => absurd h13 (by omega)) (fun h13 => ?_)
  refine aw_run oX6_hides sxOk 2 (pc' := 19) (L' := [some (.ref 0), some (.int (nI s)), some (.int (nI k))]) (st' := [.int (nI 60), .int (nI k)]) (I' := I) (J' := J) (G' := G) rfl ?_
  refine aw_leN rfl rfl (by omega) (by omega) (oX6_hides.dec rfl) (tgt := 24) rfl (fun h19 => ?_) (fun h19 => absurd h19 (by omega))
  refine aw_run oX6_hides sxOk 3 (pc' := 29) (L' := [some (.ref 0), some (.int (nI s)), some (.int (nI k))]) (st' := [.int (nI s), .ref 4]) (I' := I) (J' := J) (G' := G) rfl ?_
  refine aw_cV (st := []) 4 [.int (nI s)] oX2_isInPort k6_151 rfl rfl rfl rfl rfl rfl rfl rfl (oX6_hides.dec rfl) (c_isInPort (by omega)) ?_
  refine aw_eqS (st := [.int (b1 (decide (G 24 (3 + s) = nI 0)))]) rfl ?_
  refine aw_0eqD (oX6_hides.dec rfl) (tgt := 62) rfl (fun h32 => by first | exact absurd h32 (by assumption) | exact absurd (by assumption) h32 | (exfalso; revert h32; decide) | simp_all) (fun h32 => ?_)
  refine aw_run oX6_hides sxOk 3 (pc' := 40) (L' := [some (.ref 0), some (.int (nI s)), some (.int (nI k))]) (st' := [.int (nI s), .ref 4]) (I' := I) (J' := J) (G' := G) rfl ?_
  refine aw_cV (st := []) 4 [.int (nI s)] oX2_listedOf k6_100 rfl rfl rfl rfl rfl rfl rfl rfl (oX6_hides.dec rfl) (c_listedOf (by omega)) ?_
  refine aw_eqS (st := [.int (G 24 (8 + s))]) rfl ?_
  refine aw_run oX6_hides sxOk 1 (pc' := 44) (L' := [some (.ref 0), some (.int (nI s)), some (.int (nI k))]) (st' := [.int (nI k), .int (G 24 (8 + s))]) (I' := I) (J' := J) (G' := G) rfl ?_
  refine aw_ltN hl rfl (by omega) (by omega) (oX6_hides.dec rfl) (tgt := 62) rfl (fun h44 => ?_) (fun h44 => absurd h44 (by omega))
  refine aw_run oX6_hides sxOk 1 (pc' := 64) (L' := [some (.ref 0), some (.int (nI s)), some (.int (nI k))]) (st' := [.int (-nI 2)]) (I' := I) (J' := J) (G' := G) rfl ?_
  exact aw_iret rfl (oX6_hides.dec rfl) pe_rfl
set_option maxRecDepth 20000 in
theorem c_hides_many {I : II} {J : JJ} {G : II} {P : Nat} (hP : I 2 7 = nI P) (hP5 : P ≤ 5) {s k : Nat} (hs : s < P) (hk1 : 1 ≤ k) (hk : k ≤ 60) (hp : G 24 (3 + s) = nI 0) {l h : Nat} (hl : G 24 (8 + s) = nI l) (hh : G 24 (13 + s) = nI h) (hl60 : l ≤ 60) (hh60 : h ≤ 60) (hf : k ≤ l) (hm : 60 < h + k) : AMet SX mX6_hides [.ref 0, .int (nI s), .int (nI k)] I J G (PE (some (.int (-nI 2))) I J G) := by
  refine amet_en oX6_hides rfl rfl (L := [some (.ref 0), some (.int (nI s)), some (.int (nI k))]) rfl ?_
  refine aw_run oX6_hides sxOk 3 (pc' := 5) (L' := [some (.ref 0), some (.int (nI s)), some (.int (nI k))]) (st' := [.int (nI s), .ref 2]) (I' := I) (J' := J) (G' := G) rfl ?_
  refine aw_cV (st := []) 2 [.int (nI s)] oX4_hasShip k6_97 rfl rfl rfl rfl rfl rfl rfl rfl (oX6_hides.dec rfl) (c_hasShip_t hP (by omega) (by omega)) ?_
  refine aw_eqS (st := [.int (nI 1)]) rfl ?_
  refine aw_0eqN rfl (by omega) (oX6_hides.dec rfl) (tgt := 22) rfl (fun h8 => absurd h8 (by omega)) (fun h8 => ?_)
  refine aw_run oX6_hides sxOk 2 (pc' := 13) (L' := [some (.ref 0), some (.int (nI s)), some (.int (nI k))]) (st' := [.int (nI 1), .int (nI k)]) (I' := I) (J' := J) (G' := G) rfl ?_
  refine aw_ltN rfl rfl (by omega) (by omega) (oX6_hides.dec rfl) (tgt := 22) rfl (fun h13 => absurd h13 (by omega)) (fun h13 => ?_)
  refine aw_run oX6_hides sxOk 2 (pc' := 19) (L' := [some (.ref 0), some (.int (nI s)), some (.int (nI k))]) (st' := [.int (nI 60), .int (nI k)]) (I' := I) (J' := J) (G' := G) rfl ?_
  refine aw_leN rfl rfl (by omega) (by omega) (oX6_hides.dec rfl) (tgt := 24) rfl (fun h19 => ?_) (fun h19 => absurd h19 (by omega))
  refine aw_run oX6_hides sxOk 3 (pc' := 29) (L' := [some (.ref 0), some (.int (nI s)), some (.int (nI k))]) (st' := [.int (nI s), .ref 4]) (I' := I) (J' := J) (G' := G) rfl ?_
  refine aw_cV (st := []) 4 [.int (nI s)] oX2_isInPort k6_151 rfl rfl rfl rfl rfl rfl rfl rfl (oX6_hides.dec rfl) (c_isInPort (by omega)) ?_
  refine aw_eqS (st := [.int (b1 (decide (G 24 (3 + s) = nI 0)))]) rfl ?_
  refine aw_0eqD (oX6_hides.dec rfl) (tgt := 62) rfl (fun h32 => by first | exact absurd h32 (by assumption) | exact absurd (by assumption) h32 | (exfalso; revert h32; decide) | simp_all) (fun h32 => ?_)
  refine aw_run oX6_hides sxOk 3 (pc' := 40) (L' := [some (.ref 0), some (.int (nI s)), some (.int (nI k))]) (st' := [.int (nI s), .ref 4]) (I' := I) (J' := J) (G' := G) rfl ?_
  refine aw_cV (st := []) 4 [.int (nI s)] oX2_listedOf k6_100 rfl rfl rfl rfl rfl rfl rfl rfl (oX6_hides.dec rfl) (c_listedOf (by omega)) ?_
  refine aw_eqS (st := [.int (G 24 (8 + s))]) rfl ?_
  refine aw_run oX6_hides sxOk 1 (pc' := 44) (L' := [some (.ref 0), some (.int (nI s)), some (.int (nI k))]) (st' := [.int (nI k), .int (G 24 (8 + s))]) (I' := I) (J' := J) (G' := G) rfl ?_
  refine aw_ltN hl rfl (by omega) (by omega) (oX6_hides.dec rfl) (tgt := 62) rfl (fun h44 => absurd h44 (by omega)) (fun h44 => ?_)
  refine aw_run oX6_hides sxOk 3 (pc' := 52) (L' := [some (.ref 0), some (.int (nI s)), some (.int (nI k))]) (st' := [.int (nI s), .ref 4]) (I' := I) (J' := J) (G' := G) rfl ?_
  refine aw_cV (st := []) 4 [.int (nI s)] oX2_hiddenOf k6_104 rfl rfl rfl rfl rfl rfl rfl rfl (oX6_hides.dec rfl) (c_hiddenOf (by omega)) ?_
  refine aw_eqS (st := [.int (G 24 (13 + s))]) rfl ?_
  refine aw_run oX6_hides sxOk 3 (pc' := 59) (L' := [some (.ref 0), some (.int (nI s)), some (.int (nI k))]) (st' := [.int (nI 60), .int ((G 24 (13 + s)) + (nI k))]) (I' := I) (J' := J) (G' := G) rfl ?_
  refine aw_leN (addN hh rfl) rfl (by omega) (by omega) (oX6_hides.dec rfl) (tgt := 65) rfl (fun h59 => absurd h59 (by omega)) (fun h59 => ?_)
  refine aw_run oX6_hides sxOk 1 (pc' := 64) (L' := [some (.ref 0), some (.int (nI s)), some (.int (nI k))]) (st' := [.int (-nI 2)]) (I' := I) (J' := J) (G' := G) rfl ?_
  exact aw_iret rfl (oX6_hides.dec rfl) pe_rfl
set_option maxRecDepth 20000 in
theorem c_hides_ok {I : II} {J : JJ} {G : II} {P : Nat} (hP : I 2 7 = nI P) (hP5 : P ≤ 5) {s k : Nat} (hs : s < P) (hk1 : 1 ≤ k) (hk : k ≤ 60) {K : Nat} (hK : I 4 2 = nI K) (hK10 : K ≤ 10) (hp : G 24 (3 + s) = nI 0) {l h : Nat} (hl : G 24 (8 + s) = nI l) (hh : G 24 (13 + s) = nI h) (hl60 : l ≤ 60) (hh60 : h ≤ 60) (hf : k ≤ l) (hm : h + k ≤ 60) : AMet SX mX6_hides [.ref 0, .int (nI s), .int (nI k)] I J G (PE (some (.int ((upd (upd (G 24) (8 + s) (nI (l - k))) (13 + s) (nI (h + k))) (13 + s)))) (up2 I 4 2 (nI (remK K))) J (va_up (va_up G 25 (remP (G 24) (G 25) K)) 24 (upd (upd (G 24) (8 + s) (nI (l - k))) (13 + s) (nI (h + k))))) := by
  refine amet_en oX6_hides rfl rfl (L := [some (.ref 0), some (.int (nI s)), some (.int (nI k))]) rfl ?_
  refine aw_run oX6_hides sxOk 3 (pc' := 5) (L' := [some (.ref 0), some (.int (nI s)), some (.int (nI k))]) (st' := [.int (nI s), .ref 2]) (I' := I) (J' := J) (G' := G) rfl ?_
  refine aw_cV (st := []) 2 [.int (nI s)] oX4_hasShip k6_97 rfl rfl rfl rfl rfl rfl rfl rfl (oX6_hides.dec rfl) (c_hasShip_t hP (by omega) (by omega)) ?_
  refine aw_eqS (st := [.int (nI 1)]) rfl ?_
  refine aw_0eqN rfl (by omega) (oX6_hides.dec rfl) (tgt := 22) rfl (fun h8 => absurd h8 (by omega)) (fun h8 => ?_)
  refine aw_run oX6_hides sxOk 2 (pc' := 13) (L' := [some (.ref 0), some (.int (nI s)), some (.int (nI k))]) (st' := [.int (nI 1), .int (nI k)]) (I' := I) (J' := J) (G' := G) rfl ?_
  refine aw_ltN rfl rfl (by omega) (by omega) (oX6_hides.dec rfl) (tgt := 22) rfl (fun h13 => absurd h13 (by omega)) (fun h13 => ?_)
  refine aw_run oX6_hides sxOk 2 (pc' := 19) (L' := [some (.ref 0), some (.int (nI s)), some (.int (nI k))]) (st' := [.int (nI 60), .int (nI k)]) (I' := I) (J' := J) (G' := G) rfl ?_
  refine aw_leN rfl rfl (by omega) (by omega) (oX6_hides.dec rfl) (tgt := 24) rfl (fun h19 => ?_) (fun h19 => absurd h19 (by omega))
  refine aw_run oX6_hides sxOk 3 (pc' := 29) (L' := [some (.ref 0), some (.int (nI s)), some (.int (nI k))]) (st' := [.int (nI s), .ref 4]) (I' := I) (J' := J) (G' := G) rfl ?_
  refine aw_cV (st := []) 4 [.int (nI s)] oX2_isInPort k6_151 rfl rfl rfl rfl rfl rfl rfl rfl (oX6_hides.dec rfl) (c_isInPort (by omega)) ?_
  refine aw_eqS (st := [.int (b1 (decide (G 24 (3 + s) = nI 0)))]) rfl ?_
  refine aw_0eqD (oX6_hides.dec rfl) (tgt := 62) rfl (fun h32 => by first | exact absurd h32 (by assumption) | exact absurd (by assumption) h32 | (exfalso; revert h32; decide) | simp_all) (fun h32 => ?_)
  refine aw_run oX6_hides sxOk 3 (pc' := 40) (L' := [some (.ref 0), some (.int (nI s)), some (.int (nI k))]) (st' := [.int (nI s), .ref 4]) (I' := I) (J' := J) (G' := G) rfl ?_
  refine aw_cV (st := []) 4 [.int (nI s)] oX2_listedOf k6_100 rfl rfl rfl rfl rfl rfl rfl rfl (oX6_hides.dec rfl) (c_listedOf (by omega)) ?_
  refine aw_eqS (st := [.int (G 24 (8 + s))]) rfl ?_
  refine aw_run oX6_hides sxOk 1 (pc' := 44) (L' := [some (.ref 0), some (.int (nI s)), some (.int (nI k))]) (st' := [.int (nI k), .int (G 24 (8 + s))]) (I' := I) (J' := J) (G' := G) rfl ?_
  refine aw_ltN hl rfl (by omega) (by omega) (oX6_hides.dec rfl) (tgt := 62) rfl (fun h44 => absurd h44 (by omega)) (fun h44 => ?_)
  refine aw_run oX6_hides sxOk 3 (pc' := 52) (L' := [some (.ref 0), some (.int (nI s)), some (.int (nI k))]) (st' := [.int (nI s), .ref 4]) (I' := I) (J' := J) (G' := G) rfl ?_
  refine aw_cV (st := []) 4 [.int (nI s)] oX2_hiddenOf k6_104 rfl rfl rfl rfl rfl rfl rfl rfl (oX6_hides.dec rfl) (c_hiddenOf (by omega)) ?_
  refine aw_eqS (st := [.int (G 24 (13 + s))]) rfl ?_
  refine aw_run oX6_hides sxOk 3 (pc' := 59) (L' := [some (.ref 0), some (.int (nI s)), some (.int (nI k))]) (st' := [.int (nI 60), .int ((G 24 (13 + s)) + (nI k))]) (I' := I) (J' := J) (G' := G) rfl ?_
  refine aw_leN (addN hh rfl) rfl (by omega) (by omega) (oX6_hides.dec rfl) (tgt := 65) rfl (fun h59 => ?_) (fun h59 => absurd h59 (by omega))
  refine aw_run oX6_hides sxOk 2 (pc' := 69) (L' := [some (.ref 0), some (.int (nI s)), some (.int (nI k))]) (st' := [.ref 4]) (I' := I) (J' := J) (G' := G) rfl ?_
  refine aw_cV (st := []) 4 [] oX2_remember k6_120 rfl rfl rfl rfl rfl rfl rfl rfl (oX6_hides.dec rfl) (c_remember hK (by omega)) ?_
  refine aw_eqG (G' := va_up G 25 (remP (G 24) (G 25) K)) (rfl) ?_
  refine aw_eqS (st := []) rfl ?_
  refine aw_run oX6_hides sxOk 6 (pc' := 82) (L' := [some (.ref 0), some (.int (nI s)), some (.int (nI k))]) (st' := [.int (nI s), .ref 4, .int (nI s), .ref 4]) (I' := up2 I 4 2 (nI (remK K))) (J' := J) (G' := va_up G 25 (remP (G 24) (G 25) K)) rfl ?_
  refine aw_cV (st := [.int (nI s), .ref 4]) 4 [.int (nI s)] oX2_listedOf k6_100 rfl rfl rfl rfl rfl rfl rfl rfl (oX6_hides.dec rfl) (c_listedOf (by omega)) ?_
  refine aw_eqS (st := [.int (G 24 (8 + s)), .int (nI s), .ref 4]) rfl ?_
  refine aw_run oX6_hides sxOk 5 (pc' := 92) (L' := [some (.ref 0), some (.int (nI s)), some (.int (nI k))]) (st' := [.int (nI s), .ref 4, .int ((G 24 (8 + s)) - (nI k)), .int (nI s), .ref 4]) (I' := up2 I 4 2 (nI (remK K))) (J' := J) (G' := va_up G 25 (remP (G 24) (G 25) K)) rfl ?_
  refine aw_cV (st := [.int ((G 24 (8 + s)) - (nI k)), .int (nI s), .ref 4]) 4 [.int (nI s)] oX2_hiddenOf k6_104 rfl rfl rfl rfl rfl rfl rfl rfl (oX6_hides.dec rfl) (c_hiddenOf (by omega)) ?_
  refine aw_eqS (st := [.int (G 24 (13 + s)), .int ((G 24 (8 + s)) - (nI k)), .int (nI s), .ref 4]) rfl ?_
  refine aw_run oX6_hides sxOk 2 (pc' := 97) (L' := [some (.ref 0), some (.int (nI s)), some (.int (nI k))]) (st' := [.int ((G 24 (13 + s)) + (nI k)), .int ((G 24 (8 + s)) - (nI k)), .int (nI s), .ref 4]) (I' := up2 I 4 2 (nI (remK K))) (J' := J) (G' := va_up G 25 (remP (G 24) (G 25) K)) rfl ?_
  refine aw_eqS (st := [.int (nI (h + k)), .int (nI (l - k)), .int (nI s), .ref 4]) (by rw [show (G 24 (8 + s)) - (nI k) = nI (l - k) from subN hl rfl (by omega), show (G 24 (13 + s)) + (nI k) = nI (h + k) from addN hh rfl]) ?_
  refine aw_cV (st := []) 4 [.int (nI s), .int (nI (l - k)), .int (nI (h + k))] oX2_setBars k6_154 rfl rfl rfl rfl rfl rfl rfl rfl (oX6_hides.dec rfl) (c_setBars (by omega)) ?_
  refine aw_eqG (G' := va_up (va_up G 25 (remP (G 24) (G 25) K)) 24 (upd (upd (G 24) (8 + s) (nI (l - k))) (13 + s) (nI (h + k)))) (rfl) ?_
  refine aw_eqS (st := []) rfl ?_
  refine aw_run oX6_hides sxOk 3 (pc' := 105) (L' := [some (.ref 0), some (.int (nI s)), some (.int (nI k))]) (st' := [.int (nI s), .ref 4]) (I' := up2 I 4 2 (nI (remK K))) (J' := J) (G' := va_up (va_up G 25 (remP (G 24) (G 25) K)) 24 (upd (upd (G 24) (8 + s) (nI (l - k))) (13 + s) (nI (h + k)))) rfl ?_
  refine aw_cV (st := []) 4 [.int (nI s)] oX2_hiddenOf k6_104 rfl rfl rfl rfl rfl rfl rfl rfl (oX6_hides.dec rfl) (c_hiddenOf (by omega)) ?_
  refine aw_eqS (st := [.int ((upd (upd (G 24) (8 + s) (nI (l - k))) (13 + s) (nI (h + k))) (13 + s))]) rfl ?_
  exact aw_iret rfl (oX6_hides.dec rfl) pe_rfl
set_option maxRecDepth 20000 in
theorem c_throws_bad {I : II} {J : JJ} {G : II} {P : Nat} (hP : I 2 7 = nI P) (hP5 : P ≤ 5) {x y : Int32} (hx : notIn x P) : AMet SX mX6_throwsOff [.ref 0, .int x, .int y] I J G (PE (some (.int (-nI 1))) I J G) := by
  refine amet_en oX6_throwsOff rfl rfl (L := [some (.ref 0), some (.int x), some (.int y), none]) rfl ?_
  refine aw_run oX6_throwsOff sxOk 3 (pc' := 5) (L' := [some (.ref 0), some (.int x), some (.int y), none]) (st' := [.int x, .ref 2]) (I' := I) (J' := J) (G' := G) rfl ?_
  refine aw_cV (st := []) 2 [.int x] oX4_hasShip k6_97 rfl rfl rfl rfl rfl rfl rfl rfl (oX6_throwsOff.dec rfl) (c_hasShip_f hP (by omega) (by assumption)) ?_
  refine aw_eqS (st := [.int (nI 0)]) rfl ?_
  refine aw_0eqN rfl (by omega) (oX6_throwsOff.dec rfl) (tgt := 22) rfl (fun h8 => ?_) (fun h8 => absurd h8 (by omega))
  refine aw_run oX6_throwsOff sxOk 1 (pc' := 23) (L' := [some (.ref 0), some (.int x), some (.int y), none]) (st' := [.int (-nI 1)]) (I' := I) (J' := J) (G' := G) rfl ?_
  exact aw_iret rfl (oX6_throwsOff.dec rfl) pe_rfl
set_option maxRecDepth 20000 in
theorem c_throws_bad0 {I : II} {J : JJ} {G : II} {P : Nat} (hP : I 2 7 = nI P) (hP5 : P ≤ 5) {s : Nat} (hs : s < P) : AMet SX mX6_throwsOff [.ref 0, .int (nI s), .int (nI 0)] I J G (PE (some (.int (-nI 1))) I J G) := by
  refine amet_en oX6_throwsOff rfl rfl (L := [some (.ref 0), some (.int (nI s)), some (.int (nI 0)), none]) rfl ?_
  refine aw_run oX6_throwsOff sxOk 3 (pc' := 5) (L' := [some (.ref 0), some (.int (nI s)), some (.int (nI 0)), none]) (st' := [.int (nI s), .ref 2]) (I' := I) (J' := J) (G' := G) rfl ?_
  refine aw_cV (st := []) 2 [.int (nI s)] oX4_hasShip k6_97 rfl rfl rfl rfl rfl rfl rfl rfl (oX6_throwsOff.dec rfl) (c_hasShip_t hP (by omega) (by omega)) ?_
  refine aw_eqS (st := [.int (nI 1)]) rfl ?_
  refine aw_0eqN rfl (by omega) (oX6_throwsOff.dec rfl) (tgt := 22) rfl (fun h8 => absurd h8 (by omega)) (fun h8 => ?_)
  refine aw_run oX6_throwsOff sxOk 2 (pc' := 13) (L' := [some (.ref 0), some (.int (nI s)), some (.int (nI 0)), none]) (st' := [.int (nI 1), .int (nI 0)]) (I' := I) (J' := J) (G' := G) rfl ?_
  refine aw_ltN rfl rfl (by omega) (by omega) (oX6_throwsOff.dec rfl) (tgt := 22) rfl (fun h13 => ?_) (fun h13 => absurd h13 (by omega))
  refine aw_run oX6_throwsOff sxOk 1 (pc' := 23) (L' := [some (.ref 0), some (.int (nI s)), some (.int (nI 0)), none]) (st' := [.int (-nI 1)]) (I' := I) (J' := J) (G' := G) rfl ?_
  exact aw_iret rfl (oX6_throwsOff.dec rfl) pe_rfl
set_option maxRecDepth 20000 in
theorem c_throws_bad2 {I : II} {J : JJ} {G : II} {P : Nat} (hP : I 2 7 = nI P) (hP5 : P ≤ 5) {s : Nat} {x : Int32} (hs : s < P) (hx : notIn x 100) : AMet SX mX6_throwsOff [.ref 0, .int (nI s), .int x] I J G (PE (some (.int (-nI 1))) I J G) := by
  refine amet_en oX6_throwsOff rfl rfl (L := [some (.ref 0), some (.int (nI s)), some (.int x), none]) rfl ?_
  refine aw_run oX6_throwsOff sxOk 3 (pc' := 5) (L' := [some (.ref 0), some (.int (nI s)), some (.int x), none]) (st' := [.int (nI s), .ref 2]) (I' := I) (J' := J) (G' := G) rfl ?_
  refine aw_cV (st := []) 2 [.int (nI s)] oX4_hasShip k6_97 rfl rfl rfl rfl rfl rfl rfl rfl (oX6_throwsOff.dec rfl) (c_hasShip_t hP (by omega) (by omega)) ?_
  refine aw_eqS (st := [.int (nI 1)]) rfl ?_
  refine aw_0eqN rfl (by omega) (oX6_throwsOff.dec rfl) (tgt := 22) rfl (fun h8 => absurd h8 (by omega)) (fun h8 => ?_)
  refine aw_run oX6_throwsOff sxOk 2 (pc' := 13) (L' := [some (.ref 0), some (.int (nI s)), some (.int x), none]) (st' := [.int (nI 1), .int x]) (I' := I) (J' := J) (G' := G) rfl ?_
  refine aw_icmp_lt (oX6_throwsOff.dec rfl) (tgt := 22) rfl (fun h13 => ?_) (fun h13 => ?_)
  · refine aw_run oX6_throwsOff sxOk 1 (pc' := 23) (L' := [some (.ref 0), some (.int (nI s)), some (.int x), none]) (st' := [.int (-nI 1)]) (I' := I) (J' := J) (G' := G) rfl ?_
    exact aw_iret rfl (oX6_throwsOff.dec rfl) pe_rfl
  · refine aw_run oX6_throwsOff sxOk 2 (pc' := 19) (L' := [some (.ref 0), some (.int (nI s)), some (.int x), none]) (st' := [.int (nI 99), .int x]) (I' := I) (J' := J) (G' := G) rfl ?_
    refine aw_icmp_le (oX6_throwsOff.dec rfl) (tgt := 24) rfl (fun h19 => absurd h19 (Int32.not_le.mpr (notIn_gt hx (by decide) (fun h => h13 (Int32.lt_trans h (by decide)))))) (fun h19 => ?_)
    refine aw_run oX6_throwsOff sxOk 1 (pc' := 23) (L' := [some (.ref 0), some (.int (nI s)), some (.int x), none]) (st' := [.int (-nI 1)]) (I' := I) (J' := J) (G' := G) rfl ?_
    exact aw_iret rfl (oX6_throwsOff.dec rfl) pe_rfl
set_option maxRecDepth 20000 in
theorem c_throws_port {I : II} {J : JJ} {G : II} {P : Nat} (hP : I 2 7 = nI P) (hP5 : P ≤ 5) {s k : Nat} (hs : s < P) (hk1 : 1 ≤ k) (hk : k ≤ 99) (hp : ¬ G 24 (3 + s) = nI 0) : AMet SX mX6_throwsOff [.ref 0, .int (nI s), .int (nI k)] I J G (PE (some (.int (-nI 2))) I J G) := by
  refine amet_en oX6_throwsOff rfl rfl (L := [some (.ref 0), some (.int (nI s)), some (.int (nI k)), none]) rfl ?_
  refine aw_run oX6_throwsOff sxOk 3 (pc' := 5) (L' := [some (.ref 0), some (.int (nI s)), some (.int (nI k)), none]) (st' := [.int (nI s), .ref 2]) (I' := I) (J' := J) (G' := G) rfl ?_
  refine aw_cV (st := []) 2 [.int (nI s)] oX4_hasShip k6_97 rfl rfl rfl rfl rfl rfl rfl rfl (oX6_throwsOff.dec rfl) (c_hasShip_t hP (by omega) (by omega)) ?_
  refine aw_eqS (st := [.int (nI 1)]) rfl ?_
  refine aw_0eqN rfl (by omega) (oX6_throwsOff.dec rfl) (tgt := 22) rfl (fun h8 => absurd h8 (by omega)) (fun h8 => ?_)
  refine aw_run oX6_throwsOff sxOk 2 (pc' := 13) (L' := [some (.ref 0), some (.int (nI s)), some (.int (nI k)), none]) (st' := [.int (nI 1), .int (nI k)]) (I' := I) (J' := J) (G' := G) rfl ?_
  refine aw_ltN rfl rfl (by omega) (by omega) (oX6_throwsOff.dec rfl) (tgt := 22) rfl (fun h13 => absurd h13 (by omega)) (fun h13 => ?_)
  refine aw_run oX6_throwsOff sxOk 2 (pc' := 19) (L' := [some (.ref 0), some (.int (nI s)), some (.int (nI k)), none]) (st' := [.int (nI 99), .int (nI k)]) (I' := I) (J' := J) (G' := G) rfl ?_
  refine aw_leN rfl rfl (by omega) (by omega) (oX6_throwsOff.dec rfl) (tgt := 24) rfl (fun h19 => ?_) (fun h19 => absurd h19 (by omega))
  refine aw_run oX6_throwsOff sxOk 3 (pc' := 29) (L' := [some (.ref 0), some (.int (nI s)), some (.int (nI k)), none]) (st' := [.int (nI s), .ref 4]) (I' := I) (J' := J) (G' := G) rfl ?_
  refine aw_cV (st := []) 4 [.int (nI s)] oX2_isInPort k6_151 rfl rfl rfl rfl rfl rfl rfl rfl (oX6_throwsOff.dec rfl) (c_isInPort (by omega)) ?_
  refine aw_eqS (st := [.int (b1 (decide (G 24 (3 + s) = nI 0)))]) rfl ?_
  refine aw_0eqD (oX6_throwsOff.dec rfl) (tgt := 47) rfl (fun h32 => ?_) (fun h32 => by first | exact absurd h32 (by assumption) | exact absurd (by assumption) h32 | (exfalso; revert h32; decide) | simp_all)
  refine aw_run oX6_throwsOff sxOk 1 (pc' := 49) (L' := [some (.ref 0), some (.int (nI s)), some (.int (nI k)), none]) (st' := [.int (-nI 2)]) (I' := I) (J' := J) (G' := G) rfl ?_
  exact aw_iret rfl (oX6_throwsOff.dec rfl) pe_rfl
set_option maxRecDepth 20000 in
theorem c_throws_few {I : II} {J : JJ} {G : II} {P : Nat} (hP : I 2 7 = nI P) (hP5 : P ≤ 5) {s k : Nat} (hs : s < P) (hk1 : 1 ≤ k) (hk : k ≤ 99) (hp : G 24 (3 + s) = nI 0) {l h : Nat} (hl : G 24 (8 + s) = nI l) (hh : G 24 (13 + s) = nI h) (hl60 : l ≤ 60) (hh60 : h ≤ 60) (hf : l + h < k) : AMet SX mX6_throwsOff [.ref 0, .int (nI s), .int (nI k)] I J G (PE (some (.int (-nI 2))) I J G) := by
  refine amet_en oX6_throwsOff rfl rfl (L := [some (.ref 0), some (.int (nI s)), some (.int (nI k)), none]) rfl ?_
  refine aw_run oX6_throwsOff sxOk 3 (pc' := 5) (L' := [some (.ref 0), some (.int (nI s)), some (.int (nI k)), none]) (st' := [.int (nI s), .ref 2]) (I' := I) (J' := J) (G' := G) rfl ?_
  refine aw_cV (st := []) 2 [.int (nI s)] oX4_hasShip k6_97 rfl rfl rfl rfl rfl rfl rfl rfl (oX6_throwsOff.dec rfl) (c_hasShip_t hP (by omega) (by omega)) ?_
  refine aw_eqS (st := [.int (nI 1)]) rfl ?_
  refine aw_0eqN rfl (by omega) (oX6_throwsOff.dec rfl) (tgt := 22) rfl (fun h8 => absurd h8 (by omega)) (fun h8 => ?_)
  refine aw_run oX6_throwsOff sxOk 2 (pc' := 13) (L' := [some (.ref 0), some (.int (nI s)), some (.int (nI k)), none]) (st' := [.int (nI 1), .int (nI k)]) (I' := I) (J' := J) (G' := G) rfl ?_
  refine aw_ltN rfl rfl (by omega) (by omega) (oX6_throwsOff.dec rfl) (tgt := 22) rfl (fun h13 => absurd h13 (by omega)) (fun h13 => ?_)
  refine aw_run oX6_throwsOff sxOk 2 (pc' := 19) (L' := [some (.ref 0), some (.int (nI s)), some (.int (nI k)), none]) (st' := [.int (nI 99), .int (nI k)]) (I' := I) (J' := J) (G' := G) rfl ?_
  refine aw_leN rfl rfl (by omega) (by omega) (oX6_throwsOff.dec rfl) (tgt := 24) rfl (fun h19 => ?_) (fun h19 => absurd h19 (by omega))
  refine aw_run oX6_throwsOff sxOk 3 (pc' := 29) (L' := [some (.ref 0), some (.int (nI s)), some (.int (nI k)), none]) (st' := [.int (nI s), .ref 4]) (I' := I) (J' := J) (G' := G) rfl ?_
  refine aw_cV (st := []) 4 [.int (nI s)] oX2_isInPort k6_151 rfl rfl rfl rfl rfl rfl rfl rfl (oX6_throwsOff.dec rfl) (c_isInPort (by omega)) ?_
  refine aw_eqS (st := [.int (b1 (decide (G 24 (3 + s) = nI 0)))]) rfl ?_
  refine aw_0eqD (oX6_throwsOff.dec rfl) (tgt := 47) rfl (fun h32 => by first | exact absurd h32 (by assumption) | exact absurd (by assumption) h32 | (exfalso; revert h32; decide) | simp_all) (fun h32 => ?_)
  refine aw_run oX6_throwsOff sxOk 3 (pc' := 40) (L' := [some (.ref 0), some (.int (nI s)), some (.int (nI k)), none]) (st' := [.int (nI s), .ref 4]) (I' := I) (J' := J) (G' := G) rfl ?_
  refine aw_cV (st := []) 4 [.int (nI s)] oX2_silverOf k6_158 rfl rfl rfl rfl rfl rfl rfl rfl (oX6_throwsOff.dec rfl) (c_silverOf (by omega)) ?_
  refine aw_eqS (st := [.int (sil (G 24) s)]) rfl ?_
  refine aw_run oX6_throwsOff sxOk 1 (pc' := 44) (L' := [some (.ref 0), some (.int (nI s)), some (.int (nI k)), none]) (st' := [.int (nI k), .int (sil (G 24) s)]) (I' := I) (J' := J) (G' := G) rfl ?_
  refine aw_geN (addN hl hh) rfl (by omega) (by omega) (oX6_throwsOff.dec rfl) (tgt := 50) rfl (fun h44 => absurd h44 (by omega)) (fun h44 => ?_)
  refine aw_run oX6_throwsOff sxOk 1 (pc' := 49) (L' := [some (.ref 0), some (.int (nI s)), some (.int (nI k)), none]) (st' := [.int (-nI 2)]) (I' := I) (J' := J) (G' := G) rfl ?_
  exact aw_iret rfl (oX6_throwsOff.dec rfl) pe_rfl
set_option maxRecDepth 20000 in
theorem c_throws_ok {I : II} {J : JJ} {G : II} {P : Nat} (hP : I 2 7 = nI P) (hP5 : P ≤ 5) {s k : Nat} (hs : s < P) (hk1 : 1 ≤ k) (hk : k ≤ 99) {K : Nat} (hK : I 4 2 = nI K) (hK10 : K ≤ 10) (hp : G 24 (3 + s) = nI 0) {l h : Nat} (hl : G 24 (8 + s) = nI l) (hh : G 24 (13 + s) = nI h) (hl60 : l ≤ 60) (hh60 : h ≤ 60) (hf : k ≤ l + h) : AMet SX mX6_throwsOff [.ref 0, .int (nI s), .int (nI k)] I J G (PE (some (.int (sil (upd (upd (G 24) (8 + s) (nI (l - (k - (min k h))))) (13 + s) (nI (h - (min k h)))) s))) (up2 I 4 2 (nI (remK K))) J (va_up (va_up G 25 (remP (G 24) (G 25) K)) 24 (upd (upd (G 24) (8 + s) (nI (l - (k - (min k h))))) (13 + s) (nI (h - (min k h)))))) := by
  refine amet_en oX6_throwsOff rfl rfl (L := [some (.ref 0), some (.int (nI s)), some (.int (nI k)), none]) rfl ?_
  refine aw_run oX6_throwsOff sxOk 3 (pc' := 5) (L' := [some (.ref 0), some (.int (nI s)), some (.int (nI k)), none]) (st' := [.int (nI s), .ref 2]) (I' := I) (J' := J) (G' := G) rfl ?_
  refine aw_cV (st := []) 2 [.int (nI s)] oX4_hasShip k6_97 rfl rfl rfl rfl rfl rfl rfl rfl (oX6_throwsOff.dec rfl) (c_hasShip_t hP (by omega) (by omega)) ?_
  refine aw_eqS (st := [.int (nI 1)]) rfl ?_
  refine aw_0eqN rfl (by omega) (oX6_throwsOff.dec rfl) (tgt := 22) rfl (fun h8 => absurd h8 (by omega)) (fun h8 => ?_)
  refine aw_run oX6_throwsOff sxOk 2 (pc' := 13) (L' := [some (.ref 0), some (.int (nI s)), some (.int (nI k)), none]) (st' := [.int (nI 1), .int (nI k)]) (I' := I) (J' := J) (G' := G) rfl ?_
  refine aw_ltN rfl rfl (by omega) (by omega) (oX6_throwsOff.dec rfl) (tgt := 22) rfl (fun h13 => absurd h13 (by omega)) (fun h13 => ?_)
  refine aw_run oX6_throwsOff sxOk 2 (pc' := 19) (L' := [some (.ref 0), some (.int (nI s)), some (.int (nI k)), none]) (st' := [.int (nI 99), .int (nI k)]) (I' := I) (J' := J) (G' := G) rfl ?_
  refine aw_leN rfl rfl (by omega) (by omega) (oX6_throwsOff.dec rfl) (tgt := 24) rfl (fun h19 => ?_) (fun h19 => absurd h19 (by omega))
  refine aw_run oX6_throwsOff sxOk 3 (pc' := 29) (L' := [some (.ref 0), some (.int (nI s)), some (.int (nI k)), none]) (st' := [.int (nI s), .ref 4]) (I' := I) (J' := J) (G' := G) rfl ?_
  refine aw_cV (st := []) 4 [.int (nI s)] oX2_isInPort k6_151 rfl rfl rfl rfl rfl rfl rfl rfl (oX6_throwsOff.dec rfl) (c_isInPort (by omega)) ?_
  refine aw_eqS (st := [.int (b1 (decide (G 24 (3 + s) = nI 0)))]) rfl ?_
  refine aw_0eqD (oX6_throwsOff.dec rfl) (tgt := 47) rfl (fun h32 => by first | exact absurd h32 (by assumption) | exact absurd (by assumption) h32 | (exfalso; revert h32; decide) | simp_all) (fun h32 => ?_)
  refine aw_run oX6_throwsOff sxOk 3 (pc' := 40) (L' := [some (.ref 0), some (.int (nI s)), some (.int (nI k)), none]) (st' := [.int (nI s), .ref 4]) (I' := I) (J' := J) (G' := G) rfl ?_
  refine aw_cV (st := []) 4 [.int (nI s)] oX2_silverOf k6_158 rfl rfl rfl rfl rfl rfl rfl rfl (oX6_throwsOff.dec rfl) (c_silverOf (by omega)) ?_
  refine aw_eqS (st := [.int (sil (G 24) s)]) rfl ?_
  refine aw_run oX6_throwsOff sxOk 1 (pc' := 44) (L' := [some (.ref 0), some (.int (nI s)), some (.int (nI k)), none]) (st' := [.int (nI k), .int (sil (G 24) s)]) (I' := I) (J' := J) (G' := G) rfl ?_
  refine aw_geN (addN hl hh) rfl (by omega) (by omega) (oX6_throwsOff.dec rfl) (tgt := 50) rfl (fun h44 => ?_) (fun h44 => absurd h44 (by omega))
  refine aw_run oX6_throwsOff sxOk 2 (pc' := 54) (L' := [some (.ref 0), some (.int (nI s)), some (.int (nI k)), none]) (st' := [.ref 4]) (I' := I) (J' := J) (G' := G) rfl ?_
  refine aw_cV (st := []) 4 [] oX2_remember k6_120 rfl rfl rfl rfl rfl rfl rfl rfl (oX6_throwsOff.dec rfl) (c_remember hK (by omega)) ?_
  refine aw_eqG (G' := va_up G 25 (remP (G 24) (G 25) K)) (rfl) ?_
  refine aw_eqS (st := []) rfl ?_
  refine aw_run oX6_throwsOff sxOk 4 (pc' := 63) (L' := [some (.ref 0), some (.int (nI s)), some (.int (nI k)), none]) (st' := [.int (nI s), .ref 4, .int (nI k)]) (I' := up2 I 4 2 (nI (remK K))) (J' := J) (G' := va_up G 25 (remP (G 24) (G 25) K)) rfl ?_
  refine aw_cV (st := [.int (nI k)]) 4 [.int (nI s)] oX2_hiddenOf k6_104 rfl rfl rfl rfl rfl rfl rfl rfl (oX6_throwsOff.dec rfl) (c_hiddenOf (by omega)) ?_
  refine aw_eqS (st := [.int (G 24 (13 + s)), .int (nI k)]) rfl ?_
  refine aw_min n6_161 (by decide) (Nat.le_of_ble_eq_true rfl) (oX6_throwsOff.dec rfl) ?_
  refine aw_run oX6_throwsOff sxOk 7 (pc' := 80) (L' := [some (.ref 0), some (.int (nI s)), some (.int (nI k)), some (.int (if G 24 (13 + s) < nI k then G 24 (13 + s) else nI k))]) (st' := [.int (nI s), .ref 4, .int (nI s), .ref 4]) (I' := up2 I 4 2 (nI (remK K))) (J' := J) (G' := va_up G 25 (remP (G 24) (G 25) K)) rfl ?_
  refine aw_cV (st := [.int (nI s), .ref 4]) 4 [.int (nI s)] oX2_listedOf k6_100 rfl rfl rfl rfl rfl rfl rfl rfl (oX6_throwsOff.dec rfl) (c_listedOf (by omega)) ?_
  refine aw_eqS (st := [.int (G 24 (8 + s)), .int (nI s), .ref 4]) rfl ?_
  refine aw_run oX6_throwsOff sxOk 7 (pc' := 92) (L' := [some (.ref 0), some (.int (nI s)), some (.int (nI k)), some (.int (if G 24 (13 + s) < nI k then G 24 (13 + s) else nI k))]) (st' := [.int (nI s), .ref 4, .int ((G 24 (8 + s)) - ((nI k) - (if G 24 (13 + s) < nI k then G 24 (13 + s) else nI k))), .int (nI s), .ref 4]) (I' := up2 I 4 2 (nI (remK K))) (J' := J) (G' := va_up G 25 (remP (G 24) (G 25) K)) rfl ?_
  refine aw_cV (st := [.int ((G 24 (8 + s)) - ((nI k) - (if G 24 (13 + s) < nI k then G 24 (13 + s) else nI k))), .int (nI s), .ref 4]) 4 [.int (nI s)] oX2_hiddenOf k6_104 rfl rfl rfl rfl rfl rfl rfl rfl (oX6_throwsOff.dec rfl) (c_hiddenOf (by omega)) ?_
  refine aw_eqS (st := [.int (G 24 (13 + s)), .int ((G 24 (8 + s)) - ((nI k) - (if G 24 (13 + s) < nI k then G 24 (13 + s) else nI k))), .int (nI s), .ref 4]) rfl ?_
  refine aw_run oX6_throwsOff sxOk 2 (pc' := 97) (L' := [some (.ref 0), some (.int (nI s)), some (.int (nI k)), some (.int (if G 24 (13 + s) < nI k then G 24 (13 + s) else nI k))]) (st' := [.int ((G 24 (13 + s)) - (if G 24 (13 + s) < nI k then G 24 (13 + s) else nI k)), .int ((G 24 (8 + s)) - ((nI k) - (if G 24 (13 + s) < nI k then G 24 (13 + s) else nI k))), .int (nI s), .ref 4]) (I' := up2 I 4 2 (nI (remK K))) (J' := J) (G' := va_up G 25 (remP (G 24) (G 25) K)) rfl ?_
  refine aw_eqS (st := [.int (nI (h - (min k h))), .int (nI (l - (k - (min k h)))), .int (nI s), .ref 4]) (by rw [show (G 24 (8 + s)) - ((nI k) - (if G 24 (13 + s) < nI k then G 24 (13 + s) else nI k)) = nI (l - (k - (min k h))) from subN hl (subN rfl (minN rfl hh (by omega) (by omega)) (by omega)) (by omega), show (G 24 (13 + s)) - (if G 24 (13 + s) < nI k then G 24 (13 + s) else nI k) = nI (h - (min k h)) from subN hh (minN rfl hh (by omega) (by omega)) (by omega)]) ?_
  refine aw_cV (st := []) 4 [.int (nI s), .int (nI (l - (k - (min k h)))), .int (nI (h - (min k h)))] oX2_setBars k6_154 rfl rfl rfl rfl rfl rfl rfl rfl (oX6_throwsOff.dec rfl) (c_setBars (by omega)) ?_
  refine aw_eqG (G' := va_up (va_up G 25 (remP (G 24) (G 25) K)) 24 (upd (upd (G 24) (8 + s) (nI (l - (k - (min k h))))) (13 + s) (nI (h - (min k h))))) (rfl) ?_
  refine aw_eqS (st := []) rfl ?_
  refine aw_run oX6_throwsOff sxOk 3 (pc' := 105) (L' := [some (.ref 0), some (.int (nI s)), some (.int (nI k)), some (.int (if G 24 (13 + s) < nI k then G 24 (13 + s) else nI k))]) (st' := [.int (nI s), .ref 4]) (I' := up2 I 4 2 (nI (remK K))) (J' := J) (G' := va_up (va_up G 25 (remP (G 24) (G 25) K)) 24 (upd (upd (G 24) (8 + s) (nI (l - (k - (min k h))))) (13 + s) (nI (h - (min k h))))) rfl ?_
  refine aw_cV (st := []) 4 [.int (nI s)] oX2_silverOf k6_158 rfl rfl rfl rfl rfl rfl rfl rfl (oX6_throwsOff.dec rfl) (c_silverOf (by omega)) ?_
  refine aw_eqS (st := [.int (sil (upd (upd (G 24) (8 + s) (nI (l - (k - (min k h))))) (13 + s) (nI (h - (min k h)))) s)]) rfl ?_
  exact aw_iret rfl (oX6_throwsOff.dec rfl) pe_rfl
set_option maxRecDepth 20000 in
theorem c_raises_bad {I : II} {J : JJ} {G : II} {P : Nat} (hP : I 2 7 = nI P) (hP5 : P ≤ 5) {x : Int32} (hx : notIn x P) : AMet SX mX6_raises [.ref 0, .int x] I J G (PE (some (.int (-nI 1))) I J G) := by
  refine amet_en oX6_raises rfl rfl (L := [some (.ref 0), some (.int x), none]) rfl ?_
  refine aw_run oX6_raises sxOk 3 (pc' := 5) (L' := [some (.ref 0), some (.int x), none]) (st' := [.int x, .ref 2]) (I' := I) (J' := J) (G' := G) rfl ?_
  refine aw_cV (st := []) 2 [.int x] oX4_hasShip k6_97 rfl rfl rfl rfl rfl rfl rfl rfl (oX6_raises.dec rfl) (c_hasShip_f hP (by omega) (by assumption)) ?_
  refine aw_eqS (st := [.int (nI 0)]) rfl ?_
  refine aw_0neN rfl (by omega) (oX6_raises.dec rfl) (tgt := 13) rfl (fun h8 => absurd h8 (by omega)) (fun h8 => ?_)
  refine aw_run oX6_raises sxOk 1 (pc' := 12) (L' := [some (.ref 0), some (.int x), none]) (st' := [.int (-nI 1)]) (I' := I) (J' := J) (G' := G) rfl ?_
  exact aw_iret rfl (oX6_raises.dec rfl) pe_rfl
set_option maxRecDepth 20000 in
theorem c_raises_no {I : II} {J : JJ} {G : II} {P : Nat} (hP : I 2 7 = nI P) (hP5 : P ≤ 5) {s : Nat} (hs : s < P) (hp : ¬ G 24 (3 + s) = nI 3) : AMet SX mX6_raises [.ref 0, .int (nI s)] I J G (PE (some (.int (-nI 2))) I J G) := by
  refine amet_en oX6_raises rfl rfl (L := [some (.ref 0), some (.int (nI s)), none]) rfl ?_
  refine aw_run oX6_raises sxOk 3 (pc' := 5) (L' := [some (.ref 0), some (.int (nI s)), none]) (st' := [.int (nI s), .ref 2]) (I' := I) (J' := J) (G' := G) rfl ?_
  refine aw_cV (st := []) 2 [.int (nI s)] oX4_hasShip k6_97 rfl rfl rfl rfl rfl rfl rfl rfl (oX6_raises.dec rfl) (c_hasShip_t hP (by omega) (by omega)) ?_
  refine aw_eqS (st := [.int (nI 1)]) rfl ?_
  refine aw_0neN rfl (by omega) (oX6_raises.dec rfl) (tgt := 13) rfl (fun h8 => ?_) (fun h8 => absurd h8 (by omega))
  refine aw_run oX6_raises sxOk 3 (pc' := 18) (L' := [some (.ref 0), some (.int (nI s)), none]) (st' := [.int (nI s), .ref 4]) (I' := I) (J' := J) (G' := G) rfl ?_
  refine aw_cV (st := []) 4 [.int (nI s)] oX2_placeOf k6_113 rfl rfl rfl rfl rfl rfl rfl rfl (oX6_raises.dec rfl) (c_placeOf (by omega)) ?_
  refine aw_eqS (st := [.int (G 24 (3 + s))]) rfl ?_
  refine aw_run oX6_raises sxOk 1 (pc' := 22) (L' := [some (.ref 0), some (.int (nI s)), none]) (st' := [.int (nI 3), .int (G 24 (3 + s))]) (I' := I) (J' := J) (G' := G) rfl ?_
  refine aw_icmp_eq (oX6_raises.dec rfl) (tgt := 28) rfl (fun h22 => by first | exact absurd h22 (by assumption) | exact absurd (by assumption) h22 | (exfalso; revert h22; decide) | simp_all) (fun h22 => ?_)
  refine aw_run oX6_raises sxOk 1 (pc' := 27) (L' := [some (.ref 0), some (.int (nI s)), none]) (st' := [.int (-nI 2)]) (I' := I) (J' := J) (G' := G) rfl ?_
  exact aw_iret rfl (oX6_raises.dec rfl) pe_rfl
set_option maxRecDepth 20000 in
theorem c_raises_ok {I : II} {J : JJ} {G : II} {P : Nat} (hP : I 2 7 = nI P) (hP5 : P ≤ 5) {s : Nat} (hs : s < P) {K : Nat} (hK : I 4 2 = nI K) (hK10 : K ≤ 10) (hp : G 24 (3 + s) = nI 3) : AMet SX mX6_raises [.ref 0, .int (nI s)] I J G (PE (some (.int ((sil (G 24) s) / (nI 2)))) (up2 I 4 2 (nI (remK K))) J (va_up (va_up G 25 (remP (G 24) (G 25) K)) 24 (upd (upd (upd (upd (G 24) 1 ((G 24 1) + ((sil (G 24) s) / (nI 2)))) (3 + s) (nI 4)) (8 + s) (nI 0)) (13 + s) (nI 0)))) := by
  refine amet_en oX6_raises rfl rfl (L := [some (.ref 0), some (.int (nI s)), none]) rfl ?_
  refine aw_run oX6_raises sxOk 3 (pc' := 5) (L' := [some (.ref 0), some (.int (nI s)), none]) (st' := [.int (nI s), .ref 2]) (I' := I) (J' := J) (G' := G) rfl ?_
  refine aw_cV (st := []) 2 [.int (nI s)] oX4_hasShip k6_97 rfl rfl rfl rfl rfl rfl rfl rfl (oX6_raises.dec rfl) (c_hasShip_t hP (by omega) (by omega)) ?_
  refine aw_eqS (st := [.int (nI 1)]) rfl ?_
  refine aw_0neN rfl (by omega) (oX6_raises.dec rfl) (tgt := 13) rfl (fun h8 => ?_) (fun h8 => absurd h8 (by omega))
  refine aw_run oX6_raises sxOk 3 (pc' := 18) (L' := [some (.ref 0), some (.int (nI s)), none]) (st' := [.int (nI s), .ref 4]) (I' := I) (J' := J) (G' := G) rfl ?_
  refine aw_cV (st := []) 4 [.int (nI s)] oX2_placeOf k6_113 rfl rfl rfl rfl rfl rfl rfl rfl (oX6_raises.dec rfl) (c_placeOf (by omega)) ?_
  refine aw_eqS (st := [.int (G 24 (3 + s))]) rfl ?_
  refine aw_run oX6_raises sxOk 1 (pc' := 22) (L' := [some (.ref 0), some (.int (nI s)), none]) (st' := [.int (nI 3), .int (G 24 (3 + s))]) (I' := I) (J' := J) (G' := G) rfl ?_
  refine aw_icmp_eq (oX6_raises.dec rfl) (tgt := 28) rfl (fun h22 => ?_) (fun h22 => by first | exact absurd h22 (by assumption) | exact absurd (by assumption) h22 | (exfalso; revert h22; decide) | simp_all)
  refine aw_run oX6_raises sxOk 2 (pc' := 32) (L' := [some (.ref 0), some (.int (nI s)), none]) (st' := [.ref 4]) (I' := I) (J' := J) (G' := G) rfl ?_
  refine aw_cV (st := []) 4 [] oX2_remember k6_120 rfl rfl rfl rfl rfl rfl rfl rfl (oX6_raises.dec rfl) (c_remember hK (by omega)) ?_
  refine aw_eqG (G' := va_up G 25 (remP (G 24) (G 25) K)) (rfl) ?_
  refine aw_eqS (st := []) rfl ?_
  refine aw_run oX6_raises sxOk 3 (pc' := 40) (L' := [some (.ref 0), some (.int (nI s)), none]) (st' := [.int (nI s), .ref 4]) (I' := up2 I 4 2 (nI (remK K))) (J' := J) (G' := va_up G 25 (remP (G 24) (G 25) K)) rfl ?_
  refine aw_cV (st := []) 4 [.int (nI s)] oX2_silverOf k6_158 rfl rfl rfl rfl rfl rfl rfl rfl (oX6_raises.dec rfl) (c_silverOf (by omega)) ?_
  refine aw_eqS (st := [.int (sil (G 24) s)]) rfl ?_
  refine aw_run oX6_raises sxOk 1 (pc' := 44) (L' := [some (.ref 0), some (.int (nI s)), none]) (st' := [.int (nI 2), .int (sil (G 24) s)]) (I' := up2 I 4 2 (nI (remK K))) (J' := J) (G' := va_up G 25 (remP (G 24) (G 25) K)) rfl ?_
  refine aw_idiv (by decide) (oX6_raises.dec rfl) ?_
  refine aw_run oX6_raises sxOk 6 (pc' := 55) (L' := [some (.ref 0), some (.int (nI s)), some (.int ((sil (G 24) s) / (nI 2)))]) (st' := [.int (nI 1), .ref 24, .int (nI 1), .ref 24]) (I' := up2 I 4 2 (nI (remK K))) (J' := J) (G' := va_up G 25 (remP (G 24) (G 25) K)) rfl ?_
  refine aw_iaN 1 sxOk rfl rfl (by omega) (oX6_raises.dec rfl) ?_
  refine aw_eqS (st := [.int (G 24 1), .int (nI 1), .ref 24]) rfl ?_
  refine aw_run oX6_raises sxOk 2 (pc' := 58) (L' := [some (.ref 0), some (.int (nI s)), some (.int ((sil (G 24) s) / (nI 2)))]) (st' := [.int ((G 24 1) + ((sil (G 24) s) / (nI 2))), .int (nI 1), .ref 24]) (I' := up2 I 4 2 (nI (remK K))) (J' := J) (G' := va_up G 25 (remP (G 24) (G 25) K)) rfl ?_
  refine aw_isN 1 sxOk rfl rfl (by omega) (oX6_raises.dec rfl) ?_
  refine aw_eqG (G' := va_up (va_up G 25 (remP (G 24) (G 25) K)) 24 (upd (G 24) 1 ((G 24 1) + ((sil (G 24) s) / (nI 2))))) (rfl) ?_
  refine aw_run oX6_raises sxOk 7 (pc' := 70) (L' := [some (.ref 0), some (.int (nI s)), some (.int ((sil (G 24) s) / (nI 2)))]) (st' := [.int (nI 4), .int ((nI 3) + (nI s)), .ref 24]) (I' := up2 I 4 2 (nI (remK K))) (J' := J) (G' := va_up (va_up G 25 (remP (G 24) (G 25) K)) 24 (upd (G 24) 1 ((G 24 1) + ((sil (G 24) s) / (nI 2))))) rfl ?_
  refine aw_isN (3 + s) sxOk rfl (addN rfl rfl) (by omega) (oX6_raises.dec rfl) ?_
  refine aw_eqG (G' := va_up (va_up G 25 (remP (G 24) (G 25) K)) 24 (upd (upd (G 24) 1 ((G 24 1) + ((sil (G 24) s) / (nI 2)))) (3 + s) (nI 4))) (bx_uu _ _ _ _) ?_
  refine aw_run oX6_raises sxOk 5 (pc' := 78) (L' := [some (.ref 0), some (.int (nI s)), some (.int ((sil (G 24) s) / (nI 2)))]) (st' := [.int (nI 0), .int (nI 0), .int (nI s), .ref 4]) (I' := up2 I 4 2 (nI (remK K))) (J' := J) (G' := va_up (va_up G 25 (remP (G 24) (G 25) K)) 24 (upd (upd (G 24) 1 ((G 24 1) + ((sil (G 24) s) / (nI 2)))) (3 + s) (nI 4))) rfl ?_
  refine aw_cV (st := []) 4 [.int (nI s), .int (nI 0), .int (nI 0)] oX2_setBars k6_154 rfl rfl rfl rfl rfl rfl rfl rfl (oX6_raises.dec rfl) (c_setBars (by omega)) ?_
  refine aw_eqG (G' := va_up (va_up G 25 (remP (G 24) (G 25) K)) 24 (upd (upd (upd (upd (G 24) 1 ((G 24 1) + ((sil (G 24) s) / (nI 2)))) (3 + s) (nI 4)) (8 + s) (nI 0)) (13 + s) (nI 0))) (bx_uu _ _ _ _) ?_
  refine aw_eqS (st := []) rfl ?_
  refine aw_run oX6_raises sxOk 1 (pc' := 82) (L' := [some (.ref 0), some (.int (nI s)), some (.int ((sil (G 24) s) / (nI 2)))]) (st' := [.int ((sil (G 24) s) / (nI 2))]) (I' := up2 I 4 2 (nI (remK K))) (J' := J) (G' := va_up (va_up G 25 (remP (G 24) (G 25) K)) 24 (upd (upd (upd (upd (G 24) 1 ((G 24 1) + ((sil (G 24) s) / (nI 2)))) (3 + s) (nI 4)) (8 + s) (nI 0)) (13 + s) (nI 0))) rfl ?_
  exact aw_iret rfl (oX6_raises.dec rfl) pe_rfl
set_option maxRecDepth 20000 in
theorem c_undo_no {I : II} {J : JJ} {G : II} (hK : I 4 2 = nI 0) : AMet SX mX6_undo [.ref 0] I J G (PE (some (.int (-nI 2))) I J G) := by
  refine amet_en oX6_undo rfl rfl (L := [some (.ref 0)]) rfl ?_
  refine aw_run oX6_undo sxOk 3 (pc' := 7) (L' := [some (.ref 0)]) (st' := [.int (I 4 2)]) (I' := I) (J' := J) (G' := G) rfl ?_
  refine aw_0neN hK (by omega) (oX6_undo.dec rfl) (tgt := 13) rfl (fun h7 => absurd h7 (by omega)) (fun h7 => ?_)
  refine aw_run oX6_undo sxOk 1 (pc' := 12) (L' := [some (.ref 0)]) (st' := [.int (-nI 2)]) (I' := I) (J' := J) (G' := G) rfl ?_
  exact aw_iret rfl (oX6_undo.dec rfl) pe_rfl
set_option maxRecDepth 20000 in
theorem c_undo_ok {I : II} {J : JJ} {G : II} {K : Nat} (hK : I 4 2 = nI K) (hK10 : K ≤ 10) (h1 : 1 ≤ K) : AMet SX mX6_undo [.ref 0] I J G (PE (some (.int (nI (K - 1)))) (up2 I 4 2 (nI (K - 1))) J (va_up G 24 (va_cpy (G 25) (G 24) ((K - 1) * 18) 0 18))) := by
  refine amet_en oX6_undo rfl rfl (L := [some (.ref 0)]) rfl ?_
  refine aw_run oX6_undo sxOk 3 (pc' := 7) (L' := [some (.ref 0)]) (st' := [.int (I 4 2)]) (I' := I) (J' := J) (G' := G) rfl ?_
  refine aw_0neN hK (by omega) (oX6_undo.dec rfl) (tgt := 13) rfl (fun h7 => ?_) (fun h7 => absurd h7 (by omega))
  refine aw_run oX6_undo sxOk 2 (pc' := 17) (L' := [some (.ref 0)]) (st' := [.ref 4]) (I' := I) (J' := J) (G' := G) rfl ?_
  refine aw_cV (st := []) 4 [] oX2_goBack k6_169 rfl rfl rfl rfl rfl rfl rfl rfl (oX6_undo.dec rfl) (c_goBack hK (by omega) (by omega)) ?_
  refine aw_eqG (G' := va_up G 24 (va_cpy (G 25) (G 24) ((K - 1) * 18) 0 18)) (rfl) ?_
  refine aw_eqS (st := []) rfl ?_
  refine aw_run oX6_undo sxOk 3 (pc' := 27) (L' := [some (.ref 0)]) (st' := [.int (nI (K - 1))]) (I' := up2 I 4 2 (nI (K - 1))) (J' := J) (G' := va_up G 24 (va_cpy (G 25) (G 24) ((K - 1) * 18) 0 18)) rfl ?_
  exact aw_iret rfl (oX6_undo.dec rfl) pe_rfl
