set_option maxRecDepth 20000 in
theorem c_now_0 {I : II} {J : JJ} {G : II} {P : Nat} (hP : I 2 7 = nI P) (hP5 : P ≤ 5) : AMet SX mX6_now [.ref 0, .int (nI 0)] I J G (PE (some (.int (G 24 0))) I J G) := by
  refine amet_en oX6_now rfl rfl (L := [some (.ref 0), some (.int (nI 0))]) rfl ?_
  refine aw_run oX6_now sxOk 1 (pc' := 1) (L' := [some (.ref 0), some (.int (nI 0))]) (st' := [.int (nI 0)]) (I' := I) (J' := J) (G' := G) rfl ?_
  refine aw_tableIn (x := nI 0) (oX6_now.dec rfl) (by decide) (by decide) (off := 39) (by decide) (tgt := 40) rfl ?_
  refine aw_run oX6_now sxOk 2 (pc' := 44) (L' := [some (.ref 0), some (.int (nI 0))]) (st' := [.ref 4]) (I' := I) (J' := J) (G' := G) rfl ?_
  refine aw_cV (st := []) 4 [] oX2_theWeek k6_126 rfl rfl rfl rfl rfl rfl rfl rfl (oX6_now.dec rfl) c_theWeek ?_
  refine aw_eqS (st := [.int (G 24 0)]) rfl ?_
  exact aw_iret rfl (oX6_now.dec rfl) pe_rfl
set_option maxRecDepth 20000 in
theorem c_now_1 {I : II} {J : JJ} {G : II} {P : Nat} (hP : I 2 7 = nI P) (hP5 : P ≤ 5) : AMet SX mX6_now [.ref 0, .int (nI 1)] I J G (PE (some (.int (nI (setN (fun s => decide (G 24 (3 + s) = nI 0)) P)))) I J G) := by
  refine amet_en oX6_now rfl rfl (L := [some (.ref 0), some (.int (nI 1))]) rfl ?_
  refine aw_run oX6_now sxOk 1 (pc' := 1) (L' := [some (.ref 0), some (.int (nI 1))]) (st' := [.int (nI 1)]) (I' := I) (J' := J) (G' := G) rfl ?_
  refine aw_tableIn (x := nI 1) (oX6_now.dec rfl) (by decide) (by decide) (off := 47) (by decide) (tgt := 48) rfl ?_
  refine aw_run oX6_now sxOk 2 (pc' := 52) (L' := [some (.ref 0), some (.int (nI 1))]) (st' := [.ref 7]) (I' := I) (J' := J) (G' := G) rfl ?_
  refine aw_cV (st := []) 7 [] oX0_inPort k6_172 rfl rfl rfl rfl rfl rfl rfl rfl (oX6_now.dec rfl) (c_inPort hP (by omega)) ?_
  refine aw_eqS (st := [.int (nI (setN (fun s => decide (G 24 (3 + s) = nI 0)) P))]) rfl ?_
  exact aw_iret rfl (oX6_now.dec rfl) pe_rfl
set_option maxRecDepth 20000 in
theorem c_now_2 {I : II} {J : JJ} {G : II} {P : Nat} (hP : I 2 7 = nI P) (hP5 : P ≤ 5) : AMet SX mX6_now [.ref 0, .int (nI 2)] I J G (PE (some (.int (G 24 1))) I J G) := by
  refine amet_en oX6_now rfl rfl (L := [some (.ref 0), some (.int (nI 2))]) rfl ?_
  refine aw_run oX6_now sxOk 1 (pc' := 1) (L' := [some (.ref 0), some (.int (nI 2))]) (st' := [.int (nI 2)]) (I' := I) (J' := J) (G' := G) rfl ?_
  refine aw_tableIn (x := nI 2) (oX6_now.dec rfl) (by decide) (by decide) (off := 55) (by decide) (tgt := 56) rfl ?_
  refine aw_run oX6_now sxOk 4 (pc' := 64) (L' := [some (.ref 0), some (.int (nI 2))]) (st' := [.int (nI 1), .ref 24]) (I' := I) (J' := J) (G' := G) rfl ?_
  refine aw_iaN 1 sxOk rfl rfl (by omega) (oX6_now.dec rfl) ?_
  exact aw_iret rfl (oX6_now.dec rfl) pe_rfl
set_option maxRecDepth 20000 in
theorem c_now_3 {I : II} {J : JJ} {G : II} {P : Nat} (hP : I 2 7 = nI P) (hP5 : P ≤ 5) : AMet SX mX6_now [.ref 0, .int (nI 3)] I J G (PE (some (.int (G 24 2))) I J G) := by
  refine amet_en oX6_now rfl rfl (L := [some (.ref 0), some (.int (nI 3))]) rfl ?_
  refine aw_run oX6_now sxOk 1 (pc' := 1) (L' := [some (.ref 0), some (.int (nI 3))]) (st' := [.int (nI 3)]) (I' := I) (J' := J) (G' := G) rfl ?_
  refine aw_tableIn (x := nI 3) (oX6_now.dec rfl) (by decide) (by decide) (off := 65) (by decide) (tgt := 66) rfl ?_
  refine aw_run oX6_now sxOk 4 (pc' := 74) (L' := [some (.ref 0), some (.int (nI 3))]) (st' := [.int (nI 2), .ref 24]) (I' := I) (J' := J) (G' := G) rfl ?_
  refine aw_iaN 2 sxOk rfl rfl (by omega) (oX6_now.dec rfl) ?_
  exact aw_iret rfl (oX6_now.dec rfl) pe_rfl
set_option maxRecDepth 20000 in
theorem c_now_5 {I : II} {J : JJ} {G : II} {P : Nat} (hP : I 2 7 = nI P) (hP5 : P ≤ 5) : AMet SX mX6_now [.ref 0, .int (nI 5)] I J G (PE (some (.int (sumC (sil (G 24)) (fun s => decide (G 24 (3 + s) = nI 3)) P))) I J G) := by
  refine amet_en oX6_now rfl rfl (L := [some (.ref 0), some (.int (nI 5))]) rfl ?_
  refine aw_run oX6_now sxOk 1 (pc' := 1) (L' := [some (.ref 0), some (.int (nI 5))]) (st' := [.int (nI 5)]) (I' := I) (J' := J) (G' := G) rfl ?_
  refine aw_tableIn (x := nI 5) (oX6_now.dec rfl) (by decide) (by decide) (off := 88) (by decide) (tgt := 89) rfl ?_
  refine aw_run oX6_now sxOk 2 (pc' := 93) (L' := [some (.ref 0), some (.int (nI 5))]) (st' := [.ref 7]) (I' := I) (J' := J) (G' := G) rfl ?_
  refine aw_cV (st := []) 7 [] oX0_silverOnTheReef k6_175 rfl rfl rfl rfl rfl rfl rfl rfl (oX6_now.dec rfl) (c_reef hP (by omega)) ?_
  refine aw_eqS (st := [.int (sumC (sil (G 24)) (fun s => decide (G 24 (3 + s) = nI 3)) P)]) rfl ?_
  exact aw_iret rfl (oX6_now.dec rfl) pe_rfl
set_option maxRecDepth 20000 in
theorem c_now_4t {I : II} {J : JJ} {G : II} {Wk : Nat} (hW : I 2 6 = nI Wk) (hWk : Wk ≤ 12) {t : Nat} (ht : G 24 0 = nI t) (ht12 : t ≤ 12) (ho : Wk ≤ t) : AMet SX mX6_now [.ref 0, .int (nI 4)] I J G (PE (some (.int (nI 1))) I J G) := by
  refine amet_en oX6_now rfl rfl (L := [some (.ref 0), some (.int (nI 4))]) rfl ?_
  refine aw_run oX6_now sxOk 1 (pc' := 1) (L' := [some (.ref 0), some (.int (nI 4))]) (st' := [.int (nI 4)]) (I' := I) (J' := J) (G' := G) rfl ?_
  refine aw_tableIn (x := nI 4) (oX6_now.dec rfl) (by decide) (by decide) (off := 75) (by decide) (tgt := 76) rfl ?_
  refine aw_run oX6_now sxOk 1 (pc' := 77) (L' := [some (.ref 0), some (.int (nI 4))]) (st' := [.ref 0]) (I' := I) (J' := J) (G' := G) rfl ?_
  refine aw_cV (st := []) 0 [] oX6_isOver k6_116 rfl rfl rfl rfl rfl rfl rfl rfl (oX6_now.dec rfl) (c_isOver hW hWk ht (by omega)) ?_
  refine aw_eqS (st := [.int (b1 (decide (Wk ≤ t)))]) rfl ?_
  refine aw_0eqD (oX6_now.dec rfl) (tgt := 87) rfl (fun h80 => absurd h80 (by omega)) (fun h80 => ?_)
  refine aw_run oX6_now sxOk 2 (pc' := 88) (L' := [some (.ref 0), some (.int (nI 4))]) (st' := [.int (nI 1)]) (I' := I) (J' := J) (G' := G) rfl ?_
  exact aw_iret rfl (oX6_now.dec rfl) pe_rfl
set_option maxRecDepth 20000 in
theorem c_now_4f {I : II} {J : JJ} {G : II} {Wk : Nat} (hW : I 2 6 = nI Wk) (hWk : Wk ≤ 12) {t : Nat} (ht : G 24 0 = nI t) (ht12 : t ≤ 12) (ho : t < Wk) : AMet SX mX6_now [.ref 0, .int (nI 4)] I J G (PE (some (.int (nI 0))) I J G) := by
  refine amet_en oX6_now rfl rfl (L := [some (.ref 0), some (.int (nI 4))]) rfl ?_
  refine aw_run oX6_now sxOk 1 (pc' := 1) (L' := [some (.ref 0), some (.int (nI 4))]) (st' := [.int (nI 4)]) (I' := I) (J' := J) (G' := G) rfl ?_
  refine aw_tableIn (x := nI 4) (oX6_now.dec rfl) (by decide) (by decide) (off := 75) (by decide) (tgt := 76) rfl ?_
  refine aw_run oX6_now sxOk 1 (pc' := 77) (L' := [some (.ref 0), some (.int (nI 4))]) (st' := [.ref 0]) (I' := I) (J' := J) (G' := G) rfl ?_
  refine aw_cV (st := []) 0 [] oX6_isOver k6_116 rfl rfl rfl rfl rfl rfl rfl rfl (oX6_now.dec rfl) (c_isOver hW hWk ht (by omega)) ?_
  refine aw_eqS (st := [.int (b1 (decide (Wk ≤ t)))]) rfl ?_
  refine aw_0eqD (oX6_now.dec rfl) (tgt := 87) rfl (fun h80 => ?_) (fun h80 => absurd h80 (by omega))
  refine aw_run oX6_now sxOk 1 (pc' := 88) (L' := [some (.ref 0), some (.int (nI 4))]) (st' := [.int (nI 0)]) (I' := I) (J' := J) (G' := G) rfl ?_
  exact aw_iret rfl (oX6_now.dec rfl) pe_rfl
set_option maxRecDepth 20000 in
theorem c_now_bad {I : II} {J : JJ} {G : II} {x : Int32} (hx : notIn x 6) : AMet SX mX6_now [.ref 0, .int x] I J G (PE (some (.int (-nI 1))) I J G) := by
  refine amet_en oX6_now rfl rfl (L := [some (.ref 0), some (.int x)]) rfl ?_
  refine aw_run oX6_now sxOk 1 (pc' := 1) (L' := [some (.ref 0), some (.int x)]) (st' := [.int x]) (I' := I) (J' := J) (G' := G) rfl ?_
  refine aw_tableOut (x := x) (oX6_now.dec rfl) (notIn_tab hx (by decide)) (tgt := 97) rfl ?_
  refine aw_run oX6_now sxOk 1 (pc' := 98) (L' := [some (.ref 0), some (.int x)]) (st' := [.int (-nI 1)]) (I' := I) (J' := J) (G' := G) rfl ?_
  exact aw_iret rfl (oX6_now.dec rfl) pe_rfl
set_option maxRecDepth 20000 in
theorem c_worth_bad {I : II} {J : JJ} {G : II} {P : Nat} (hP : I 2 7 = nI P) (hP5 : P ≤ 5) {x y : Int32} (hx : notIn x (2 ^ P)) : AMet SX mX6_worth [.ref 0, .int x, .int y] I J G (PE (some (.int (-nI 1))) I J G) := by
  have hp32 : 2 ^ P ≤ 32 := Nat.pow_le_pow_right (by decide) hP5
  refine amet_en oX6_worth rfl rfl (L := [some (.ref 0), some (.int x), some (.int y)]) rfl ?_
  refine aw_run oX6_worth sxOk 3 (pc' := 5) (L' := [some (.ref 0), some (.int x), some (.int y)]) (st' := [.int x, .ref 2]) (I' := I) (J' := J) (G' := G) rfl ?_
  refine aw_cV (st := []) 2 [.int x] oX4_hasSet k6_130 rfl rfl rfl rfl rfl rfl rfl rfl (oX6_worth.dec rfl) (c_hasSet_f hP (by omega) (by assumption)) ?_
  refine aw_eqS (st := [.int (nI 0)]) rfl ?_
  refine aw_0eqN rfl (by omega) (oX6_worth.dec rfl) (tgt := 22) rfl (fun h8 => ?_) (fun h8 => absurd h8 (by omega))
  refine aw_run oX6_worth sxOk 1 (pc' := 23) (L' := [some (.ref 0), some (.int x), some (.int y)]) (st' := [.int (-nI 1)]) (I' := I) (J' := J) (G' := G) rfl ?_
  exact aw_iret rfl (oX6_worth.dec rfl) pe_rfl
set_option maxRecDepth 20000 in
theorem c_worth_bad2 {I : II} {J : JJ} {G : II} {P : Nat} (hP : I 2 7 = nI P) (hP5 : P ≤ 5) {Wk : Nat} (hW : I 2 6 = nI Wk) (hWk : Wk ≤ 12) {σ : Nat} (hσ : σ < 2 ^ P) {x : Int32} (hx : notIn x Wk) : AMet SX mX6_worth [.ref 0, .int (nI σ), .int x] I J G (PE (some (.int (-nI 1))) I J G) := by
  have hp32 : 2 ^ P ≤ 32 := Nat.pow_le_pow_right (by decide) hP5
  refine amet_en oX6_worth rfl rfl (L := [some (.ref 0), some (.int (nI σ)), some (.int x)]) rfl ?_
  refine aw_run oX6_worth sxOk 3 (pc' := 5) (L' := [some (.ref 0), some (.int (nI σ)), some (.int x)]) (st' := [.int (nI σ), .ref 2]) (I' := I) (J' := J) (G' := G) rfl ?_
  refine aw_cV (st := []) 2 [.int (nI σ)] oX4_hasSet k6_130 rfl rfl rfl rfl rfl rfl rfl rfl (oX6_worth.dec rfl) (c_hasSet_t hP (by omega) (by omega)) ?_
  refine aw_eqS (st := [.int (nI 1)]) rfl ?_
  refine aw_0eqN rfl (by omega) (oX6_worth.dec rfl) (tgt := 22) rfl (fun h8 => absurd h8 (by omega)) (fun h8 => ?_)
  refine aw_run oX6_worth sxOk 3 (pc' := 16) (L' := [some (.ref 0), some (.int (nI σ)), some (.int x)]) (st' := [.int x, .ref 2]) (I' := I) (J' := J) (G' := G) rfl ?_
  refine aw_cV (st := []) 2 [.int x] oX4_hasWeek k6_87 rfl rfl rfl rfl rfl rfl rfl rfl (oX6_worth.dec rfl) (c_hasWeek_f hW (by omega) (by assumption)) ?_
  refine aw_eqS (st := [.int (nI 0)]) rfl ?_
  refine aw_0neN rfl (by omega) (oX6_worth.dec rfl) (tgt := 24) rfl (fun h19 => absurd h19 (by omega)) (fun h19 => ?_)
  refine aw_run oX6_worth sxOk 1 (pc' := 23) (L' := [some (.ref 0), some (.int (nI σ)), some (.int x)]) (st' := [.int (-nI 1)]) (I' := I) (J' := J) (G' := G) rfl ?_
  exact aw_iret rfl (oX6_worth.dec rfl) pe_rfl
set_option maxRecDepth 20000 in
theorem c_worth_ok {I : II} {J : JJ} {G : II} {P : Nat} (hP : I 2 7 = nI P) (hP5 : P ≤ 5) {Wk : Nat} (hW : I 2 6 = nI Wk) (hWk : Wk ≤ 12) {σ : Nat} (hσ : σ < 2 ^ P) {w : Nat} (hw : w < Wk) (hsil : ∀ s, s < P → nI 0 ≤ sil (G 24) s) : AMet SX mX6_worth [.ref 0, .int (nI σ), .int (nI w)] I J G (PE (some (.int (wor (G 24) (G 16) (G 13 w) (G 12 w) P σ))) I J G) := by
  have hp32 : 2 ^ P ≤ 32 := Nat.pow_le_pow_right (by decide) hP5
  refine amet_en oX6_worth rfl rfl (L := [some (.ref 0), some (.int (nI σ)), some (.int (nI w))]) rfl ?_
  refine aw_run oX6_worth sxOk 3 (pc' := 5) (L' := [some (.ref 0), some (.int (nI σ)), some (.int (nI w))]) (st' := [.int (nI σ), .ref 2]) (I' := I) (J' := J) (G' := G) rfl ?_
  refine aw_cV (st := []) 2 [.int (nI σ)] oX4_hasSet k6_130 rfl rfl rfl rfl rfl rfl rfl rfl (oX6_worth.dec rfl) (c_hasSet_t hP (by omega) (by omega)) ?_
  refine aw_eqS (st := [.int (nI 1)]) rfl ?_
  refine aw_0eqN rfl (by omega) (oX6_worth.dec rfl) (tgt := 22) rfl (fun h8 => absurd h8 (by omega)) (fun h8 => ?_)
  refine aw_run oX6_worth sxOk 3 (pc' := 16) (L' := [some (.ref 0), some (.int (nI σ)), some (.int (nI w))]) (st' := [.int (nI w), .ref 2]) (I' := I) (J' := J) (G' := G) rfl ?_
  refine aw_cV (st := []) 2 [.int (nI w)] oX4_hasWeek k6_87 rfl rfl rfl rfl rfl rfl rfl rfl (oX6_worth.dec rfl) (c_hasWeek_t hW (by omega) (by omega)) ?_
  refine aw_eqS (st := [.int (nI 1)]) rfl ?_
  refine aw_0neN rfl (by omega) (oX6_worth.dec rfl) (tgt := 24) rfl (fun h19 => ?_) (fun h19 => absurd h19 (by omega))
  refine aw_run oX6_worth sxOk 4 (pc' := 30) (L' := [some (.ref 0), some (.int (nI σ)), some (.int (nI w))]) (st' := [.int (nI w), .int (nI σ), .ref 7]) (I' := I) (J' := J) (G' := G) rfl ?_
  refine aw_cV (st := []) 7 [.int (nI σ), .int (nI w)] oX0_worthOf k6_178 rfl rfl rfl rfl rfl rfl rfl rfl (oX6_worth.dec rfl) (c_worthOf hP (by omega) (by omega) (by omega) hsil) ?_
  refine aw_eqS (st := [.int (wor (G 24) (G 16) (G 13 w) (G 12 w) P σ)]) rfl ?_
  exact aw_iret rfl (oX6_worth.dec rfl) pe_rfl
set_option maxRecDepth 20000 in
theorem c_game_bad1 {I : II} {J : JJ} {G : II} {P : Nat} (hP : I 2 7 = nI P) (hP5 : P ≤ 5) {x y u v : Int32} (hx : notIn x (2 ^ P)) : AMet SX mX6_game [.ref 0, .int x, .int y, .int u, .int v] I J G (PE (some (.int (-nI 1))) I J G) := by
  have hp32 : 2 ^ P ≤ 32 := Nat.pow_le_pow_right (by decide) hP5
  refine amet_en oX6_game rfl rfl (L := [some (.ref 0), some (.int x), some (.int y), some (.int u), some (.int v)]) rfl ?_
  refine aw_run oX6_game sxOk 3 (pc' := 5) (L' := [some (.ref 0), some (.int x), some (.int y), some (.int u), some (.int v)]) (st' := [.int x, .ref 2]) (I' := I) (J' := J) (G' := G) rfl ?_
  refine aw_cV (st := []) 2 [.int x] oX4_hasSet k6_130 rfl rfl rfl rfl rfl rfl rfl rfl (oX6_game.dec rfl) (c_hasSet_f hP (by omega) (by assumption)) ?_
  refine aw_eqS (st := [.int (nI 0)]) rfl ?_
  refine aw_0eqN rfl (by omega) (oX6_game.dec rfl) (tgt := 46) rfl (fun h8 => ?_) (fun h8 => absurd h8 (by omega))
  refine aw_run oX6_game sxOk 1 (pc' := 47) (L' := [some (.ref 0), some (.int x), some (.int y), some (.int u), some (.int v)]) (st' := [.int (-nI 1)]) (I' := I) (J' := J) (G' := G) rfl ?_
  exact aw_iret rfl (oX6_game.dec rfl) pe_rfl
set_option maxRecDepth 20000 in
theorem c_game_bad2 {I : II} {J : JJ} {G : II} {P : Nat} (hP : I 2 7 = nI P) (hP5 : P ≤ 5) {Wk : Nat} (hW : I 2 6 = nI Wk) (hWk : Wk ≤ 12) {σ : Nat} (hσ : σ < 2 ^ P) {x u v : Int32} (hx : notIn x Wk) : AMet SX mX6_game [.ref 0, .int (nI σ), .int x, .int u, .int v] I J G (PE (some (.int (-nI 1))) I J G) := by
  have hp32 : 2 ^ P ≤ 32 := Nat.pow_le_pow_right (by decide) hP5
  refine amet_en oX6_game rfl rfl (L := [some (.ref 0), some (.int (nI σ)), some (.int x), some (.int u), some (.int v)]) rfl ?_
  refine aw_run oX6_game sxOk 3 (pc' := 5) (L' := [some (.ref 0), some (.int (nI σ)), some (.int x), some (.int u), some (.int v)]) (st' := [.int (nI σ), .ref 2]) (I' := I) (J' := J) (G' := G) rfl ?_
  refine aw_cV (st := []) 2 [.int (nI σ)] oX4_hasSet k6_130 rfl rfl rfl rfl rfl rfl rfl rfl (oX6_game.dec rfl) (c_hasSet_t hP (by omega) (by omega)) ?_
  refine aw_eqS (st := [.int (nI 1)]) rfl ?_
  refine aw_0eqN rfl (by omega) (oX6_game.dec rfl) (tgt := 46) rfl (fun h8 => absurd h8 (by omega)) (fun h8 => ?_)
  refine aw_run oX6_game sxOk 3 (pc' := 16) (L' := [some (.ref 0), some (.int (nI σ)), some (.int x), some (.int u), some (.int v)]) (st' := [.int x, .ref 2]) (I' := I) (J' := J) (G' := G) rfl ?_
  refine aw_cV (st := []) 2 [.int x] oX4_hasWeek k6_87 rfl rfl rfl rfl rfl rfl rfl rfl (oX6_game.dec rfl) (c_hasWeek_f hW (by omega) (by assumption)) ?_
  refine aw_eqS (st := [.int (nI 0)]) rfl ?_
  refine aw_0eqN rfl (by omega) (oX6_game.dec rfl) (tgt := 46) rfl (fun h19 => ?_) (fun h19 => absurd h19 (by omega))
  refine aw_run oX6_game sxOk 1 (pc' := 47) (L' := [some (.ref 0), some (.int (nI σ)), some (.int x), some (.int u), some (.int v)]) (st' := [.int (-nI 1)]) (I' := I) (J' := J) (G' := G) rfl ?_
  exact aw_iret rfl (oX6_game.dec rfl) pe_rfl
set_option maxRecDepth 20000 in
theorem c_game_bad3 {I : II} {J : JJ} {G : II} {P : Nat} (hP : I 2 7 = nI P) (hP5 : P ≤ 5) {Wk : Nat} (hW : I 2 6 = nI Wk) (hWk : Wk ≤ 12) {σ : Nat} (hσ : σ < 2 ^ P) {a : Nat} {x v : Int32} (ha : a < Wk) (hx : notIn x Wk) : AMet SX mX6_game [.ref 0, .int (nI σ), .int (nI a), .int x, .int v] I J G (PE (some (.int (-nI 1))) I J G) := by
  have hp32 : 2 ^ P ≤ 32 := Nat.pow_le_pow_right (by decide) hP5
  refine amet_en oX6_game rfl rfl (L := [some (.ref 0), some (.int (nI σ)), some (.int (nI a)), some (.int x), some (.int v)]) rfl ?_
  refine aw_run oX6_game sxOk 3 (pc' := 5) (L' := [some (.ref 0), some (.int (nI σ)), some (.int (nI a)), some (.int x), some (.int v)]) (st' := [.int (nI σ), .ref 2]) (I' := I) (J' := J) (G' := G) rfl ?_
  refine aw_cV (st := []) 2 [.int (nI σ)] oX4_hasSet k6_130 rfl rfl rfl rfl rfl rfl rfl rfl (oX6_game.dec rfl) (c_hasSet_t hP (by omega) (by omega)) ?_
  refine aw_eqS (st := [.int (nI 1)]) rfl ?_
  refine aw_0eqN rfl (by omega) (oX6_game.dec rfl) (tgt := 46) rfl (fun h8 => absurd h8 (by omega)) (fun h8 => ?_)
  refine aw_run oX6_game sxOk 3 (pc' := 16) (L' := [some (.ref 0), some (.int (nI σ)), some (.int (nI a)), some (.int x), some (.int v)]) (st' := [.int (nI a), .ref 2]) (I' := I) (J' := J) (G' := G) rfl ?_
  refine aw_cV (st := []) 2 [.int (nI a)] oX4_hasWeek k6_87 rfl rfl rfl rfl rfl rfl rfl rfl (oX6_game.dec rfl) (c_hasWeek_t hW (by omega) (by omega)) ?_
  refine aw_eqS (st := [.int (nI 1)]) rfl ?_
  refine aw_0eqN rfl (by omega) (oX6_game.dec rfl) (tgt := 46) rfl (fun h19 => absurd h19 (by omega)) (fun h19 => ?_)
  refine aw_run oX6_game sxOk 3 (pc' := 27) (L' := [some (.ref 0), some (.int (nI σ)), some (.int (nI a)), some (.int x), some (.int v)]) (st' := [.int x, .ref 2]) (I' := I) (J' := J) (G' := G) rfl ?_
  refine aw_cV (st := []) 2 [.int x] oX4_hasWeek k6_87 rfl rfl rfl rfl rfl rfl rfl rfl (oX6_game.dec rfl) (c_hasWeek_f hW (by omega) (by assumption)) ?_
  refine aw_eqS (st := [.int (nI 0)]) rfl ?_
  refine aw_0eqN rfl (by omega) (oX6_game.dec rfl) (tgt := 46) rfl (fun h30 => ?_) (fun h30 => absurd h30 (by omega))
  refine aw_run oX6_game sxOk 1 (pc' := 47) (L' := [some (.ref 0), some (.int (nI σ)), some (.int (nI a)), some (.int x), some (.int v)]) (st' := [.int (-nI 1)]) (I' := I) (J' := J) (G' := G) rfl ?_
  exact aw_iret rfl (oX6_game.dec rfl) pe_rfl
set_option maxRecDepth 20000 in
theorem c_game_bad4 {I : II} {J : JJ} {G : II} {P : Nat} (hP : I 2 7 = nI P) (hP5 : P ≤ 5) {Wk : Nat} (hW : I 2 6 = nI Wk) (hWk : Wk ≤ 12) {σ : Nat} (hσ : σ < 2 ^ P) {a : Nat} {v : Int32} (ha : a < Wk) : AMet SX mX6_game [.ref 0, .int (nI σ), .int (nI a), .int (nI a), .int v] I J G (PE (some (.int (-nI 1))) I J G) := by
  have hp32 : 2 ^ P ≤ 32 := Nat.pow_le_pow_right (by decide) hP5
  refine amet_en oX6_game rfl rfl (L := [some (.ref 0), some (.int (nI σ)), some (.int (nI a)), some (.int (nI a)), some (.int v)]) rfl ?_
  refine aw_run oX6_game sxOk 3 (pc' := 5) (L' := [some (.ref 0), some (.int (nI σ)), some (.int (nI a)), some (.int (nI a)), some (.int v)]) (st' := [.int (nI σ), .ref 2]) (I' := I) (J' := J) (G' := G) rfl ?_
  refine aw_cV (st := []) 2 [.int (nI σ)] oX4_hasSet k6_130 rfl rfl rfl rfl rfl rfl rfl rfl (oX6_game.dec rfl) (c_hasSet_t hP (by omega) (by omega)) ?_
  refine aw_eqS (st := [.int (nI 1)]) rfl ?_
  refine aw_0eqN rfl (by omega) (oX6_game.dec rfl) (tgt := 46) rfl (fun h8 => absurd h8 (by omega)) (fun h8 => ?_)
  refine aw_run oX6_game sxOk 3 (pc' := 16) (L' := [some (.ref 0), some (.int (nI σ)), some (.int (nI a)), some (.int (nI a)), some (.int v)]) (st' := [.int (nI a), .ref 2]) (I' := I) (J' := J) (G' := G) rfl ?_
  refine aw_cV (st := []) 2 [.int (nI a)] oX4_hasWeek k6_87 rfl rfl rfl rfl rfl rfl rfl rfl (oX6_game.dec rfl) (c_hasWeek_t hW (by omega) (by omega)) ?_
  refine aw_eqS (st := [.int (nI 1)]) rfl ?_
  refine aw_0eqN rfl (by omega) (oX6_game.dec rfl) (tgt := 46) rfl (fun h19 => absurd h19 (by omega)) (fun h19 => ?_)
  refine aw_run oX6_game sxOk 3 (pc' := 27) (L' := [some (.ref 0), some (.int (nI σ)), some (.int (nI a)), some (.int (nI a)), some (.int v)]) (st' := [.int (nI a), .ref 2]) (I' := I) (J' := J) (G' := G) rfl ?_
  refine aw_cV (st := []) 2 [.int (nI a)] oX4_hasWeek k6_87 rfl rfl rfl rfl rfl rfl rfl rfl (oX6_game.dec rfl) (c_hasWeek_t hW (by omega) (by omega)) ?_
  refine aw_eqS (st := [.int (nI 1)]) rfl ?_
  refine aw_0eqN rfl (by omega) (oX6_game.dec rfl) (tgt := 46) rfl (fun h30 => absurd h30 (by omega)) (fun h30 => ?_)
  refine aw_run oX6_game sxOk 2 (pc' := 35) (L' := [some (.ref 0), some (.int (nI σ)), some (.int (nI a)), some (.int (nI a)), some (.int v)]) (st' := [.int (nI a), .int (nI a)]) (I' := I) (J' := J) (G' := G) rfl ?_
  refine aw_eqN rfl rfl (by omega) (by omega) (oX6_game.dec rfl) (tgt := 46) rfl (fun h35 => ?_) (fun h35 => absurd h35 (by omega))
  refine aw_run oX6_game sxOk 1 (pc' := 47) (L' := [some (.ref 0), some (.int (nI σ)), some (.int (nI a)), some (.int (nI a)), some (.int v)]) (st' := [.int (-nI 1)]) (I' := I) (J' := J) (G' := G) rfl ?_
  exact aw_iret rfl (oX6_game.dec rfl) pe_rfl
set_option maxRecDepth 20000 in
theorem c_game_bad5 {I : II} {J : JJ} {G : II} {P : Nat} (hP : I 2 7 = nI P) (hP5 : P ≤ 5) {Wk : Nat} (hW : I 2 6 = nI Wk) (hWk : Wk ≤ 12) {σ : Nat} (hσ : σ < 2 ^ P) {a b : Nat} {x : Int32} (ha : a < Wk) (hb : b < Wk) (hab : a ≠ b) (hx : notIn x 2) : AMet SX mX6_game [.ref 0, .int (nI σ), .int (nI a), .int (nI b), .int x] I J G (PE (some (.int (-nI 1))) I J G) := by
  have hp32 : 2 ^ P ≤ 32 := Nat.pow_le_pow_right (by decide) hP5
  refine amet_en oX6_game rfl rfl (L := [some (.ref 0), some (.int (nI σ)), some (.int (nI a)), some (.int (nI b)), some (.int x)]) rfl ?_
  refine aw_run oX6_game sxOk 3 (pc' := 5) (L' := [some (.ref 0), some (.int (nI σ)), some (.int (nI a)), some (.int (nI b)), some (.int x)]) (st' := [.int (nI σ), .ref 2]) (I' := I) (J' := J) (G' := G) rfl ?_
  refine aw_cV (st := []) 2 [.int (nI σ)] oX4_hasSet k6_130 rfl rfl rfl rfl rfl rfl rfl rfl (oX6_game.dec rfl) (c_hasSet_t hP (by omega) (by omega)) ?_
  refine aw_eqS (st := [.int (nI 1)]) rfl ?_
  refine aw_0eqN rfl (by omega) (oX6_game.dec rfl) (tgt := 46) rfl (fun h8 => absurd h8 (by omega)) (fun h8 => ?_)
  refine aw_run oX6_game sxOk 3 (pc' := 16) (L' := [some (.ref 0), some (.int (nI σ)), some (.int (nI a)), some (.int (nI b)), some (.int x)]) (st' := [.int (nI a), .ref 2]) (I' := I) (J' := J) (G' := G) rfl ?_
  refine aw_cV (st := []) 2 [.int (nI a)] oX4_hasWeek k6_87 rfl rfl rfl rfl rfl rfl rfl rfl (oX6_game.dec rfl) (c_hasWeek_t hW (by omega) (by omega)) ?_
  refine aw_eqS (st := [.int (nI 1)]) rfl ?_
  refine aw_0eqN rfl (by omega) (oX6_game.dec rfl) (tgt := 46) rfl (fun h19 => absurd h19 (by omega)) (fun h19 => ?_)
  refine aw_run oX6_game sxOk 3 (pc' := 27) (L' := [some (.ref 0), some (.int (nI σ)), some (.int (nI a)), some (.int (nI b)), some (.int x)]) (st' := [.int (nI b), .ref 2]) (I' := I) (J' := J) (G' := G) rfl ?_
  refine aw_cV (st := []) 2 [.int (nI b)] oX4_hasWeek k6_87 rfl rfl rfl rfl rfl rfl rfl rfl (oX6_game.dec rfl) (c_hasWeek_t hW (by omega) (by omega)) ?_
  refine aw_eqS (st := [.int (nI 1)]) rfl ?_
  refine aw_0eqN rfl (by omega) (oX6_game.dec rfl) (tgt := 46) rfl (fun h30 => absurd h30 (by omega)) (fun h30 => ?_)
  refine aw_run oX6_game sxOk 2 (pc' := 35) (L' := [some (.ref 0), some (.int (nI σ)), some (.int (nI a)), some (.int (nI b)), some (.int x)]) (st' := [.int (nI b), .int (nI a)]) (I' := I) (J' := J) (G' := G) rfl ?_
  refine aw_eqN rfl rfl (by omega) (by omega) (oX6_game.dec rfl) (tgt := 46) rfl (fun h35 => absurd h35 (by omega)) (fun h35 => ?_)
  refine aw_run oX6_game sxOk 1 (pc' := 40) (L' := [some (.ref 0), some (.int (nI σ)), some (.int (nI a)), some (.int (nI b)), some (.int x)]) (st' := [.int x]) (I' := I) (J' := J) (G' := G) rfl ?_
  refine aw_cS (st := []) [.int x] oX6_isNoHalf k6_187 rfl rfl rfl rfl rfl (oX6_game.dec rfl) (c_isNoHalf_f (by assumption)) ?_
  refine aw_eqS (st := [.int (nI 1)]) rfl ?_
  refine aw_0eqN rfl (by omega) (oX6_game.dec rfl) (tgt := 48) rfl (fun h43 => absurd h43 (by omega)) (fun h43 => ?_)
  refine aw_run oX6_game sxOk 1 (pc' := 47) (L' := [some (.ref 0), some (.int (nI σ)), some (.int (nI a)), some (.int (nI b)), some (.int x)]) (st' := [.int (-nI 1)]) (I' := I) (J' := J) (G' := G) rfl ?_
  exact aw_iret rfl (oX6_game.dec rfl) pe_rfl
set_option maxRecDepth 20000 in
theorem c_game_0 {I : II} {J : JJ} {G : II} {P : Nat} (hP : I 2 7 = nI P) (hP5 : P ≤ 5) {Wk : Nat} (hW : I 2 6 = nI Wk) (hWk : Wk ≤ 12) {σ : Nat} (hσ : σ < 2 ^ P) {a b : Nat} (ha : a < Wk) (hb : b < Wk) (hab : a ≠ b) (hsil : ∀ s, s < P → nI 0 ≤ sil (G 24) s) {α A β B : Nat} (hα : wor (G 24) (G 16) (G 13 a) (G 12 a) P σ = nI α) (hβ : wor (G 24) (G 16) (G 13 b) (G 12 b) P σ = nI β) (hA : (sumS (sil (G 24)) σ P) * (nI 10 - (G 12 a)) = nI A) (hB : (sumS (sil (G 24)) σ P) * (nI 10 - (G 12 b)) = nI B) (h1 : α ≤ A) (h2 : β ≤ B) (h3 : A ≤ 6000) (h4 : B ≤ 6000) : AMet SX mX6_game [.ref 0, .int (nI σ), .int (nI a), .int (nI b), .int (nI 0)] I J G (PE (some (.int (nI (frU (gFr α A β B))))) (up2 (up2 I 7 3 (nI (frU (gFr α A β B)))) 7 4 (nI (frL (gFr α A β B)))) J G) := by
  have hp32 : 2 ^ P ≤ 32 := Nat.pow_le_pow_right (by decide) hP5
  refine amet_en oX6_game rfl rfl (L := [some (.ref 0), some (.int (nI σ)), some (.int (nI a)), some (.int (nI b)), some (.int (nI 0))]) rfl ?_
  refine aw_run oX6_game sxOk 3 (pc' := 5) (L' := [some (.ref 0), some (.int (nI σ)), some (.int (nI a)), some (.int (nI b)), some (.int (nI 0))]) (st' := [.int (nI σ), .ref 2]) (I' := I) (J' := J) (G' := G) rfl ?_
  refine aw_cV (st := []) 2 [.int (nI σ)] oX4_hasSet k6_130 rfl rfl rfl rfl rfl rfl rfl rfl (oX6_game.dec rfl) (c_hasSet_t hP (by omega) (by omega)) ?_
  refine aw_eqS (st := [.int (nI 1)]) rfl ?_
  refine aw_0eqN rfl (by omega) (oX6_game.dec rfl) (tgt := 46) rfl (fun h8 => absurd h8 (by omega)) (fun h8 => ?_)
  refine aw_run oX6_game sxOk 3 (pc' := 16) (L' := [some (.ref 0), some (.int (nI σ)), some (.int (nI a)), some (.int (nI b)), some (.int (nI 0))]) (st' := [.int (nI a), .ref 2]) (I' := I) (J' := J) (G' := G) rfl ?_
  refine aw_cV (st := []) 2 [.int (nI a)] oX4_hasWeek k6_87 rfl rfl rfl rfl rfl rfl rfl rfl (oX6_game.dec rfl) (c_hasWeek_t hW (by omega) (by omega)) ?_
  refine aw_eqS (st := [.int (nI 1)]) rfl ?_
  refine aw_0eqN rfl (by omega) (oX6_game.dec rfl) (tgt := 46) rfl (fun h19 => absurd h19 (by omega)) (fun h19 => ?_)
  refine aw_run oX6_game sxOk 3 (pc' := 27) (L' := [some (.ref 0), some (.int (nI σ)), some (.int (nI a)), some (.int (nI b)), some (.int (nI 0))]) (st' := [.int (nI b), .ref 2]) (I' := I) (J' := J) (G' := G) rfl ?_
  refine aw_cV (st := []) 2 [.int (nI b)] oX4_hasWeek k6_87 rfl rfl rfl rfl rfl rfl rfl rfl (oX6_game.dec rfl) (c_hasWeek_t hW (by omega) (by omega)) ?_
  refine aw_eqS (st := [.int (nI 1)]) rfl ?_
  refine aw_0eqN rfl (by omega) (oX6_game.dec rfl) (tgt := 46) rfl (fun h30 => absurd h30 (by omega)) (fun h30 => ?_)
  refine aw_run oX6_game sxOk 2 (pc' := 35) (L' := [some (.ref 0), some (.int (nI σ)), some (.int (nI a)), some (.int (nI b)), some (.int (nI 0))]) (st' := [.int (nI b), .int (nI a)]) (I' := I) (J' := J) (G' := G) rfl ?_
  refine aw_eqN rfl rfl (by omega) (by omega) (oX6_game.dec rfl) (tgt := 46) rfl (fun h35 => absurd h35 (by omega)) (fun h35 => ?_)
  refine aw_run oX6_game sxOk 1 (pc' := 40) (L' := [some (.ref 0), some (.int (nI σ)), some (.int (nI a)), some (.int (nI b)), some (.int (nI 0))]) (st' := [.int (nI 0)]) (I' := I) (J' := J) (G' := G) rfl ?_
  refine aw_cS (st := []) [.int (nI 0)] oX6_isNoHalf k6_187 rfl rfl rfl rfl rfl (oX6_game.dec rfl) c_isNoHalf_0 ?_
  refine aw_eqS (st := [.int (nI 0)]) rfl ?_
  refine aw_0eqN rfl (by omega) (oX6_game.dec rfl) (tgt := 48) rfl (fun h43 => ?_) (fun h43 => absurd h43 (by omega))
  refine aw_run oX6_game sxOk 5 (pc' := 55) (L' := [some (.ref 0), some (.int (nI σ)), some (.int (nI a)), some (.int (nI b)), some (.int (nI 0))]) (st' := [.int (nI b), .int (nI a), .int (nI σ), .ref 7]) (I' := I) (J' := J) (G' := G) rfl ?_
  refine aw_cV (st := []) 7 [.int (nI σ), .int (nI a), .int (nI b)] oX0_reckonGame k6_190 rfl rfl rfl rfl rfl rfl rfl rfl (oX6_game.dec rfl) (c_reckonGame hP (by omega) (by omega) (by omega) (by omega) hsil hα hβ hA hB h1 h2 h3 h4) ?_
  refine aw_eqS (st := []) rfl ?_
  refine aw_run oX6_game sxOk 1 (pc' := 60) (L' := [some (.ref 0), some (.int (nI σ)), some (.int (nI a)), some (.int (nI b)), some (.int (nI 0))]) (st' := [.int (nI 0)]) (I' := up2 (up2 I 7 3 (nI (frU (gFr α A β B)))) 7 4 (nI (frL (gFr α A β B)))) (J' := J) (G' := G) rfl ?_
  refine aw_0neN rfl (by omega) (oX6_game.dec rfl) (tgt := 73) rfl (fun h60 => absurd h60 (by omega)) (fun h60 => ?_)
  refine aw_run oX6_game sxOk 4 (pc' := 80) (L' := [some (.ref 0), some (.int (nI σ)), some (.int (nI a)), some (.int (nI b)), some (.int (nI 0))]) (st' := [.int (nI (frU (gFr α A β B)))]) (I' := up2 (up2 I 7 3 (nI (frU (gFr α A β B)))) 7 4 (nI (frL (gFr α A β B)))) (J' := J) (G' := G) rfl ?_
  exact aw_iret rfl (oX6_game.dec rfl) pe_rfl
set_option maxRecDepth 20000 in
theorem c_game_1 {I : II} {J : JJ} {G : II} {P : Nat} (hP : I 2 7 = nI P) (hP5 : P ≤ 5) {Wk : Nat} (hW : I 2 6 = nI Wk) (hWk : Wk ≤ 12) {σ : Nat} (hσ : σ < 2 ^ P) {a b : Nat} (ha : a < Wk) (hb : b < Wk) (hab : a ≠ b) (hsil : ∀ s, s < P → nI 0 ≤ sil (G 24) s) {α A β B : Nat} (hα : wor (G 24) (G 16) (G 13 a) (G 12 a) P σ = nI α) (hβ : wor (G 24) (G 16) (G 13 b) (G 12 b) P σ = nI β) (hA : (sumS (sil (G 24)) σ P) * (nI 10 - (G 12 a)) = nI A) (hB : (sumS (sil (G 24)) σ P) * (nI 10 - (G 12 b)) = nI B) (h1 : α ≤ A) (h2 : β ≤ B) (h3 : A ≤ 6000) (h4 : B ≤ 6000) : AMet SX mX6_game [.ref 0, .int (nI σ), .int (nI a), .int (nI b), .int (nI 1)] I J G (PE (some (.int (nI (frL (gFr α A β B))))) (up2 (up2 I 7 3 (nI (frU (gFr α A β B)))) 7 4 (nI (frL (gFr α A β B)))) J G) := by
  have hp32 : 2 ^ P ≤ 32 := Nat.pow_le_pow_right (by decide) hP5
  refine amet_en oX6_game rfl rfl (L := [some (.ref 0), some (.int (nI σ)), some (.int (nI a)), some (.int (nI b)), some (.int (nI 1))]) rfl ?_
  refine aw_run oX6_game sxOk 3 (pc' := 5) (L' := [some (.ref 0), some (.int (nI σ)), some (.int (nI a)), some (.int (nI b)), some (.int (nI 1))]) (st' := [.int (nI σ), .ref 2]) (I' := I) (J' := J) (G' := G) rfl ?_
  refine aw_cV (st := []) 2 [.int (nI σ)] oX4_hasSet k6_130 rfl rfl rfl rfl rfl rfl rfl rfl (oX6_game.dec rfl) (c_hasSet_t hP (by omega) (by omega)) ?_
  refine aw_eqS (st := [.int (nI 1)]) rfl ?_
  refine aw_0eqN rfl (by omega) (oX6_game.dec rfl) (tgt := 46) rfl (fun h8 => absurd h8 (by omega)) (fun h8 => ?_)
  refine aw_run oX6_game sxOk 3 (pc' := 16) (L' := [some (.ref 0), some (.int (nI σ)), some (.int (nI a)), some (.int (nI b)), some (.int (nI 1))]) (st' := [.int (nI a), .ref 2]) (I' := I) (J' := J) (G' := G) rfl ?_
  refine aw_cV (st := []) 2 [.int (nI a)] oX4_hasWeek k6_87 rfl rfl rfl rfl rfl rfl rfl rfl (oX6_game.dec rfl) (c_hasWeek_t hW (by omega) (by omega)) ?_
  refine aw_eqS (st := [.int (nI 1)]) rfl ?_
  refine aw_0eqN rfl (by omega) (oX6_game.dec rfl) (tgt := 46) rfl (fun h19 => absurd h19 (by omega)) (fun h19 => ?_)
  refine aw_run oX6_game sxOk 3 (pc' := 27) (L' := [some (.ref 0), some (.int (nI σ)), some (.int (nI a)), some (.int (nI b)), some (.int (nI 1))]) (st' := [.int (nI b), .ref 2]) (I' := I) (J' := J) (G' := G) rfl ?_
  refine aw_cV (st := []) 2 [.int (nI b)] oX4_hasWeek k6_87 rfl rfl rfl rfl rfl rfl rfl rfl (oX6_game.dec rfl) (c_hasWeek_t hW (by omega) (by omega)) ?_
  refine aw_eqS (st := [.int (nI 1)]) rfl ?_
  refine aw_0eqN rfl (by omega) (oX6_game.dec rfl) (tgt := 46) rfl (fun h30 => absurd h30 (by omega)) (fun h30 => ?_)
  refine aw_run oX6_game sxOk 2 (pc' := 35) (L' := [some (.ref 0), some (.int (nI σ)), some (.int (nI a)), some (.int (nI b)), some (.int (nI 1))]) (st' := [.int (nI b), .int (nI a)]) (I' := I) (J' := J) (G' := G) rfl ?_
  refine aw_eqN rfl rfl (by omega) (by omega) (oX6_game.dec rfl) (tgt := 46) rfl (fun h35 => absurd h35 (by omega)) (fun h35 => ?_)
  refine aw_run oX6_game sxOk 1 (pc' := 40) (L' := [some (.ref 0), some (.int (nI σ)), some (.int (nI a)), some (.int (nI b)), some (.int (nI 1))]) (st' := [.int (nI 1)]) (I' := I) (J' := J) (G' := G) rfl ?_
  refine aw_cS (st := []) [.int (nI 1)] oX6_isNoHalf k6_187 rfl rfl rfl rfl rfl (oX6_game.dec rfl) c_isNoHalf_1 ?_
  refine aw_eqS (st := [.int (nI 0)]) rfl ?_
  refine aw_0eqN rfl (by omega) (oX6_game.dec rfl) (tgt := 48) rfl (fun h43 => ?_) (fun h43 => absurd h43 (by omega))
  refine aw_run oX6_game sxOk 5 (pc' := 55) (L' := [some (.ref 0), some (.int (nI σ)), some (.int (nI a)), some (.int (nI b)), some (.int (nI 1))]) (st' := [.int (nI b), .int (nI a), .int (nI σ), .ref 7]) (I' := I) (J' := J) (G' := G) rfl ?_
  refine aw_cV (st := []) 7 [.int (nI σ), .int (nI a), .int (nI b)] oX0_reckonGame k6_190 rfl rfl rfl rfl rfl rfl rfl rfl (oX6_game.dec rfl) (c_reckonGame hP (by omega) (by omega) (by omega) (by omega) hsil hα hβ hA hB h1 h2 h3 h4) ?_
  refine aw_eqS (st := []) rfl ?_
  refine aw_run oX6_game sxOk 1 (pc' := 60) (L' := [some (.ref 0), some (.int (nI σ)), some (.int (nI a)), some (.int (nI b)), some (.int (nI 1))]) (st' := [.int (nI 1)]) (I' := up2 (up2 I 7 3 (nI (frU (gFr α A β B)))) 7 4 (nI (frL (gFr α A β B)))) (J' := J) (G' := G) rfl ?_
  refine aw_0neN rfl (by omega) (oX6_game.dec rfl) (tgt := 73) rfl (fun h60 => ?_) (fun h60 => absurd h60 (by omega))
  refine aw_run oX6_game sxOk 3 (pc' := 80) (L' := [some (.ref 0), some (.int (nI σ)), some (.int (nI a)), some (.int (nI b)), some (.int (nI 1))]) (st' := [.int (nI (frL (gFr α A β B)))]) (I' := up2 (up2 I 7 3 (nI (frU (gFr α A β B)))) 7 4 (nI (frL (gFr α A β B)))) (J' := J) (G' := G) rfl ?_
  exact aw_iret rfl (oX6_game.dec rfl) pe_rfl
set_option maxRecDepth 20000 in
theorem c_odds_bad0 {I : II} {J : JJ} {G : II} {y u v : Int32} : AMet SX mX6_odds [.ref 0, .int (nI 0), .int y, .int u, .int v] I J G (PE (some (.int (-nI 1))) I J G) := by
  refine amet_en oX6_odds rfl rfl (L := [some (.ref 0), some (.int (nI 0)), some (.int y), some (.int u), some (.int v)]) rfl ?_
  refine aw_run oX6_odds sxOk 1 (pc' := 1) (L' := [some (.ref 0), some (.int (nI 0)), some (.int y), some (.int u), some (.int v)]) (st' := [.int (nI 0)]) (I' := I) (J' := J) (G' := G) rfl ?_
  refine aw_0eqN rfl (by omega) (oX6_odds.dec rfl) (tgt := 43) rfl (fun h1 => ?_) (fun h1 => absurd h1 (by omega))
  refine aw_run oX6_odds sxOk 1 (pc' := 44) (L' := [some (.ref 0), some (.int (nI 0)), some (.int y), some (.int u), some (.int v)]) (st' := [.int (-nI 1)]) (I' := I) (J' := J) (G' := G) rfl ?_
  exact aw_iret rfl (oX6_odds.dec rfl) pe_rfl
set_option maxRecDepth 20000 in
theorem c_odds_bad1 {I : II} {J : JJ} {G : II} {P : Nat} (hP : I 2 7 = nI P) (hP5 : P ≤ 5) {x y u v : Int32} (hx : notIn x (2 ^ P)) : AMet SX mX6_odds [.ref 0, .int x, .int y, .int u, .int v] I J G (PE (some (.int (-nI 1))) I J G) := by
  have hp32 : 2 ^ P ≤ 32 := Nat.pow_le_pow_right (by decide) hP5
  refine amet_en oX6_odds rfl rfl (L := [some (.ref 0), some (.int x), some (.int y), some (.int u), some (.int v)]) rfl ?_
  refine aw_run oX6_odds sxOk 1 (pc' := 1) (L' := [some (.ref 0), some (.int x), some (.int y), some (.int u), some (.int v)]) (st' := [.int x]) (I' := I) (J' := J) (G' := G) rfl ?_
  refine aw_if_eq (oX6_odds.dec rfl) (tgt := 43) rfl (fun h1 => absurd h1 (hx 0 (Nat.pow_pos (by decide)))) (fun h1 => ?_)
  refine aw_run oX6_odds sxOk 3 (pc' := 9) (L' := [some (.ref 0), some (.int x), some (.int y), some (.int u), some (.int v)]) (st' := [.int x, .ref 2]) (I' := I) (J' := J) (G' := G) rfl ?_
  refine aw_cV (st := []) 2 [.int x] oX4_hasSet k6_130 rfl rfl rfl rfl rfl rfl rfl rfl (oX6_odds.dec rfl) (c_hasSet_f hP (by omega) (by assumption)) ?_
  refine aw_eqS (st := [.int (nI 0)]) rfl ?_
  refine aw_0eqN rfl (by omega) (oX6_odds.dec rfl) (tgt := 43) rfl (fun h12 => ?_) (fun h12 => absurd h12 (by omega))
  refine aw_run oX6_odds sxOk 1 (pc' := 44) (L' := [some (.ref 0), some (.int x), some (.int y), some (.int u), some (.int v)]) (st' := [.int (-nI 1)]) (I' := I) (J' := J) (G' := G) rfl ?_
  exact aw_iret rfl (oX6_odds.dec rfl) pe_rfl
set_option maxRecDepth 20000 in
theorem c_odds_bad2 {I : II} {J : JJ} {G : II} {P : Nat} (hP : I 2 7 = nI P) (hP5 : P ≤ 5) {Wk : Nat} (hW : I 2 6 = nI Wk) (hWk : Wk ≤ 12) {σ : Nat} (hσ : σ < 2 ^ P) (hσ0 : σ ≠ 0) {x u v : Int32} (hx : notIn x Wk) : AMet SX mX6_odds [.ref 0, .int (nI σ), .int x, .int u, .int v] I J G (PE (some (.int (-nI 1))) I J G) := by
  have hp32 : 2 ^ P ≤ 32 := Nat.pow_le_pow_right (by decide) hP5
  refine amet_en oX6_odds rfl rfl (L := [some (.ref 0), some (.int (nI σ)), some (.int x), some (.int u), some (.int v)]) rfl ?_
  refine aw_run oX6_odds sxOk 1 (pc' := 1) (L' := [some (.ref 0), some (.int (nI σ)), some (.int x), some (.int u), some (.int v)]) (st' := [.int (nI σ)]) (I' := I) (J' := J) (G' := G) rfl ?_
  refine aw_0eqN rfl (by omega) (oX6_odds.dec rfl) (tgt := 43) rfl (fun h1 => absurd h1 (by omega)) (fun h1 => ?_)
  refine aw_run oX6_odds sxOk 3 (pc' := 9) (L' := [some (.ref 0), some (.int (nI σ)), some (.int x), some (.int u), some (.int v)]) (st' := [.int (nI σ), .ref 2]) (I' := I) (J' := J) (G' := G) rfl ?_
  refine aw_cV (st := []) 2 [.int (nI σ)] oX4_hasSet k6_130 rfl rfl rfl rfl rfl rfl rfl rfl (oX6_odds.dec rfl) (c_hasSet_t hP (by omega) (by omega)) ?_
  refine aw_eqS (st := [.int (nI 1)]) rfl ?_
  refine aw_0eqN rfl (by omega) (oX6_odds.dec rfl) (tgt := 43) rfl (fun h12 => absurd h12 (by omega)) (fun h12 => ?_)
  refine aw_run oX6_odds sxOk 3 (pc' := 20) (L' := [some (.ref 0), some (.int (nI σ)), some (.int x), some (.int u), some (.int v)]) (st' := [.int x, .ref 2]) (I' := I) (J' := J) (G' := G) rfl ?_
  refine aw_cV (st := []) 2 [.int x] oX4_hasWeek k6_87 rfl rfl rfl rfl rfl rfl rfl rfl (oX6_odds.dec rfl) (c_hasWeek_f hW (by omega) (by assumption)) ?_
  refine aw_eqS (st := [.int (nI 0)]) rfl ?_
  refine aw_0eqN rfl (by omega) (oX6_odds.dec rfl) (tgt := 43) rfl (fun h23 => ?_) (fun h23 => absurd h23 (by omega))
  refine aw_run oX6_odds sxOk 1 (pc' := 44) (L' := [some (.ref 0), some (.int (nI σ)), some (.int x), some (.int u), some (.int v)]) (st' := [.int (-nI 1)]) (I' := I) (J' := J) (G' := G) rfl ?_
  exact aw_iret rfl (oX6_odds.dec rfl) pe_rfl
set_option maxRecDepth 20000 in
theorem c_odds_bad3 {I : II} {J : JJ} {G : II} {P : Nat} (hP : I 2 7 = nI P) (hP5 : P ≤ 5) {Wk : Nat} (hW : I 2 6 = nI Wk) (hWk : Wk ≤ 12) {σ : Nat} (hσ : σ < 2 ^ P) (hσ0 : σ ≠ 0) {w : Nat} {x v : Int32} (hw : w < Wk) (hx : notIn x 6) : AMet SX mX6_odds [.ref 0, .int (nI σ), .int (nI w), .int x, .int v] I J G (PE (some (.int (-nI 1))) I J G) := by
  have hp32 : 2 ^ P ≤ 32 := Nat.pow_le_pow_right (by decide) hP5
  refine amet_en oX6_odds rfl rfl (L := [some (.ref 0), some (.int (nI σ)), some (.int (nI w)), some (.int x), some (.int v)]) rfl ?_
  refine aw_run oX6_odds sxOk 1 (pc' := 1) (L' := [some (.ref 0), some (.int (nI σ)), some (.int (nI w)), some (.int x), some (.int v)]) (st' := [.int (nI σ)]) (I' := I) (J' := J) (G' := G) rfl ?_
  refine aw_0eqN rfl (by omega) (oX6_odds.dec rfl) (tgt := 43) rfl (fun h1 => absurd h1 (by omega)) (fun h1 => ?_)
  refine aw_run oX6_odds sxOk 3 (pc' := 9) (L' := [some (.ref 0), some (.int (nI σ)), some (.int (nI w)), some (.int x), some (.int v)]) (st' := [.int (nI σ), .ref 2]) (I' := I) (J' := J) (G' := G) rfl ?_
  refine aw_cV (st := []) 2 [.int (nI σ)] oX4_hasSet k6_130 rfl rfl rfl rfl rfl rfl rfl rfl (oX6_odds.dec rfl) (c_hasSet_t hP (by omega) (by omega)) ?_
  refine aw_eqS (st := [.int (nI 1)]) rfl ?_
  refine aw_0eqN rfl (by omega) (oX6_odds.dec rfl) (tgt := 43) rfl (fun h12 => absurd h12 (by omega)) (fun h12 => ?_)
  refine aw_run oX6_odds sxOk 3 (pc' := 20) (L' := [some (.ref 0), some (.int (nI σ)), some (.int (nI w)), some (.int x), some (.int v)]) (st' := [.int (nI w), .ref 2]) (I' := I) (J' := J) (G' := G) rfl ?_
  refine aw_cV (st := []) 2 [.int (nI w)] oX4_hasWeek k6_87 rfl rfl rfl rfl rfl rfl rfl rfl (oX6_odds.dec rfl) (c_hasWeek_t hW (by omega) (by omega)) ?_
  refine aw_eqS (st := [.int (nI 1)]) rfl ?_
  refine aw_0eqN rfl (by omega) (oX6_odds.dec rfl) (tgt := 43) rfl (fun h23 => absurd h23 (by omega)) (fun h23 => ?_)
  refine aw_run oX6_odds sxOk 1 (pc' := 27) (L' := [some (.ref 0), some (.int (nI σ)), some (.int (nI w)), some (.int x), some (.int v)]) (st' := [.int x]) (I' := I) (J' := J) (G' := G) rfl ?_
  refine aw_if_lt (oX6_odds.dec rfl) (tgt := 43) rfl (fun h27 => ?_) (fun h27 => ?_)
  · refine aw_run oX6_odds sxOk 1 (pc' := 44) (L' := [some (.ref 0), some (.int (nI σ)), some (.int (nI w)), some (.int x), some (.int v)]) (st' := [.int (-nI 1)]) (I' := I) (J' := J) (G' := G) rfl ?_
    exact aw_iret rfl (oX6_odds.dec rfl) pe_rfl
  · refine aw_run oX6_odds sxOk 2 (pc' := 32) (L' := [some (.ref 0), some (.int (nI σ)), some (.int (nI w)), some (.int x), some (.int v)]) (st' := [.int (nI 5), .int x]) (I' := I) (J' := J) (G' := G) rfl ?_
    refine aw_icmp_gt (oX6_odds.dec rfl) (tgt := 43) rfl (fun h32 => ?_) (fun h32 => absurd (notIn_gt hx (by decide) h27) h32)
    refine aw_run oX6_odds sxOk 1 (pc' := 44) (L' := [some (.ref 0), some (.int (nI σ)), some (.int (nI w)), some (.int x), some (.int v)]) (st' := [.int (-nI 1)]) (I' := I) (J' := J) (G' := G) rfl ?_
    exact aw_iret rfl (oX6_odds.dec rfl) pe_rfl
set_option maxRecDepth 20000 in
theorem c_odds_bad4 {I : II} {J : JJ} {G : II} {P : Nat} (hP : I 2 7 = nI P) (hP5 : P ≤ 5) {Wk : Nat} (hW : I 2 6 = nI Wk) (hWk : Wk ≤ 12) {σ : Nat} (hσ : σ < 2 ^ P) (hσ0 : σ ≠ 0) {w k : Nat} {x : Int32} (hw : w < Wk) (hk : k ≤ 5) (hx : notIn x 2) : AMet SX mX6_odds [.ref 0, .int (nI σ), .int (nI w), .int (nI k), .int x] I J G (PE (some (.int (-nI 1))) I J G) := by
  have hp32 : 2 ^ P ≤ 32 := Nat.pow_le_pow_right (by decide) hP5
  refine amet_en oX6_odds rfl rfl (L := [some (.ref 0), some (.int (nI σ)), some (.int (nI w)), some (.int (nI k)), some (.int x)]) rfl ?_
  refine aw_run oX6_odds sxOk 1 (pc' := 1) (L' := [some (.ref 0), some (.int (nI σ)), some (.int (nI w)), some (.int (nI k)), some (.int x)]) (st' := [.int (nI σ)]) (I' := I) (J' := J) (G' := G) rfl ?_
  refine aw_0eqN rfl (by omega) (oX6_odds.dec rfl) (tgt := 43) rfl (fun h1 => absurd h1 (by omega)) (fun h1 => ?_)
  refine aw_run oX6_odds sxOk 3 (pc' := 9) (L' := [some (.ref 0), some (.int (nI σ)), some (.int (nI w)), some (.int (nI k)), some (.int x)]) (st' := [.int (nI σ), .ref 2]) (I' := I) (J' := J) (G' := G) rfl ?_
  refine aw_cV (st := []) 2 [.int (nI σ)] oX4_hasSet k6_130 rfl rfl rfl rfl rfl rfl rfl rfl (oX6_odds.dec rfl) (c_hasSet_t hP (by omega) (by omega)) ?_
  refine aw_eqS (st := [.int (nI 1)]) rfl ?_
  refine aw_0eqN rfl (by omega) (oX6_odds.dec rfl) (tgt := 43) rfl (fun h12 => absurd h12 (by omega)) (fun h12 => ?_)
  refine aw_run oX6_odds sxOk 3 (pc' := 20) (L' := [some (.ref 0), some (.int (nI σ)), some (.int (nI w)), some (.int (nI k)), some (.int x)]) (st' := [.int (nI w), .ref 2]) (I' := I) (J' := J) (G' := G) rfl ?_
  refine aw_cV (st := []) 2 [.int (nI w)] oX4_hasWeek k6_87 rfl rfl rfl rfl rfl rfl rfl rfl (oX6_odds.dec rfl) (c_hasWeek_t hW (by omega) (by omega)) ?_
  refine aw_eqS (st := [.int (nI 1)]) rfl ?_
  refine aw_0eqN rfl (by omega) (oX6_odds.dec rfl) (tgt := 43) rfl (fun h23 => absurd h23 (by omega)) (fun h23 => ?_)
  refine aw_run oX6_odds sxOk 1 (pc' := 27) (L' := [some (.ref 0), some (.int (nI σ)), some (.int (nI w)), some (.int (nI k)), some (.int x)]) (st' := [.int (nI k)]) (I' := I) (J' := J) (G' := G) rfl ?_
  refine aw_0ltN rfl (by omega) (oX6_odds.dec rfl) (tgt := 43) rfl ?_
  refine aw_run oX6_odds sxOk 2 (pc' := 32) (L' := [some (.ref 0), some (.int (nI σ)), some (.int (nI w)), some (.int (nI k)), some (.int x)]) (st' := [.int (nI 5), .int (nI k)]) (I' := I) (J' := J) (G' := G) rfl ?_
  refine aw_gtN rfl rfl (by omega) (by omega) (oX6_odds.dec rfl) (tgt := 43) rfl (fun h32 => absurd h32 (by omega)) (fun h32 => ?_)
  refine aw_run oX6_odds sxOk 1 (pc' := 37) (L' := [some (.ref 0), some (.int (nI σ)), some (.int (nI w)), some (.int (nI k)), some (.int x)]) (st' := [.int x]) (I' := I) (J' := J) (G' := G) rfl ?_
  refine aw_cS (st := []) [.int x] oX6_isNoHalf k6_187 rfl rfl rfl rfl rfl (oX6_odds.dec rfl) (c_isNoHalf_f (by assumption)) ?_
  refine aw_eqS (st := [.int (nI 1)]) rfl ?_
  refine aw_0eqN rfl (by omega) (oX6_odds.dec rfl) (tgt := 45) rfl (fun h40 => absurd h40 (by omega)) (fun h40 => ?_)
  refine aw_run oX6_odds sxOk 1 (pc' := 44) (L' := [some (.ref 0), some (.int (nI σ)), some (.int (nI w)), some (.int (nI k)), some (.int x)]) (st' := [.int (-nI 1)]) (I' := I) (J' := J) (G' := G) rfl ?_
  exact aw_iret rfl (oX6_odds.dec rfl) pe_rfl
set_option maxRecDepth 20000 in
theorem c_odds_0 {I : II} {J : JJ} {G : II} {P : Nat} (hP : I 2 7 = nI P) (hP5 : P ≤ 5) {Wk : Nat} (hW : I 2 6 = nI Wk) (hWk : Wk ≤ 12) {σ : Nat} (hσ : σ < 2 ^ P) (hσ0 : σ ≠ 0) {w k τ : Nat} (hw : w < Wk) (hk : k ≤ 5) (hτ : G 12 w = nI τ) (hτ10 : τ ≤ 10) (hsil : ∀ s, s < P → nI 0 ≤ sil (G 24) s) : AMet SX mX6_odds [.ref 0, .int (nI σ), .int (nI w), .int (nI k), .int (nI 0)] I J G (fun r I' J' G' => r = some (.int (nI (frU (oFr σ (tak (G 24) (G 16) (G 13 w) P σ) P τ k)))) ∧ J' = J ∧ (∃ u v, I' = up2 (up2 I 7 3 u) 7 4 v) ∧ ∃ f, G' = va_up G 30 f) := by
  have hp32 : 2 ^ P ≤ 32 := Nat.pow_le_pow_right (by decide) hP5
  refine amet_en oX6_odds rfl rfl (L := [some (.ref 0), some (.int (nI σ)), some (.int (nI w)), some (.int (nI k)), some (.int (nI 0))]) rfl ?_
  refine aw_run oX6_odds sxOk 1 (pc' := 1) (L' := [some (.ref 0), some (.int (nI σ)), some (.int (nI w)), some (.int (nI k)), some (.int (nI 0))]) (st' := [.int (nI σ)]) (I' := I) (J' := J) (G' := G) rfl ?_
  refine aw_0eqN rfl (by omega) (oX6_odds.dec rfl) (tgt := 43) rfl (fun h1 => absurd h1 (by omega)) (fun h1 => ?_)
  refine aw_run oX6_odds sxOk 3 (pc' := 9) (L' := [some (.ref 0), some (.int (nI σ)), some (.int (nI w)), some (.int (nI k)), some (.int (nI 0))]) (st' := [.int (nI σ), .ref 2]) (I' := I) (J' := J) (G' := G) rfl ?_
  refine aw_cV (st := []) 2 [.int (nI σ)] oX4_hasSet k6_130 rfl rfl rfl rfl rfl rfl rfl rfl (oX6_odds.dec rfl) (c_hasSet_t hP (by omega) (by omega)) ?_
  refine aw_eqS (st := [.int (nI 1)]) rfl ?_
  refine aw_0eqN rfl (by omega) (oX6_odds.dec rfl) (tgt := 43) rfl (fun h12 => absurd h12 (by omega)) (fun h12 => ?_)
  refine aw_run oX6_odds sxOk 3 (pc' := 20) (L' := [some (.ref 0), some (.int (nI σ)), some (.int (nI w)), some (.int (nI k)), some (.int (nI 0))]) (st' := [.int (nI w), .ref 2]) (I' := I) (J' := J) (G' := G) rfl ?_
  refine aw_cV (st := []) 2 [.int (nI w)] oX4_hasWeek k6_87 rfl rfl rfl rfl rfl rfl rfl rfl (oX6_odds.dec rfl) (c_hasWeek_t hW (by omega) (by omega)) ?_
  refine aw_eqS (st := [.int (nI 1)]) rfl ?_
  refine aw_0eqN rfl (by omega) (oX6_odds.dec rfl) (tgt := 43) rfl (fun h23 => absurd h23 (by omega)) (fun h23 => ?_)
  refine aw_run oX6_odds sxOk 1 (pc' := 27) (L' := [some (.ref 0), some (.int (nI σ)), some (.int (nI w)), some (.int (nI k)), some (.int (nI 0))]) (st' := [.int (nI k)]) (I' := I) (J' := J) (G' := G) rfl ?_
  refine aw_0ltN rfl (by omega) (oX6_odds.dec rfl) (tgt := 43) rfl ?_
  refine aw_run oX6_odds sxOk 2 (pc' := 32) (L' := [some (.ref 0), some (.int (nI σ)), some (.int (nI w)), some (.int (nI k)), some (.int (nI 0))]) (st' := [.int (nI 5), .int (nI k)]) (I' := I) (J' := J) (G' := G) rfl ?_
  refine aw_gtN rfl rfl (by omega) (by omega) (oX6_odds.dec rfl) (tgt := 43) rfl (fun h32 => absurd h32 (by omega)) (fun h32 => ?_)
  refine aw_run oX6_odds sxOk 1 (pc' := 37) (L' := [some (.ref 0), some (.int (nI σ)), some (.int (nI w)), some (.int (nI k)), some (.int (nI 0))]) (st' := [.int (nI 0)]) (I' := I) (J' := J) (G' := G) rfl ?_
  refine aw_cS (st := []) [.int (nI 0)] oX6_isNoHalf k6_187 rfl rfl rfl rfl rfl (oX6_odds.dec rfl) c_isNoHalf_0 ?_
  refine aw_eqS (st := [.int (nI 0)]) rfl ?_
  refine aw_0eqN rfl (by omega) (oX6_odds.dec rfl) (tgt := 45) rfl (fun h40 => ?_) (fun h40 => absurd h40 (by omega))
  refine aw_run oX6_odds sxOk 5 (pc' := 52) (L' := [some (.ref 0), some (.int (nI σ)), some (.int (nI w)), some (.int (nI k)), some (.int (nI 0))]) (st' := [.int (nI k), .int (nI w), .int (nI σ), .ref 7]) (I' := I) (J' := J) (G' := G) rfl ?_
  refine aw_cVP (st := []) 7 [.int (nI σ), .int (nI w), .int (nI k)] oX0_reckonOdds k6_199 rfl rfl rfl rfl rfl rfl rfl rfl (oX6_odds.dec rfl) (c_reckonOdds hP (by omega) (by omega) (by omega) (by omega) hτ hτ10 hsil) (fun r52 I52 J52 G52 hq52 => ?_)
  obtain ⟨hr, hI, hJ, f9, hG⟩ := hq52
  obtain rfl := hr.symm; obtain rfl := hI.symm; obtain rfl := hJ.symm; obtain rfl := hG.symm
  refine aw_eqS (st := []) rfl ?_
  refine aw_run oX6_odds sxOk 1 (pc' := 57) (L' := [some (.ref 0), some (.int (nI σ)), some (.int (nI w)), some (.int (nI k)), some (.int (nI 0))]) (st' := [.int (nI 0)]) (I' := up2 (up2 I 7 3 (nI (frU (oFr σ (tak (G 24) (G 16) (G 13 w) P σ) P τ k)))) 7 4 (nI (frL (oFr σ (tak (G 24) (G 16) (G 13 w) P σ) P τ k)))) (J' := J) (G' := va_up G 30 f9) rfl ?_
  refine aw_0neN rfl (by omega) (oX6_odds.dec rfl) (tgt := 70) rfl (fun h57 => absurd h57 (by omega)) (fun h57 => ?_)
  refine aw_run oX6_odds sxOk 4 (pc' := 77) (L' := [some (.ref 0), some (.int (nI σ)), some (.int (nI w)), some (.int (nI k)), some (.int (nI 0))]) (st' := [.int (nI (frU (oFr σ (tak (G 24) (G 16) (G 13 w) P σ) P τ k)))]) (I' := up2 (up2 I 7 3 (nI (frU (oFr σ (tak (G 24) (G 16) (G 13 w) P σ) P τ k)))) 7 4 (nI (frL (oFr σ (tak (G 24) (G 16) (G 13 w) P σ) P τ k)))) (J' := J) (G' := va_up G 30 f9) rfl ?_
  exact aw_iret rfl (oX6_odds.dec rfl) (⟨rfl, rfl, ⟨_, _, rfl⟩, _, rfl⟩)
set_option maxRecDepth 20000 in
theorem c_odds_1 {I : II} {J : JJ} {G : II} {P : Nat} (hP : I 2 7 = nI P) (hP5 : P ≤ 5) {Wk : Nat} (hW : I 2 6 = nI Wk) (hWk : Wk ≤ 12) {σ : Nat} (hσ : σ < 2 ^ P) (hσ0 : σ ≠ 0) {w k τ : Nat} (hw : w < Wk) (hk : k ≤ 5) (hτ : G 12 w = nI τ) (hτ10 : τ ≤ 10) (hsil : ∀ s, s < P → nI 0 ≤ sil (G 24) s) : AMet SX mX6_odds [.ref 0, .int (nI σ), .int (nI w), .int (nI k), .int (nI 1)] I J G (fun r I' J' G' => r = some (.int (nI (frL (oFr σ (tak (G 24) (G 16) (G 13 w) P σ) P τ k)))) ∧ J' = J ∧ (∃ u v, I' = up2 (up2 I 7 3 u) 7 4 v) ∧ ∃ f, G' = va_up G 30 f) := by
  have hp32 : 2 ^ P ≤ 32 := Nat.pow_le_pow_right (by decide) hP5
  refine amet_en oX6_odds rfl rfl (L := [some (.ref 0), some (.int (nI σ)), some (.int (nI w)), some (.int (nI k)), some (.int (nI 1))]) rfl ?_
  refine aw_run oX6_odds sxOk 1 (pc' := 1) (L' := [some (.ref 0), some (.int (nI σ)), some (.int (nI w)), some (.int (nI k)), some (.int (nI 1))]) (st' := [.int (nI σ)]) (I' := I) (J' := J) (G' := G) rfl ?_
  refine aw_0eqN rfl (by omega) (oX6_odds.dec rfl) (tgt := 43) rfl (fun h1 => absurd h1 (by omega)) (fun h1 => ?_)
  refine aw_run oX6_odds sxOk 3 (pc' := 9) (L' := [some (.ref 0), some (.int (nI σ)), some (.int (nI w)), some (.int (nI k)), some (.int (nI 1))]) (st' := [.int (nI σ), .ref 2]) (I' := I) (J' := J) (G' := G) rfl ?_
  refine aw_cV (st := []) 2 [.int (nI σ)] oX4_hasSet k6_130 rfl rfl rfl rfl rfl rfl rfl rfl (oX6_odds.dec rfl) (c_hasSet_t hP (by omega) (by omega)) ?_
  refine aw_eqS (st := [.int (nI 1)]) rfl ?_
  refine aw_0eqN rfl (by omega) (oX6_odds.dec rfl) (tgt := 43) rfl (fun h12 => absurd h12 (by omega)) (fun h12 => ?_)
  refine aw_run oX6_odds sxOk 3 (pc' := 20) (L' := [some (.ref 0), some (.int (nI σ)), some (.int (nI w)), some (.int (nI k)), some (.int (nI 1))]) (st' := [.int (nI w), .ref 2]) (I' := I) (J' := J) (G' := G) rfl ?_
  refine aw_cV (st := []) 2 [.int (nI w)] oX4_hasWeek k6_87 rfl rfl rfl rfl rfl rfl rfl rfl (oX6_odds.dec rfl) (c_hasWeek_t hW (by omega) (by omega)) ?_
  refine aw_eqS (st := [.int (nI 1)]) rfl ?_
  refine aw_0eqN rfl (by omega) (oX6_odds.dec rfl) (tgt := 43) rfl (fun h23 => absurd h23 (by omega)) (fun h23 => ?_)
  refine aw_run oX6_odds sxOk 1 (pc' := 27) (L' := [some (.ref 0), some (.int (nI σ)), some (.int (nI w)), some (.int (nI k)), some (.int (nI 1))]) (st' := [.int (nI k)]) (I' := I) (J' := J) (G' := G) rfl ?_
  refine aw_0ltN rfl (by omega) (oX6_odds.dec rfl) (tgt := 43) rfl ?_
  refine aw_run oX6_odds sxOk 2 (pc' := 32) (L' := [some (.ref 0), some (.int (nI σ)), some (.int (nI w)), some (.int (nI k)), some (.int (nI 1))]) (st' := [.int (nI 5), .int (nI k)]) (I' := I) (J' := J) (G' := G) rfl ?_
  refine aw_gtN rfl rfl (by omega) (by omega) (oX6_odds.dec rfl) (tgt := 43) rfl (fun h32 => absurd h32 (by omega)) (fun h32 => ?_)
  refine aw_run oX6_odds sxOk 1 (pc' := 37) (L' := [some (.ref 0), some (.int (nI σ)), some (.int (nI w)), some (.int (nI k)), some (.int (nI 1))]) (st' := [.int (nI 1)]) (I' := I) (J' := J) (G' := G) rfl ?_
  refine aw_cS (st := []) [.int (nI 1)] oX6_isNoHalf k6_187 rfl rfl rfl rfl rfl (oX6_odds.dec rfl) c_isNoHalf_1 ?_
  refine aw_eqS (st := [.int (nI 0)]) rfl ?_
  refine aw_0eqN rfl (by omega) (oX6_odds.dec rfl) (tgt := 45) rfl (fun h40 => ?_) (fun h40 => absurd h40 (by omega))
  refine aw_run oX6_odds sxOk 5 (pc' := 52) (L' := [some (.ref 0), some (.int (nI σ)), some (.int (nI w)), some (.int (nI k)), some (.int (nI 1))]) (st' := [.int (nI k), .int (nI w), .int (nI σ), .ref 7]) (I' := I) (J' := J) (G' := G) rfl ?_
  refine aw_cVP (st := []) 7 [.int (nI σ), .int (nI w), .int (nI k)] oX0_reckonOdds k6_199 rfl rfl rfl rfl rfl rfl rfl rfl (oX6_odds.dec rfl) (c_reckonOdds hP (by omega) (by omega) (by omega) (by omega) hτ hτ10 hsil) (fun r52 I52 J52 G52 hq52 => ?_)
  obtain ⟨hr, hI, hJ, f9, hG⟩ := hq52
  obtain rfl := hr.symm; obtain rfl := hI.symm; obtain rfl := hJ.symm; obtain rfl := hG.symm
  refine aw_eqS (st := []) rfl ?_
  refine aw_run oX6_odds sxOk 1 (pc' := 57) (L' := [some (.ref 0), some (.int (nI σ)), some (.int (nI w)), some (.int (nI k)), some (.int (nI 1))]) (st' := [.int (nI 1)]) (I' := up2 (up2 I 7 3 (nI (frU (oFr σ (tak (G 24) (G 16) (G 13 w) P σ) P τ k)))) 7 4 (nI (frL (oFr σ (tak (G 24) (G 16) (G 13 w) P σ) P τ k)))) (J' := J) (G' := va_up G 30 f9) rfl ?_
  refine aw_0neN rfl (by omega) (oX6_odds.dec rfl) (tgt := 70) rfl (fun h57 => ?_) (fun h57 => absurd h57 (by omega))
  refine aw_run oX6_odds sxOk 3 (pc' := 77) (L' := [some (.ref 0), some (.int (nI σ)), some (.int (nI w)), some (.int (nI k)), some (.int (nI 1))]) (st' := [.int (nI (frL (oFr σ (tak (G 24) (G 16) (G 13 w) P σ) P τ k)))]) (I' := up2 (up2 I 7 3 (nI (frU (oFr σ (tak (G 24) (G 16) (G 13 w) P σ) P τ k)))) 7 4 (nI (frL (oFr σ (tak (G 24) (G 16) (G 13 w) P σ) P τ k)))) (J' := J) (G' := va_up G 30 f9) rfl ?_
  exact aw_iret rfl (oX6_odds.dec rfl) (⟨rfl, rfl, ⟨_, _, rfl⟩, _, rfl⟩)
set_option maxRecDepth 20000 in
theorem c_mark_bad {I : II} {J : JJ} {G : II} {x y : Int32} (hx : notIn x 6) : AMet SX mX6_mark [.ref 0, .int x, .int y] I J G (PE (some (.int (-1000000 : Int32))) I J G) := by
  refine amet_en oX6_mark rfl rfl (L := [some (.ref 0), some (.int x), some (.int y)]) rfl ?_
  refine aw_run oX6_mark sxOk 1 (pc' := 1) (L' := [some (.ref 0), some (.int x), some (.int y)]) (st' := [.int x]) (I' := I) (J' := J) (G' := G) rfl ?_
  refine aw_if_lt (oX6_mark.dec rfl) (tgt := 20) rfl (fun h1 => ?_) (fun h1 => ?_)
  · refine aw_run oX6_mark sxOk 1 (pc' := 22) (L' := [some (.ref 0), some (.int x), some (.int y)]) (st' := [.int (-1000000 : Int32)]) (I' := I) (J' := J) (G' := G) rfl ?_
    exact aw_iret rfl (oX6_mark.dec rfl) pe_rfl
  · refine aw_run oX6_mark sxOk 2 (pc' := 6) (L' := [some (.ref 0), some (.int x), some (.int y)]) (st' := [.int (nI 5), .int x]) (I' := I) (J' := J) (G' := G) rfl ?_
    refine aw_icmp_gt (oX6_mark.dec rfl) (tgt := 20) rfl (fun h6 => ?_) (fun h6 => absurd (notIn_gt hx (by decide) h1) h6)
    refine aw_run oX6_mark sxOk 1 (pc' := 22) (L' := [some (.ref 0), some (.int x), some (.int y)]) (st' := [.int (-1000000 : Int32)]) (I' := I) (J' := J) (G' := G) rfl ?_
    exact aw_iret rfl (oX6_mark.dec rfl) pe_rfl
set_option maxRecDepth 20000 in
theorem c_mark_bad2 {I : II} {J : JJ} {G : II} {P : Nat} (hP : I 2 7 = nI P) (hP5 : P ≤ 5) {k : Nat} {x : Int32} (hk : k < 6) (hx : notIn x P) : AMet SX mX6_mark [.ref 0, .int (nI k), .int x] I J G (PE (some (.int (-1000000 : Int32))) I J G) := by
  refine amet_en oX6_mark rfl rfl (L := [some (.ref 0), some (.int (nI k)), some (.int x)]) rfl ?_
  refine aw_run oX6_mark sxOk 1 (pc' := 1) (L' := [some (.ref 0), some (.int (nI k)), some (.int x)]) (st' := [.int (nI k)]) (I' := I) (J' := J) (G' := G) rfl ?_
  refine aw_0ltN rfl (by omega) (oX6_mark.dec rfl) (tgt := 20) rfl ?_
  refine aw_run oX6_mark sxOk 2 (pc' := 6) (L' := [some (.ref 0), some (.int (nI k)), some (.int x)]) (st' := [.int (nI 5), .int (nI k)]) (I' := I) (J' := J) (G' := G) rfl ?_
  refine aw_gtN rfl rfl (by omega) (by omega) (oX6_mark.dec rfl) (tgt := 20) rfl (fun h6 => absurd h6 (by omega)) (fun h6 => ?_)
  refine aw_run oX6_mark sxOk 3 (pc' := 14) (L' := [some (.ref 0), some (.int (nI k)), some (.int x)]) (st' := [.int x, .ref 2]) (I' := I) (J' := J) (G' := G) rfl ?_
  refine aw_cV (st := []) 2 [.int x] oX4_hasShip k6_97 rfl rfl rfl rfl rfl rfl rfl rfl (oX6_mark.dec rfl) (c_hasShip_f hP (by omega) (by assumption)) ?_
  refine aw_eqS (st := [.int (nI 0)]) rfl ?_
  refine aw_0neN rfl (by omega) (oX6_mark.dec rfl) (tgt := 23) rfl (fun h17 => absurd h17 (by omega)) (fun h17 => ?_)
  refine aw_run oX6_mark sxOk 1 (pc' := 22) (L' := [some (.ref 0), some (.int (nI k)), some (.int x)]) (st' := [.int (-1000000 : Int32)]) (I' := I) (J' := J) (G' := G) rfl ?_
  exact aw_iret rfl (oX6_mark.dec rfl) pe_rfl
set_option maxRecDepth 20000 in
theorem c_mark_0 {I : II} {J : JJ} {G : II} {P : Nat} (hP : I 2 7 = nI P) (hP5 : P ≤ 5) {s : Nat} (hs : s < P) : AMet SX mX6_mark [.ref 0, .int (nI 0), .int (nI s)] I J G (PE (some (.int (G 24 (8 + s)))) I (up2 J 9 2 (((J 9 2)) + (Int64.ofNat 1))) G) := by
  refine amet_en oX6_mark rfl rfl (L := [some (.ref 0), some (.int (nI 0)), some (.int (nI s))]) rfl ?_
  refine aw_run oX6_mark sxOk 1 (pc' := 1) (L' := [some (.ref 0), some (.int (nI 0)), some (.int (nI s))]) (st' := [.int (nI 0)]) (I' := I) (J' := J) (G' := G) rfl ?_
  refine aw_0ltN rfl (by omega) (oX6_mark.dec rfl) (tgt := 20) rfl ?_
  refine aw_run oX6_mark sxOk 2 (pc' := 6) (L' := [some (.ref 0), some (.int (nI 0)), some (.int (nI s))]) (st' := [.int (nI 5), .int (nI 0)]) (I' := I) (J' := J) (G' := G) rfl ?_
  refine aw_gtN rfl rfl (by omega) (by omega) (oX6_mark.dec rfl) (tgt := 20) rfl (fun h6 => absurd h6 (by omega)) (fun h6 => ?_)
  refine aw_run oX6_mark sxOk 3 (pc' := 14) (L' := [some (.ref 0), some (.int (nI 0)), some (.int (nI s))]) (st' := [.int (nI s), .ref 2]) (I' := I) (J' := J) (G' := G) rfl ?_
  refine aw_cV (st := []) 2 [.int (nI s)] oX4_hasShip k6_97 rfl rfl rfl rfl rfl rfl rfl rfl (oX6_mark.dec rfl) (c_hasShip_t hP (by omega) (by omega)) ?_
  refine aw_eqS (st := [.int (nI 1)]) rfl ?_
  refine aw_0neN rfl (by omega) (oX6_mark.dec rfl) (tgt := 23) rfl (fun h17 => ?_) (fun h17 => absurd h17 (by omega))
  refine aw_run oX6_mark sxOk 4 (pc' := 29) (L' := [some (.ref 0), some (.int (nI 0)), some (.int (nI s))]) (st' := [.int (nI s), .int (nI 0), .ref 9]) (I' := I) (J' := J) (G' := G) rfl ?_
  refine aw_cV (st := []) 9 [.int (nI 0), .int (nI s)] oX1_markAs k6_206 rfl rfl rfl rfl rfl rfl rfl rfl (oX6_mark.dec rfl) (c_markAs_0 (by omega)) ?_
  refine aw_eqS (st := [.int (G 24 (8 + s))]) rfl ?_
  exact aw_iret rfl (oX6_mark.dec rfl) pe_rfl
set_option maxRecDepth 20000 in
theorem c_mark_1 {I : II} {J : JJ} {G : II} {P : Nat} (hP : I 2 7 = nI P) (hP5 : P ≤ 5) {s : Nat} (hs : s < P) : AMet SX mX6_mark [.ref 0, .int (nI 1), .int (nI s)] I J G (PE (some (.int ((G 24 (8 + s)) + (G 16 s)))) I (up2 J 9 2 (((((J 9 2)) + (10 : Int64))) + (Int64.ofNat 1))) G) := by
  refine amet_en oX6_mark rfl rfl (L := [some (.ref 0), some (.int (nI 1)), some (.int (nI s))]) rfl ?_
  refine aw_run oX6_mark sxOk 1 (pc' := 1) (L' := [some (.ref 0), some (.int (nI 1)), some (.int (nI s))]) (st' := [.int (nI 1)]) (I' := I) (J' := J) (G' := G) rfl ?_
  refine aw_0ltN rfl (by omega) (oX6_mark.dec rfl) (tgt := 20) rfl ?_
  refine aw_run oX6_mark sxOk 2 (pc' := 6) (L' := [some (.ref 0), some (.int (nI 1)), some (.int (nI s))]) (st' := [.int (nI 5), .int (nI 1)]) (I' := I) (J' := J) (G' := G) rfl ?_
  refine aw_gtN rfl rfl (by omega) (by omega) (oX6_mark.dec rfl) (tgt := 20) rfl (fun h6 => absurd h6 (by omega)) (fun h6 => ?_)
  refine aw_run oX6_mark sxOk 3 (pc' := 14) (L' := [some (.ref 0), some (.int (nI 1)), some (.int (nI s))]) (st' := [.int (nI s), .ref 2]) (I' := I) (J' := J) (G' := G) rfl ?_
  refine aw_cV (st := []) 2 [.int (nI s)] oX4_hasShip k6_97 rfl rfl rfl rfl rfl rfl rfl rfl (oX6_mark.dec rfl) (c_hasShip_t hP (by omega) (by omega)) ?_
  refine aw_eqS (st := [.int (nI 1)]) rfl ?_
  refine aw_0neN rfl (by omega) (oX6_mark.dec rfl) (tgt := 23) rfl (fun h17 => ?_) (fun h17 => absurd h17 (by omega))
  refine aw_run oX6_mark sxOk 4 (pc' := 29) (L' := [some (.ref 0), some (.int (nI 1)), some (.int (nI s))]) (st' := [.int (nI s), .int (nI 1), .ref 9]) (I' := I) (J' := J) (G' := G) rfl ?_
  refine aw_cV (st := []) 9 [.int (nI 1), .int (nI s)] oX1_markAs k6_206 rfl rfl rfl rfl rfl rfl rfl rfl (oX6_mark.dec rfl) (c_markAs_1 (by omega)) ?_
  refine aw_eqS (st := [.int ((G 24 (8 + s)) + (G 16 s))]) rfl ?_
  exact aw_iret rfl (oX6_mark.dec rfl) pe_rfl
set_option maxRecDepth 20000 in
theorem c_mark_2 {I : II} {J : JJ} {G : II} {P : Nat} (hP : I 2 7 = nI P) (hP5 : P ≤ 5) {s : Nat} (hs : s < P) : AMet SX mX6_mark [.ref 0, .int (nI 2), .int (nI s)] I J G (PE (some (.int ((G 24 (8 + s)) - (G 17 s)))) I (up2 J 9 2 (((((J 9 2)) + (100 : Int64))) + (Int64.ofNat 1))) G) := by
  refine amet_en oX6_mark rfl rfl (L := [some (.ref 0), some (.int (nI 2)), some (.int (nI s))]) rfl ?_
  refine aw_run oX6_mark sxOk 1 (pc' := 1) (L' := [some (.ref 0), some (.int (nI 2)), some (.int (nI s))]) (st' := [.int (nI 2)]) (I' := I) (J' := J) (G' := G) rfl ?_
  refine aw_0ltN rfl (by omega) (oX6_mark.dec rfl) (tgt := 20) rfl ?_
  refine aw_run oX6_mark sxOk 2 (pc' := 6) (L' := [some (.ref 0), some (.int (nI 2)), some (.int (nI s))]) (st' := [.int (nI 5), .int (nI 2)]) (I' := I) (J' := J) (G' := G) rfl ?_
  refine aw_gtN rfl rfl (by omega) (by omega) (oX6_mark.dec rfl) (tgt := 20) rfl (fun h6 => absurd h6 (by omega)) (fun h6 => ?_)
  refine aw_run oX6_mark sxOk 3 (pc' := 14) (L' := [some (.ref 0), some (.int (nI 2)), some (.int (nI s))]) (st' := [.int (nI s), .ref 2]) (I' := I) (J' := J) (G' := G) rfl ?_
  refine aw_cV (st := []) 2 [.int (nI s)] oX4_hasShip k6_97 rfl rfl rfl rfl rfl rfl rfl rfl (oX6_mark.dec rfl) (c_hasShip_t hP (by omega) (by omega)) ?_
  refine aw_eqS (st := [.int (nI 1)]) rfl ?_
  refine aw_0neN rfl (by omega) (oX6_mark.dec rfl) (tgt := 23) rfl (fun h17 => ?_) (fun h17 => absurd h17 (by omega))
  refine aw_run oX6_mark sxOk 4 (pc' := 29) (L' := [some (.ref 0), some (.int (nI 2)), some (.int (nI s))]) (st' := [.int (nI s), .int (nI 2), .ref 9]) (I' := I) (J' := J) (G' := G) rfl ?_
  refine aw_cV (st := []) 9 [.int (nI 2), .int (nI s)] oX1_markAs k6_206 rfl rfl rfl rfl rfl rfl rfl rfl (oX6_mark.dec rfl) (c_markAs_2 (by omega)) ?_
  refine aw_eqS (st := [.int ((G 24 (8 + s)) - (G 17 s))]) rfl ?_
  exact aw_iret rfl (oX6_mark.dec rfl) pe_rfl
set_option maxRecDepth 20000 in
theorem c_mark_3 {I : II} {J : JJ} {G : II} {P : Nat} (hP : I 2 7 = nI P) (hP5 : P ≤ 5) {s : Nat} (hs : s < P) : AMet SX mX6_mark [.ref 0, .int (nI 3), .int (nI s)] I J G (PE (some (.int (((G 24 (8 + s)) + (G 16 s)) * (nI 2)))) I (up2 J 9 2 (((((((J 9 2)) + (1000 : Int64))) + (10 : Int64))) + (Int64.ofNat 1))) G) := by
  refine amet_en oX6_mark rfl rfl (L := [some (.ref 0), some (.int (nI 3)), some (.int (nI s))]) rfl ?_
  refine aw_run oX6_mark sxOk 1 (pc' := 1) (L' := [some (.ref 0), some (.int (nI 3)), some (.int (nI s))]) (st' := [.int (nI 3)]) (I' := I) (J' := J) (G' := G) rfl ?_
  refine aw_0ltN rfl (by omega) (oX6_mark.dec rfl) (tgt := 20) rfl ?_
  refine aw_run oX6_mark sxOk 2 (pc' := 6) (L' := [some (.ref 0), some (.int (nI 3)), some (.int (nI s))]) (st' := [.int (nI 5), .int (nI 3)]) (I' := I) (J' := J) (G' := G) rfl ?_
  refine aw_gtN rfl rfl (by omega) (by omega) (oX6_mark.dec rfl) (tgt := 20) rfl (fun h6 => absurd h6 (by omega)) (fun h6 => ?_)
  refine aw_run oX6_mark sxOk 3 (pc' := 14) (L' := [some (.ref 0), some (.int (nI 3)), some (.int (nI s))]) (st' := [.int (nI s), .ref 2]) (I' := I) (J' := J) (G' := G) rfl ?_
  refine aw_cV (st := []) 2 [.int (nI s)] oX4_hasShip k6_97 rfl rfl rfl rfl rfl rfl rfl rfl (oX6_mark.dec rfl) (c_hasShip_t hP (by omega) (by omega)) ?_
  refine aw_eqS (st := [.int (nI 1)]) rfl ?_
  refine aw_0neN rfl (by omega) (oX6_mark.dec rfl) (tgt := 23) rfl (fun h17 => ?_) (fun h17 => absurd h17 (by omega))
  refine aw_run oX6_mark sxOk 4 (pc' := 29) (L' := [some (.ref 0), some (.int (nI 3)), some (.int (nI s))]) (st' := [.int (nI s), .int (nI 3), .ref 9]) (I' := I) (J' := J) (G' := G) rfl ?_
  refine aw_cV (st := []) 9 [.int (nI 3), .int (nI s)] oX1_markAs k6_206 rfl rfl rfl rfl rfl rfl rfl rfl (oX6_mark.dec rfl) (c_markAs_3 (by omega)) ?_
  refine aw_eqS (st := [.int (((G 24 (8 + s)) + (G 16 s)) * (nI 2))]) rfl ?_
  exact aw_iret rfl (oX6_mark.dec rfl) pe_rfl
set_option maxRecDepth 20000 in
theorem c_mark_4 {I : II} {J : JJ} {G : II} {P : Nat} (hP : I 2 7 = nI P) (hP5 : P ≤ 5) {s : Nat} (hs : s < P) : AMet SX mX6_mark [.ref 0, .int (nI 4), .int (nI s)] I J G (PE (some (.int (((G 24 (8 + s)) - (G 17 s)) + (nI s)))) I (up2 J 9 2 (((((((J 9 2)) + (10000 : Int64))) + (100 : Int64))) + (Int64.ofNat 1))) G) := by
  refine amet_en oX6_mark rfl rfl (L := [some (.ref 0), some (.int (nI 4)), some (.int (nI s))]) rfl ?_
  refine aw_run oX6_mark sxOk 1 (pc' := 1) (L' := [some (.ref 0), some (.int (nI 4)), some (.int (nI s))]) (st' := [.int (nI 4)]) (I' := I) (J' := J) (G' := G) rfl ?_
  refine aw_0ltN rfl (by omega) (oX6_mark.dec rfl) (tgt := 20) rfl ?_
  refine aw_run oX6_mark sxOk 2 (pc' := 6) (L' := [some (.ref 0), some (.int (nI 4)), some (.int (nI s))]) (st' := [.int (nI 5), .int (nI 4)]) (I' := I) (J' := J) (G' := G) rfl ?_
  refine aw_gtN rfl rfl (by omega) (by omega) (oX6_mark.dec rfl) (tgt := 20) rfl (fun h6 => absurd h6 (by omega)) (fun h6 => ?_)
  refine aw_run oX6_mark sxOk 3 (pc' := 14) (L' := [some (.ref 0), some (.int (nI 4)), some (.int (nI s))]) (st' := [.int (nI s), .ref 2]) (I' := I) (J' := J) (G' := G) rfl ?_
  refine aw_cV (st := []) 2 [.int (nI s)] oX4_hasShip k6_97 rfl rfl rfl rfl rfl rfl rfl rfl (oX6_mark.dec rfl) (c_hasShip_t hP (by omega) (by omega)) ?_
  refine aw_eqS (st := [.int (nI 1)]) rfl ?_
  refine aw_0neN rfl (by omega) (oX6_mark.dec rfl) (tgt := 23) rfl (fun h17 => ?_) (fun h17 => absurd h17 (by omega))
  refine aw_run oX6_mark sxOk 4 (pc' := 29) (L' := [some (.ref 0), some (.int (nI 4)), some (.int (nI s))]) (st' := [.int (nI s), .int (nI 4), .ref 9]) (I' := I) (J' := J) (G' := G) rfl ?_
  refine aw_cV (st := []) 9 [.int (nI 4), .int (nI s)] oX1_markAs k6_206 rfl rfl rfl rfl rfl rfl rfl rfl (oX6_mark.dec rfl) (c_markAs_4 (by omega)) ?_
  refine aw_eqS (st := [.int (((G 24 (8 + s)) - (G 17 s)) + (nI s))]) rfl ?_
  exact aw_iret rfl (oX6_mark.dec rfl) pe_rfl
set_option maxRecDepth 20000 in
theorem c_mark_5 {I : II} {J : JJ} {G : II} {P : Nat} (hP : I 2 7 = nI P) (hP5 : P ≤ 5) {s : Nat} (hs : s < P) : AMet SX mX6_mark [.ref 0, .int (nI 5), .int (nI s)] I J G (PE (some (.int ((G 24 (8 + s)) + (G 24 0)))) I (up2 J 9 2 (((((J 9 2)) + (100000 : Int64))) + (Int64.ofNat 1))) G) := by
  refine amet_en oX6_mark rfl rfl (L := [some (.ref 0), some (.int (nI 5)), some (.int (nI s))]) rfl ?_
  refine aw_run oX6_mark sxOk 1 (pc' := 1) (L' := [some (.ref 0), some (.int (nI 5)), some (.int (nI s))]) (st' := [.int (nI 5)]) (I' := I) (J' := J) (G' := G) rfl ?_
  refine aw_0ltN rfl (by omega) (oX6_mark.dec rfl) (tgt := 20) rfl ?_
  refine aw_run oX6_mark sxOk 2 (pc' := 6) (L' := [some (.ref 0), some (.int (nI 5)), some (.int (nI s))]) (st' := [.int (nI 5), .int (nI 5)]) (I' := I) (J' := J) (G' := G) rfl ?_
  refine aw_gtN rfl rfl (by omega) (by omega) (oX6_mark.dec rfl) (tgt := 20) rfl (fun h6 => absurd h6 (by omega)) (fun h6 => ?_)
  refine aw_run oX6_mark sxOk 3 (pc' := 14) (L' := [some (.ref 0), some (.int (nI 5)), some (.int (nI s))]) (st' := [.int (nI s), .ref 2]) (I' := I) (J' := J) (G' := G) rfl ?_
  refine aw_cV (st := []) 2 [.int (nI s)] oX4_hasShip k6_97 rfl rfl rfl rfl rfl rfl rfl rfl (oX6_mark.dec rfl) (c_hasShip_t hP (by omega) (by omega)) ?_
  refine aw_eqS (st := [.int (nI 1)]) rfl ?_
  refine aw_0neN rfl (by omega) (oX6_mark.dec rfl) (tgt := 23) rfl (fun h17 => ?_) (fun h17 => absurd h17 (by omega))
  refine aw_run oX6_mark sxOk 4 (pc' := 29) (L' := [some (.ref 0), some (.int (nI 5)), some (.int (nI s))]) (st' := [.int (nI s), .int (nI 5), .ref 9]) (I' := I) (J' := J) (G' := G) rfl ?_
  refine aw_cV (st := []) 9 [.int (nI 5), .int (nI s)] oX1_markAs k6_206 rfl rfl rfl rfl rfl rfl rfl rfl (oX6_mark.dec rfl) (c_markAs_5 (by omega)) ?_
  refine aw_eqS (st := [.int ((G 24 (8 + s)) + (G 24 0))]) rfl ?_
  exact aw_iret rfl (oX6_mark.dec rfl) pe_rfl
set_option maxRecDepth 20000 in
theorem c_keep_0 {I : II} {J : JJ} {G : II}  : AMet SX mX6_keep [.ref 0, .int (nI 0)] I J G (PE (some (.int (G 24 0))) (up2 (up2 I 5 2 (I 4 2)) 5 3 (nI 1)) J (va_up (va_up G 26 (va_cpy (G 24) (G 26) 0 0 18)) 27 (va_cpy (G 25) (G 27) 0 0 180))) := by
  refine amet_en oX6_keep rfl rfl (L := [some (.ref 0), some (.int (nI 0)), none]) rfl ?_
  refine aw_run oX6_keep sxOk 1 (pc' := 1) (L' := [some (.ref 0), some (.int (nI 0)), none]) (st' := [.int (nI 0)]) (I' := I) (J' := J) (G' := G) rfl ?_
  refine aw_cS (st := []) [.int (nI 0)] oX6_isImage k6_209 rfl rfl rfl rfl rfl (oX6_keep.dec rfl) c_isImage_0 ?_
  refine aw_eqS (st := [.int (nI 1)]) rfl ?_
  refine aw_0neN rfl (by omega) (oX6_keep.dec rfl) (tgt := 9) rfl (fun h4 => ?_) (fun h4 => absurd h4 (by omega))
  refine aw_run oX6_keep sxOk 2 (pc' := 11) (L' := [some (.ref 0), some (.int (nI 0)), none]) (st' := [.int (nI 0), .ref 0]) (I' := I) (J' := J) (G' := G) rfl ?_
  refine aw_cV (st := []) 0 [.int (nI 0)] oX6_imageOf k6_212 rfl rfl rfl rfl rfl rfl rfl rfl (oX6_keep.dec rfl) c_imageOf_0 ?_
  refine aw_eqS (st := [.ref 5]) rfl ?_
  refine aw_run oX6_keep sxOk 4 (pc' := 20) (L' := [some (.ref 0), some (.int (nI 0)), some (.ref 5)]) (st' := [.ref 4, .ref 5]) (I' := I) (J' := J) (G' := G) rfl ?_
  refine aw_cV (st := []) 5 [.ref 4] oX2_copyFrom k6_216 rfl rfl rfl rfl rfl rfl rfl rfl (oX6_keep.dec rfl) c_copyLog_54 ?_
  refine aw_eqS (st := []) rfl ?_
  refine aw_run oX6_keep sxOk 5 (pc' := 32) (L' := [some (.ref 0), some (.int (nI 0)), some (.ref 5)]) (st' := [.ref 4]) (I' := up2 (up2 I 5 2 (I 4 2)) 5 3 (nI 1)) (J' := J) (G' := va_up (va_up G 26 (va_cpy (G 24) (G 26) 0 0 18)) 27 (va_cpy (G 25) (G 27) 0 0 180)) rfl ?_
  refine aw_cV (st := []) 4 [] oX2_theWeek k6_126 rfl rfl rfl rfl rfl rfl rfl rfl (oX6_keep.dec rfl) c_theWeek ?_
  refine aw_eqS (st := [.int (G 24 0)]) rfl ?_
  exact aw_iret rfl (oX6_keep.dec rfl) pe_rfl
set_option maxRecDepth 20000 in
theorem c_back_no_0 {I : II} {J : JJ} {G : II} (hk : I 5 3 = nI 0) : AMet SX mX6_back [.ref 0, .int (nI 0)] I J G (PE (some (.int (-nI 2))) I J G) := by
  refine amet_en oX6_back rfl rfl (L := [some (.ref 0), some (.int (nI 0)), none]) rfl ?_
  refine aw_run oX6_back sxOk 1 (pc' := 1) (L' := [some (.ref 0), some (.int (nI 0)), none]) (st' := [.int (nI 0)]) (I' := I) (J' := J) (G' := G) rfl ?_
  refine aw_cS (st := []) [.int (nI 0)] oX6_isImage k6_209 rfl rfl rfl rfl rfl (oX6_back.dec rfl) c_isImage_0 ?_
  refine aw_eqS (st := [.int (nI 1)]) rfl ?_
  refine aw_0neN rfl (by omega) (oX6_back.dec rfl) (tgt := 9) rfl (fun h4 => ?_) (fun h4 => absurd h4 (by omega))
  refine aw_run oX6_back sxOk 2 (pc' := 11) (L' := [some (.ref 0), some (.int (nI 0)), none]) (st' := [.int (nI 0), .ref 0]) (I' := I) (J' := J) (G' := G) rfl ?_
  refine aw_cV (st := []) 0 [.int (nI 0)] oX6_imageOf k6_212 rfl rfl rfl rfl rfl rfl rfl rfl (oX6_back.dec rfl) c_imageOf_0 ?_
  refine aw_eqS (st := [.ref 5]) rfl ?_
  refine aw_run oX6_back sxOk 3 (pc' := 19) (L' := [some (.ref 0), some (.int (nI 0)), some (.ref 5)]) (st' := [.int (I 5 3)]) (I' := I) (J' := J) (G' := G) rfl ?_
  refine aw_0neN hk (by omega) (oX6_back.dec rfl) (tgt := 25) rfl (fun h19 => absurd h19 (by omega)) (fun h19 => ?_)
  refine aw_run oX6_back sxOk 1 (pc' := 24) (L' := [some (.ref 0), some (.int (nI 0)), some (.ref 5)]) (st' := [.int (-nI 2)]) (I' := I) (J' := J) (G' := G) rfl ?_
  exact aw_iret rfl (oX6_back.dec rfl) pe_rfl
set_option maxRecDepth 20000 in
theorem c_back_0 {I : II} {J : JJ} {G : II} (hk : I 5 3 = nI 1) : AMet SX mX6_back [.ref 0, .int (nI 0)] I J G (PE (some (.int ((va_cpy (G 26) (G 24) 0 0 18) 0))) (up2 I 4 2 (I 5 2)) J (va_up (va_up G 24 (va_cpy (G 26) (G 24) 0 0 18)) 25 (va_cpy (G 27) (G 25) 0 0 180))) := by
  refine amet_en oX6_back rfl rfl (L := [some (.ref 0), some (.int (nI 0)), none]) rfl ?_
  refine aw_run oX6_back sxOk 1 (pc' := 1) (L' := [some (.ref 0), some (.int (nI 0)), none]) (st' := [.int (nI 0)]) (I' := I) (J' := J) (G' := G) rfl ?_
  refine aw_cS (st := []) [.int (nI 0)] oX6_isImage k6_209 rfl rfl rfl rfl rfl (oX6_back.dec rfl) c_isImage_0 ?_
  refine aw_eqS (st := [.int (nI 1)]) rfl ?_
  refine aw_0neN rfl (by omega) (oX6_back.dec rfl) (tgt := 9) rfl (fun h4 => ?_) (fun h4 => absurd h4 (by omega))
  refine aw_run oX6_back sxOk 2 (pc' := 11) (L' := [some (.ref 0), some (.int (nI 0)), none]) (st' := [.int (nI 0), .ref 0]) (I' := I) (J' := J) (G' := G) rfl ?_
  refine aw_cV (st := []) 0 [.int (nI 0)] oX6_imageOf k6_212 rfl rfl rfl rfl rfl rfl rfl rfl (oX6_back.dec rfl) c_imageOf_0 ?_
  refine aw_eqS (st := [.ref 5]) rfl ?_
  refine aw_run oX6_back sxOk 3 (pc' := 19) (L' := [some (.ref 0), some (.int (nI 0)), some (.ref 5)]) (st' := [.int (I 5 3)]) (I' := I) (J' := J) (G' := G) rfl ?_
  refine aw_0neN hk (by omega) (oX6_back.dec rfl) (tgt := 25) rfl (fun h19 => ?_) (fun h19 => absurd h19 (by omega))
  refine aw_run oX6_back sxOk 3 (pc' := 30) (L' := [some (.ref 0), some (.int (nI 0)), some (.ref 5)]) (st' := [.ref 5, .ref 4]) (I' := I) (J' := J) (G' := G) rfl ?_
  refine aw_cV (st := []) 4 [.ref 5] oX2_copyFrom k6_216 rfl rfl rfl rfl rfl rfl rfl rfl (oX6_back.dec rfl) c_copyLog_45 ?_
  refine aw_eqS (st := []) rfl ?_
  refine aw_run oX6_back sxOk 2 (pc' := 37) (L' := [some (.ref 0), some (.int (nI 0)), some (.ref 5)]) (st' := [.ref 4]) (I' := up2 I 4 2 (I 5 2)) (J' := J) (G' := va_up (va_up G 24 (va_cpy (G 26) (G 24) 0 0 18)) 25 (va_cpy (G 27) (G 25) 0 0 180)) rfl ?_
  refine aw_cV (st := []) 4 [] oX2_theWeek k6_126 rfl rfl rfl rfl rfl rfl rfl rfl (oX6_back.dec rfl) c_theWeek ?_
  refine aw_eqS (st := [.int ((va_cpy (G 26) (G 24) 0 0 18) 0)]) rfl ?_
  exact aw_iret rfl (oX6_back.dec rfl) pe_rfl
set_option maxRecDepth 20000 in
theorem c_keep_1 {I : II} {J : JJ} {G : II}  : AMet SX mX6_keep [.ref 0, .int (nI 1)] I J G (PE (some (.int (G 24 0))) (up2 (up2 I 6 2 (I 4 2)) 6 3 (nI 1)) J (va_up (va_up G 28 (va_cpy (G 24) (G 28) 0 0 18)) 29 (va_cpy (G 25) (G 29) 0 0 180))) := by
  refine amet_en oX6_keep rfl rfl (L := [some (.ref 0), some (.int (nI 1)), none]) rfl ?_
  refine aw_run oX6_keep sxOk 1 (pc' := 1) (L' := [some (.ref 0), some (.int (nI 1)), none]) (st' := [.int (nI 1)]) (I' := I) (J' := J) (G' := G) rfl ?_
  refine aw_cS (st := []) [.int (nI 1)] oX6_isImage k6_209 rfl rfl rfl rfl rfl (oX6_keep.dec rfl) c_isImage_1 ?_
  refine aw_eqS (st := [.int (nI 1)]) rfl ?_
  refine aw_0neN rfl (by omega) (oX6_keep.dec rfl) (tgt := 9) rfl (fun h4 => ?_) (fun h4 => absurd h4 (by omega))
  refine aw_run oX6_keep sxOk 2 (pc' := 11) (L' := [some (.ref 0), some (.int (nI 1)), none]) (st' := [.int (nI 1), .ref 0]) (I' := I) (J' := J) (G' := G) rfl ?_
  refine aw_cV (st := []) 0 [.int (nI 1)] oX6_imageOf k6_212 rfl rfl rfl rfl rfl rfl rfl rfl (oX6_keep.dec rfl) c_imageOf_1 ?_
  refine aw_eqS (st := [.ref 6]) rfl ?_
  refine aw_run oX6_keep sxOk 4 (pc' := 20) (L' := [some (.ref 0), some (.int (nI 1)), some (.ref 6)]) (st' := [.ref 4, .ref 6]) (I' := I) (J' := J) (G' := G) rfl ?_
  refine aw_cV (st := []) 6 [.ref 4] oX2_copyFrom k6_216 rfl rfl rfl rfl rfl rfl rfl rfl (oX6_keep.dec rfl) c_copyLog_64 ?_
  refine aw_eqS (st := []) rfl ?_
  refine aw_run oX6_keep sxOk 5 (pc' := 32) (L' := [some (.ref 0), some (.int (nI 1)), some (.ref 6)]) (st' := [.ref 4]) (I' := up2 (up2 I 6 2 (I 4 2)) 6 3 (nI 1)) (J' := J) (G' := va_up (va_up G 28 (va_cpy (G 24) (G 28) 0 0 18)) 29 (va_cpy (G 25) (G 29) 0 0 180)) rfl ?_
  refine aw_cV (st := []) 4 [] oX2_theWeek k6_126 rfl rfl rfl rfl rfl rfl rfl rfl (oX6_keep.dec rfl) c_theWeek ?_
  refine aw_eqS (st := [.int (G 24 0)]) rfl ?_
  exact aw_iret rfl (oX6_keep.dec rfl) pe_rfl
set_option maxRecDepth 20000 in
theorem c_back_no_1 {I : II} {J : JJ} {G : II} (hk : I 6 3 = nI 0) : AMet SX mX6_back [.ref 0, .int (nI 1)] I J G (PE (some (.int (-nI 2))) I J G) := by
  refine amet_en oX6_back rfl rfl (L := [some (.ref 0), some (.int (nI 1)), none]) rfl ?_
  refine aw_run oX6_back sxOk 1 (pc' := 1) (L' := [some (.ref 0), some (.int (nI 1)), none]) (st' := [.int (nI 1)]) (I' := I) (J' := J) (G' := G) rfl ?_
  refine aw_cS (st := []) [.int (nI 1)] oX6_isImage k6_209 rfl rfl rfl rfl rfl (oX6_back.dec rfl) c_isImage_1 ?_
  refine aw_eqS (st := [.int (nI 1)]) rfl ?_
  refine aw_0neN rfl (by omega) (oX6_back.dec rfl) (tgt := 9) rfl (fun h4 => ?_) (fun h4 => absurd h4 (by omega))
  refine aw_run oX6_back sxOk 2 (pc' := 11) (L' := [some (.ref 0), some (.int (nI 1)), none]) (st' := [.int (nI 1), .ref 0]) (I' := I) (J' := J) (G' := G) rfl ?_
  refine aw_cV (st := []) 0 [.int (nI 1)] oX6_imageOf k6_212 rfl rfl rfl rfl rfl rfl rfl rfl (oX6_back.dec rfl) c_imageOf_1 ?_
  refine aw_eqS (st := [.ref 6]) rfl ?_
  refine aw_run oX6_back sxOk 3 (pc' := 19) (L' := [some (.ref 0), some (.int (nI 1)), some (.ref 6)]) (st' := [.int (I 6 3)]) (I' := I) (J' := J) (G' := G) rfl ?_
  refine aw_0neN hk (by omega) (oX6_back.dec rfl) (tgt := 25) rfl (fun h19 => absurd h19 (by omega)) (fun h19 => ?_)
  refine aw_run oX6_back sxOk 1 (pc' := 24) (L' := [some (.ref 0), some (.int (nI 1)), some (.ref 6)]) (st' := [.int (-nI 2)]) (I' := I) (J' := J) (G' := G) rfl ?_
  exact aw_iret rfl (oX6_back.dec rfl) pe_rfl
set_option maxRecDepth 20000 in
theorem c_back_1 {I : II} {J : JJ} {G : II} (hk : I 6 3 = nI 1) : AMet SX mX6_back [.ref 0, .int (nI 1)] I J G (PE (some (.int ((va_cpy (G 28) (G 24) 0 0 18) 0))) (up2 I 4 2 (I 6 2)) J (va_up (va_up G 24 (va_cpy (G 28) (G 24) 0 0 18)) 25 (va_cpy (G 29) (G 25) 0 0 180))) := by
  refine amet_en oX6_back rfl rfl (L := [some (.ref 0), some (.int (nI 1)), none]) rfl ?_
  refine aw_run oX6_back sxOk 1 (pc' := 1) (L' := [some (.ref 0), some (.int (nI 1)), none]) (st' := [.int (nI 1)]) (I' := I) (J' := J) (G' := G) rfl ?_
  refine aw_cS (st := []) [.int (nI 1)] oX6_isImage k6_209 rfl rfl rfl rfl rfl (oX6_back.dec rfl) c_isImage_1 ?_
  refine aw_eqS (st := [.int (nI 1)]) rfl ?_
  refine aw_0neN rfl (by omega) (oX6_back.dec rfl) (tgt := 9) rfl (fun h4 => ?_) (fun h4 => absurd h4 (by omega))
  refine aw_run oX6_back sxOk 2 (pc' := 11) (L' := [some (.ref 0), some (.int (nI 1)), none]) (st' := [.int (nI 1), .ref 0]) (I' := I) (J' := J) (G' := G) rfl ?_
  refine aw_cV (st := []) 0 [.int (nI 1)] oX6_imageOf k6_212 rfl rfl rfl rfl rfl rfl rfl rfl (oX6_back.dec rfl) c_imageOf_1 ?_
  refine aw_eqS (st := [.ref 6]) rfl ?_
  refine aw_run oX6_back sxOk 3 (pc' := 19) (L' := [some (.ref 0), some (.int (nI 1)), some (.ref 6)]) (st' := [.int (I 6 3)]) (I' := I) (J' := J) (G' := G) rfl ?_
  refine aw_0neN hk (by omega) (oX6_back.dec rfl) (tgt := 25) rfl (fun h19 => ?_) (fun h19 => absurd h19 (by omega))
  refine aw_run oX6_back sxOk 3 (pc' := 30) (L' := [some (.ref 0), some (.int (nI 1)), some (.ref 6)]) (st' := [.ref 6, .ref 4]) (I' := I) (J' := J) (G' := G) rfl ?_
  refine aw_cV (st := []) 4 [.ref 6] oX2_copyFrom k6_216 rfl rfl rfl rfl rfl rfl rfl rfl (oX6_back.dec rfl) c_copyLog_46 ?_
  refine aw_eqS (st := []) rfl ?_
  refine aw_run oX6_back sxOk 2 (pc' := 37) (L' := [some (.ref 0), some (.int (nI 1)), some (.ref 6)]) (st' := [.ref 4]) (I' := up2 I 4 2 (I 6 2)) (J' := J) (G' := va_up (va_up G 24 (va_cpy (G 28) (G 24) 0 0 18)) 25 (va_cpy (G 29) (G 25) 0 0 180)) rfl ?_
  refine aw_cV (st := []) 4 [] oX2_theWeek k6_126 rfl rfl rfl rfl rfl rfl rfl rfl (oX6_back.dec rfl) c_theWeek ?_
  refine aw_eqS (st := [.int ((va_cpy (G 28) (G 24) 0 0 18) 0)]) rfl ?_
  exact aw_iret rfl (oX6_back.dec rfl) pe_rfl
set_option maxRecDepth 20000 in
theorem c_keep_bad {I : II} {J : JJ} {G : II} {x : Int32} (hx : notIn x 2) : AMet SX mX6_keep [.ref 0, .int x] I J G (PE (some (.int (-nI 1))) I J G) := by
  refine amet_en oX6_keep rfl rfl (L := [some (.ref 0), some (.int x), none]) rfl ?_
  refine aw_run oX6_keep sxOk 1 (pc' := 1) (L' := [some (.ref 0), some (.int x), none]) (st' := [.int x]) (I' := I) (J' := J) (G' := G) rfl ?_
  refine aw_cS (st := []) [.int x] oX6_isImage k6_209 rfl rfl rfl rfl rfl (oX6_keep.dec rfl) (c_isImage_f (by assumption)) ?_
  refine aw_eqS (st := [.int (nI 0)]) rfl ?_
  refine aw_0neN rfl (by omega) (oX6_keep.dec rfl) (tgt := 9) rfl (fun h4 => absurd h4 (by omega)) (fun h4 => ?_)
  refine aw_run oX6_keep sxOk 1 (pc' := 8) (L' := [some (.ref 0), some (.int x), none]) (st' := [.int (-nI 1)]) (I' := I) (J' := J) (G' := G) rfl ?_
  exact aw_iret rfl (oX6_keep.dec rfl) pe_rfl
set_option maxRecDepth 20000 in
theorem c_back_bad {I : II} {J : JJ} {G : II} {x : Int32} (hx : notIn x 2) : AMet SX mX6_back [.ref 0, .int x] I J G (PE (some (.int (-nI 1))) I J G) := by
  refine amet_en oX6_back rfl rfl (L := [some (.ref 0), some (.int x), none]) rfl ?_
  refine aw_run oX6_back sxOk 1 (pc' := 1) (L' := [some (.ref 0), some (.int x), none]) (st' := [.int x]) (I' := I) (J' := J) (G' := G) rfl ?_
  refine aw_cS (st := []) [.int x] oX6_isImage k6_209 rfl rfl rfl rfl rfl (oX6_back.dec rfl) (c_isImage_f (by assumption)) ?_
  refine aw_eqS (st := [.int (nI 0)]) rfl ?_
  refine aw_0neN rfl (by omega) (oX6_back.dec rfl) (tgt := 9) rfl (fun h4 => absurd h4 (by omega)) (fun h4 => ?_)
  refine aw_run oX6_back sxOk 1 (pc' := 8) (L' := [some (.ref 0), some (.int x), none]) (st' := [.int (-nI 1)]) (I' := I) (J' := J) (G' := G) rfl ?_
  exact aw_iret rfl (oX6_back.dec rfl) pe_rfl
set_option maxRecDepth 20000 in
theorem c_count_0 {I : II} {J : JJ} {G : II}  : AMet SX mX6_count [.ref 0, .int (nI 0)] I J G (PE (some (.int (I 2 6))) I J G) := by
  refine amet_en oX6_count rfl rfl (L := [some (.ref 0), some (.int (nI 0))]) rfl ?_
  refine aw_run oX6_count sxOk 1 (pc' := 1) (L' := [some (.ref 0), some (.int (nI 0))]) (st' := [.int (nI 0)]) (I' := I) (J' := J) (G' := G) rfl ?_
  refine aw_tableIn (x := nI 0) (oX6_count.dec rfl) (by decide) (by decide) (off := 35) (by decide) (tgt := 36) rfl ?_
  refine aw_run oX6_count sxOk 3 (pc' := 43) (L' := [some (.ref 0), some (.int (nI 0))]) (st' := [.int (I 2 6)]) (I' := I) (J' := J) (G' := G) rfl ?_
  exact aw_iret rfl (oX6_count.dec rfl) pe_rfl
set_option maxRecDepth 20000 in
theorem c_count_1 {I : II} {J : JJ} {G : II}  : AMet SX mX6_count [.ref 0, .int (nI 1)] I J G (PE (some (.int (I 2 7))) I J G) := by
  refine amet_en oX6_count rfl rfl (L := [some (.ref 0), some (.int (nI 1))]) rfl ?_
  refine aw_run oX6_count sxOk 1 (pc' := 1) (L' := [some (.ref 0), some (.int (nI 1))]) (st' := [.int (nI 1)]) (I' := I) (J' := J) (G' := G) rfl ?_
  refine aw_tableIn (x := nI 1) (oX6_count.dec rfl) (by decide) (by decide) (off := 43) (by decide) (tgt := 44) rfl ?_
  refine aw_run oX6_count sxOk 3 (pc' := 51) (L' := [some (.ref 0), some (.int (nI 1))]) (st' := [.int (I 2 7)]) (I' := I) (J' := J) (G' := G) rfl ?_
  exact aw_iret rfl (oX6_count.dec rfl) pe_rfl
set_option maxRecDepth 20000 in
theorem c_count_2 {I : II} {J : JJ} {G : II}  : AMet SX mX6_count [.ref 0, .int (nI 2)] I J G (PE (some (.int (I 2 8))) I J G) := by
  refine amet_en oX6_count rfl rfl (L := [some (.ref 0), some (.int (nI 2))]) rfl ?_
  refine aw_run oX6_count sxOk 1 (pc' := 1) (L' := [some (.ref 0), some (.int (nI 2))]) (st' := [.int (nI 2)]) (I' := I) (J' := J) (G' := G) rfl ?_
  refine aw_tableIn (x := nI 2) (oX6_count.dec rfl) (by decide) (by decide) (off := 51) (by decide) (tgt := 52) rfl ?_
  refine aw_run oX6_count sxOk 3 (pc' := 59) (L' := [some (.ref 0), some (.int (nI 2))]) (st' := [.int (I 2 8)]) (I' := I) (J' := J) (G' := G) rfl ?_
  exact aw_iret rfl (oX6_count.dec rfl) pe_rfl
set_option maxRecDepth 20000 in
theorem c_count_3 {I : II} {J : JJ} {G : II}  : AMet SX mX6_count [.ref 0, .int (nI 3)] I J G (PE (some (.int (I 4 2))) I J G) := by
  refine amet_en oX6_count rfl rfl (L := [some (.ref 0), some (.int (nI 3))]) rfl ?_
  refine aw_run oX6_count sxOk 1 (pc' := 1) (L' := [some (.ref 0), some (.int (nI 3))]) (st' := [.int (nI 3)]) (I' := I) (J' := J) (G' := G) rfl ?_
  refine aw_tableIn (x := nI 3) (oX6_count.dec rfl) (by decide) (by decide) (off := 59) (by decide) (tgt := 60) rfl ?_
  refine aw_run oX6_count sxOk 3 (pc' := 67) (L' := [some (.ref 0), some (.int (nI 3))]) (st' := [.int (I 4 2)]) (I' := I) (J' := J) (G' := G) rfl ?_
  exact aw_iret rfl (oX6_count.dec rfl) pe_rfl
set_option maxRecDepth 20000 in
theorem c_count_4 {I : II} {J : JJ} {G : II}  : AMet SX mX6_count [.ref 0, .int (nI 4)] I J G (PE (some (.int (I 1 1))) I J G) := by
  refine amet_en oX6_count rfl rfl (L := [some (.ref 0), some (.int (nI 4))]) rfl ?_
  refine aw_run oX6_count sxOk 1 (pc' := 1) (L' := [some (.ref 0), some (.int (nI 4))]) (st' := [.int (nI 4)]) (I' := I) (J' := J) (G' := G) rfl ?_
  refine aw_tableIn (x := nI 4) (oX6_count.dec rfl) (by decide) (by decide) (off := 67) (by decide) (tgt := 68) rfl ?_
  refine aw_run oX6_count sxOk 3 (pc' := 75) (L' := [some (.ref 0), some (.int (nI 4))]) (st' := [.int (I 1 1)]) (I' := I) (J' := J) (G' := G) rfl ?_
  exact aw_iret rfl (oX6_count.dec rfl) pe_rfl
set_option maxRecDepth 20000 in
theorem c_count_bad {I : II} {J : JJ} {G : II} {x : Int32} (hx : notIn x 5) : AMet SX mX6_count [.ref 0, .int x] I J G (PE (some (.int (-nI 1))) I J G) := by
  refine amet_en oX6_count rfl rfl (L := [some (.ref 0), some (.int x)]) rfl ?_
  refine aw_run oX6_count sxOk 1 (pc' := 1) (L' := [some (.ref 0), some (.int x)]) (st' := [.int x]) (I' := I) (J' := J) (G' := G) rfl ?_
  refine aw_tableOut (x := x) (oX6_count.dec rfl) (notIn_tab hx (by decide)) (tgt := 76) rfl ?_
  refine aw_run oX6_count sxOk 1 (pc' := 77) (L' := [some (.ref 0), some (.int x)]) (st' := [.int (-nI 1)]) (I' := I) (J' := J) (G' := G) rfl ?_
  exact aw_iret rfl (oX6_count.dec rfl) pe_rfl
set_option maxRecDepth 20000 in
theorem c_trace {I : II} {J : JJ} {G : II}  : AMet SX mX6_trace [.ref 0] I J G (PE (some (.long (J 9 2))) I J G) := by
  refine amet_en oX6_trace rfl rfl (L := [some (.ref 0)]) rfl ?_
  refine aw_run oX6_trace sxOk 3 (pc' := 7) (L' := [some (.ref 0)]) (st' := [.long (J 9 2)]) (I' := I) (J' := J) (G' := G) rfl ?_
  exact aw_lret rfl (oX6_trace.dec rfl) pe_rfl
