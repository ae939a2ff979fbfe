set_option maxRecDepth 20000 in
theorem m_worthOf {I : II} {J : JJ} {G : II} {P : Nat} (hP : G 5 0 = nI P) (hP5 : P ≤ 5) {σ w : Nat} (hσ : σ < 32) (hw : w < 12) : AMet SM mX7_worthOf [.ref 0, .int (nI σ), .int (nI w)] I J G (PE (some (.int (wor (G 11) (G 8) (G 4 w) (G 3 w) P σ))) I J G) := by
  refine amet_en oX7_worthOf rfl rfl (L := [some (.ref 0), some (.int (nI σ)), some (.int (nI w)), none]) rfl ?_
  cases htk : tak (G 11) (G 8) (G 4 w) P σ with
  | none =>
    refine aw_run oX7_worthOf smOk 3 (pc' := 3) (L' := [some (.ref 0), some (.int (nI σ)), some (.int (nI w)), none]) (st' := [.int (nI w), .int (nI σ), .ref 0]) (I' := I) (J' := J) (G' := G) rfl ?_
    refine aw_cV (st := []) 0 [.int (nI σ), .int (nI w)] oX7_takenOf k7_144 rfl rfl rfl rfl rfl rfl rfl rfl (oX7_worthOf.dec rfl) (m_takenOf hP (by omega) (by omega) (by omega)) ?_
    refine aw_eqS (st := [.int (encO (tak (G 11) (G 8) (G 4 w) P σ))]) rfl ?_
    refine aw_eqS (st := [.int (-nI 9)]) (by rw [htk]; rfl) ?_
    refine aw_run oX7_worthOf smOk 3 (pc' := 9) (L' := [some (.ref 0), some (.int (nI σ)), some (.int (nI w)), some (.int (-nI 9))]) (st' := [.int (nI σ), .ref 0]) (I' := I) (J' := J) (G' := G) rfl ?_
    refine aw_cV (st := []) 0 [.int (nI σ)] oX7_silverOf k7_154 rfl rfl rfl rfl rfl rfl rfl rfl (oX7_worthOf.dec rfl) (m_silverOf hP (by omega) (by omega)) ?_
    refine aw_eqS (st := [.int (sumS (sil (G 11)) σ P)]) rfl ?_
    refine aw_run oX7_worthOf smOk 2 (pc' := 15) (L' := [some (.ref 0), some (.int (nI σ)), some (.int (nI w)), some (.int (-nI 9))]) (st' := [.int (-nI 9), .int (-nI 9), .int (sumS (sil (G 11)) σ P)]) (I' := I) (J' := J) (G' := G) rfl ?_
    refine aw_icmp_ne (oX7_worthOf.dec rfl) (tgt := 22) rfl (fun h15 => absurd h15 (by decide)) (fun h15 => ?_)
    refine aw_run oX7_worthOf smOk 7 (pc' := 35) (L' := [some (.ref 0), some (.int (nI σ)), some (.int (nI w)), some (.int (-nI 9))]) (st' := [.int (nI w), .ref 3, .int (nI 10), .int ((sumS (sil (G 11)) σ P) - (nI 0))]) (I' := I) (J' := J) (G' := G) rfl ?_
    refine aw_iaN w smOk rfl rfl (by omega) (oX7_worthOf.dec rfl) ?_
    refine aw_run oX7_worthOf smOk 2 (pc' := 38) (L' := [some (.ref 0), some (.int (nI σ)), some (.int (nI w)), some (.int (-nI 9))]) (st' := [.int (((sumS (sil (G 11)) σ P) - (nI 0)) * ((nI 10) - (G 3 w)))]) (I' := I) (J' := J) (G' := G) rfl ?_
    exact aw_iret rfl (oX7_worthOf.dec rfl) (pe_i (by unfold wor; rw [htk]; rfl))
  | some r =>
    have hr := (tak_lt htk).1
    refine aw_run oX7_worthOf smOk 3 (pc' := 3) (L' := [some (.ref 0), some (.int (nI σ)), some (.int (nI w)), none]) (st' := [.int (nI w), .int (nI σ), .ref 0]) (I' := I) (J' := J) (G' := G) rfl ?_
    refine aw_cV (st := []) 0 [.int (nI σ), .int (nI w)] oX7_takenOf k7_144 rfl rfl rfl rfl rfl rfl rfl rfl (oX7_worthOf.dec rfl) (m_takenOf hP (by omega) (by omega) (by omega)) ?_
    refine aw_eqS (st := [.int (encO (tak (G 11) (G 8) (G 4 w) P σ))]) rfl ?_
    refine aw_eqS (st := [.int (nI r)]) (by rw [htk]; rfl) ?_
    refine aw_run oX7_worthOf smOk 3 (pc' := 9) (L' := [some (.ref 0), some (.int (nI σ)), some (.int (nI w)), some (.int (nI r))]) (st' := [.int (nI σ), .ref 0]) (I' := I) (J' := J) (G' := G) rfl ?_
    refine aw_cV (st := []) 0 [.int (nI σ)] oX7_silverOf k7_154 rfl rfl rfl rfl rfl rfl rfl rfl (oX7_worthOf.dec rfl) (m_silverOf hP (by omega) (by omega)) ?_
    refine aw_eqS (st := [.int (sumS (sil (G 11)) σ P)]) rfl ?_
    refine aw_run oX7_worthOf smOk 2 (pc' := 15) (L' := [some (.ref 0), some (.int (nI σ)), some (.int (nI w)), some (.int (nI r))]) (st' := [.int (-nI 9), .int (nI r), .int (sumS (sil (G 11)) σ P)]) (I' := I) (J' := J) (G' := G) rfl ?_
    refine aw_icmp_ne (oX7_worthOf.dec rfl) (tgt := 22) rfl (fun h15 => ?_) (fun h15 => absurd h15 (nI_n9 (by omega)))
    refine aw_run oX7_worthOf smOk 2 (pc' := 24) (L' := [some (.ref 0), some (.int (nI σ)), some (.int (nI w)), some (.int (nI r))]) (st' := [.int (nI r), .ref 0, .int (sumS (sil (G 11)) σ P)]) (I' := I) (J' := J) (G' := G) rfl ?_
    refine aw_cV (st := [.int (sumS (sil (G 11)) σ P)]) 0 [.int (nI r)] oX7_silver k7_110 rfl rfl rfl rfl rfl rfl rfl rfl (oX7_worthOf.dec rfl) (m_silver (by omega)) ?_
    refine aw_eqS (st := [.int (sil (G 11) r), .int (sumS (sil (G 11)) σ P)]) rfl ?_
    refine aw_run oX7_worthOf smOk 5 (pc' := 35) (L' := [some (.ref 0), some (.int (nI σ)), some (.int (nI w)), some (.int (nI r))]) (st' := [.int (nI w), .ref 3, .int (nI 10), .int ((sumS (sil (G 11)) σ P) - (sil (G 11) r))]) (I' := I) (J' := J) (G' := G) rfl ?_
    refine aw_iaN w smOk rfl rfl (by omega) (oX7_worthOf.dec rfl) ?_
    refine aw_run oX7_worthOf smOk 2 (pc' := 38) (L' := [some (.ref 0), some (.int (nI σ)), some (.int (nI w)), some (.int (nI r))]) (st' := [.int (((sumS (sil (G 11)) σ P) - (sil (G 11) r)) * ((nI 10) - (G 3 w)))]) (I' := I) (J' := J) (G' := G) rfl ?_
    exact aw_iret rfl (oX7_worthOf.dec rfl) (pe_i (by unfold wor; rw [htk]; rfl))
set_option maxRecDepth 20000 in
theorem m_draw {I : II} {J : JJ} {G : II} {s t z : Nat} (hs : s < 5) (ht : G 11 0 = nI t) (ht12 : t ≤ 12) (hz : z ≤ 9999) : AMet SM mX7_draw [.ref 0, .int (nI z), .int (nI s)] I J G (PE (some (.int (nI (dN z s t)))) I J G) := by
  refine amet_en oX7_draw rfl rfl (L := [some (.ref 0), some (.int (nI z)), some (.int (nI s)), none, none]) rfl ?_
  refine aw_run oX7_draw smOk 13 (pc' := 21) (L' := [some (.ref 0), some (.int (nI z)), some (.int (nI s)), none, none]) (st' := [.int (nI 0), .ref 11, .long (12289 : Int64), .long (((7919 : Int64) * ((nI z).toInt64)) + ((6151 : Int64) * ((nI s).toInt64)))]) (I' := I) (J' := J) (G' := G) rfl ?_
  refine aw_iaN 0 smOk rfl rfl (by omega) (oX7_draw.dec rfl) ?_
  refine aw_run oX7_draw smOk 10 (pc' := 34) (L' := [some (.ref 0), some (.int (nI z)), some (.int (nI s)), some (.long (((((7919 : Int64) * ((nI z).toInt64)) + ((6151 : Int64) * ((nI s).toInt64))) + ((12289 : Int64) * ((G 11 0).toInt64))) + (Int64.ofNat 1))), none]) (st' := [.long (65521 : Int64), .long ((((((7919 : Int64) * ((nI z).toInt64)) + ((6151 : Int64) * ((nI s).toInt64))) + ((12289 : Int64) * ((G 11 0).toInt64))) + (Int64.ofNat 1)) * (((((7919 : Int64) * ((nI z).toInt64)) + ((6151 : Int64) * ((nI s).toInt64))) + ((12289 : Int64) * ((G 11 0).toInt64))) + (Int64.ofNat 1)))]) (I' := I) (J' := J) (G' := G) rfl ?_
  refine aw_lrem (by decide) (oX7_draw.dec rfl) ?_
  refine aw_run oX7_draw smOk 2 (pc' := 38) (L' := [some (.ref 0), some (.int (nI z)), some (.int (nI s)), some (.long (((((7919 : Int64) * ((nI z).toInt64)) + ((6151 : Int64) * ((nI s).toInt64))) + ((12289 : Int64) * ((G 11 0).toInt64))) + (Int64.ofNat 1))), none]) (st' := [.int (nI 8), .int ((((((((7919 : Int64) * ((nI z).toInt64)) + ((6151 : Int64) * ((nI s).toInt64))) + ((12289 : Int64) * ((G 11 0).toInt64))) + (Int64.ofNat 1)) * (((((7919 : Int64) * ((nI z).toInt64)) + ((6151 : Int64) * ((nI s).toInt64))) + ((12289 : Int64) * ((G 11 0).toInt64))) + (Int64.ofNat 1))) - ((((((7919 : Int64) * ((nI z).toInt64)) + ((6151 : Int64) * ((nI s).toInt64))) + ((12289 : Int64) * ((G 11 0).toInt64))) + (Int64.ofNat 1)) * (((((7919 : Int64) * ((nI z).toInt64)) + ((6151 : Int64) * ((nI s).toInt64))) + ((12289 : Int64) * ((G 11 0).toInt64))) + (Int64.ofNat 1))) / (65521 : Int64) * (65521 : Int64)).toInt32)]) (I' := I) (J' := J) (G' := G) rfl ?_
  refine aw_idiv (by decide) (oX7_draw.dec rfl) ?_
  refine aw_run oX7_draw smOk 1 (pc' := 41) (L' := [some (.ref 0), some (.int (nI z)), some (.int (nI s)), some (.long (((((7919 : Int64) * ((nI z).toInt64)) + ((6151 : Int64) * ((nI s).toInt64))) + ((12289 : Int64) * ((G 11 0).toInt64))) + (Int64.ofNat 1))), none]) (st' := [.int (nI 10), .int (((((((((7919 : Int64) * ((nI z).toInt64)) + ((6151 : Int64) * ((nI s).toInt64))) + ((12289 : Int64) * ((G 11 0).toInt64))) + (Int64.ofNat 1)) * (((((7919 : Int64) * ((nI z).toInt64)) + ((6151 : Int64) * ((nI s).toInt64))) + ((12289 : Int64) * ((G 11 0).toInt64))) + (Int64.ofNat 1))) - ((((((7919 : Int64) * ((nI z).toInt64)) + ((6151 : Int64) * ((nI s).toInt64))) + ((12289 : Int64) * ((G 11 0).toInt64))) + (Int64.ofNat 1)) * (((((7919 : Int64) * ((nI z).toInt64)) + ((6151 : Int64) * ((nI s).toInt64))) + ((12289 : Int64) * ((G 11 0).toInt64))) + (Int64.ofNat 1))) / (65521 : Int64) * (65521 : Int64)).toInt32) / (nI 8))]) (I' := I) (J' := J) (G' := G) rfl ?_
  refine aw_irem (by decide) (oX7_draw.dec rfl) ?_
  exact aw_iret rfl (oX7_draw.dec rfl) (pe_i (remN (divN (by rw [ht]; exact draw_m z s t (by omega) (by omega) (by omega) _ (dq_eq z s t (by omega) (by omega) (by omega))) rfl (by have := Nat.mod_lt ((7919 * z + 6151 * s + 12289 * t + 1) * (7919 * z + 6151 * s + 12289 * t + 1)) (show 0 < 65521 by decide); omega) (by decide) (by decide)) rfl (by have := Nat.mod_lt ((7919 * z + 6151 * s + 12289 * t + 1) * (7919 * z + 6151 * s + 12289 * t + 1)) (show 0 < 65521 by decide); omega) (by decide) (by decide)))
set_option maxRecDepth 20000 in
theorem m_mayGo {I : II} {J : JJ} {G : II} {P : Nat} (hP : G 5 0 = nI P) (hP5 : P ≤ 5) {σ w : Nat} (hσ : σ < 32) : AMet SM mX7_mayGo [.ref 0, .int (nI σ), .int (nI w)] I J G (PE (some (.int (b1 (allB (q1 (G 9) σ w) P)))) I J G) := by
  refine amet_en oX7_mayGo rfl rfl (L := [some (.ref 0), some (.int (nI σ)), some (.int (nI w)), none, none]) rfl ?_
  have loop : ∀ (n s : Nat) (x : Int32) (y : Int32), (s + n = P) → (x = nI s) → (y = b1 (allB (q1 (G 9) σ w) s)) → AW SM mX7_mayGo 5 [some (.ref 0), some (.int (nI σ)), some (.int (nI w)), some (.int y), some (.int x)] [] I J G (PE (some (.int (b1 (allB (q1 (G 9) σ w) P)))) I J G) := by
    intro n
    induction n with
    | zero =>
      intro s x y hsn hx hy
      refine aw_run oX7_mayGo smOk 4 (pc' := 12) (L' := [some (.ref 0), some (.int (nI σ)), some (.int (nI w)), some (.int y), some (.int x)]) (st' := [.int (nI 0), .ref 5, .int x]) (I' := I) (J' := J) (G' := G) rfl ?_
      refine aw_iaN 0 smOk rfl rfl (by omega) (oX7_mayGo.dec rfl) ?_
      refine aw_geN hx hP (by omega) (by omega) (oX7_mayGo.dec rfl) (tgt := 52) rfl (fun h13 => ?_) (fun h13 => absurd h13 (by omega))
      refine aw_run oX7_mayGo smOk 1 (pc' := 53) (L' := [some (.ref 0), some (.int (nI σ)), some (.int (nI w)), some (.int y), some (.int x)]) (st' := [.int y]) (I' := I) (J' := J) (G' := G) rfl ?_
      exact aw_zret rfl (by rw [hy]; exact b1_01 _) (oX7_mayGo.dec rfl) (pe_i (by rw [hy, show s = P by omega]))
    | succ n ih =>
      intro s x y hsn hx hy
      refine aw_run oX7_mayGo smOk 4 (pc' := 12) (L' := [some (.ref 0), some (.int (nI σ)), some (.int (nI w)), some (.int y), some (.int x)]) (st' := [.int (nI 0), .ref 5, .int x]) (I' := I) (J' := J) (G' := G) rfl ?_
      refine aw_iaN 0 smOk rfl rfl (by omega) (oX7_mayGo.dec rfl) ?_
      refine aw_geN hx hP (by omega) (by omega) (oX7_mayGo.dec rfl) (tgt := 52) rfl (fun h13 => absurd h13 (by omega)) (fun h13 => ?_)
      refine aw_run oX7_mayGo smOk 1 (pc' := 17) (L' := [some (.ref 0), some (.int (nI σ)), some (.int (nI w)), some (.int y), some (.int x)]) (st' := [.int y]) (I' := I) (J' := J) (G' := G) rfl ?_
      refine aw_if_eq (oX7_mayGo.dec rfl) (tgt := 44) rfl (fun h17 => ?_) (fun h17 => ?_)
      · refine aw_run oX7_mayGo smOk 4 (pc' := 5) (L' := [some (.ref 0), some (.int (nI σ)), some (.int (nI w)), some (.int (nI 0)), some (.int (x + (nI 1)))]) (st' := []) (I' := I) (J' := J) (G' := G) rfl ?_
        exact ih (s + 1) _ _ (by omega) (addN hx rfl) (by rw [show allB (q1 (G 9) σ w) (s + 1) = false by unfold allB; rw [b1_0.mp (hy.symm.trans h17)]; rfl]; rfl)
      · refine aw_run oX7_mayGo smOk 5 (pc' := 26) (L' := [some (.ref 0), some (.int (nI σ)), some (.int (nI w)), some (.int y), some (.int x)]) (st' := [.int (((nI σ) >>> (x &&& 31)) &&& (nI 1))]) (I' := I) (J' := J) (G' := G) rfl ?_
        refine aw_0eqN (bitNI rfl hx (by omega) (by omega)) (bitN_b _ _) (oX7_mayGo.dec rfl) (tgt := 40) rfl (fun h26 => ?_) (fun h26 => ?_)
        · refine aw_run oX7_mayGo smOk 5 (pc' := 5) (L' := [some (.ref 0), some (.int (nI σ)), some (.int (nI w)), some (.int (nI 1)), some (.int (x + (nI 1)))]) (st' := []) (I' := I) (J' := J) (G' := G) rfl ?_
          exact ih (s + 1) _ _ (by omega) (addN hx rfl) (by unfold allB; rw [show allB (q1 (G 9) σ w) s = true from ts_nf (fun e => h17 (hy.trans (by rw [e]; rfl))), show q1 (G 9) σ w s = true by unfold q1; rw [bitN_0 h26]; rfl]; rfl)
        · refine aw_run oX7_mayGo smOk 3 (pc' := 35) (L' := [some (.ref 0), some (.int (nI σ)), some (.int (nI w)), some (.int y), some (.int x)]) (st' := [.int x, .ref 9]) (I' := I) (J' := J) (G' := G) rfl ?_
          refine aw_iaN s smOk rfl hx (by omega) (oX7_mayGo.dec rfl) ?_
          refine aw_run oX7_mayGo smOk 1 (pc' := 37) (L' := [some (.ref 0), some (.int (nI σ)), some (.int (nI w)), some (.int y), some (.int x)]) (st' := [.int (nI w), .int (G 9 s)]) (I' := I) (J' := J) (G' := G) rfl ?_
          refine aw_icmp_gt (oX7_mayGo.dec rfl) (tgt := 44) rfl (fun h37 => ?_) (fun h37 => ?_)
          · refine aw_run oX7_mayGo smOk 4 (pc' := 5) (L' := [some (.ref 0), some (.int (nI σ)), some (.int (nI w)), some (.int (nI 0)), some (.int (x + (nI 1)))]) (st' := []) (I' := I) (J' := J) (G' := G) rfl ?_
            exact ih (s + 1) _ _ (by omega) (addN hx rfl) (by unfold allB; rw [show allB (q1 (G 9) σ w) s = true from ts_nf (fun e => h17 (hy.trans (by rw [e]; rfl))), show q1 (G 9) σ w s = false by unfold q1; rw [bitN_n0 h26, decide_eq_false (Int32.not_le.mpr h37)]; rfl]; rfl)
          · refine aw_run oX7_mayGo smOk 5 (pc' := 5) (L' := [some (.ref 0), some (.int (nI σ)), some (.int (nI w)), some (.int (nI 1)), some (.int (x + (nI 1)))]) (st' := []) (I' := I) (J' := J) (G' := G) rfl ?_
            exact ih (s + 1) _ _ (by omega) (addN hx rfl) (by unfold allB; rw [show allB (q1 (G 9) σ w) s = true from ts_nf (fun e => h17 (hy.trans (by rw [e]; rfl))), show q1 (G 9) σ w s = true by unfold q1; rw [decide_eq_true (Int32.not_lt.mp h37)]; simp]; rfl)
  refine aw_run oX7_mayGo smOk 4 (pc' := 5) (L' := [some (.ref 0), some (.int (nI σ)), some (.int (nI w)), some (.int (nI 1)), some (.int (nI 0))]) (st' := []) (I' := I) (J' := J) (G' := G) rfl ?_
  exact loop P 0 _ _ (by omega) rfl rfl
set_option maxRecDepth 20000 in
theorem m_canSail {I : II} {J : JJ} {G : II} {P : Nat} (hP : G 5 0 = nI P) (hP5 : P ≤ 5) {Wk : Nat} (hW : G 2 0 = nI Wk) (hWk : Wk ≤ 12) {t : Nat} (ht : G 11 0 = nI t) (ht12 : t ≤ 12) (htW : t ≤ Wk) {σ : Nat} (hσ : σ < 2 ^ P) : AMet SM mX7_canSail [.ref 0, .int (nI σ)] I J G (PE (some (.int (b1 (decide (t < Wk) && allB (sq (G 11) (G 9) σ t) P)))) I J G) := by
  refine amet_en oX7_canSail rfl rfl (L := [some (.ref 0), some (.int (nI σ)), none, none]) rfl ?_
  have hp32 : 2 ^ P ≤ 32 := Nat.pow_le_pow_right (by decide) hP5
  have hpo : setN (fun s => decide (G 11 (3 + s) = nI 0)) P < 32 := Nat.lt_of_lt_of_le (setN_lt _ _) hp32
  have loop : ∀ (bb : Bool) (hbb : bb = (decide (t < Wk) && decide (anN σ (setN (fun s => decide (G 11 (3 + s) = nI 0)) P) = 0))) (n s : Nat) (x : Int32) (y : Int32), (s + n = P) → (x = nI s) → (y = b1 (bb && allB (q1 (G 9) σ t) s)) → AW SM mX7_canSail 27 [some (.ref 0), some (.int (nI σ)), some (.int y), some (.int x)] [] I J G (PE (some (.int (b1 (decide (t < Wk) && allB (sq (G 11) (G 9) σ t) P)))) I J G) := by
    intro bb hbb n
    induction n with
    | zero =>
      intro s x y hsn hx hy
      refine aw_run oX7_canSail smOk 4 (pc' := 33) (L' := [some (.ref 0), some (.int (nI σ)), some (.int y), some (.int x)]) (st' := [.int (nI 0), .ref 5, .int x]) (I' := I) (J' := J) (G' := G) rfl ?_
      refine aw_iaN 0 smOk rfl rfl (by omega) (oX7_canSail.dec rfl) ?_
      refine aw_geN hx hP (by omega) (by omega) (oX7_canSail.dec rfl) (tgt := 76) rfl (fun h34 => ?_) (fun h34 => absurd h34 (by omega))
      refine aw_run oX7_canSail smOk 1 (pc' := 77) (L' := [some (.ref 0), some (.int (nI σ)), some (.int y), some (.int x)]) (st' := [.int y]) (I' := I) (J' := J) (G' := G) rfl ?_
      exact aw_zret rfl (by rw [hy]; exact b1_01 _) (oX7_canSail.dec rfl) (pe_i (by rw [hy, show s = P by omega, hbb, Bool.and_assoc, can_eq hσ hP5]))
    | succ n ih =>
      intro s x y hsn hx hy
      refine aw_run oX7_canSail smOk 4 (pc' := 33) (L' := [some (.ref 0), some (.int (nI σ)), some (.int y), some (.int x)]) (st' := [.int (nI 0), .ref 5, .int x]) (I' := I) (J' := J) (G' := G) rfl ?_
      refine aw_iaN 0 smOk rfl rfl (by omega) (oX7_canSail.dec rfl) ?_
      refine aw_geN hx hP (by omega) (by omega) (oX7_canSail.dec rfl) (tgt := 76) rfl (fun h34 => absurd h34 (by omega)) (fun h34 => ?_)
      refine aw_run oX7_canSail smOk 1 (pc' := 38) (L' := [some (.ref 0), some (.int (nI σ)), some (.int y), some (.int x)]) (st' := [.int y]) (I' := I) (J' := J) (G' := G) rfl ?_
      refine aw_if_eq (oX7_canSail.dec rfl) (tgt := 68) rfl (fun h38 => ?_) (fun h38 => ?_)
      · refine aw_run oX7_canSail smOk 4 (pc' := 27) (L' := [some (.ref 0), some (.int (nI σ)), some (.int (nI 0)), some (.int (x + (nI 1)))]) (st' := []) (I' := I) (J' := J) (G' := G) rfl ?_
        exact ih (s + 1) _ _ (by omega) (addN hx rfl) (by rw [show (bb && allB (q1 (G 9) σ t) (s + 1)) = false by unfold allB; rw [← Bool.and_assoc, b1_0.mp (hy.symm.trans h38)]; rfl]; rfl)
      · refine aw_run oX7_canSail smOk 5 (pc' := 46) (L' := [some (.ref 0), some (.int (nI σ)), some (.int y), some (.int x)]) (st' := [.int (((nI σ) >>> (x &&& 31)) &&& (nI 1))]) (I' := I) (J' := J) (G' := G) rfl ?_
        refine aw_0eqN (bitNI rfl hx (by omega) (by omega)) (bitN_b _ _) (oX7_canSail.dec rfl) (tgt := 64) rfl (fun h46 => ?_) (fun h46 => ?_)
        · refine aw_run oX7_canSail smOk 5 (pc' := 27) (L' := [some (.ref 0), some (.int (nI σ)), some (.int (nI 1)), some (.int (x + (nI 1)))]) (st' := []) (I' := I) (J' := J) (G' := G) rfl ?_
          exact ih (s + 1) _ _ (by omega) (addN hx rfl) (by unfold allB; rw [← Bool.and_assoc, show (bb && allB (q1 (G 9) σ t) s) = true from ts_nf (fun e => h38 (hy.trans (by rw [e]; rfl))), show q1 (G 9) σ t s = true by unfold q1; rw [bitN_0 h46]; rfl]; rfl)
        · refine aw_run oX7_canSail smOk 3 (pc' := 54) (L' := [some (.ref 0), some (.int (nI σ)), some (.int y), some (.int x)]) (st' := [.int x, .ref 9]) (I' := I) (J' := J) (G' := G) rfl ?_
          refine aw_iaN s smOk rfl hx (by omega) (oX7_canSail.dec rfl) ?_
          refine aw_run oX7_canSail smOk 3 (pc' := 60) (L' := [some (.ref 0), some (.int (nI σ)), some (.int y), some (.int x)]) (st' := [.int (nI 0), .ref 11, .int (G 9 s)]) (I' := I) (J' := J) (G' := G) rfl ?_
          refine aw_iaN 0 smOk rfl rfl (by omega) (oX7_canSail.dec rfl) ?_
          refine aw_icmp_gt (oX7_canSail.dec rfl) (tgt := 68) rfl (fun h61 => ?_) (fun h61 => ?_)
          · refine aw_run oX7_canSail smOk 4 (pc' := 27) (L' := [some (.ref 0), some (.int (nI σ)), some (.int (nI 0)), some (.int (x + (nI 1)))]) (st' := []) (I' := I) (J' := J) (G' := G) rfl ?_
            exact ih (s + 1) _ _ (by omega) (addN hx rfl) (by unfold allB; rw [← Bool.and_assoc, show (bb && allB (q1 (G 9) σ t) s) = true from ts_nf (fun e => h38 (hy.trans (by rw [e]; rfl))), show q1 (G 9) σ t s = false by unfold q1; rw [bitN_n0 h46, decide_eq_false (by rw [← ht]; exact Int32.not_le.mpr h61)]; rfl]; rfl)
          · refine aw_run oX7_canSail smOk 5 (pc' := 27) (L' := [some (.ref 0), some (.int (nI σ)), some (.int (nI 1)), some (.int (x + (nI 1)))]) (st' := []) (I' := I) (J' := J) (G' := G) rfl ?_
            exact ih (s + 1) _ _ (by omega) (addN hx rfl) (by unfold allB; rw [← Bool.and_assoc, show (bb && allB (q1 (G 9) σ t) s) = true from ts_nf (fun e => h38 (hy.trans (by rw [e]; rfl))), show q1 (G 9) σ t s = true by unfold q1; rw [decide_eq_true (p := G 9 s ≤ nI t) (by rw [← ht]; exact Int32.not_lt.mp h61)]; simp]; rfl)
  refine aw_run oX7_canSail smOk 1 (pc' := 1) (L' := [some (.ref 0), some (.int (nI σ)), none, none]) (st' := [.ref 0]) (I' := I) (J' := J) (G' := G) rfl ?_
  refine aw_cV (st := []) 0 [] oX7_isOver k7_120 rfl rfl rfl rfl rfl rfl rfl rfl (oX7_canSail.dec rfl) (m_isOver hW (by omega) ht (by omega) (by omega)) ?_
  refine aw_eqS (st := [.int (b1 (decide (Wk ≤ t)))]) rfl ?_
  refine aw_0neD (oX7_canSail.dec rfl) (tgt := 23) rfl (fun h4 => ?_) (fun h4 => ?_)
  · refine aw_run oX7_canSail smOk 4 (pc' := 27) (L' := [some (.ref 0), some (.int (nI σ)), some (.int (nI 0)), some (.int (nI 0))]) (st' := []) (I' := I) (J' := J) (G' := G) rfl ?_
    exact loop false (by rw [decide_eq_false (by omega)]; rfl) P 0 _ _ (by omega) rfl rfl
  · refine aw_run oX7_canSail smOk 3 (pc' := 10) (L' := [some (.ref 0), some (.int (nI σ)), none, none]) (st' := [.int (nI 0), .ref 0, .int (nI σ)]) (I' := I) (J' := J) (G' := G) rfl ?_
    refine aw_cV (st := [.int (nI σ)]) 0 [.int (nI 0)] oX7_setIn k7_127 rfl rfl rfl rfl rfl rfl rfl rfl (oX7_canSail.dec rfl) (m_setIn hP (by omega)) ?_
    refine aw_eqS (st := [.int (nI (setN (fun s => decide (G 11 (3 + s) = nI 0)) P)), .int (nI σ)]) rfl ?_
    refine aw_run oX7_canSail smOk 3 (pc' := 16) (L' := [some (.ref 0), some (.int (nI σ)), none, none]) (st' := [.int ((nI σ) &&& ((nI (setN (fun s => decide (G 11 (3 + s) = nI 0)) P)) ^^^ (-nI 1)))]) (I' := I) (J' := J) (G' := G) rfl ?_
    refine aw_0neN (anNI rfl rfl (by omega) (by omega)) (Nat.lt_of_lt_of_le (anN_lt _ (by omega) _ (by omega)) (by decide)) (oX7_canSail.dec rfl) (tgt := 23) rfl (fun h16 => ?_) (fun h16 => ?_)
    · refine aw_run oX7_canSail smOk 4 (pc' := 27) (L' := [some (.ref 0), some (.int (nI σ)), some (.int (nI 0)), some (.int (nI 0))]) (st' := []) (I' := I) (J' := J) (G' := G) rfl ?_
      exact loop false (by rw [decide_eq_false (p := anN _ _ = 0) h16, Bool.and_false]) P 0 _ _ (by omega) rfl rfl
    · refine aw_run oX7_canSail smOk 5 (pc' := 27) (L' := [some (.ref 0), some (.int (nI σ)), some (.int (nI 1)), some (.int (nI 0))]) (st' := []) (I' := I) (J' := J) (G' := G) rfl ?_
      exact loop true (by rw [decide_eq_true (p := t < Wk) (by omega), decide_eq_true h16]; rfl) P 0 _ _ (by omega) rfl rfl
