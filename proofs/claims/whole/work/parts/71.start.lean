set_option maxHeartbeats 4000000 in
set_option maxRecDepth 100000 in
/-- THE LAW, from its entry -/
theorem whole_start {p : Program} {e : Env} {s : State} {m : MethodId} {below : List Frame} {meth : Method} {c : Code} (l : Launch) {b L : Nat} {xs : Nat → Int32} (hL : L ≤ 320) (C0 : lw_At p s m meth c b L xs) : W p l e room_1 s m #[Value.ref b] below meth c s.heap [] 0 0 (lw_Z below #[Value.ref b] s) (entryFrame m ([Value.ref b] : List Value).toArray 4) := by
  obtain ⟨hx, hb, hr, hml, hown, hts, hX, hbl, hlocks, hgv⟩ := id C0
  have hW : ∀ w ∈ Wd, w.before #[Value.ref b] s = true := fun w hw => hts w (wd_tbl hw)
  have hN : ∀ w ∈ Nw, va_Nw w s := fun w hw => by
    have hn := (List.mem_filter.mp hw).2
    refine va_Nw.of ?_ (hts w (nw_tbl hw))
    unfold isNest at hn
    split at hn
    · rfl
    · rfl
    · cases hn
  have hA : ∀ q : Nat, s.heap.size ≤ q → (fun q : Nat => s.heap.size ≤ q) q := fun _ h => h
  have hA0 : ∀ a : Nat, a < s.heap.size → ¬ (fun q : Nat => s.heap.size ≤ q) a := fun a h => Nat.not_le.mpr h
  have hs := flat_of_before _ hgv
  obtain ⟨t100, e100, T100⟩ := va_Tof (tm := (.static "SilverFleets$Text" "WEEK_MOST" "[I")) (ty := .int) (N := 2) (f := fun j => .int ((snl 100).getD j 0)) (A := fun q : Nat => s.heap.size ≤ q) (by decide) (hs (.arrayOf (.static "SilverFleets$Text" "WEEK_MOST" "[I") .int) (by decide +kernel)) (va_eqt (hs (.eq (.length (.static "SilverFleets$Text" "WEEK_MOST" "[I")) (.int 2)) (by decide +kernel))) (fun j hj => match j, hj with
    | 0, _ => va_eqt (hs (.eq (.elem (.static "SilverFleets$Text" "WEEK_MOST" "[I") (.int 0)) (.int 10)) (by decide +kernel))
    | 1, _ => va_eqt (hs (.eq (.elem (.static "SilverFleets$Text" "WEEK_MOST" "[I") (.int 1)) (.int 40)) (by decide +kernel))
    | j + 2, h => absurd h (by omega)) hA0
  have Z100 := va_Zref (hts (.laysStatic "SilverFleets$Text" "WEEK_MOST" "[I") (List.mem_of_getElem? (i := 356) (by decide +kernel))) (hts (.initialized "SilverFleets$Text") (List.mem_of_getElem? (i := 81) (by decide +kernel))) e100 hA0
  obtain ⟨t101, e101, T101⟩ := va_Tof (tm := (.static "SilverFleets$Text" "SHIP_MOST" "[I")) (ty := .int) (N := 4) (f := fun j => .int ((snl 101).getD j 0)) (A := fun q : Nat => s.heap.size ≤ q) (by decide) (hs (.arrayOf (.static "SilverFleets$Text" "SHIP_MOST" "[I") .int) (by decide +kernel)) (va_eqt (hs (.eq (.length (.static "SilverFleets$Text" "SHIP_MOST" "[I")) (.int 4)) (by decide +kernel))) (fun j hj => match j, hj with
    | 0, _ => va_eqt (hs (.eq (.elem (.static "SilverFleets$Text" "SHIP_MOST" "[I") (.int 0)) (.int 60)) (by decide +kernel))
    | 1, _ => va_eqt (hs (.eq (.elem (.static "SilverFleets$Text" "SHIP_MOST" "[I") (.int 1)) (.int 60)) (by decide +kernel))
    | 2, _ => va_eqt (hs (.eq (.elem (.static "SilverFleets$Text" "SHIP_MOST" "[I") (.int 2)) (.int 9)) (by decide +kernel))
    | 3, _ => va_eqt (hs (.eq (.elem (.static "SilverFleets$Text" "SHIP_MOST" "[I") (.int 3)) (.int 11)) (by decide +kernel))
    | j + 4, h => absurd h (by omega)) hA0
  have Z101 := va_Zref (hts (.laysStatic "SilverFleets$Text" "SHIP_MOST" "[I") (List.mem_of_getElem? (i := 105) (by decide +kernel))) (hts (.initialized "SilverFleets$Text") (List.mem_of_getElem? (i := 81) (by decide +kernel))) e101 hA0
  obtain ⟨t102, e102, T102⟩ := va_Tof (tm := (.static "SilverFleets$Text" "SHARE_MOST" "[I")) (ty := .int) (N := 1) (f := fun j => .int ((snl 102).getD j 0)) (A := fun q : Nat => s.heap.size ≤ q) (by decide) (hs (.arrayOf (.static "SilverFleets$Text" "SHARE_MOST" "[I") .int) (by decide +kernel)) (va_eqt (hs (.eq (.length (.static "SilverFleets$Text" "SHARE_MOST" "[I")) (.int 1)) (by decide +kernel))) (fun j hj => match j, hj with
    | 0, _ => va_eqt (hs (.eq (.elem (.static "SilverFleets$Text" "SHARE_MOST" "[I") (.int 0)) (.int 10)) (by decide +kernel))
    | j + 1, h => absurd h (by omega)) hA0
  have Z102 := va_Zref (hts (.laysStatic "SilverFleets$Text" "SHARE_MOST" "[I") (List.mem_of_getElem? (i := 358) (by decide +kernel))) (hts (.initialized "SilverFleets$Text") (List.mem_of_getElem? (i := 81) (by decide +kernel))) e102 hA0
  let as0 : Nat → Nat := fun k => if k = 100 then t100 else if k = 101 then t101 else t102
  have hST : ST as0 (fun q : Nat => s.heap.size ≤ q) s s.heap := fun k hk => by
    unfold isSt at hk
    simp at hk
    obtain (rfl | rfl) | rfl := hk
    · exact ⟨Z100, T100⟩
    · exact ⟨Z101, T101⟩
    · exact ⟨Z102, T102⟩
  obtain ⟨c0, k0, m0, g0, i0, j0⟩ := Cond.arrayClass_spec (hW _ arrW0)
  obtain ⟨c1, k1, m1, g1, i1, j1⟩ := Cond.arrayClass_spec (hW _ arrW1)
  obtain ⟨c2, k2, m2, g2, i2, j2⟩ := Cond.arrayClass_spec (hW _ arrW2)
  let cA : Nat → ClassId := fun e => if e = 0 then c0 else if e = 1 then c1 else c2
  have hk : ∀ ci : Nat, ∃ q : ClassId × (Nat → Nat), ci < 8 → u_Kn s (Rn ci) (Tn ci) (Nn ci) q.1 q.2 := fun ci => by
    by_cases h : ci < 8
    · have hi : (Cond.instantiable (Rn ci) (Nn ci)).before #[Value.ref b] s = true := by
        match ci, h with
        | 0, _ => exact hW _ (mW 208 (by decide +kernel) (by decide +kernel))
        | 1, _ => exact hW _ (mW 257 (by decide +kernel) (by decide +kernel))
        | 2, _ => exact hW _ (mW 187 (by decide +kernel) (by decide +kernel))
        | 3, _ => exact hW _ (mW 232 (by decide +kernel) (by decide +kernel))
        | 4, _ => exact hW _ (mW 132 (by decide +kernel) (by decide +kernel))
        | 5, _ => exact hW _ (mW 99 (by decide +kernel) (by decide +kernel))
        | 6, _ => exact hW _ (mW 91 (by decide +kernel) (by decide +kernel))
        | 7, _ => exact hW _ (mW 679 (by decide +kernel) (by decide +kernel))
        | ci + 8, h => exact absurd h (by omega)
      obtain ⟨a, d, hh⟩ := u_known (C := Rn ci) (T := Tn ci) (N := Nn ci) (n := Nn ci) hW (uwn ci h) hi
      exact ⟨(a, d), fun _ => hh⟩
    · exact ⟨(m.cls, fun _ => 0), fun h2 => absurd h2 h⟩
  obtain ⟨fD, hfD⟩ := Classical.axiomOfChoice hk
  let D : va_G := (fun ci => (fD ci).1, fun ci => (fD ci).2)
  have hK : va_K D vwCl (tyl cA) s := by
    refine ⟨fun ci q hq => ?_, fun k q hq => ?_⟩
    · have hci : ci < 8 := (List.getElem?_eq_some_iff.mp hq).1
      have := Option.some.inj (hq.symm.trans (cln ci hci))
      subst this
      exact hfD ci hci
    · match k, hq with
      | 0, hq => cases hq; exact ⟨fun n z => ⟨fun k h => (by cases h), k0, i0, m0, j0⟩, g0⟩
      | 1, hq => cases hq; exact ⟨fun n z => ⟨fun k h => (by cases h), k1, i1, m1, j1⟩, g1⟩
      | 2, hq => cases hq; exact ⟨fun n z => ⟨fun k h => (by cases h), k2, i2, m2, j2⟩, g2⟩
      | k + 3, hq => cases hq
  have hCC : CC D cA as0 (fun q : Nat => s.heap.size ≤ q) s s.heap := ⟨hK, hN, hST⟩
  have hS : va_S (fun q : Nat => s.heap.size ≤ q) s.heap s.heap [] := va_S.rf
  have hP : va_P D vwCl ([] : va_W) s.heap := fun k q h => by simp at h
  have hD : va_D (fun q : Nat => s.heap.size ≤ q) ([] : va_W) := ⟨fun i j p q h => by simp at h, fun k q h => by simp at h⟩
  obtain ⟨ls, e1, hl⟩ := ent_lv (ad := fun a => a) (as := [Value.ref b]) (nL := 4) (m := m) (Nat.le_of_ble_eq_true rfl) (fun v hv => by
    rcases List.mem_cons.mp hv with rfl | hv
    · rfl
    · cases hv)
  have e1 : entryFrame m ([Value.ref b] : List Value).toArray 4 = F0 m 0 ls [] := e1
  rw [e1]
  have hl : lvP (fun a => a) ls 4 [some (.ref b), none, none, none] := hl
  refine va_new (ci := 6) (fs := [.null, .null, .null, .null, .null, .null, .null, .null, .null]) (C := Rn 6) (T := Tn 6) (N := Nn 6) hx hb hW (uwn 6 (by decide)) (tyn 6) (tyn_ok 6 (by decide)) hown (hW (.classLink R_law 7 (Rn 6)) (mW 90 (by decide +kernel) (by decide +kernel))) (hW _ (mW 91 (by decide +kernel) (by decide +kernel))) (hW _ (mW 80 (by decide +kernel) (by decide +kernel))) hK hP hD hS hA (cln 6 (by decide)) fd6 (by decide) (by decide) (dl0 rfl) (fun a H1 hP hD hS => ?_)
  refine lv_dup hx hb (dl0 rfl) rfl ?_
  refine lawI (ws := []) (fs := [.null, .null, .null, .null, .null, .null, .null, .null, .null]) (M' := mX6_init) C0 hCC hP hD hS oX6_init (mW 92 (by decide +kernel) (by decide +kernel)) rfl rfl rfl hl.1 (by decide) (dl0 rfl) (i_X6 a) (fun w1 H2 locs2 hw hP hD hS => ?_)
  obtain ⟨q1, q2, q3, q4, q5, q6, q7, q8, q9, q10, q11, q12, q13, q14, q15, q16, q17, q18, q19, q20, q21, q22, q23, q24, q25, q26, q27, q28, q29, q30, q31, q32, q33, rfl⟩ := hw
  have hP : va_P D vwCl (wrl SX cA (fun k => [a, q1, q4, q11, q18, q21, q24, q27, q29, q33, q2, q3, q5, q6, q7, q8, q9, q10, q12, q13, q14, q15, q16, q17, q19, q20, q22, q23, q25, q26, q28, q30, q31, q32].getD k 0) i0X (fun _ _ => 0) (fun _ _ => 0)) H2 := hP.sub [0, 1, 4, 11, 18, 21, 24, 27, 29, 33, 2, 3, 5, 6, 7, 8, 9, 10, 12, 13, 14, 15, 16, 17, 19, 20, 22, 23, 25, 26, 28, 30, 31, 32] wX_eq
  have hD : va_D (fun q : Nat => s.heap.size ≤ q) (wrl SX cA (fun k => [a, q1, q4, q11, q18, q21, q24, q27, q29, q33, q2, q3, q5, q6, q7, q8, q9, q10, q12, q13, q14, q15, q16, q17, q19, q20, q22, q23, q25, q26, q28, q30, q31, q32].getD k 0) i0X (fun _ _ => 0) (fun _ _ => 0)) := hD.sub [0, 1, 4, 11, 18, 21, 24, 27, 29, 33, 2, 3, 5, 6, 7, 8, 9, 10, 12, 13, 14, 15, 16, 17, 19, 20, 22, 23, 25, 26, 28, 30, 31, 32] (by decide) wX_map
  have had0 : (fun k => [a, q1, q4, q11, q18, q21, q24, q27, q29, q33, q2, q3, q5, q6, q7, q8, q9, q10, q12, q13, q14, q15, q16, q17, q19, q20, q22, q23, q25, q26, q28, q30, q31, q32].getD k 0) 0 = a := rfl
  generalize (fun k => [a, q1, q4, q11, q18, q21, q24, q27, q29, q33, q2, q3, q5, q6, q7, q8, q9, q10, q12, q13, q14, q15, q16, q17, q19, q20, q22, q23, q25, q26, q28, q30, q31, q32].getD k 0) = aX at hP hD had0
  clear_value D cA as0
  refine lv_astore_n hx hb (dl0 rfl) rfl hl.has (by decide) rfl (fun ls hl1 => ?_)
  have hl : lvP (fun a => a) ls 4 [some (.ref b), some (.ref a), none, none] := lvP_1 (i := 1) (v := .ref a) hl hl1
  refine va_new (ci := 7) (fs := [.long 0, .null, .int 0, .null, .null, .null, .null, .null, .null, .null, .null, .null, .int 0, .int 0, .int 0, .int 0, .int 0, .int 0, .null, .null, .null, .null]) (C := Rn 7) (T := Tn 7) (N := Nn 7) hx hb hW (uwn 7 (by decide)) (tyn 7) (tyn_ok 7 (by decide)) hown (hW (.classLink R_law 10 (Rn 7)) (mW 678 (by decide +kernel) (by decide +kernel))) (hW _ (mW 679 (by decide +kernel) (by decide +kernel))) (hW _ (mW 87 (by decide +kernel) (by decide +kernel))) hK hP hD hS hA (cln 7 (by decide)) fd7 (by decide) (by decide) (dl0 rfl) (fun a2 H3 hP hD hS => ?_)
  refine lv_dup hx hb (dl0 rfl) rfl ?_
  refine lawI (ws := wrl SX cA aX i0X (fun _ _ => 0) (fun _ _ => 0)) (fs := [.long 0, .null, .int 0, .null, .null, .null, .null, .null, .null, .null, .null, .null, .int 0, .int 0, .int 0, .int 0, .int 0, .int 0, .null, .null, .null, .null]) (M' := mX7_init) C0 hCC hP hD hS oX7_init (mW 680 (by decide +kernel) (by decide +kernel)) rfl rfl (by rw [wrl_len]; decide) hl.1 (by decide) (dl0 rfl) (i_X7 a2) (fun w1 H4 locs4 hw hP hD hS => ?_)
  obtain ⟨aM, I, J, G, hm0, rfl, hnew⟩ := hw
  refine lv_astore_n hx hb (dl0 rfl) rfl hl.has (by decide) rfl (fun ls hl1 => ?_)
  have hl : lvP (fun a => a) ls 4 [some (.ref b), some (.ref a), some (.ref a2), none] := lvP_1 (i := 2) (v := .ref a2) hl hl1
  refine lv_iconst (v := nI 0) hx hb (dl0 rfl) (by decide) ?_
  refine lv_istore_n hx hb (dl0 rfl) rfl hl.has (by decide) rfl (fun ls hl1 => ?_)
  have hl : lvP (fun a => a) ls 4 [some (.ref b), some (.ref a), some (.ref a2), some (.int (nI 0))] := lvP_1 (i := 3) (v := .int (nI 0)) hl hl1
  have hPX := va_P_left hP
  have hPM := va_P_right hP
  have hX34 : (wrl SX cA aX i0X (fun _ _ => 0) (fun _ _ => 0)).length = 34 := wrl_len
  have gX : ∀ i, i < 34 → (wrl SX cA aX i0X (fun _ _ => 0) (fun _ _ => 0) ++ wrl SM cA aM I J G)[i]? = some ((wrl SX cA aX i0X (fun _ _ => 0) (fun _ _ => 0)).getD i (0, .inr (0, []))) ∧ ((wrl SX cA aX i0X (fun _ _ => 0) (fun _ _ => 0)).getD i (0, .inr (0, []))).1 = aX i := fun i hi => by
    have h0 := wrl_get (cA := cA) (ad := aX) (I := i0X) (J := fun _ _ => 0) (G := fun _ _ => 0) (List.getElem?_eq_getElem (show i < SX.length from hi))
    rw [List.getElem?_append_left (by rw [hX34]; exact hi), List.getD_eq_getElem?_getD, h0]
    exact ⟨rfl, by rw [Option.getD_some]; exact cellOf_1 _⟩
  have gM : ∀ j, j < 15 → (wrl SX cA aX i0X (fun _ _ => 0) (fun _ _ => 0) ++ wrl SM cA aM I J G)[34 + j]? = some ((wrl SM cA aM I J G).getD j (0, .inr (0, []))) ∧ ((wrl SM cA aM I J G).getD j (0, .inr (0, []))).1 = aM j := fun j hj => by
    have h0 := wrl_get (cA := cA) (ad := aM) (I := I) (J := J) (G := G) (List.getElem?_eq_getElem (show j < SM.length from hj))
    rw [List.getElem?_append_right (by rw [hX34]; omega), hX34, Nat.add_sub_cancel_left, List.getD_eq_getElem?_getD, h0]
    exact ⟨rfl, by rw [Option.getD_some]; exact cellOf_1 _⟩
  have F : LFx s D cA (adJ 34 aX as0) (adJ 15 aM as0) := by
    refine ⟨⟨fun i j hi hj he => ?_, fun i j hi hj he => ?_, fun i hi j hj he => ?_⟩, ⟨fun i hi => ?_, fun j hj => ?_⟩, hK, hN, ST_adJ (by decide) hST, ST_adJ (by decide) hST⟩
    · rw [adJ_lt (show i < 34 from hi), adJ_lt (show j < 34 from hj)] at he
      exact hD.1 i j _ _ (gX i hi).1 (gX j hj).1 (by rw [(gX i hi).2, (gX j hj).2]; exact he)
    · rw [adJ_lt (show i < 15 from hi), adJ_lt (show j < 15 from hj)] at he
      have := hD.1 (34 + i) (34 + j) _ _ (gM i hi).1 (gM j hj).1 (by rw [(gM i hi).2, (gM j hj).2]; exact he)
      omega
    · rw [adJ_lt hi, adJ_lt hj] at he
      have := hD.1 i (34 + j) _ _ (gX i hi).1 (gM j hj).1 (by rw [(gX i hi).2, (gM j hj).2]; exact he)
      omega
    · rw [adJ_lt hi, ← (gX i hi).2]
      exact hD.2 i _ (gX i hi).1
    · rw [adJ_lt hj, ← (gM j hj).2]
      exact hD.2 (34 + j) _ (gM j hj).1
  have hl : lvP (fun a => a) ls 4 [some (.ref b), some (.ref (adJ 34 aX as0 0)), some (.ref (adJ 15 aM as0 0)), some (.int (nI 0))] := by
    rw [adJ_lt (by decide), adJ_lt (by decide), had0, hm0]
    exact hl
  exact law_loop C0 F hL L 0 (by omega) (by omega) _ _ _ _ _ _ (rel_new hnew) H4 locs4 ls (by rw [wrlX_adJ]; exact hPX) (by rw [wrlM_adJ]; exact hPM) hS hl
