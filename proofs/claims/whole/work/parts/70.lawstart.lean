/-! from the law's entry to its loop -/
def i0X : II := up2 (up2 (fun _ _ => 0) 2 8 (nI 2)) 3 8 (nI 2)
set_option maxRecDepth 20000 in
theorem wX_eq {cA : Nat → ClassId} {a q1 q2 q3 q4 q5 q6 q7 q8 q9 q10 q11 q12 q13 q14 q15 q16 q17 q18 q19 q20 q21 q22 q23 q24 q25 q26 q27 q28 q29 q30 q31 q32 q33 : Nat} : [0, 1, 4, 11, 18, 21, 24, 27, 29, 33, 2, 3, 5, 6, 7, 8, 9, 10, 12, 13, 14, 15, 16, 17, 19, 20, 22, 23, 25, 26, 28, 30, 31, 32].filterMap (fun i => ([(a, .inr (6, [.ref q1, .ref q4, .ref q11, .ref q18, .ref q21, .ref q24, .ref q27, .ref q29, .ref q33])), (q1, .inr (5, [.ref q2, .int 0, .int 0, .int 0, .int 0, .int 0, .ref q3])), (q2, .inl (cA 0, 180, .inl (fun _ => 0))), (q3, .inl (cA 0, 4, .inl (fun _ => 0))), (q4, .inr (4, [.ref q5, .ref q6, .ref q7, .ref q8, .ref q9, .ref q10, .int 0, .int 0, .int (nI 2), .int 0])), (q5, .inl (cA 0, 12, .inl (fun _ => 0))), (q6, .inl (cA 0, 12, .inl (fun _ => 0))), (q7, .inl (cA 0, 5, .inl (fun _ => 0))), (q8, .inl (cA 0, 5, .inl (fun _ => 0))), (q9, .inl (cA 0, 5, .inl (fun _ => 0))), (q10, .inl (cA 0, 5, .inl (fun _ => 0))), (q11, .inr (4, [.ref q12, .ref q13, .ref q14, .ref q15, .ref q16, .ref q17, .int 0, .int 0, .int (nI 2), .int 0])), (q12, .inl (cA 0, 12, .inl (fun _ => 0))), (q13, .inl (cA 0, 12, .inl (fun _ => 0))), (q14, .inl (cA 0, 5, .inl (fun _ => 0))), (q15, .inl (cA 0, 5, .inl (fun _ => 0))), (q16, .inl (cA 0, 5, .inl (fun _ => 0))), (q17, .inl (cA 0, 5, .inl (fun _ => 0))), (q18, .inr (2, [.ref q19, .ref q20, .int 0, .int 0])), (q19, .inl (cA 0, 18, .inl (fun _ => 0))), (q20, .inl (cA 0, 180, .inl (fun _ => 0))), (q21, .inr (2, [.ref q22, .ref q23, .int 0, .int 0])), (q22, .inl (cA 0, 18, .inl (fun _ => 0))), (q23, .inl (cA 0, 180, .inl (fun _ => 0))), (q24, .inr (2, [.ref q25, .ref q26, .int 0, .int 0])), (q25, .inl (cA 0, 18, .inl (fun _ => 0))), (q26, .inl (cA 0, 180, .inl (fun _ => 0))), (q27, .inr (0, [.ref q4, .ref q18, .ref q28, .int 0, .int 0])), (q28, .inl (cA 0, 6, .inl (fun _ => 0))), (q29, .inr (3, [.ref q4, .ref q18, .ref q27, .ref q30, .ref q31, .ref q32])), (q30, .inl (cA 0, 416, .inl (fun _ => 0))), (q31, .inl (cA 0, 416, .inl (fun _ => 0))), (q32, .inl (cA 0, 32, .inl (fun _ => 0))), (q33, .inr (1, [.ref q4, .ref q18, .long 0]))] : va_W)[i]?) = wrl SX cA (fun k => [a, q1, q4, q11, q18, q21, q24, q27, q29, q33, q2, q3, q5, q6, q7, q8, q9, q10, q12, q13, q14, q15, q16, q17, q19, q20, q22, q23, q25, q26, q28, q30, q31, q32].getD k 0) i0X (fun _ _ => 0) (fun _ _ => 0) := by
  rw [wrl_L]
  rfl
set_option maxRecDepth 20000 in
theorem wX_map {cA : Nat → ClassId} {a q1 q2 q3 q4 q5 q6 q7 q8 q9 q10 q11 q12 q13 q14 q15 q16 q17 q18 q19 q20 q21 q22 q23 q24 q25 q26 q27 q28 q29 q30 q31 q32 q33 : Nat} : [0, 1, 4, 11, 18, 21, 24, 27, 29, 33, 2, 3, 5, 6, 7, 8, 9, 10, 12, 13, 14, 15, 16, 17, 19, 20, 22, 23, 25, 26, 28, 30, 31, 32].map (fun i => ([(a, .inr (6, [.ref q1, .ref q4, .ref q11, .ref q18, .ref q21, .ref q24, .ref q27, .ref q29, .ref q33])), (q1, .inr (5, [.ref q2, .int 0, .int 0, .int 0, .int 0, .int 0, .ref q3])), (q2, .inl (cA 0, 180, .inl (fun _ => 0))), (q3, .inl (cA 0, 4, .inl (fun _ => 0))), (q4, .inr (4, [.ref q5, .ref q6, .ref q7, .ref q8, .ref q9, .ref q10, .int 0, .int 0, .int (nI 2), .int 0])), (q5, .inl (cA 0, 12, .inl (fun _ => 0))), (q6, .inl (cA 0, 12, .inl (fun _ => 0))), (q7, .inl (cA 0, 5, .inl (fun _ => 0))), (q8, .inl (cA 0, 5, .inl (fun _ => 0))), (q9, .inl (cA 0, 5, .inl (fun _ => 0))), (q10, .inl (cA 0, 5, .inl (fun _ => 0))), (q11, .inr (4, [.ref q12, .ref q13, .ref q14, .ref q15, .ref q16, .ref q17, .int 0, .int 0, .int (nI 2), .int 0])), (q12, .inl (cA 0, 12, .inl (fun _ => 0))), (q13, .inl (cA 0, 12, .inl (fun _ => 0))), (q14, .inl (cA 0, 5, .inl (fun _ => 0))), (q15, .inl (cA 0, 5, .inl (fun _ => 0))), (q16, .inl (cA 0, 5, .inl (fun _ => 0))), (q17, .inl (cA 0, 5, .inl (fun _ => 0))), (q18, .inr (2, [.ref q19, .ref q20, .int 0, .int 0])), (q19, .inl (cA 0, 18, .inl (fun _ => 0))), (q20, .inl (cA 0, 180, .inl (fun _ => 0))), (q21, .inr (2, [.ref q22, .ref q23, .int 0, .int 0])), (q22, .inl (cA 0, 18, .inl (fun _ => 0))), (q23, .inl (cA 0, 180, .inl (fun _ => 0))), (q24, .inr (2, [.ref q25, .ref q26, .int 0, .int 0])), (q25, .inl (cA 0, 18, .inl (fun _ => 0))), (q26, .inl (cA 0, 180, .inl (fun _ => 0))), (q27, .inr (0, [.ref q4, .ref q18, .ref q28, .int 0, .int 0])), (q28, .inl (cA 0, 6, .inl (fun _ => 0))), (q29, .inr (3, [.ref q4, .ref q18, .ref q27, .ref q30, .ref q31, .ref q32])), (q30, .inl (cA 0, 416, .inl (fun _ => 0))), (q31, .inl (cA 0, 416, .inl (fun _ => 0))), (q32, .inl (cA 0, 32, .inl (fun _ => 0))), (q33, .inr (1, [.ref q4, .ref q18, .long 0]))] : va_W)[i]?) = (wrl SX cA (fun k => [a, q1, q4, q11, q18, q21, q24, q27, q29, q33, q2, q3, q5, q6, q7, q8, q9, q10, q12, q13, q14, q15, q16, q17, q19, q20, q22, q23, q25, q26, q28, q30, q31, q32].getD k 0) i0X (fun _ _ => 0) (fun _ _ => 0)).map some := by
  rw [wrl_L]
  rfl
theorem rel_new {Im : II} {Jm : JJ} {Gm : II} (h : mNew Im Jm Gm) : Rl i0X (fun _ _ => 0) (fun _ _ => 0) Im Jm Gm := by
  obtain ⟨m1, m2, m3, m4, m5, m6, m7, m8, m9, m10⟩ := h
  exact ⟨0, 0, ⟨0, fun _ => 0, by omega, rfl, m1, fun i hi => ⟨⟨rfl, Nat.lt_of_sub_pos (by decide : 0 < 256 - 0)⟩, by rw [m10 i]; exact (by decide : (0 : Int32) &&& nI 255 = nI 0)⟩⟩, ⟨by omega, by omega, ⟨rfl, m3⟩, ⟨rfl, m4⟩, m5, fun w hw => absurd hw (by omega), fun s hs => absurd hs (by omega)⟩, m2.symm, ⟨0, rfl, ⟨by omega, ⟨⟨0, Nat.le_refl _, rfl⟩, fun s hs => absurd hs (by omega)⟩, fun k hk => absurd hk (by omega)⟩, ⟨fun j hj => m6 j hj, m7, fun j hj => absurd hj (by omega)⟩⟩, ⟨false, rfl, m8, fun h => absurd h (by decide)⟩, ⟨false, rfl, m9, fun h => absurd h (by decide)⟩⟩
theorem va_P_left {D : va_G} {cl : List vw_C} {w1 w2 : va_W} {H : Heap} (h : va_P D cl (w1 ++ w2) H) : va_P D cl w1 H := fun k q hk => h k q (by rw [List.getElem?_append_left (List.getElem?_eq_some_iff.mp hk).1]; exact hk)
theorem va_P_right {D : va_G} {cl : List vw_C} {w1 w2 : va_W} {H : Heap} (h : va_P D cl (w1 ++ w2) H) : va_P D cl w2 H := fun k q hk => h (w1.length + k) q (by rw [List.getElem?_append_right (by omega), Nat.add_sub_cancel_left]; exact hk)
theorem rng_map {ws : va_W} {x : Nat × va_E} : (List.range ws.length).map (fun i => (ws ++ [x])[i]?) = ws.map some := by
  refine List.ext_getElem? (fun i => ?_)
  rw [List.getElem?_map, List.getElem?_map]
  by_cases hi : i < ws.length
  · rw [List.getElem?_range hi]
    show some ((ws ++ [x])[i]?) = _
    rw [List.getElem?_append_left hi, List.getElem?_eq_getElem hi]
    rfl
  · rw [List.getElem?_eq_none (by simpa using Nat.not_lt.mp hi), List.getElem?_eq_none (l := ws) (Nat.not_lt.mp hi)]
    rfl
/-- a constructor that the law calls, on the newest cell -/
theorem lawI {p : Program} {l : Launch} {e : Env} {s : State} {m : MethodId} {below : List Frame} {meth : Method} {c : Code} {b Ln : Nat} {xs : Nat → Int32} {D : va_G} {cA : Nat → ClassId} {as0 : Nat → Nat} {ws : va_W} {H : Heap} {locs : List Loc} {cells slots pc : Nat} {ls : Array Slot} {Q : State → Prop} (C0 : lw_At p s m meth c b Ln xs) (hCC : CC D cA as0 (fun q : Nat => s.heap.size ≤ q) s s.heap) {M' : MI} {idx a ci mc' ms' : Nat} {fs : List Value} {Qg : (Nat → ClassId) → va_W → Prop} (hP : va_P D vwCl (ws ++ [(a, .inr (ci, fs))]) H) (hD : va_D (fun q : Nat => s.heap.size ≤ q) (ws ++ [(a, .inr (ci, fs))])) (hS : va_S (fun q : Nat => s.heap.size ≤ q) s.heap H locs) (hM' : COk M') (lk : Cond.methodLink R_law idx (miY M') ∈ Wd) (hdep : Nat.ble (miD M') 6 = true) (hn0 : miN M' = 0) (hnd : va_nd (List.range ws.length) = true) (hsz : ls.size = 4) (hcap : cells + mc' ≤ 600000 ∧ slots + ms' ≤ 7302250) (hd : decode code pc = .ok (.invokespecial idx, 3)) (hA' : CMet M' mc' ms' a ci fs [] Qg)
    (kk : ∀ (w1 : va_W) (H1 : Heap) (locs1 : List Loc), Qg cA w1 → va_P D vwCl (ws ++ w1) H1 → va_D (fun q : Nat => s.heap.size ≤ q) (ws ++ w1) → va_S (fun q : Nat => s.heap.size ≤ q) s.heap H1 locs1 → W p l e room_1 s m #[Value.ref b] below meth c H1 locs1 (cells + mc') (slots + ms') Q (F0 m (pc + 3) ls [.ref a])) :
    W p l e room_1 s m #[Value.ref b] below meth c H locs cells slots Q (F0 m pc ls [.ref a, .ref a]) := by
  obtain ⟨hx, hb, hr, hml, hown, hts, hX, hbl, hlocks, hgv⟩ := C0
  have hW : ∀ w ∈ Wd, w.before #[Value.ref b] s = true := fun w hw => hts w (wd_tbl hw)
  obtain ⟨o1, o2, o3, o4, o5, o6, o7, o8⟩ := hM'
  have hq : [ws.length].map (fun i => (ws ++ [(a, Sum.inr (ci, fs))])[i]?) = ([(a, Sum.inr (ci, fs))] : va_W).map some := by
    show [(ws ++ [(a, Sum.inr (ci, fs))])[ws.length]?] = _
    rw [List.getElem?_append_right (Nat.le_refl _), Nat.sub_self]
    rfl
  have hFc := va_free (wc := [(a, .inr (ci, fs))]) hD hS (fun q h => h) [ws.length] hq
  have hPc : va_P D vwCl [(a, .inr (ci, fs))] H := va_P_right hP
  have hpre : PreS s H (CPc D cA as0 H.size a ci fs []) [.ref a] :=
    ⟨CPc.blind, fun U hU hWm => ⟨rfl, by rw [hU], by rw [hU]; exact hCC.at hS hWm hFc, by rw [hU]; exact hPc⟩⟩
  have hd6 := Nat.le_of_ble_eq_true hdep
  have hdm : (rmC M' mc' ms').frames + 1 ≤ room_1.frames ∧ 8 + (miX M' + 11) + (rmC M' mc' ms').locals ≤ room_1.locals := by
    show miD M' + 1 ≤ 9 ∧ 8 + (miX M' + 11) + 36 * miD M' ≤ 326
    have := o7.1
    omega
  have cw := cwI (R := room_1) (bytes := miB M') (maxL := miX M') (rm := rmC M' mc' ms') (mc := mc') (ms := ms') (ws' := Wd) (own := R_law) (index := idx) (y := miY M') 0 hW (goodIn_wd (fun _ h => h) o3) (by rw [o7.2]) rfl rfl (hW _ o4) (hW _ lk) (hW _ o5.2) o5.1 (by rw [← hn0]; exact o6) hdm
  have hMt := hA' l D cA as0 H.size
  unfold wds at hMt
  refine va_callv (va_runI (As := []) (rest := [.ref a]) ⟨hx, hb, hml, hown, hW⟩ hMt cw hpre rfl rfl hsz rfl (lv_room (Nat.le_of_ble_eq_true rfl)) hd hcap) hS (fun q _ h => hFc q h) hFc (fun u t H1 locs1 ht hvm hw hB hz1 hk1 hS1 => ?_)
  obtain ⟨hP1, hD1⟩ := hB
  rw [ht] at hP1
  obtain ⟨hP2, hD2⟩ := va_join (wc := [(a, .inr (ci, fs))]) (wr := ws) (w1 := u) hP hD [ws.length] (List.range ws.length) hq rng_map hnd (fun i hi => by
    have := List.mem_range.mp hi
    simp
    omega) hk1 hFc hP1 hD1
  exact kk u H1 locs1 hw hP2 hD2 hS1

