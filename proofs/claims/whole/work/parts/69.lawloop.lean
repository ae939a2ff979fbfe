/-! the law's loop: both are called, and answer alike -/
set_option maxRecDepth 20000 in
theorem law_0 {p : Program} {l : Launch} {e : Env} {s : State} {m : MethodId} {below : List Frame} {meth : Method} {c : Code} {b Ln : Nat} {xs : Nat → Int32} {D : va_G} {cA : Nat → ClassId} {ad am : Nat → Nat} (C0 : lw_At p s m meth c b Ln xs) (F : LFx s D cA ad am) (hL : Ln ≤ 320) {i : Nat} (hi : i + 5 ≤ Ln) {I : II} {J : JJ} {G : II} {Im : II} {Jm : JJ} {Gm : II} (hR : Rl I J G Im Jm Gm) (K : ∀ I J G Im Jm Gm, Rl I J G Im Jm Gm → LW p l e s m below meth c b D cA ad am 787 [some (.ref b), some (.ref (ad 0)), some (.ref (am 0)), some (.int (nI i))] [] I J G Im Jm Gm) : LW p l e s m below meth c b D cA ad am 144 [some (.ref b), some (.ref (ad 0)), some (.ref (am 0)), some (.int (nI i))] [] I J G Im Jm Gm := by
  obtain ⟨Px, Pm, hx, hm, hv, hb⟩ := b_type hR (xs (i + 1))
  refine lw_aload C0 (i := 1) rfl (dl0 rfl) ?_
  refine lw_arg C0 i 1 rfl rfl rfl (by omega) hL (dl0 rfl) (dl0 rfl) (dl0 rfl) (dl0 rfl) (dl0 rfl) ?_
  refine lw_callX C0 F (M' := mX6_type) (as := [.int (xs (i + 1))]) (rest := []) oX6_type rfl (mW 301 (by decide +kernel) (by decide +kernel)) rfl rfl rfl rfl (Nat.le_of_ble_eq_true rfl) rfl (dl0 rfl) hx (fun r I1 J1 G1 hq1 => ?_)
  obtain ⟨v, ⟨z, rfl⟩, rfl⟩ := hv _ _ _ _ hq1
  refine lw_aload C0 (i := 2) rfl (dl0 rfl) ?_
  refine lw_arg C0 i 1 rfl rfl rfl (by omega) hL (dl0 rfl) (dl0 rfl) (dl0 rfl) (dl0 rfl) (dl0 rfl) ?_
  refine lw_callM C0 F (M' := mX7_type) (as := [.int (xs (i + 1))]) (rest := [.int z]) oX7_type rfl (mW 761 (by decide +kernel) (by decide +kernel)) rfl rfl rfl rfl (Nat.le_of_ble_eq_true rfl) rfl (dl0 rfl) hm (fun r I2 J2 G2 hq2 => ?_)
  obtain ⟨⟨v, _, e1, e2⟩, hR2⟩ := hb _ _ _ _ _ _ _ _ hq1 hq2
  cases e1
  subst e2
  exact lw_same C0 (tgt := 787) (dl0 rfl) rfl (K _ _ _ _ _ _ hR2)
set_option maxRecDepth 20000 in
theorem law_1 {p : Program} {l : Launch} {e : Env} {s : State} {m : MethodId} {below : List Frame} {meth : Method} {c : Code} {b Ln : Nat} {xs : Nat → Int32} {D : va_G} {cA : Nat → ClassId} {ad am : Nat → Nat} (C0 : lw_At p s m meth c b Ln xs) (F : LFx s D cA ad am) (hL : Ln ≤ 320) {i : Nat} (hi : i + 5 ≤ Ln) {I : II} {J : JJ} {G : II} {Im : II} {Jm : JJ} {Gm : II} (hR : Rl I J G Im Jm Gm) (K : ∀ I J G Im Jm Gm, Rl I J G Im Jm Gm → LW p l e s m below meth c b D cA ad am 787 [some (.ref b), some (.ref (ad 0)), some (.ref (am 0)), some (.int (nI i))] [] I J G Im Jm Gm) : LW p l e s m below meth c b D cA ad am 167 [some (.ref b), some (.ref (ad 0)), some (.ref (am 0)), some (.int (nI i))] [] I J G Im Jm Gm := by
  obtain ⟨Px, Pm, hx, hm, hv, hb⟩ := b_clear hR
  refine lw_aload C0 (i := 1) rfl (dl0 rfl) ?_
  refine lw_callX C0 F (M' := mX6_clear) (as := []) (rest := []) oX6_clear rfl (mW 305 (by decide +kernel) (by decide +kernel)) rfl rfl rfl rfl (Nat.le_of_ble_eq_true rfl) rfl (dl0 rfl) hx (fun r I1 J1 G1 hq1 => ?_)
  obtain ⟨v, ⟨z, rfl⟩, rfl⟩ := hv _ _ _ _ hq1
  refine lw_aload C0 (i := 2) rfl (dl0 rfl) ?_
  refine lw_callM C0 F (M' := mX7_clear) (as := []) (rest := [.int z]) oX7_clear rfl (mW 768 (by decide +kernel) (by decide +kernel)) rfl rfl rfl rfl (Nat.le_of_ble_eq_true rfl) rfl (dl0 rfl) hm (fun r I2 J2 G2 hq2 => ?_)
  obtain ⟨⟨v, _, e1, e2⟩, hR2⟩ := hb _ _ _ _ _ _ _ _ hq1 hq2
  cases e1
  subst e2
  exact lw_same C0 (tgt := 787) (dl0 rfl) rfl (K _ _ _ _ _ _ hR2)
set_option maxRecDepth 20000 in
theorem law_2 {p : Program} {l : Launch} {e : Env} {s : State} {m : MethodId} {below : List Frame} {meth : Method} {c : Code} {b Ln : Nat} {xs : Nat → Int32} {D : va_G} {cA : Nat → ClassId} {ad am : Nat → Nat} (C0 : lw_At p s m meth c b Ln xs) (F : LFx s D cA ad am) (hL : Ln ≤ 320) {i : Nat} (hi : i + 5 ≤ Ln) {I : II} {J : JJ} {G : II} {Im : II} {Jm : JJ} {Gm : II} (hR : Rl I J G Im Jm Gm) (K : ∀ I J G Im Jm Gm, Rl I J G Im Jm Gm → LW p l e s m below meth c b D cA ad am 787 [some (.ref b), some (.ref (ad 0)), some (.ref (am 0)), some (.int (nI i))] [] I J G Im Jm Gm) : LW p l e s m below meth c b D cA ad am 180 [some (.ref b), some (.ref (ad 0)), some (.ref (am 0)), some (.int (nI i))] [] I J G Im Jm Gm := by
  obtain ⟨Px, Pm, hx, hm, hv, hb⟩ := b_season hR
  refine lw_aload C0 (i := 1) rfl (dl0 rfl) ?_
  refine lw_callX C0 F (M' := mX6_season) (as := []) (rest := []) oX6_season rfl (mW 309 (by decide +kernel) (by decide +kernel)) rfl rfl rfl rfl (Nat.le_of_ble_eq_true rfl) rfl (dl0 rfl) hx (fun r I1 J1 G1 hq1 => ?_)
  obtain ⟨v, ⟨z, rfl⟩, rfl⟩ := hv _ _ _ _ hq1
  refine lw_aload C0 (i := 2) rfl (dl1 rfl) ?_
  refine lw_callM C0 F (M' := mX7_season) (as := []) (rest := [.int z]) oX7_season rfl (mW 772 (by decide +kernel) (by decide +kernel)) rfl rfl rfl rfl (Nat.le_of_ble_eq_true rfl) rfl (dl1 rfl) hm (fun r I2 J2 G2 hq2 => ?_)
  obtain ⟨⟨v, _, e1, e2⟩, hR2⟩ := hb _ _ _ _ _ _ _ _ hq1 hq2
  cases e1
  subst e2
  exact lw_same C0 (tgt := 787) (dl1 rfl) rfl (K _ _ _ _ _ _ hR2)
set_option maxRecDepth 20000 in
theorem law_3 {p : Program} {l : Launch} {e : Env} {s : State} {m : MethodId} {below : List Frame} {meth : Method} {c : Code} {b Ln : Nat} {xs : Nat → Int32} {D : va_G} {cA : Nat → ClassId} {ad am : Nat → Nat} (C0 : lw_At p s m meth c b Ln xs) (F : LFx s D cA ad am) (hL : Ln ≤ 320) {i : Nat} (hi : i + 5 ≤ Ln) {I : II} {J : JJ} {G : II} {Im : II} {Jm : JJ} {Gm : II} (hR : Rl I J G Im Jm Gm) (K : ∀ I J G Im Jm Gm, Rl I J G Im Jm Gm → LW p l e s m below meth c b D cA ad am 787 [some (.ref b), some (.ref (ad 0)), some (.ref (am 0)), some (.int (nI i))] [] I J G Im Jm Gm) : LW p l e s m below meth c b D cA ad am 193 [some (.ref b), some (.ref (ad 0)), some (.ref (am 0)), some (.int (nI i))] [] I J G Im Jm Gm := by
  obtain ⟨Px, Pm, hx, hm, hv, hb⟩ := b_week hR (xs (i + 1)) (xs (i + 2))
  refine lw_aload C0 (i := 1) rfl (dl1 rfl) ?_
  refine lw_arg C0 i 1 rfl rfl rfl (by omega) hL (dl1 rfl) (dl1 rfl) (dl1 rfl) (dl1 rfl) (dl1 rfl) ?_
  refine lw_arg C0 i 2 rfl rfl rfl (by omega) hL (dl1 rfl) (dl1 rfl) (dl1 rfl) (dl1 rfl) (dl1 rfl) ?_
  refine lw_callX C0 F (M' := mX6_week) (as := [.int (xs (i + 1)), .int (xs (i + 2))]) (rest := []) oX6_week rfl (mW 390 (by decide +kernel) (by decide +kernel)) rfl rfl rfl rfl (Nat.le_of_ble_eq_true rfl) rfl (dl1 rfl) hx (fun r I1 J1 G1 hq1 => ?_)
  obtain ⟨v, ⟨z, rfl⟩, rfl⟩ := hv _ _ _ _ hq1
  refine lw_aload C0 (i := 2) rfl (dl1 rfl) ?_
  refine lw_arg C0 i 1 rfl rfl rfl (by omega) hL (dl1 rfl) (dl1 rfl) (dl1 rfl) (dl1 rfl) (dl1 rfl) ?_
  refine lw_arg C0 i 2 rfl rfl rfl (by omega) hL (dl1 rfl) (dl1 rfl) (dl1 rfl) (dl1 rfl) (dl1 rfl) ?_
  refine lw_callM C0 F (M' := mX7_week) (as := [.int (xs (i + 1)), .int (xs (i + 2))]) (rest := [.int z]) oX7_week rfl (mW 800 (by decide +kernel) (by decide +kernel)) rfl rfl rfl rfl (Nat.le_of_ble_eq_true rfl) rfl (dl1 rfl) hm (fun r I2 J2 G2 hq2 => ?_)
  obtain ⟨⟨v, _, e1, e2⟩, hR2⟩ := hb _ _ _ _ _ _ _ _ hq1 hq2
  cases e1
  subst e2
  exact lw_same C0 (tgt := 787) (dl1 rfl) rfl (K _ _ _ _ _ _ hR2)
set_option maxRecDepth 20000 in
theorem law_4 {p : Program} {l : Launch} {e : Env} {s : State} {m : MethodId} {below : List Frame} {meth : Method} {c : Code} {b Ln : Nat} {xs : Nat → Int32} {D : va_G} {cA : Nat → ClassId} {ad am : Nat → Nat} (C0 : lw_At p s m meth c b Ln xs) (F : LFx s D cA ad am) (hL : Ln ≤ 320) {i : Nat} (hi : i + 5 ≤ Ln) {I : II} {J : JJ} {G : II} {Im : II} {Jm : JJ} {Gm : II} (hR : Rl I J G Im Jm Gm) (K : ∀ I J G Im Jm Gm, Rl I J G Im Jm Gm → LW p l e s m below meth c b D cA ad am 787 [some (.ref b), some (.ref (ad 0)), some (.ref (am 0)), some (.int (nI i))] [] I J G Im Jm Gm) : LW p l e s m below meth c b D cA ad am 226 [some (.ref b), some (.ref (ad 0)), some (.ref (am 0)), some (.int (nI i))] [] I J G Im Jm Gm := by
  obtain ⟨Px, Pm, hx, hm, hv, hb⟩ := b_ship hR (xs (i + 1)) (xs (i + 2))
  refine lw_aload C0 (i := 1) rfl (dl1 rfl) ?_
  refine lw_arg C0 i 1 rfl rfl rfl (by omega) hL (dl1 rfl) (dl1 rfl) (dl1 rfl) (dl1 rfl) (dl1 rfl) ?_
  refine lw_arg C0 i 2 rfl rfl rfl (by omega) hL (dl1 rfl) (dl1 rfl) (dl1 rfl) (dl1 rfl) (dl1 rfl) ?_
  refine lw_callX C0 F (M' := mX6_ship) (as := [.int (xs (i + 1)), .int (xs (i + 2))]) (rest := []) oX6_ship rfl (mW 398 (by decide +kernel) (by decide +kernel)) rfl rfl rfl rfl (Nat.le_of_ble_eq_true rfl) rfl (dl1 rfl) hx (fun r I1 J1 G1 hq1 => ?_)
  obtain ⟨v, ⟨z, rfl⟩, rfl⟩ := hv _ _ _ _ hq1
  refine lw_aload C0 (i := 2) rfl (dl1 rfl) ?_
  refine lw_arg C0 i 1 rfl rfl rfl (by omega) hL (dl1 rfl) (dl1 rfl) (dl1 rfl) (dl2 rfl) (dl2 rfl) ?_
  refine lw_arg C0 i 2 rfl rfl rfl (by omega) hL (dl2 rfl) (dl2 rfl) (dl2 rfl) (dl2 rfl) (dl2 rfl) ?_
  refine lw_callM C0 F (M' := mX7_ship) (as := [.int (xs (i + 1)), .int (xs (i + 2))]) (rest := [.int z]) oX7_ship rfl (mW 808 (by decide +kernel) (by decide +kernel)) rfl rfl rfl rfl (Nat.le_of_ble_eq_true rfl) rfl (dl2 rfl) hm (fun r I2 J2 G2 hq2 => ?_)
  obtain ⟨⟨v, _, e1, e2⟩, hR2⟩ := hb _ _ _ _ _ _ _ _ hq1 hq2
  cases e1
  subst e2
  exact lw_same C0 (tgt := 787) (dl2 rfl) rfl (K _ _ _ _ _ _ hR2)
set_option maxRecDepth 20000 in
theorem law_5 {p : Program} {l : Launch} {e : Env} {s : State} {m : MethodId} {below : List Frame} {meth : Method} {c : Code} {b Ln : Nat} {xs : Nat → Int32} {D : va_G} {cA : Nat → ClassId} {ad am : Nat → Nat} (C0 : lw_At p s m meth c b Ln xs) (F : LFx s D cA ad am) (hL : Ln ≤ 320) {i : Nat} (hi : i + 5 ≤ Ln) {I : II} {J : JJ} {G : II} {Im : II} {Jm : JJ} {Gm : II} (hR : Rl I J G Im Jm Gm) (K : ∀ I J G Im Jm Gm, Rl I J G Im Jm Gm → LW p l e s m below meth c b D cA ad am 787 [some (.ref b), some (.ref (ad 0)), some (.ref (am 0)), some (.int (nI i))] [] I J G Im Jm Gm) : LW p l e s m below meth c b D cA ad am 259 [some (.ref b), some (.ref (ad 0)), some (.ref (am 0)), some (.int (nI i))] [] I J G Im Jm Gm := by
  obtain ⟨Px, Pm, hx, hm, hv, hb⟩ := b_waits hR
  refine lw_aload C0 (i := 1) rfl (dl2 rfl) ?_
  refine lw_callX C0 F (M' := mX6_waits) (as := []) (rest := []) oX6_waits rfl (mW 418 (by decide +kernel) (by decide +kernel)) rfl rfl rfl rfl (Nat.le_of_ble_eq_true rfl) rfl (dl2 rfl) hx (fun r I1 J1 G1 hq1 => ?_)
  obtain ⟨v, ⟨z, rfl⟩, rfl⟩ := hv _ _ _ _ hq1
  refine lw_aload C0 (i := 2) rfl (dl2 rfl) ?_
  refine lw_callM C0 F (M' := mX7_waits) (as := []) (rest := [.int z]) oX7_waits rfl (mW 816 (by decide +kernel) (by decide +kernel)) rfl rfl rfl rfl (Nat.le_of_ble_eq_true rfl) rfl (dl2 rfl) hm (fun r I2 J2 G2 hq2 => ?_)
  obtain ⟨⟨v, _, e1, e2⟩, hR2⟩ := hb _ _ _ _ _ _ _ _ hq1 hq2
  cases e1
  subst e2
  exact lw_same C0 (tgt := 787) (dl2 rfl) rfl (K _ _ _ _ _ _ hR2)
set_option maxRecDepth 20000 in
theorem law_6 {p : Program} {l : Launch} {e : Env} {s : State} {m : MethodId} {below : List Frame} {meth : Method} {c : Code} {b Ln : Nat} {xs : Nat → Int32} {D : va_G} {cA : Nat → ClassId} {ad am : Nat → Nat} (C0 : lw_At p s m meth c b Ln xs) (F : LFx s D cA ad am) (hL : Ln ≤ 320) {i : Nat} (hi : i + 5 ≤ Ln) {I : II} {J : JJ} {G : II} {Im : II} {Jm : JJ} {Gm : II} (hR : Rl I J G Im Jm Gm) (K : ∀ I J G Im Jm Gm, Rl I J G Im Jm Gm → LW p l e s m below meth c b D cA ad am 787 [some (.ref b), some (.ref (ad 0)), some (.ref (am 0)), some (.int (nI i))] [] I J G Im Jm Gm) : LW p l e s m below meth c b D cA ad am 272 [some (.ref b), some (.ref (ad 0)), some (.ref (am 0)), some (.int (nI i))] [] I J G Im Jm Gm := by
  obtain ⟨Px, Pm, hx, hm, hv, hb⟩ := b_sails hR (xs (i + 1)) (xs (i + 2))
  refine lw_aload C0 (i := 1) rfl (dl2 rfl) ?_
  refine lw_arg C0 i 1 rfl rfl rfl (by omega) hL (dl2 rfl) (dl2 rfl) (dl2 rfl) (dl2 rfl) (dl2 rfl) ?_
  refine lw_arg C0 i 2 rfl rfl rfl (by omega) hL (dl2 rfl) (dl2 rfl) (dl2 rfl) (dl2 rfl) (dl2 rfl) ?_
  refine lw_callX C0 F (M' := mX6_sails) (as := [.int (xs (i + 1)), .int (xs (i + 2))]) (rest := []) oX6_sails rfl (mW 435 (by decide +kernel) (by decide +kernel)) rfl rfl rfl rfl (Nat.le_of_ble_eq_true rfl) rfl (dl2 rfl) hx (fun r I1 J1 G1 hq1 => ?_)
  obtain ⟨v, ⟨z, rfl⟩, rfl⟩ := hv _ _ _ _ hq1
  refine lw_aload C0 (i := 2) rfl (dl2 rfl) ?_
  refine lw_arg C0 i 1 rfl rfl rfl (by omega) hL (dl2 rfl) (dl2 rfl) (dl2 rfl) (dl2 rfl) (dl2 rfl) ?_
  refine lw_arg C0 i 2 rfl rfl rfl (by omega) hL (dl2 rfl) (dl2 rfl) (dl2 rfl) (dl2 rfl) (dl2 rfl) ?_
  refine lw_callM C0 F (M' := mX7_sails) (as := [.int (xs (i + 1)), .int (xs (i + 2))]) (rest := [.int z]) oX7_sails rfl (mW 828 (by decide +kernel) (by decide +kernel)) rfl rfl rfl rfl (Nat.le_of_ble_eq_true rfl) rfl (dl2 rfl) hm (fun r I2 J2 G2 hq2 => ?_)
  obtain ⟨⟨v, _, e1, e2⟩, hR2⟩ := hb _ _ _ _ _ _ _ _ hq1 hq2
  cases e1
  subst e2
  exact lw_same C0 (tgt := 787) (dl2 rfl) rfl (K _ _ _ _ _ _ hR2)
set_option maxRecDepth 20000 in
theorem law_7 {p : Program} {l : Launch} {e : Env} {s : State} {m : MethodId} {below : List Frame} {meth : Method} {c : Code} {b Ln : Nat} {xs : Nat → Int32} {D : va_G} {cA : Nat → ClassId} {ad am : Nat → Nat} (C0 : lw_At p s m meth c b Ln xs) (F : LFx s D cA ad am) (hL : Ln ≤ 320) {i : Nat} (hi : i + 5 ≤ Ln) {I : II} {J : JJ} {G : II} {Im : II} {Jm : JJ} {Gm : II} (hR : Rl I J G Im Jm Gm) (K : ∀ I J G Im Jm Gm, Rl I J G Im Jm Gm → LW p l e s m below meth c b D cA ad am 787 [some (.ref b), some (.ref (ad 0)), some (.ref (am 0)), some (.int (nI i))] [] I J G Im Jm Gm) : LW p l e s m below meth c b D cA ad am 305 [some (.ref b), some (.ref (ad 0)), some (.ref (am 0)), some (.int (nI i))] [] I J G Im Jm Gm := by
  obtain ⟨Px, Pm, hx, hm, hv, hb⟩ := b_lists hR (xs (i + 1)) (xs (i + 2))
  refine lw_aload C0 (i := 1) rfl (dl2 rfl) ?_
  refine lw_arg C0 i 1 rfl rfl rfl (by omega) hL (dl2 rfl) (dl2 rfl) (dl3 rfl) (dl3 rfl) (dl3 rfl) ?_
  refine lw_arg C0 i 2 rfl rfl rfl (by omega) hL (dl3 rfl) (dl3 rfl) (dl3 rfl) (dl3 rfl) (dl3 rfl) ?_
  refine lw_callX C0 F (M' := mX6_lists) (as := [.int (xs (i + 1)), .int (xs (i + 2))]) (rest := []) oX6_lists rfl (mW 477 (by decide +kernel) (by decide +kernel)) rfl rfl rfl rfl (Nat.le_of_ble_eq_true rfl) rfl (dl3 rfl) hx (fun r I1 J1 G1 hq1 => ?_)
  obtain ⟨v, ⟨z, rfl⟩, rfl⟩ := hv _ _ _ _ hq1
  refine lw_aload C0 (i := 2) rfl (dl3 rfl) ?_
  refine lw_arg C0 i 1 rfl rfl rfl (by omega) hL (dl3 rfl) (dl3 rfl) (dl3 rfl) (dl3 rfl) (dl3 rfl) ?_
  refine lw_arg C0 i 2 rfl rfl rfl (by omega) hL (dl3 rfl) (dl3 rfl) (dl3 rfl) (dl3 rfl) (dl3 rfl) ?_
  refine lw_callM C0 F (M' := mX7_lists) (as := [.int (xs (i + 1)), .int (xs (i + 2))]) (rest := [.int z]) oX7_lists rfl (mW 860 (by decide +kernel) (by decide +kernel)) rfl rfl rfl rfl (Nat.le_of_ble_eq_true rfl) rfl (dl3 rfl) hm (fun r I2 J2 G2 hq2 => ?_)
  obtain ⟨⟨v, _, e1, e2⟩, hR2⟩ := hb _ _ _ _ _ _ _ _ hq1 hq2
  cases e1
  subst e2
  exact lw_same C0 (tgt := 787) (dl3 rfl) rfl (K _ _ _ _ _ _ hR2)
set_option maxRecDepth 20000 in
theorem law_8 {p : Program} {l : Launch} {e : Env} {s : State} {m : MethodId} {below : List Frame} {meth : Method} {c : Code} {b Ln : Nat} {xs : Nat → Int32} {D : va_G} {cA : Nat → ClassId} {ad am : Nat → Nat} (C0 : lw_At p s m meth c b Ln xs) (F : LFx s D cA ad am) (hL : Ln ≤ 320) {i : Nat} (hi : i + 5 ≤ Ln) {I : II} {J : JJ} {G : II} {Im : II} {Jm : JJ} {Gm : II} (hR : Rl I J G Im Jm Gm) (K : ∀ I J G Im Jm Gm, Rl I J G Im Jm Gm → LW p l e s m below meth c b D cA ad am 787 [some (.ref b), some (.ref (ad 0)), some (.ref (am 0)), some (.int (nI i))] [] I J G Im Jm Gm) : LW p l e s m below meth c b D cA ad am 338 [some (.ref b), some (.ref (ad 0)), some (.ref (am 0)), some (.int (nI i))] [] I J G Im Jm Gm := by
  obtain ⟨Px, Pm, hx, hm, hv, hb⟩ := b_hides hR (xs (i + 1)) (xs (i + 2))
  refine lw_aload C0 (i := 1) rfl (dl3 rfl) ?_
  refine lw_arg C0 i 1 rfl rfl rfl (by omega) hL (dl3 rfl) (dl3 rfl) (dl3 rfl) (dl3 rfl) (dl3 rfl) ?_
  refine lw_arg C0 i 2 rfl rfl rfl (by omega) hL (dl3 rfl) (dl3 rfl) (dl3 rfl) (dl3 rfl) (dl3 rfl) ?_
  refine lw_callX C0 F (M' := mX6_hides) (as := [.int (xs (i + 1)), .int (xs (i + 2))]) (rest := []) oX6_hides rfl (mW 482 (by decide +kernel) (by decide +kernel)) rfl rfl rfl rfl (Nat.le_of_ble_eq_true rfl) rfl (dl3 rfl) hx (fun r I1 J1 G1 hq1 => ?_)
  obtain ⟨v, ⟨z, rfl⟩, rfl⟩ := hv _ _ _ _ hq1
  refine lw_aload C0 (i := 2) rfl (dl3 rfl) ?_
  refine lw_arg C0 i 1 rfl rfl rfl (by omega) hL (dl3 rfl) (dl3 rfl) (dl3 rfl) (dl3 rfl) (dl3 rfl) ?_
  refine lw_arg C0 i 2 rfl rfl rfl (by omega) hL (dl3 rfl) (dl3 rfl) (dl3 rfl) (dl3 rfl) (dl3 rfl) ?_
  refine lw_callM C0 F (M' := mX7_hides) (as := [.int (xs (i + 1)), .int (xs (i + 2))]) (rest := [.int z]) oX7_hides rfl (mW 868 (by decide +kernel) (by decide +kernel)) rfl rfl rfl rfl (Nat.le_of_ble_eq_true rfl) rfl (dl3 rfl) hm (fun r I2 J2 G2 hq2 => ?_)
  obtain ⟨⟨v, _, e1, e2⟩, hR2⟩ := hb _ _ _ _ _ _ _ _ hq1 hq2
  cases e1
  subst e2
  exact lw_same C0 (tgt := 787) (dl4 rfl) rfl (K _ _ _ _ _ _ hR2)
set_option maxRecDepth 20000 in
theorem law_9 {p : Program} {l : Launch} {e : Env} {s : State} {m : MethodId} {below : List Frame} {meth : Method} {c : Code} {b Ln : Nat} {xs : Nat → Int32} {D : va_G} {cA : Nat → ClassId} {ad am : Nat → Nat} (C0 : lw_At p s m meth c b Ln xs) (F : LFx s D cA ad am) (hL : Ln ≤ 320) {i : Nat} (hi : i + 5 ≤ Ln) {I : II} {J : JJ} {G : II} {Im : II} {Jm : JJ} {Gm : II} (hR : Rl I J G Im Jm Gm) (K : ∀ I J G Im Jm Gm, Rl I J G Im Jm Gm → LW p l e s m below meth c b D cA ad am 787 [some (.ref b), some (.ref (ad 0)), some (.ref (am 0)), some (.int (nI i))] [] I J G Im Jm Gm) : LW p l e s m below meth c b D cA ad am 371 [some (.ref b), some (.ref (ad 0)), some (.ref (am 0)), some (.int (nI i))] [] I J G Im Jm Gm := by
  obtain ⟨Px, Pm, hx, hm, hv, hb⟩ := b_throws hR (xs (i + 1)) (xs (i + 2))
  refine lw_aload C0 (i := 1) rfl (dl4 rfl) ?_
  refine lw_arg C0 i 1 rfl rfl rfl (by omega) hL (dl4 rfl) (dl4 rfl) (dl4 rfl) (dl4 rfl) (dl4 rfl) ?_
  refine lw_arg C0 i 2 rfl rfl rfl (by omega) hL (dl4 rfl) (dl4 rfl) (dl4 rfl) (dl4 rfl) (dl4 rfl) ?_
  refine lw_callX C0 F (M' := mX6_throwsOff) (as := [.int (xs (i + 1)), .int (xs (i + 2))]) (rest := []) oX6_throwsOff rfl (mW 486 (by decide +kernel) (by decide +kernel)) rfl rfl rfl rfl (Nat.le_of_ble_eq_true rfl) rfl (dl4 rfl) hx (fun r I1 J1 G1 hq1 => ?_)
  obtain ⟨v, ⟨z, rfl⟩, rfl⟩ := hv _ _ _ _ hq1
  refine lw_aload C0 (i := 2) rfl (dl4 rfl) ?_
  refine lw_arg C0 i 1 rfl rfl rfl (by omega) hL (dl4 rfl) (dl4 rfl) (dl4 rfl) (dl4 rfl) (dl4 rfl) ?_
  refine lw_arg C0 i 2 rfl rfl rfl (by omega) hL (dl4 rfl) (dl4 rfl) (dl4 rfl) (dl4 rfl) (dl4 rfl) ?_
  refine lw_callM C0 F (M' := mX7_throwsOff) (as := [.int (xs (i + 1)), .int (xs (i + 2))]) (rest := [.int z]) oX7_throwsOff rfl (mW 872 (by decide +kernel) (by decide +kernel)) rfl rfl rfl rfl (Nat.le_of_ble_eq_true rfl) rfl (dl4 rfl) hm (fun r I2 J2 G2 hq2 => ?_)
  obtain ⟨⟨v, _, e1, e2⟩, hR2⟩ := hb _ _ _ _ _ _ _ _ hq1 hq2
  cases e1
  subst e2
  exact lw_same C0 (tgt := 787) (dl4 rfl) rfl (K _ _ _ _ _ _ hR2)
set_option maxRecDepth 20000 in
theorem law_10 {p : Program} {l : Launch} {e : Env} {s : State} {m : MethodId} {below : List Frame} {meth : Method} {c : Code} {b Ln : Nat} {xs : Nat → Int32} {D : va_G} {cA : Nat → ClassId} {ad am : Nat → Nat} (C0 : lw_At p s m meth c b Ln xs) (F : LFx s D cA ad am) (hL : Ln ≤ 320) {i : Nat} (hi : i + 5 ≤ Ln) {I : II} {J : JJ} {G : II} {Im : II} {Jm : JJ} {Gm : II} (hR : Rl I J G Im Jm Gm) (K : ∀ I J G Im Jm Gm, Rl I J G Im Jm Gm → LW p l e s m below meth c b D cA ad am 787 [some (.ref b), some (.ref (ad 0)), some (.ref (am 0)), some (.int (nI i))] [] I J G Im Jm Gm) : LW p l e s m below meth c b D cA ad am 404 [some (.ref b), some (.ref (ad 0)), some (.ref (am 0)), some (.int (nI i))] [] I J G Im Jm Gm := by
  obtain ⟨Px, Pm, hx, hm, hv, hb⟩ := b_raises hR (xs (i + 1))
  refine lw_aload C0 (i := 1) rfl (dl4 rfl) ?_
  refine lw_arg C0 i 1 rfl rfl rfl (by omega) hL (dl4 rfl) (dl4 rfl) (dl4 rfl) (dl4 rfl) (dl4 rfl) ?_
  refine lw_callX C0 F (M' := mX6_raises) (as := [.int (xs (i + 1))]) (rest := []) oX6_raises rfl (mW 491 (by decide +kernel) (by decide +kernel)) rfl rfl rfl rfl (Nat.le_of_ble_eq_true rfl) rfl (dl4 rfl) hx (fun r I1 J1 G1 hq1 => ?_)
  obtain ⟨v, ⟨z, rfl⟩, rfl⟩ := hv _ _ _ _ hq1
  refine lw_aload C0 (i := 2) rfl (dl4 rfl) ?_
  refine lw_arg C0 i 1 rfl rfl rfl (by omega) hL (dl4 rfl) (dl4 rfl) (dl4 rfl) (dl4 rfl) (dl4 rfl) ?_
  refine lw_callM C0 F (M' := mX7_raises) (as := [.int (xs (i + 1))]) (rest := [.int z]) oX7_raises rfl (mW 876 (by decide +kernel) (by decide +kernel)) rfl rfl rfl rfl (Nat.le_of_ble_eq_true rfl) rfl (dl4 rfl) hm (fun r I2 J2 G2 hq2 => ?_)
  obtain ⟨⟨v, _, e1, e2⟩, hR2⟩ := hb _ _ _ _ _ _ _ _ hq1 hq2
  cases e1
  subst e2
  exact lw_same C0 (tgt := 787) (dl4 rfl) rfl (K _ _ _ _ _ _ hR2)
set_option maxRecDepth 20000 in
theorem law_11 {p : Program} {l : Launch} {e : Env} {s : State} {m : MethodId} {below : List Frame} {meth : Method} {c : Code} {b Ln : Nat} {xs : Nat → Int32} {D : va_G} {cA : Nat → ClassId} {ad am : Nat → Nat} (C0 : lw_At p s m meth c b Ln xs) (F : LFx s D cA ad am) (hL : Ln ≤ 320) {i : Nat} (hi : i + 5 ≤ Ln) {I : II} {J : JJ} {G : II} {Im : II} {Jm : JJ} {Gm : II} (hR : Rl I J G Im Jm Gm) (K : ∀ I J G Im Jm Gm, Rl I J G Im Jm Gm → LW p l e s m below meth c b D cA ad am 787 [some (.ref b), some (.ref (ad 0)), some (.ref (am 0)), some (.int (nI i))] [] I J G Im Jm Gm) : LW p l e s m below meth c b D cA ad am 427 [some (.ref b), some (.ref (ad 0)), some (.ref (am 0)), some (.int (nI i))] [] I J G Im Jm Gm := by
  obtain ⟨Px, Pm, hx, hm, hv, hb⟩ := b_undo hR
  refine lw_aload C0 (i := 1) rfl (dl4 rfl) ?_
  refine lw_callX C0 F (M' := mX6_undo) (as := []) (rest := []) oX6_undo rfl (mW 495 (by decide +kernel) (by decide +kernel)) rfl rfl rfl rfl (Nat.le_of_ble_eq_true rfl) rfl (dl5 rfl) hx (fun r I1 J1 G1 hq1 => ?_)
  obtain ⟨v, ⟨z, rfl⟩, rfl⟩ := hv _ _ _ _ hq1
  refine lw_aload C0 (i := 2) rfl (dl5 rfl) ?_
  refine lw_callM C0 F (M' := mX7_undo) (as := []) (rest := [.int z]) oX7_undo rfl (mW 880 (by decide +kernel) (by decide +kernel)) rfl rfl rfl rfl (Nat.le_of_ble_eq_true rfl) rfl (dl5 rfl) hm (fun r I2 J2 G2 hq2 => ?_)
  obtain ⟨⟨v, _, e1, e2⟩, hR2⟩ := hb _ _ _ _ _ _ _ _ hq1 hq2
  cases e1
  subst e2
  exact lw_same C0 (tgt := 787) (dl5 rfl) rfl (K _ _ _ _ _ _ hR2)
set_option maxRecDepth 20000 in
theorem law_12 {p : Program} {l : Launch} {e : Env} {s : State} {m : MethodId} {below : List Frame} {meth : Method} {c : Code} {b Ln : Nat} {xs : Nat → Int32} {D : va_G} {cA : Nat → ClassId} {ad am : Nat → Nat} (C0 : lw_At p s m meth c b Ln xs) (F : LFx s D cA ad am) (hL : Ln ≤ 320) {i : Nat} (hi : i + 5 ≤ Ln) {I : II} {J : JJ} {G : II} {Im : II} {Jm : JJ} {Gm : II} (hR : Rl I J G Im Jm Gm) (K : ∀ I J G Im Jm Gm, Rl I J G Im Jm Gm → LW p l e s m below meth c b D cA ad am 787 [some (.ref b), some (.ref (ad 0)), some (.ref (am 0)), some (.int (nI i))] [] I J G Im Jm Gm) : LW p l e s m below meth c b D cA ad am 440 [some (.ref b), some (.ref (ad 0)), some (.ref (am 0)), some (.int (nI i))] [] I J G Im Jm Gm := by
  obtain ⟨Px, Pm, hx, hm, hv, hb⟩ := b_now hR (xs (i + 1))
  refine lw_aload C0 (i := 1) rfl (dl5 rfl) ?_
  refine lw_arg C0 i 1 rfl rfl rfl (by omega) hL (dl5 rfl) (dl5 rfl) (dl5 rfl) (dl5 rfl) (dl5 rfl) ?_
  refine lw_callX C0 F (M' := mX6_now) (as := [.int (xs (i + 1))]) (rest := []) oX6_now rfl (mW 503 (by decide +kernel) (by decide +kernel)) rfl rfl rfl rfl (Nat.le_of_ble_eq_true rfl) rfl (dl5 rfl) hx (fun r I1 J1 G1 hq1 => ?_)
  obtain ⟨v, ⟨z, rfl⟩, rfl⟩ := hv _ _ _ _ hq1
  refine lw_aload C0 (i := 2) rfl (dl5 rfl) ?_
  refine lw_arg C0 i 1 rfl rfl rfl (by omega) hL (dl5 rfl) (dl5 rfl) (dl5 rfl) (dl5 rfl) (dl5 rfl) ?_
  refine lw_callM C0 F (M' := mX7_now) (as := [.int (xs (i + 1))]) (rest := [.int z]) oX7_now rfl (mW 884 (by decide +kernel) (by decide +kernel)) rfl rfl rfl rfl (Nat.le_of_ble_eq_true rfl) rfl (dl5 rfl) hm (fun r I2 J2 G2 hq2 => ?_)
  obtain ⟨⟨v, _, e1, e2⟩, hR2⟩ := hb _ _ _ _ _ _ _ _ hq1 hq2
  cases e1
  subst e2
  exact lw_same C0 (tgt := 787) (dl5 rfl) rfl (K _ _ _ _ _ _ hR2)
set_option maxRecDepth 20000 in
theorem law_13 {p : Program} {l : Launch} {e : Env} {s : State} {m : MethodId} {below : List Frame} {meth : Method} {c : Code} {b Ln : Nat} {xs : Nat → Int32} {D : va_G} {cA : Nat → ClassId} {ad am : Nat → Nat} (C0 : lw_At p s m meth c b Ln xs) (F : LFx s D cA ad am) (hL : Ln ≤ 320) {i : Nat} (hi : i + 5 ≤ Ln) {I : II} {J : JJ} {G : II} {Im : II} {Jm : JJ} {Gm : II} (hR : Rl I J G Im Jm Gm) (K : ∀ I J G Im Jm Gm, Rl I J G Im Jm Gm → LW p l e s m below meth c b D cA ad am 787 [some (.ref b), some (.ref (ad 0)), some (.ref (am 0)), some (.int (nI i))] [] I J G Im Jm Gm) : LW p l e s m below meth c b D cA ad am 463 [some (.ref b), some (.ref (ad 0)), some (.ref (am 0)), some (.int (nI i))] [] I J G Im Jm Gm := by
  obtain ⟨Px, Pm, hx, hm, hv, hb⟩ := b_worth hR (xs (i + 1)) (xs (i + 2))
  refine lw_aload C0 (i := 1) rfl (dl5 rfl) ?_
  refine lw_arg C0 i 1 rfl rfl rfl (by omega) hL (dl5 rfl) (dl5 rfl) (dl5 rfl) (dl5 rfl) (dl5 rfl) ?_
  refine lw_arg C0 i 2 rfl rfl rfl (by omega) hL (dl5 rfl) (dl5 rfl) (dl5 rfl) (dl5 rfl) (dl5 rfl) ?_
  refine lw_callX C0 F (M' := mX6_worth) (as := [.int (xs (i + 1)), .int (xs (i + 2))]) (rest := []) oX6_worth rfl (mW 517 (by decide +kernel) (by decide +kernel)) rfl rfl rfl rfl (Nat.le_of_ble_eq_true rfl) rfl (dl5 rfl) hx (fun r I1 J1 G1 hq1 => ?_)
  obtain ⟨v, ⟨z, rfl⟩, rfl⟩ := hv _ _ _ _ hq1
  refine lw_aload C0 (i := 2) rfl (dl5 rfl) ?_
  refine lw_arg C0 i 1 rfl rfl rfl (by omega) hL (dl5 rfl) (dl5 rfl) (dl5 rfl) (dl5 rfl) (dl5 rfl) ?_
  refine lw_arg C0 i 2 rfl rfl rfl (by omega) hL (dl5 rfl) (dl5 rfl) (dl5 rfl) (dl5 rfl) (dl5 rfl) ?_
  refine lw_callM C0 F (M' := mX7_worth) (as := [.int (xs (i + 1)), .int (xs (i + 2))]) (rest := [.int z]) oX7_worth rfl (mW 892 (by decide +kernel) (by decide +kernel)) rfl rfl rfl rfl (Nat.le_of_ble_eq_true rfl) rfl (dl5 rfl) hm (fun r I2 J2 G2 hq2 => ?_)
  obtain ⟨⟨v, _, e1, e2⟩, hR2⟩ := hb _ _ _ _ _ _ _ _ hq1 hq2
  cases e1
  subst e2
  exact lw_same C0 (tgt := 787) (dl5 rfl) rfl (K _ _ _ _ _ _ hR2)
set_option maxRecDepth 20000 in
theorem law_14 {p : Program} {l : Launch} {e : Env} {s : State} {m : MethodId} {below : List Frame} {meth : Method} {c : Code} {b Ln : Nat} {xs : Nat → Int32} {D : va_G} {cA : Nat → ClassId} {ad am : Nat → Nat} (C0 : lw_At p s m meth c b Ln xs) (F : LFx s D cA ad am) (hL : Ln ≤ 320) {i : Nat} (hi : i + 5 ≤ Ln) {I : II} {J : JJ} {G : II} {Im : II} {Jm : JJ} {Gm : II} (hR : Rl I J G Im Jm Gm) (K : ∀ I J G Im Jm Gm, Rl I J G Im Jm Gm → LW p l e s m below meth c b D cA ad am 787 [some (.ref b), some (.ref (ad 0)), some (.ref (am 0)), some (.int (nI i))] [] I J G Im Jm Gm) : LW p l e s m below meth c b D cA ad am 496 [some (.ref b), some (.ref (ad 0)), some (.ref (am 0)), some (.int (nI i))] [] I J G Im Jm Gm := by
  obtain ⟨Px, Pm, hx, hm, hv, hb⟩ := b_plan hR (xs (i + 1))
  refine lw_aload C0 (i := 1) rfl (dl6 rfl) ?_
  refine lw_arg C0 i 1 rfl rfl rfl (by omega) hL (dl6 rfl) (dl6 rfl) (dl6 rfl) (dl6 rfl) (dl6 rfl) ?_
  refine lw_callX C0 F (M' := mX6_plan) (as := [.int (xs (i + 1))]) (rest := []) oX6_plan rfl (mW 530 (by decide +kernel) (by decide +kernel)) rfl rfl rfl rfl (Nat.le_of_ble_eq_true rfl) rfl (dl6 rfl) hx (fun r I1 J1 G1 hq1 => ?_)
  obtain ⟨v, ⟨z, rfl⟩, rfl⟩ := hv _ _ _ _ hq1
  refine lw_aload C0 (i := 2) rfl (dl6 rfl) ?_
  refine lw_arg C0 i 1 rfl rfl rfl (by omega) hL (dl6 rfl) (dl6 rfl) (dl6 rfl) (dl6 rfl) (dl6 rfl) ?_
  refine lw_callM C0 F (M' := mX7_plan) (as := [.int (xs (i + 1))]) (rest := [.int z]) oX7_plan rfl (mW 900 (by decide +kernel) (by decide +kernel)) rfl rfl rfl rfl (Nat.le_of_ble_eq_true rfl) rfl (dl6 rfl) hm (fun r I2 J2 G2 hq2 => ?_)
  obtain ⟨⟨v, _, e1, e2⟩, hR2⟩ := hb _ _ _ _ _ _ _ _ hq1 hq2
  cases e1
  subst e2
  exact lw_same C0 (tgt := 787) (dl6 rfl) rfl (K _ _ _ _ _ _ hR2)
set_option maxRecDepth 20000 in
theorem law_15 {p : Program} {l : Launch} {e : Env} {s : State} {m : MethodId} {below : List Frame} {meth : Method} {c : Code} {b Ln : Nat} {xs : Nat → Int32} {D : va_G} {cA : Nat → ClassId} {ad am : Nat → Nat} (C0 : lw_At p s m meth c b Ln xs) (F : LFx s D cA ad am) (hL : Ln ≤ 320) {i : Nat} (hi : i + 5 ≤ Ln) {I : II} {J : JJ} {G : II} {Im : II} {Jm : JJ} {Gm : II} (hR : Rl I J G Im Jm Gm) (K : ∀ I J G Im Jm Gm, Rl I J G Im Jm Gm → LW p l e s m below meth c b D cA ad am 787 [some (.ref b), some (.ref (ad 0)), some (.ref (am 0)), some (.int (nI i))] [] I J G Im Jm Gm) : LW p l e s m below meth c b D cA ad am 519 [some (.ref b), some (.ref (ad 0)), some (.ref (am 0)), some (.int (nI i))] [] I J G Im Jm Gm := by
  obtain ⟨Px, Pm, hx, hm, hv, hb⟩ := b_late hR
  refine lw_aload C0 (i := 1) rfl (dl6 rfl) ?_
  refine lw_callX C0 F (M' := mX6_late) (as := []) (rest := []) oX6_late rfl (mW 561 (by decide +kernel) (by decide +kernel)) rfl rfl rfl rfl (Nat.le_of_ble_eq_true rfl) rfl (dl6 rfl) hx (fun r I1 J1 G1 hq1 => ?_)
  obtain ⟨v, ⟨z, rfl⟩, rfl⟩ := hv _ _ _ _ hq1
  refine lw_aload C0 (i := 2) rfl (dl6 rfl) ?_
  refine lw_callM C0 F (M' := mX7_late) (as := []) (rest := [.int z]) oX7_late rfl (mW 912 (by decide +kernel) (by decide +kernel)) rfl rfl rfl rfl (Nat.le_of_ble_eq_true rfl) rfl (dl6 rfl) hm (fun r I2 J2 G2 hq2 => ?_)
  obtain ⟨⟨v, _, e1, e2⟩, hR2⟩ := hb _ _ _ _ _ _ _ _ hq1 hq2
  cases e1
  subst e2
  exact lw_same C0 (tgt := 787) (dl6 rfl) rfl (K _ _ _ _ _ _ hR2)
set_option maxRecDepth 20000 in
theorem law_16 {p : Program} {l : Launch} {e : Env} {s : State} {m : MethodId} {below : List Frame} {meth : Method} {c : Code} {b Ln : Nat} {xs : Nat → Int32} {D : va_G} {cA : Nat → ClassId} {ad am : Nat → Nat} (C0 : lw_At p s m meth c b Ln xs) (F : LFx s D cA ad am) (hL : Ln ≤ 320) {i : Nat} (hi : i + 5 ≤ Ln) {I : II} {J : JJ} {G : II} {Im : II} {Jm : JJ} {Gm : II} (hR : Rl I J G Im Jm Gm) (K : ∀ I J G Im Jm Gm, Rl I J G Im Jm Gm → LW p l e s m below meth c b D cA ad am 787 [some (.ref b), some (.ref (ad 0)), some (.ref (am 0)), some (.int (nI i))] [] I J G Im Jm Gm) : LW p l e s m below meth c b D cA ad am 532 [some (.ref b), some (.ref (ad 0)), some (.ref (am 0)), some (.int (nI i))] [] I J G Im Jm Gm := by
  obtain ⟨Px, Pm, hx, hm, hv, hb⟩ := b_game hR (xs (i + 1)) (xs (i + 2)) (xs (i + 3)) (xs (i + 4))
  refine lw_aload C0 (i := 1) rfl (dl6 rfl) ?_
  refine lw_arg C0 i 1 rfl rfl rfl (by omega) hL (dl6 rfl) (dl6 rfl) (dl6 rfl) (dl6 rfl) (dl6 rfl) ?_
  refine lw_arg C0 i 2 rfl rfl rfl (by omega) hL (dl6 rfl) (dl6 rfl) (dl6 rfl) (dl6 rfl) (dl6 rfl) ?_
  refine lw_arg C0 i 3 rfl rfl rfl (by omega) hL (dl6 rfl) (dl6 rfl) (dl6 rfl) (dl6 rfl) (dl6 rfl) ?_
  refine lw_arg C0 i 4 rfl rfl rfl (by omega) hL (dl6 rfl) (dl6 rfl) (dl6 rfl) (dl6 rfl) (dl6 rfl) ?_
  refine lw_callX C0 F (M' := mX6_game) (as := [.int (xs (i + 1)), .int (xs (i + 2)), .int (xs (i + 3)), .int (xs (i + 4))]) (rest := []) oX6_game rfl (mW 565 (by decide +kernel) (by decide +kernel)) rfl rfl rfl rfl (Nat.le_of_ble_eq_true rfl) rfl (dl6 rfl) hx (fun r I1 J1 G1 hq1 => ?_)
  obtain ⟨v, ⟨z, rfl⟩, rfl⟩ := hv _ _ _ _ hq1
  refine lw_aload C0 (i := 2) rfl (dl7 rfl) ?_
  refine lw_arg C0 i 1 rfl rfl rfl (by omega) hL (dl7 rfl) (dl7 rfl) (dl7 rfl) (dl7 rfl) (dl7 rfl) ?_
  refine lw_arg C0 i 2 rfl rfl rfl (by omega) hL (dl7 rfl) (dl7 rfl) (dl7 rfl) (dl7 rfl) (dl7 rfl) ?_
  refine lw_arg C0 i 3 rfl rfl rfl (by omega) hL (dl7 rfl) (dl7 rfl) (dl7 rfl) (dl7 rfl) (dl7 rfl) ?_
  refine lw_arg C0 i 4 rfl rfl rfl (by omega) hL (dl7 rfl) (dl7 rfl) (dl7 rfl) (dl7 rfl) (dl7 rfl) ?_
  refine lw_callM C0 F (M' := mX7_game) (as := [.int (xs (i + 1)), .int (xs (i + 2)), .int (xs (i + 3)), .int (xs (i + 4))]) (rest := [.int z]) oX7_game rfl (mW 916 (by decide +kernel) (by decide +kernel)) rfl rfl rfl rfl (Nat.le_of_ble_eq_true rfl) rfl (dl7 rfl) hm (fun r I2 J2 G2 hq2 => ?_)
  obtain ⟨⟨v, _, e1, e2⟩, hR2⟩ := hb _ _ _ _ _ _ _ _ hq1 hq2
  cases e1
  subst e2
  exact lw_same C0 (tgt := 787) (dl7 rfl) rfl (K _ _ _ _ _ _ hR2)
set_option maxRecDepth 20000 in
theorem law_17 {p : Program} {l : Launch} {e : Env} {s : State} {m : MethodId} {below : List Frame} {meth : Method} {c : Code} {b Ln : Nat} {xs : Nat → Int32} {D : va_G} {cA : Nat → ClassId} {ad am : Nat → Nat} (C0 : lw_At p s m meth c b Ln xs) (F : LFx s D cA ad am) (hL : Ln ≤ 320) {i : Nat} (hi : i + 5 ≤ Ln) {I : II} {J : JJ} {G : II} {Im : II} {Jm : JJ} {Gm : II} (hR : Rl I J G Im Jm Gm) (K : ∀ I J G Im Jm Gm, Rl I J G Im Jm Gm → LW p l e s m below meth c b D cA ad am 787 [some (.ref b), some (.ref (ad 0)), some (.ref (am 0)), some (.int (nI i))] [] I J G Im Jm Gm) : LW p l e s m below meth c b D cA ad am 585 [some (.ref b), some (.ref (ad 0)), some (.ref (am 0)), some (.int (nI i))] [] I J G Im Jm Gm := by
  obtain ⟨Px, Pm, hx, hm, hv, hb⟩ := b_odds hR (xs (i + 1)) (xs (i + 2)) (xs (i + 3)) (xs (i + 4))
  refine lw_aload C0 (i := 1) rfl (dl7 rfl) ?_
  refine lw_arg C0 i 1 rfl rfl rfl (by omega) hL (dl7 rfl) (dl7 rfl) (dl7 rfl) (dl7 rfl) (dl7 rfl) ?_
  refine lw_arg C0 i 2 rfl rfl rfl (by omega) hL (dl7 rfl) (dl7 rfl) (dl7 rfl) (dl7 rfl) (dl7 rfl) ?_
  refine lw_arg C0 i 3 rfl rfl rfl (by omega) hL (dl7 rfl) (dl7 rfl) (dl7 rfl) (dl7 rfl) (dl7 rfl) ?_
  refine lw_arg C0 i 4 rfl rfl rfl (by omega) hL (dl7 rfl) (dl7 rfl) (dl7 rfl) (dl7 rfl) (dl7 rfl) ?_
  refine lw_callX C0 F (M' := mX6_odds) (as := [.int (xs (i + 1)), .int (xs (i + 2)), .int (xs (i + 3)), .int (xs (i + 4))]) (rest := []) oX6_odds rfl (mW 585 (by decide +kernel) (by decide +kernel)) rfl rfl rfl rfl (Nat.le_of_ble_eq_true rfl) rfl (dl7 rfl) hx (fun r I1 J1 G1 hq1 => ?_)
  obtain ⟨v, ⟨z, rfl⟩, rfl⟩ := hv _ _ _ _ hq1
  refine lw_aload C0 (i := 2) rfl (dl7 rfl) ?_
  refine lw_arg C0 i 1 rfl rfl rfl (by omega) hL (dl8 rfl) (dl8 rfl) (dl8 rfl) (dl8 rfl) (dl8 rfl) ?_
  refine lw_arg C0 i 2 rfl rfl rfl (by omega) hL (dl8 rfl) (dl8 rfl) (dl8 rfl) (dl8 rfl) (dl8 rfl) ?_
  refine lw_arg C0 i 3 rfl rfl rfl (by omega) hL (dl8 rfl) (dl8 rfl) (dl8 rfl) (dl8 rfl) (dl8 rfl) ?_
  refine lw_arg C0 i 4 rfl rfl rfl (by omega) hL (dl8 rfl) (dl8 rfl) (dl8 rfl) (dl8 rfl) (dl8 rfl) ?_
  refine lw_callM C0 F (M' := mX7_odds) (as := [.int (xs (i + 1)), .int (xs (i + 2)), .int (xs (i + 3)), .int (xs (i + 4))]) (rest := [.int z]) oX7_odds rfl (mW 923 (by decide +kernel) (by decide +kernel)) rfl rfl rfl rfl (Nat.le_of_ble_eq_true rfl) rfl (dl8 rfl) hm (fun r I2 J2 G2 hq2 => ?_)
  obtain ⟨⟨v, _, e1, e2⟩, hR2⟩ := hb _ _ _ _ _ _ _ _ hq1 hq2
  cases e1
  subst e2
  exact lw_same C0 (tgt := 787) (dl8 rfl) rfl (K _ _ _ _ _ _ hR2)
set_option maxRecDepth 20000 in
theorem law_18 {p : Program} {l : Launch} {e : Env} {s : State} {m : MethodId} {below : List Frame} {meth : Method} {c : Code} {b Ln : Nat} {xs : Nat → Int32} {D : va_G} {cA : Nat → ClassId} {ad am : Nat → Nat} (C0 : lw_At p s m meth c b Ln xs) (F : LFx s D cA ad am) (hL : Ln ≤ 320) {i : Nat} (hi : i + 5 ≤ Ln) {I : II} {J : JJ} {G : II} {Im : II} {Jm : JJ} {Gm : II} (hR : Rl I J G Im Jm Gm) (K : ∀ I J G Im Jm Gm, Rl I J G Im Jm Gm → LW p l e s m below meth c b D cA ad am 787 [some (.ref b), some (.ref (ad 0)), some (.ref (am 0)), some (.int (nI i))] [] I J G Im Jm Gm) : LW p l e s m below meth c b D cA ad am 638 [some (.ref b), some (.ref (ad 0)), some (.ref (am 0)), some (.int (nI i))] [] I J G Im Jm Gm := by
  obtain ⟨Px, Pm, hx, hm, hv, hb⟩ := b_register hR (xs (i + 1)) (xs (i + 2))
  refine lw_aload C0 (i := 1) rfl (dl8 rfl) ?_
  refine lw_arg C0 i 1 rfl rfl rfl (by omega) hL (dl8 rfl) (dl8 rfl) (dl8 rfl) (dl8 rfl) (dl8 rfl) ?_
  refine lw_arg C0 i 2 rfl rfl rfl (by omega) hL (dl8 rfl) (dl8 rfl) (dl8 rfl) (dl8 rfl) (dl8 rfl) ?_
  refine lw_callX C0 F (M' := mX6_register) (as := [.int (xs (i + 1)), .int (xs (i + 2))]) (rest := []) oX6_register rfl (mW 601 (by decide +kernel) (by decide +kernel)) rfl rfl rfl rfl (Nat.le_of_ble_eq_true rfl) rfl (dl8 rfl) hx (fun r I1 J1 G1 hq1 => ?_)
  obtain ⟨v, ⟨z, rfl⟩, rfl⟩ := hv _ _ _ _ hq1
  refine lw_aload C0 (i := 2) rfl (dl8 rfl) ?_
  refine lw_arg C0 i 1 rfl rfl rfl (by omega) hL (dl8 rfl) (dl8 rfl) (dl8 rfl) (dl8 rfl) (dl8 rfl) ?_
  refine lw_arg C0 i 2 rfl rfl rfl (by omega) hL (dl8 rfl) (dl8 rfl) (dl8 rfl) (dl8 rfl) (dl8 rfl) ?_
  refine lw_callM C0 F (M' := mX7_register) (as := [.int (xs (i + 1)), .int (xs (i + 2))]) (rest := [.int z]) oX7_register rfl (mW 930 (by decide +kernel) (by decide +kernel)) rfl rfl rfl rfl (Nat.le_of_ble_eq_true rfl) rfl (dl8 rfl) hm (fun r I2 J2 G2 hq2 => ?_)
  obtain ⟨⟨v, _, e1, e2⟩, hR2⟩ := hb _ _ _ _ _ _ _ _ hq1 hq2
  cases e1
  subst e2
  exact lw_same C0 (tgt := 787) (dl9 rfl) rfl (K _ _ _ _ _ _ hR2)
set_option maxRecDepth 20000 in
theorem law_19 {p : Program} {l : Launch} {e : Env} {s : State} {m : MethodId} {below : List Frame} {meth : Method} {c : Code} {b Ln : Nat} {xs : Nat → Int32} {D : va_G} {cA : Nat → ClassId} {ad am : Nat → Nat} (C0 : lw_At p s m meth c b Ln xs) (F : LFx s D cA ad am) (hL : Ln ≤ 320) {i : Nat} (hi : i + 5 ≤ Ln) {I : II} {J : JJ} {G : II} {Im : II} {Jm : JJ} {Gm : II} (hR : Rl I J G Im Jm Gm) (K : ∀ I J G Im Jm Gm, Rl I J G Im Jm Gm → LW p l e s m below meth c b D cA ad am 787 [some (.ref b), some (.ref (ad 0)), some (.ref (am 0)), some (.int (nI i))] [] I J G Im Jm Gm) : LW p l e s m below meth c b D cA ad am 671 [some (.ref b), some (.ref (ad 0)), some (.ref (am 0)), some (.int (nI i))] [] I J G Im Jm Gm := by
  obtain ⟨Px, Pm, hx, hm, hv, hb⟩ := b_mark hR (xs (i + 1)) (xs (i + 2))
  refine lw_aload C0 (i := 1) rfl (dl9 rfl) ?_
  refine lw_arg C0 i 1 rfl rfl rfl (by omega) hL (dl9 rfl) (dl9 rfl) (dl9 rfl) (dl9 rfl) (dl9 rfl) ?_
  refine lw_arg C0 i 2 rfl rfl rfl (by omega) hL (dl9 rfl) (dl9 rfl) (dl9 rfl) (dl9 rfl) (dl9 rfl) ?_
  refine lw_callX C0 F (M' := mX6_mark) (as := [.int (xs (i + 1)), .int (xs (i + 2))]) (rest := []) oX6_mark rfl (mW 610 (by decide +kernel) (by decide +kernel)) rfl rfl rfl rfl (Nat.le_of_ble_eq_true rfl) rfl (dl9 rfl) hx (fun r I1 J1 G1 hq1 => ?_)
  obtain ⟨v, ⟨z, rfl⟩, rfl⟩ := hv _ _ _ _ hq1
  refine lw_aload C0 (i := 2) rfl (dl9 rfl) ?_
  refine lw_arg C0 i 1 rfl rfl rfl (by omega) hL (dl9 rfl) (dl9 rfl) (dl9 rfl) (dl9 rfl) (dl9 rfl) ?_
  refine lw_arg C0 i 2 rfl rfl rfl (by omega) hL (dl9 rfl) (dl9 rfl) (dl9 rfl) (dl9 rfl) (dl9 rfl) ?_
  refine lw_callM C0 F (M' := mX7_mark) (as := [.int (xs (i + 1)), .int (xs (i + 2))]) (rest := [.int z]) oX7_mark rfl (mW 934 (by decide +kernel) (by decide +kernel)) rfl rfl rfl rfl (Nat.le_of_ble_eq_true rfl) rfl (dl9 rfl) hm (fun r I2 J2 G2 hq2 => ?_)
  obtain ⟨⟨v, _, e1, e2⟩, hR2⟩ := hb _ _ _ _ _ _ _ _ hq1 hq2
  cases e1
  subst e2
  exact lw_same C0 (tgt := 787) (dl9 rfl) rfl (K _ _ _ _ _ _ hR2)
set_option maxRecDepth 20000 in
theorem law_20 {p : Program} {l : Launch} {e : Env} {s : State} {m : MethodId} {below : List Frame} {meth : Method} {c : Code} {b Ln : Nat} {xs : Nat → Int32} {D : va_G} {cA : Nat → ClassId} {ad am : Nat → Nat} (C0 : lw_At p s m meth c b Ln xs) (F : LFx s D cA ad am) (hL : Ln ≤ 320) {i : Nat} (hi : i + 5 ≤ Ln) {I : II} {J : JJ} {G : II} {Im : II} {Jm : JJ} {Gm : II} (hR : Rl I J G Im Jm Gm) (K : ∀ I J G Im Jm Gm, Rl I J G Im Jm Gm → LW p l e s m below meth c b D cA ad am 787 [some (.ref b), some (.ref (ad 0)), some (.ref (am 0)), some (.int (nI i))] [] I J G Im Jm Gm) : LW p l e s m below meth c b D cA ad am 704 [some (.ref b), some (.ref (ad 0)), some (.ref (am 0)), some (.int (nI i))] [] I J G Im Jm Gm := by
  obtain ⟨Px, Pm, hx, hm, hv, hb⟩ := b_keep hR (xs (i + 1))
  refine lw_aload C0 (i := 1) rfl (dl9 rfl) ?_
  refine lw_arg C0 i 1 rfl rfl rfl (by omega) hL (dl9 rfl) (dl9 rfl) (dl9 rfl) (dl9 rfl) (dl9 rfl) ?_
  refine lw_callX C0 F (M' := mX6_keep) (as := [.int (xs (i + 1))]) (rest := []) oX6_keep rfl (mW 651 (by decide +kernel) (by decide +kernel)) rfl rfl rfl rfl (Nat.le_of_ble_eq_true rfl) rfl (dl9 rfl) hx (fun r I1 J1 G1 hq1 => ?_)
  obtain ⟨v, ⟨z, rfl⟩, rfl⟩ := hv _ _ _ _ hq1
  refine lw_aload C0 (i := 2) rfl (dl9 rfl) ?_
  refine lw_arg C0 i 1 rfl rfl rfl (by omega) hL (dl9 rfl) (dl9 rfl) (dl9 rfl) (dl9 rfl) (dl9 rfl) ?_
  refine lw_callM C0 F (M' := mX7_keep) (as := [.int (xs (i + 1))]) (rest := [.int z]) oX7_keep rfl (mW 944 (by decide +kernel) (by decide +kernel)) rfl rfl rfl rfl (Nat.le_of_ble_eq_true rfl) rfl (dl9 rfl) hm (fun r I2 J2 G2 hq2 => ?_)
  obtain ⟨⟨v, _, e1, e2⟩, hR2⟩ := hb _ _ _ _ _ _ _ _ hq1 hq2
  cases e1
  subst e2
  exact lw_same C0 (tgt := 787) (dl9 rfl) rfl (K _ _ _ _ _ _ hR2)
set_option maxRecDepth 20000 in
theorem law_21 {p : Program} {l : Launch} {e : Env} {s : State} {m : MethodId} {below : List Frame} {meth : Method} {c : Code} {b Ln : Nat} {xs : Nat → Int32} {D : va_G} {cA : Nat → ClassId} {ad am : Nat → Nat} (C0 : lw_At p s m meth c b Ln xs) (F : LFx s D cA ad am) (hL : Ln ≤ 320) {i : Nat} (hi : i + 5 ≤ Ln) {I : II} {J : JJ} {G : II} {Im : II} {Jm : JJ} {Gm : II} (hR : Rl I J G Im Jm Gm) (K : ∀ I J G Im Jm Gm, Rl I J G Im Jm Gm → LW p l e s m below meth c b D cA ad am 787 [some (.ref b), some (.ref (ad 0)), some (.ref (am 0)), some (.int (nI i))] [] I J G Im Jm Gm) : LW p l e s m below meth c b D cA ad am 727 [some (.ref b), some (.ref (ad 0)), some (.ref (am 0)), some (.int (nI i))] [] I J G Im Jm Gm := by
  obtain ⟨Px, Pm, hx, hm, hv, hb⟩ := b_back hR (xs (i + 1))
  refine lw_aload C0 (i := 1) rfl (dl9 rfl) ?_
  refine lw_arg C0 i 1 rfl rfl rfl (by omega) hL (dl10 rfl) (dl10 rfl) (dl10 rfl) (dl10 rfl) (dl10 rfl) ?_
  refine lw_callX C0 F (M' := mX6_back) (as := [.int (xs (i + 1))]) (rest := []) oX6_back rfl (mW 666 (by decide +kernel) (by decide +kernel)) rfl rfl rfl rfl (Nat.le_of_ble_eq_true rfl) rfl (dl10 rfl) hx (fun r I1 J1 G1 hq1 => ?_)
  obtain ⟨v, ⟨z, rfl⟩, rfl⟩ := hv _ _ _ _ hq1
  refine lw_aload C0 (i := 2) rfl (dl10 rfl) ?_
  refine lw_arg C0 i 1 rfl rfl rfl (by omega) hL (dl10 rfl) (dl10 rfl) (dl10 rfl) (dl10 rfl) (dl10 rfl) ?_
  refine lw_callM C0 F (M' := mX7_back) (as := [.int (xs (i + 1))]) (rest := [.int z]) oX7_back rfl (mW 948 (by decide +kernel) (by decide +kernel)) rfl rfl rfl rfl (Nat.le_of_ble_eq_true rfl) rfl (dl10 rfl) hm (fun r I2 J2 G2 hq2 => ?_)
  obtain ⟨⟨v, _, e1, e2⟩, hR2⟩ := hb _ _ _ _ _ _ _ _ hq1 hq2
  cases e1
  subst e2
  exact lw_same C0 (tgt := 787) (dl10 rfl) rfl (K _ _ _ _ _ _ hR2)
set_option maxRecDepth 20000 in
theorem law_22 {p : Program} {l : Launch} {e : Env} {s : State} {m : MethodId} {below : List Frame} {meth : Method} {c : Code} {b Ln : Nat} {xs : Nat → Int32} {D : va_G} {cA : Nat → ClassId} {ad am : Nat → Nat} (C0 : lw_At p s m meth c b Ln xs) (F : LFx s D cA ad am) (hL : Ln ≤ 320) {i : Nat} (hi : i + 5 ≤ Ln) {I : II} {J : JJ} {G : II} {Im : II} {Jm : JJ} {Gm : II} (hR : Rl I J G Im Jm Gm) (K : ∀ I J G Im Jm Gm, Rl I J G Im Jm Gm → LW p l e s m below meth c b D cA ad am 787 [some (.ref b), some (.ref (ad 0)), some (.ref (am 0)), some (.int (nI i))] [] I J G Im Jm Gm) : LW p l e s m below meth c b D cA ad am 750 [some (.ref b), some (.ref (ad 0)), some (.ref (am 0)), some (.int (nI i))] [] I J G Im Jm Gm := by
  obtain ⟨Px, Pm, hx, hm, hv, hb⟩ := b_count hR (xs (i + 1))
  refine lw_aload C0 (i := 1) rfl (dl10 rfl) ?_
  refine lw_arg C0 i 1 rfl rfl rfl (by omega) hL (dl10 rfl) (dl10 rfl) (dl10 rfl) (dl10 rfl) (dl10 rfl) ?_
  refine lw_callX C0 F (M' := mX6_count) (as := [.int (xs (i + 1))]) (rest := []) oX6_count rfl (mW 670 (by decide +kernel) (by decide +kernel)) rfl rfl rfl rfl (Nat.le_of_ble_eq_true rfl) rfl (dl10 rfl) hx (fun r I1 J1 G1 hq1 => ?_)
  obtain ⟨v, ⟨z, rfl⟩, rfl⟩ := hv _ _ _ _ hq1
  refine lw_aload C0 (i := 2) rfl (dl10 rfl) ?_
  refine lw_arg C0 i 1 rfl rfl rfl (by omega) hL (dl10 rfl) (dl10 rfl) (dl10 rfl) (dl10 rfl) (dl10 rfl) ?_
  refine lw_callM C0 F (M' := mX7_count) (as := [.int (xs (i + 1))]) (rest := [.int z]) oX7_count rfl (mW 952 (by decide +kernel) (by decide +kernel)) rfl rfl rfl rfl (Nat.le_of_ble_eq_true rfl) rfl (dl10 rfl) hm (fun r I2 J2 G2 hq2 => ?_)
  obtain ⟨⟨v, _, e1, e2⟩, hR2⟩ := hb _ _ _ _ _ _ _ _ hq1 hq2
  cases e1
  subst e2
  exact lw_same C0 (tgt := 787) (dl10 rfl) rfl (K _ _ _ _ _ _ hR2)
set_option maxRecDepth 20000 in
theorem law_23 {p : Program} {l : Launch} {e : Env} {s : State} {m : MethodId} {below : List Frame} {meth : Method} {c : Code} {b Ln : Nat} {xs : Nat → Int32} {D : va_G} {cA : Nat → ClassId} {ad am : Nat → Nat} (C0 : lw_At p s m meth c b Ln xs) (F : LFx s D cA ad am) (hL : Ln ≤ 320) {i : Nat} (hi : i + 5 ≤ Ln) {I : II} {J : JJ} {G : II} {Im : II} {Jm : JJ} {Gm : II} (hR : Rl I J G Im Jm Gm) (K : ∀ I J G Im Jm Gm, Rl I J G Im Jm Gm → LW p l e s m below meth c b D cA ad am 787 [some (.ref b), some (.ref (ad 0)), some (.ref (am 0)), some (.int (nI i))] [] I J G Im Jm Gm) : LW p l e s m below meth c b D cA ad am 773 [some (.ref b), some (.ref (ad 0)), some (.ref (am 0)), some (.int (nI i))] [] I J G Im Jm Gm := by
  obtain ⟨Px, Pm, hx, hm, hv, hb⟩ := b_trace hR
  refine lw_aload C0 (i := 1) rfl (dl10 rfl) ?_
  refine lw_callX C0 F (M' := mX6_trace) (as := []) (rest := []) oX6_trace rfl (mW 674 (by decide +kernel) (by decide +kernel)) rfl rfl rfl rfl (Nat.le_of_ble_eq_true rfl) rfl (dl10 rfl) hx (fun r I1 J1 G1 hq1 => ?_)
  obtain ⟨v, ⟨z, rfl⟩, rfl⟩ := hv _ _ _ _ hq1
  refine lw_aload C0 (i := 2) rfl (dl10 rfl) ?_
  refine lw_callM C0 F (M' := mX7_trace) (as := []) (rest := [.long z]) oX7_trace rfl (mW 956 (by decide +kernel) (by decide +kernel)) rfl rfl rfl rfl (Nat.le_of_ble_eq_true rfl) rfl (dl10 rfl) hm (fun r I2 J2 G2 hq2 => ?_)
  obtain ⟨⟨v, _, e1, e2⟩, hR2⟩ := hb _ _ _ _ _ _ _ _ hq1 hq2
  cases e1
  subst e2
  exact lw_sameJ C0 (tgt := 787) (dl10 rfl) (dl10 rfl) rfl (K _ _ _ _ _ _ hR2)
set_option maxRecDepth 20000 in
theorem law_sw {p : Program} {l : Launch} {e : Env} {s : State} {m : MethodId} {below : List Frame} {meth : Method} {c : Code} {b Ln : Nat} {xs : Nat → Int32} {D : va_G} {cA : Nat → ClassId} {ad am : Nat → Nat} (C0 : lw_At p s m meth c b Ln xs) (F : LFx s D cA ad am) (hL : Ln ≤ 320) {i : Nat} (hi : i + 5 ≤ Ln) {I : II} {J : JJ} {G : II} {Im : II} {Jm : JJ} {Gm : II} (hR : Rl I J G Im Jm Gm) (K : ∀ I J G Im Jm Gm, Rl I J G Im Jm Gm → LW p l e s m below meth c b D cA ad am 787 [some (.ref b), some (.ref (ad 0)), some (.ref (am 0)), some (.int (nI i))] [] I J G Im Jm Gm) : LW p l e s m below meth c b D cA ad am 26 [some (.ref b), some (.ref (ad 0)), some (.ref (am 0)), some (.int (nI i))] [] I J G Im Jm Gm := by
  refine lw_aload C0 (i := 0) rfl (dl0 rfl) (lw_iload C0 (i := 3) rfl (dl0 rfl) (lw_sld C0 i rfl (by omega) hL (dl0 rfl) (lw_bipush C0 (v := nI 31) rfl (dl0 rfl) (lw_iand C0 (dl0 rfl) ?_))))
  generalize xs i &&& nI 31 = y
  rcases idxc y 24 with hy | ⟨k, hk, rfl⟩
  · intro H locs ls h1 h2 h3 h4
    exact lv_tableOut C0.1 C0.2.1 (dl0 rfl) (notIn_tab hy (by decide)) (tgt := 787) rfl (K _ _ _ _ _ _ hR H locs ls h1 h2 h3 h4)
  · match k, hk with
    | 0, _ => exact fun H locs ls h1 h2 h3 h4 => lv_tableIn (x := nI 0) C0.1 C0.2.1 (dl0 rfl) (by decide) (by decide) (off := 112) (by decide) (tgt := 144) rfl (law_0 C0 F hL hi hR K H locs ls h1 h2 h3 h4)
    | 1, _ => exact fun H locs ls h1 h2 h3 h4 => lv_tableIn (x := nI 1) C0.1 C0.2.1 (dl0 rfl) (by decide) (by decide) (off := 135) (by decide) (tgt := 167) rfl (law_1 C0 F hL hi hR K H locs ls h1 h2 h3 h4)
    | 2, _ => exact fun H locs ls h1 h2 h3 h4 => lv_tableIn (x := nI 2) C0.1 C0.2.1 (dl0 rfl) (by decide) (by decide) (off := 148) (by decide) (tgt := 180) rfl (law_2 C0 F hL hi hR K H locs ls h1 h2 h3 h4)
    | 3, _ => exact fun H locs ls h1 h2 h3 h4 => lv_tableIn (x := nI 3) C0.1 C0.2.1 (dl0 rfl) (by decide) (by decide) (off := 161) (by decide) (tgt := 193) rfl (law_3 C0 F hL hi hR K H locs ls h1 h2 h3 h4)
    | 4, _ => exact fun H locs ls h1 h2 h3 h4 => lv_tableIn (x := nI 4) C0.1 C0.2.1 (dl0 rfl) (by decide) (by decide) (off := 194) (by decide) (tgt := 226) rfl (law_4 C0 F hL hi hR K H locs ls h1 h2 h3 h4)
    | 5, _ => exact fun H locs ls h1 h2 h3 h4 => lv_tableIn (x := nI 5) C0.1 C0.2.1 (dl0 rfl) (by decide) (by decide) (off := 227) (by decide) (tgt := 259) rfl (law_5 C0 F hL hi hR K H locs ls h1 h2 h3 h4)
    | 6, _ => exact fun H locs ls h1 h2 h3 h4 => lv_tableIn (x := nI 6) C0.1 C0.2.1 (dl0 rfl) (by decide) (by decide) (off := 240) (by decide) (tgt := 272) rfl (law_6 C0 F hL hi hR K H locs ls h1 h2 h3 h4)
    | 7, _ => exact fun H locs ls h1 h2 h3 h4 => lv_tableIn (x := nI 7) C0.1 C0.2.1 (dl0 rfl) (by decide) (by decide) (off := 273) (by decide) (tgt := 305) rfl (law_7 C0 F hL hi hR K H locs ls h1 h2 h3 h4)
    | 8, _ => exact fun H locs ls h1 h2 h3 h4 => lv_tableIn (x := nI 8) C0.1 C0.2.1 (dl0 rfl) (by decide) (by decide) (off := 306) (by decide) (tgt := 338) rfl (law_8 C0 F hL hi hR K H locs ls h1 h2 h3 h4)
    | 9, _ => exact fun H locs ls h1 h2 h3 h4 => lv_tableIn (x := nI 9) C0.1 C0.2.1 (dl0 rfl) (by decide) (by decide) (off := 339) (by decide) (tgt := 371) rfl (law_9 C0 F hL hi hR K H locs ls h1 h2 h3 h4)
    | 10, _ => exact fun H locs ls h1 h2 h3 h4 => lv_tableIn (x := nI 10) C0.1 C0.2.1 (dl0 rfl) (by decide) (by decide) (off := 372) (by decide) (tgt := 404) rfl (law_10 C0 F hL hi hR K H locs ls h1 h2 h3 h4)
    | 11, _ => exact fun H locs ls h1 h2 h3 h4 => lv_tableIn (x := nI 11) C0.1 C0.2.1 (dl0 rfl) (by decide) (by decide) (off := 395) (by decide) (tgt := 427) rfl (law_11 C0 F hL hi hR K H locs ls h1 h2 h3 h4)
    | 12, _ => exact fun H locs ls h1 h2 h3 h4 => lv_tableIn (x := nI 12) C0.1 C0.2.1 (dl0 rfl) (by decide) (by decide) (off := 408) (by decide) (tgt := 440) rfl (law_12 C0 F hL hi hR K H locs ls h1 h2 h3 h4)
    | 13, _ => exact fun H locs ls h1 h2 h3 h4 => lv_tableIn (x := nI 13) C0.1 C0.2.1 (dl0 rfl) (by decide) (by decide) (off := 431) (by decide) (tgt := 463) rfl (law_13 C0 F hL hi hR K H locs ls h1 h2 h3 h4)
    | 14, _ => exact fun H locs ls h1 h2 h3 h4 => lv_tableIn (x := nI 14) C0.1 C0.2.1 (dl0 rfl) (by decide) (by decide) (off := 464) (by decide) (tgt := 496) rfl (law_14 C0 F hL hi hR K H locs ls h1 h2 h3 h4)
    | 15, _ => exact fun H locs ls h1 h2 h3 h4 => lv_tableIn (x := nI 15) C0.1 C0.2.1 (dl0 rfl) (by decide) (by decide) (off := 487) (by decide) (tgt := 519) rfl (law_15 C0 F hL hi hR K H locs ls h1 h2 h3 h4)
    | 16, _ => exact fun H locs ls h1 h2 h3 h4 => lv_tableIn (x := nI 16) C0.1 C0.2.1 (dl0 rfl) (by decide) (by decide) (off := 500) (by decide) (tgt := 532) rfl (law_16 C0 F hL hi hR K H locs ls h1 h2 h3 h4)
    | 17, _ => exact fun H locs ls h1 h2 h3 h4 => lv_tableIn (x := nI 17) C0.1 C0.2.1 (dl0 rfl) (by decide) (by decide) (off := 553) (by decide) (tgt := 585) rfl (law_17 C0 F hL hi hR K H locs ls h1 h2 h3 h4)
    | 18, _ => exact fun H locs ls h1 h2 h3 h4 => lv_tableIn (x := nI 18) C0.1 C0.2.1 (dl0 rfl) (by decide) (by decide) (off := 606) (by decide) (tgt := 638) rfl (law_18 C0 F hL hi hR K H locs ls h1 h2 h3 h4)
    | 19, _ => exact fun H locs ls h1 h2 h3 h4 => lv_tableIn (x := nI 19) C0.1 C0.2.1 (dl0 rfl) (by decide) (by decide) (off := 639) (by decide) (tgt := 671) rfl (law_19 C0 F hL hi hR K H locs ls h1 h2 h3 h4)
    | 20, _ => exact fun H locs ls h1 h2 h3 h4 => lv_tableIn (x := nI 20) C0.1 C0.2.1 (dl0 rfl) (by decide) (by decide) (off := 672) (by decide) (tgt := 704) rfl (law_20 C0 F hL hi hR K H locs ls h1 h2 h3 h4)
    | 21, _ => exact fun H locs ls h1 h2 h3 h4 => lv_tableIn (x := nI 21) C0.1 C0.2.1 (dl0 rfl) (by decide) (by decide) (off := 695) (by decide) (tgt := 727) rfl (law_21 C0 F hL hi hR K H locs ls h1 h2 h3 h4)
    | 22, _ => exact fun H locs ls h1 h2 h3 h4 => lv_tableIn (x := nI 22) C0.1 C0.2.1 (dl0 rfl) (by decide) (by decide) (off := 718) (by decide) (tgt := 750) rfl (law_22 C0 F hL hi hR K H locs ls h1 h2 h3 h4)
    | 23, _ => exact fun H locs ls h1 h2 h3 h4 => lv_tableIn (x := nI 23) C0.1 C0.2.1 (dl0 rfl) (by decide) (by decide) (off := 741) (by decide) (tgt := 773) rfl (law_23 C0 F hL hi hR K H locs ls h1 h2 h3 h4)
    | k + 24, h => exact absurd h (by omega)
theorem law_loop {p : Program} {l : Launch} {e : Env} {s : State} {m : MethodId} {below : List Frame} {meth : Method} {c : Code} {b Ln : Nat} {xs : Nat → Int32} {D : va_G} {cA : Nat → ClassId} {ad am : Nat → Nat} (C0 : lw_At p s m meth c b Ln xs) (F : LFx s D cA ad am) (hL : Ln ≤ 320) : ∀ (n i : Nat), i ≤ 330 → Ln ≤ i + n → ∀ I J G Im Jm Gm, Rl I J G Im Jm Gm → LW p l e s m below meth c b D cA ad am 18 [some (.ref b), some (.ref (ad 0)), some (.ref (am 0)), some (.int (nI i))] [] I J G Im Jm Gm := by
  intro n
  induction n with
  | zero =>
    intro i hi hn I J G Im Jm Gm hR
    exact lw_head C0 hL (by omega) (dl0 rfl) (dl0 rfl) (dl0 rfl) (dl0 rfl) (dl0 rfl) (dl0 rfl) (dl10 rfl) (dl10 rfl) (fun h => absurd h (by omega))
  | succ n ih =>
    intro i hi hn I J G Im Jm Gm hR
    refine lw_head C0 hL (by omega) (dl0 rfl) (dl0 rfl) (dl0 rfl) (dl0 rfl) (dl0 rfl) (dl0 rfl) (dl10 rfl) (dl10 rfl) (fun h => ?_)
    exact law_sw C0 F hL h hR (fun I' J' G' Im' Jm' Gm' hR' => lw_next C0 (dl10 rfl) (dl10 rfl) (ih (i + 5) (by omega) (by omega) I' J' G' Im' Jm' Gm' hR'))
