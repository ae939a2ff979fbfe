/-! a call of an abstract contract from any walk -/
section RUNA
variable {p : Program} {l : Launch} {e : Env} {R : Room} {s : State} {m : MethodId} {args : Array Value} {below : List Frame} {meth : Method} {c : Code} {H : Heap} {locs : List Loc} {cells slots : Nat} {Qz : State → Prop}
theorem runA {S : SH} {M' : MI} {D : va_G} {cA : Nat → ClassId} {ad : Nat → Nat} {I : II} {J : JJ} {G : II} {Q : PP} {cc : ByteArray} {nL idx k0 ci pc : Nat} {own : String} {fds : List (Nat × Nat)} {as rest stk : List Value} {ls : Array Slot}
    (hx : p.tables.exec = Jvm.exec) (hb : c.code = cc) (hml : c.maxLocals = nL) (hown : s.vm.findClass own = some m.cls) (hts : ∀ w ∈ Wd, w.before args s = true) (hNw : ∀ w ∈ Nw, va_Nw w s) (hM' : MOk M') (hs : miS M' = false) (lk : Cond.methodLink own idx (miY M') ∈ Wd ∨ Cond.methodLinkNest own idx (miY M') "SilverFleets" ∈ Nw) (hfr : miD M' + 1 ≤ R.frames) (hlo : 8 + (miX M' + 11) + 36 * miD M' ≤ R.locals)
    (hcx : ∀ U : State, U.heap = H → s.WarmedH U.vm → CX S D cA ad H.size U H) (hK : va_K D vwCl (tyl cA) s) (hP : va_P D vwCl (wrl S cA ad I J G) H) (hk : S[k0]? = some (.inl (ci, fds))) (hci : ci < 8) (hcn : (miY M').cls = Rn ci) (hn : as.length = miN M') (hsz : ls.size = nL) (hroom : (rest.map fun v => v.category).sum ≤ 8) (hstk : stk = (as.map (con ad)).reverse ++ .ref (ad k0) :: rest) (hd : decode cc pc = .ok (.invokevirtual idx, 3)) (hcap : cells ≤ R.cells ∧ slots ≤ R.slots) (hA : AMet S M' (.ref k0 :: as) I J G Q) :
    va_Run p l e R s m args below meth c H locs cells slots 0 0 (F0 m pc ls stk) rest (QG S D cA ad Q H.size (Value.ref (ad k0) :: as.map (con ad)).toArray) (AA S ad H.size) := by
  subst hstk
  obtain ⟨o1, o2, o3, o4, o5, o6, o7, o8⟩ := hM'
  rw [hs] at o5
  simp only [Bool.false_eq_true, if_false] at o5
  have hpre : PreV s H (Rn ci) (ad k0) (APc S D cA ad H.size (.ref k0 :: as) I J G) (as.map (con ad)) :=
    ⟨APc.blind, va_recv hK hP (cln ci hci) (q0 := k0) (wrl_get hk), fun U hU hW => ⟨rfl, by rw [hU], by rw [hU]; exact hcx U hU hW, by rw [hU]; exact hP⟩⟩
  have hdm : (rmM M').frames + 1 ≤ R.frames ∧ 8 + (miX M' + 11) + (rmM M').locals ≤ R.locals := ⟨hfr, hlo⟩
  have hrm : 2 * (F0 m pc ls ((as.map (con ad)).reverse ++ .ref (ad k0) :: rest)).monitorRoom + (rest.map fun v => v.category).sum ≤ 8 := lv_room hroom
  rcases lk with lk | lk
  · have cw : CallW R s args own (Rn ci) idx (miY M') (miB M') (miX M') (miR M') (wds M') (rmM M') 0 0 (miN M') :=
      ⟨callB_of (miN M') hts (goodIn_wd (fun _ h => h) o3) rfl rfl rfl (hts _ o4) (hts _ lk) o6 hdm, hts _ o5.1, by rw [← hcn]; exact hts _ o5.2⟩
    exact va_runV (As := as.map (con ad)) ⟨hx, hb, hml, hown, hts⟩ (hA l D cA ad H.size) cw hpre rfl (by simpa using hn) hsz rfl hrm hd hcap
  · have cw : va_CN R s args own idx (miY M') "SilverFleets" (miB M') (miX M') (miR M') (wds M') (rmM M') 0 0 (miN M') :=
      va_cnB (miN M') hts (goodIn_wd (fun _ h => h) o3) rfl rfl rfl (hNw _ lk) (hts _ o4) o6 hdm
    exact va_runVN (As := as.map (con ad)) ⟨hx, hb, hml, hown, hts⟩ (hA l D cA ad H.size) ⟨cw, hts _ o5.1, by rw [← hcn]; exact hts _ o5.2⟩ hpre rfl (by simpa using hn) hsz rfl hrm hd hcap
theorem goA {S : SH} {D : va_G} {cA : Nat → ClassId} {ad : Nat → Nat} {Q : PP} {pc : Nat} {rest stk : List Value} {ls : Array Slot} {a : Array Value} {A0 : Nat → Prop} {H0 : Heap} (hr : va_Run p l e R s m args below meth c H locs cells slots 0 0 (F0 m pc ls stk) rest (QG S D cA ad Q H.size a) (AA S ad H.size)) (hS : va_S A0 H0 H locs) (hsub : ∀ q, AA S ad H.size q → A0 q)
    (kk : ∀ (r : Option Value) (I' : II) (J' : JJ) (G' : II) (H1 : Heap) (locs1 : List Loc), Q r I' J' G' → va_P D vwCl (wrl S cA ad I' J' G') H1 → H.size ≤ H1.size → (∀ q : Nat, q < H.size → ¬ AA S ad H.size q → H1[q]? = H[q]?) → va_S A0 H0 H1 locs1 → W p l e R s m args below meth c H1 locs1 cells slots Qz (F0 m (pc + 3) ls ((Option.map (con ad) r).toList ++ rest))) :
    W p l e R s m args below meth c H locs cells slots Qz (F0 m pc ls stk) := by
  intro T hT X
  obtain ⟨v, st₀, t, T', Lc, h0, X', hL, e1, e2, ⟨⟨r, I', J', G', hv, hq, hp⟩, hz, hk⟩, stp⟩ := hr T hT X
  cases hv
  rw [h0] at hz hk
  have hS' : va_S A0 H0 T'.heap (locs ++ Lc) := by
    refine ⟨Nat.le_trans hS.1 (by rw [e1]; exact hz), fun q h1 h2 => ?_, fun q hq => ?_⟩
    · rw [e1, hk q (Nat.lt_of_lt_of_le h1 hS.1) (fun z => h2 (hsub q z))]
      exact hS.2.1 q h1 h2
    · rcases List.mem_append.mp hq with h | h
      · exact hS.2.2 q h
      · exact hsub _ (hL q h)
  obtain ⟨t2, a1, b1⟩ := kk r I' J' G' T'.heap (locs ++ Lc) hq (by rw [e1]; exact hp) (by rw [e1]; exact hz) (fun q h1 h2 => by rw [e1]; exact hk q h1 h2) hS' T' rfl X'
  exact ⟨t2, stp t2 a1, b1⟩
end RUNA
theorem AdI_D {S : SH} {cA : Nat → ClassId} {ad : Nat → Nat} {I : II} {J : JJ} {G : II} {A : Nat → Prop} (hD : va_D A (wrl S cA ad I J G)) : AdI S ad ∧ ∀ k, k < S.length → A (ad k) := by
  refine ⟨fun i j hi hj he => ?_, fun k hk => ?_⟩
  · exact hD.1 i j _ _ (wrl_get (List.getElem?_eq_getElem hi)) (wrl_get (List.getElem?_eq_getElem hj)) (by rw [cellOf_1, cellOf_1]; exact he)
  · have := hD.2 k _ (wrl_get (List.getElem?_eq_getElem hk))
    rw [cellOf_1] at this
    exact this
theorem AA_sub {S : SH} {ad : Nat → Nat} {A : Nat → Prop} {sz : Nat} (h1 : ∀ k, k < S.length → A (ad k)) (h2 : ∀ q, sz ≤ q → A q) : ∀ q, AA S ad sz q → A q := fun q h => by
  rcases h with ⟨k, hk, rfl⟩ | h
  · exact h1 k hk
  · exact h2 q h
/-- the world's addresses first, the statics' behind -/
def adJ (n : Nat) (a1 a2 : Nat → Nat) (k : Nat) : Nat := if k < n then a1 k else a2 k
theorem adJ_lt {n : Nat} {a1 a2 : Nat → Nat} {k : Nat} (h : k < n) : adJ n a1 a2 k = a1 k := if_pos h
theorem adJ_ge {n : Nat} {a1 a2 : Nat → Nat} {k : Nat} (h : n ≤ k) : adJ n a1 a2 k = a2 k := if_neg (by omega)
theorem isSt_ge {k : Nat} (h : isSt k = true) : 100 ≤ k := by
  unfold isSt at h
  simp at h
  omega
theorem ST_adJ {n : Nat} {a1 a2 : Nat → Nat} {A : Nat → Prop} {U : State} {H : Heap} (hn : n ≤ 100) (h : ST a2 A U H) : ST (adJ n a1 a2) A U H := fun k hk => by
  rw [adJ_ge (Nat.le_trans hn (isSt_ge hk))]
  exact h k hk
def refsOk (n : Nat) (S : SH) : Bool := S.all (fun sh => match sh with
  | .inl o => o.2.all (fun fd => !(Nat.beq fd.1 0) || Nat.blt fd.2 n)
  | .inr _ => true)
theorem con_c {a1 a2 : Nat → Nat} {I : II} {J : JJ} {i j n : Nat} {fd : Nat × Nat} (h : ∀ k, k < n → a1 k = a2 k) (hf : (!(Nat.beq fd.1 0) || Nat.blt fd.2 n) = true) : con a1 (fdv I J i j fd) = con a2 (fdv I J i j fd) := by
  obtain ⟨f1, f2⟩ := fd
  match f1 with
  | 0 =>
    have : f2 < n := by simpa using hf
    show Value.ref (a1 f2) = Value.ref (a2 f2)
    rw [h f2 this]
  | 1 => rfl
  | 2 => rfl
  | m + 3 => rfl
theorem wrl_c {S : SH} {cA : Nat → ClassId} {a1 a2 : Nat → Nat} {I : II} {J : JJ} {G : II} {n : Nat} (hr : refsOk n S = true) (hl : S.length ≤ n) (h : ∀ k, k < n → a1 k = a2 k) : wrl S cA a1 I J G = wrl S cA a2 I J G := by
  refine List.ext_getElem? (fun i => ?_)
  simp only [wrl, List.getElem?_mapIdx]
  cases hs : S[i]? with
  | none => rfl
  | some sh =>
    have hi : i < S.length := (List.getElem?_eq_some_iff.mp hs).1
    have hq := List.all_eq_true.mp hr sh (List.mem_of_getElem? hs)
    cases sh with
    | inr a =>
      show some (a1 i, _) = some (a2 i, _)
      rw [h i (by omega)]
    | inl o =>
      show some (a1 i, Sum.inr (o.1, _)) = some (a2 i, Sum.inr (o.1, _))
      rw [h i (by omega)]
      refine congrArg some (congrArg (Prod.mk (a2 i)) (congrArg Sum.inr (congrArg (Prod.mk o.1) ?_)))
      refine List.ext_getElem? (fun j => ?_)
      simp only [List.getElem?_mapIdx]
      cases hf : o.2[j]? with
      | none => rfl
      | some fd =>
        have := List.all_eq_true.mp hq fd (List.mem_of_getElem? hf)
        show some (con a1 (fdv I J i j fd)) = some (con a2 (fdv I J i j fd))
        rw [con_c h this]
theorem wrlM_adJ {cA : Nat → ClassId} {a1 a2 : Nat → Nat} {I : II} {J : JJ} {G : II} : wrl SM cA (adJ 15 a1 a2) I J G = wrl SM cA a1 I J G := wrl_c (n := 15) (by decide +kernel) (by decide) (fun k hk => adJ_lt hk)
theorem wrlX_adJ {cA : Nat → ClassId} {a1 a2 : Nat → Nat} {I : II} {J : JJ} {G : II} : wrl SX cA (adJ 34 a1 a2) I J G = wrl SX cA a1 I J G := wrl_c (n := 34) (by decide +kernel) (by decide) (fun k hk => adJ_lt hk)
/-- the reference's constructor calls its own methods -/
theorem cw_callA {M M' : MI} {mc ms : Nat} {cA : Nat → ClassId} {Qf : va_W → Prop} {pc idx : Nat} {L : LV} {k n : Nat} {a1 : Nat → Nat} {I : II} {J : JJ} {G : II} {Q : PP} (hM' : MOk M') (hs : miS M' = false) (lk : lkOk (miO M) idx M') (hdep : Nat.blt (miD M') (miD M) = true) (hcn : (miY M').cls = Rn 7) (hn : miN M' = 0) (hk : Nat.ble k mc = true) (hk2 : Nat.ble n ms = true) (hd : decode (miB M) pc = .ok (.invokevirtual idx, 3)) (hA' : AMet SM M' [.ref 0] I J G Q)
    (kk : ∀ r I' J' G', Q r I' J' G' → r = none ∧ CW M mc ms cA Qf (pc + 3) L [] k n (wrl SM cA a1 I' J' G')) : CW M mc ms cA Qf pc L [.ref (a1 0)] k n (wrl SM cA a1 I J G) := by
  intro p l e s m args below meth c D ad A H locs ls hM hin hC hA hP hD hS hl
  obtain ⟨hI, hAk⟩ := AdI_D hD
  have h1 : miD M' < miD M := Nat.le_of_ble_eq_true hdep
  have hI2 : AdI SM (adJ 15 a1 ad) := fun i j hi hj he => hI i j hi hj (by rw [adJ_lt (show i < 15 from hi), adJ_lt (show j < 15 from hj)] at he; exact he)
  have hsub : ∀ q, AA SM (adJ 15 a1 ad) H.size q → A q := AA_sub (fun k hk => by rw [adJ_lt (show k < 15 from hk)]; exact hAk k hk) (fun q hq => hA q (Nat.le_trans hS.1 hq))
  refine goA (S := SM) (D := D) (cA := cA) (ad := adJ 15 a1 ad) (Q := Q) (runA (k0 := 0) (as := []) (rest := []) (I := I) (J := J) (G := G) hM.1 hM.2.1 hM.2.2.2.1 hM.2.2.2.2.1 hM.2.2.2.2.2.1 hC.2.1 hM' hs lk (by show miD M' + 1 ≤ miD M; omega) (by show _ ≤ 36 * miD M; have := hM'.2.2.2.2.2.2.1; omega) ?_ hC.1 (by rw [wrlM_adJ]; exact hP) rfl (by decide) hcn hn.symm hl.1 (by decide) rfl hd ⟨Nat.le_of_ble_eq_true hk, Nat.le_of_ble_eq_true hk2⟩ hA') hS hsub ?_
  · intro U hU hW
    have h2 := hC.at hS hW hsub
    exact ⟨hI2, h2.1, h2.2.1, ST_adJ (by decide) h2.2.2⟩
  · intro r I' J' G' H1 locs1 hq hP1 hz hk1 hS1
    obtain ⟨rfl, kk2⟩ := kk r I' J' G' hq
    have hD1 : va_D A (wrl SM cA a1 I' J' G') := ⟨fun i j p q hi hj he => by
      obtain ⟨b1, b2⟩ := wrl_at hi
      obtain ⟨b3, b4⟩ := wrl_at hj
      exact hI i j b1 b3 (by rw [← b2, ← b4]; exact he), fun k q hk => by
      obtain ⟨b1, b2⟩ := wrl_at hk
      rw [b2]; exact hAk k b1⟩
    exact kk2 _ _ _ _ _ _ _ _ _ _ _ _ _ _ _ hM hin hC hA (by rw [wrlM_adJ] at hP1; exact hP1) hD1 hS1 hl
