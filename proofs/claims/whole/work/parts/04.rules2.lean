section AWS
variable {S : SH} {M : MI} {pc : Nat} {L : LV} {st : List Value} {I : II} {J : JJ} {G : II} {P : PP}
theorem aw_get {idx k0 ci j : Nat} {nst : Bool} {fds : List (Nat × Nat)} {fd : Nat × Nat} (hf : flk (miO M) idx = some (nst, ci, j)) (hk : S[k0]? = some (.inl (ci, fds))) (hj : fds[j]? = some fd) (hd : decode (miB M) pc = .ok (.getfield idx, 3)) (k : AW S M (pc + 3) L (fdv I J k0 j fd :: st) I J G P) : AW S M pc L (.ref k0 :: st) I J G P := by
  intro p l e s m args below meth c D cA ad H locs ls hM hC hP hS hl
  have hv : (fds.mapIdx (fun j fd => con ad (fdv I J k0 j fd)))[j]? = some (con ad (fdv I J k0 j fd)) := by rw [List.getElem?_mapIdx, hj]; rfl
  have hw := wrl_get (cA := cA) (ad := ad) (I := I) (J := J) (G := G) hk
  cases nst with
  | false =>
    obtain ⟨h1, h2, h3⟩ := flk_F hf
    exact va_get hM.1 hM.2.1 hM.2.2.2.2.2.1 (uwn ci h2) hM.2.2.2.2.1 hC.2.1 hP k0 hw (cln ci h2) j h3 (hM.2.2.2.2.2.1 _ h1) (by rw [own_n ci h2 j h3]; exact fun _ h => h) hv hd (k _ _ _ _ _ _ _ _ _ _ _ _ _ _ _ hM hC hP hS hl)
  | true =>
    obtain ⟨h1, h2, h3⟩ := flk_G hf
    exact va_getN hM.1 hM.2.1 hM.2.2.2.2.2.1 (uwn ci h2) hM.2.2.2.2.1 hC.2.1 hP k0 hw (cln ci h2) j h3 ((hC.2.2.1 _ h1).use rfl) (by rw [own_n ci h2 j h3]; exact fun _ h => h) hv hd (k _ _ _ _ _ _ _ _ _ _ _ _ _ _ _ hM hC hP hS hl)
theorem aw_putI {idx k0 ci j : Nat} {nst : Bool} {fds : List (Nat × Nat)} {fd : Nat × Nat} {x : Int32} (hS0 : SOk S) (hf : flk (miO M) idx = some (nst, ci, j)) (hk : S[k0]? = some (.inl (ci, fds))) (hj : fds[j]? = some fd) (hfd : fd.1 = 1) (hd : decode (miB M) pc = .ok (.putfield idx, 3)) (k : AW S M (pc + 3) L st (up2 I k0 j x) J G P) : AW S M pc L (.int x :: .ref k0 :: st) I J G P := by
  intro p l e s m args below meth c D cA ad H locs ls hM hC hP hS hl
  have hw := wrl_get (cA := cA) (ad := ad) (I := I) (J := J) (G := G) hk
  have hty := (fdOk_ty (hS0.obj hk hj).2.2).1 hfd
  have hjl : j < fds.length := (List.getElem?_eq_some_iff.mp hj).1
  cases nst with
  | false =>
    obtain ⟨h1, h2, h3⟩ := flk_F hf
    refine va_put hM.1 hM.2.1 hM.2.2.2.2.2.1 (uwn ci h2) (tyn ci) (tyn_ok ci h2) (nmn ci h2) hM.2.2.2.2.1 hC.2.1 hP hC.1.D hS k0 hw (cln ci h2) j h3 (hM.2.2.2.2.2.1 _ h1) (by rw [own_n ci h2 j h3]; exact fun _ h => h) hty.2 (ty := .int) (by rw [tyn_ok ci h2 j h3, hty.1]) (rfl) (rfl) (by rw [List.length_mapIdx]; exact hjl) hd (fun H locs hP hD hS => ?_)
    exact k _ _ _ _ _ _ _ _ _ _ _ _ _ _ _ hM hC (wrl_setI hk hj (by rw [hfd]; decide) (by rw [hfd]; decide) ▸ hP) hS hl
  | true =>
    obtain ⟨h1, h2, h3⟩ := flk_G hf
    refine va_putN hM.1 hM.2.1 hM.2.2.2.2.2.1 (uwn ci h2) (tyn ci) (tyn_ok ci h2) (nmn ci h2) hM.2.2.2.2.1 hC.2.1 hP hC.1.D hS k0 hw (cln ci h2) j h3 ((hC.2.2.1 _ h1).use rfl) (by rw [own_n ci h2 j h3]; exact fun _ h => h) hty.2 (ty := .int) (by rw [tyn_ok ci h2 j h3, hty.1]) (rfl) (rfl) (by rw [List.length_mapIdx]; exact hjl) hd (fun H locs hP hD hS => ?_)
    exact k _ _ _ _ _ _ _ _ _ _ _ _ _ _ _ hM hC (wrl_setI hk hj (by rw [hfd]; decide) (by rw [hfd]; decide) ▸ hP) hS hl
theorem aw_putJ {idx k0 ci j : Nat} {nst : Bool} {fds : List (Nat × Nat)} {fd : Nat × Nat} {x : Int64} (hS0 : SOk S) (hf : flk (miO M) idx = some (nst, ci, j)) (hk : S[k0]? = some (.inl (ci, fds))) (hj : fds[j]? = some fd) (hfd : fd.1 = 2) (hd : decode (miB M) pc = .ok (.putfield idx, 3)) (k : AW S M (pc + 3) L st I (up2 J k0 j x) G P) : AW S M pc L (.long x :: .ref k0 :: st) I J G P := by
  intro p l e s m args below meth c D cA ad H locs ls hM hC hP hS hl
  have hw := wrl_get (cA := cA) (ad := ad) (I := I) (J := J) (G := G) hk
  have hty := (fdOk_ty (hS0.obj hk hj).2.2).2.1 hfd
  have hjl : j < fds.length := (List.getElem?_eq_some_iff.mp hj).1
  cases nst with
  | false =>
    obtain ⟨h1, h2, h3⟩ := flk_F hf
    refine va_put hM.1 hM.2.1 hM.2.2.2.2.2.1 (uwn ci h2) (tyn ci) (tyn_ok ci h2) (nmn ci h2) hM.2.2.2.2.1 hC.2.1 hP hC.1.D hS k0 hw (cln ci h2) j h3 (hM.2.2.2.2.2.1 _ h1) (by rw [own_n ci h2 j h3]; exact fun _ h => h) hty.2 (ty := .long) (by rw [tyn_ok ci h2 j h3, hty.1]) (rfl) (rfl) (by rw [List.length_mapIdx]; exact hjl) hd (fun H locs hP hD hS => ?_)
    exact k _ _ _ _ _ _ _ _ _ _ _ _ _ _ _ hM hC (wrl_setJ hk hj hfd ▸ hP) hS hl
  | true =>
    obtain ⟨h1, h2, h3⟩ := flk_G hf
    refine va_putN hM.1 hM.2.1 hM.2.2.2.2.2.1 (uwn ci h2) (tyn ci) (tyn_ok ci h2) (nmn ci h2) hM.2.2.2.2.1 hC.2.1 hP hC.1.D hS k0 hw (cln ci h2) j h3 ((hC.2.2.1 _ h1).use rfl) (by rw [own_n ci h2 j h3]; exact fun _ h => h) hty.2 (ty := .long) (by rw [tyn_ok ci h2 j h3, hty.1]) (rfl) (rfl) (by rw [List.length_mapIdx]; exact hjl) hd (fun H locs hP hD hS => ?_)
    exact k _ _ _ _ _ _ _ _ _ _ _ _ _ _ _ hM hC (wrl_setJ hk hj hfd ▸ hP) hS hl
theorem aw_putZ {idx k0 ci j : Nat} {nst : Bool} {fds : List (Nat × Nat)} {fd : Nat × Nat} {x : Int32} (hx : x = 0 ∨ x = 1) (hS0 : SOk S) (hf : flk (miO M) idx = some (nst, ci, j)) (hk : S[k0]? = some (.inl (ci, fds))) (hj : fds[j]? = some fd) (hfd : fd.1 = 3) (hd : decode (miB M) pc = .ok (.putfield idx, 3)) (k : AW S M (pc + 3) L st (up2 I k0 j x) J G P) : AW S M pc L (.int x :: .ref k0 :: st) I J G P := by
  intro p l e s m args below meth c D cA ad H locs ls hM hC hP hS hl
  have hw := wrl_get (cA := cA) (ad := ad) (I := I) (J := J) (G := G) hk
  have hty := (fdOk_ty (hS0.obj hk hj).2.2).2.2 hfd
  have hjl : j < fds.length := (List.getElem?_eq_some_iff.mp hj).1
  cases nst with
  | false =>
    obtain ⟨h1, h2, h3⟩ := flk_F hf
    refine va_put hM.1 hM.2.1 hM.2.2.2.2.2.1 (uwn ci h2) (tyn ci) (tyn_ok ci h2) (nmn ci h2) hM.2.2.2.2.1 hC.2.1 hP hC.1.D hS k0 hw (cln ci h2) j h3 (hM.2.2.2.2.2.1 _ h1) (by rw [own_n ci h2 j h3]; exact fun _ h => h) hty.2 (ty := .boolean) (by rw [tyn_ok ci h2 j h3, hty.1]) (by rcases hx with rfl | rfl <;> rfl) (by rcases hx with rfl | rfl <;> rfl) (by rw [List.length_mapIdx]; exact hjl) hd (fun H locs hP hD hS => ?_)
    exact k _ _ _ _ _ _ _ _ _ _ _ _ _ _ _ hM hC (wrl_setI hk hj (by rw [hfd]; decide) (by rw [hfd]; decide) ▸ hP) hS hl
  | true =>
    obtain ⟨h1, h2, h3⟩ := flk_G hf
    refine va_putN hM.1 hM.2.1 hM.2.2.2.2.2.1 (uwn ci h2) (tyn ci) (tyn_ok ci h2) (nmn ci h2) hM.2.2.2.2.1 hC.2.1 hP hC.1.D hS k0 hw (cln ci h2) j h3 ((hC.2.2.1 _ h1).use rfl) (by rw [own_n ci h2 j h3]; exact fun _ h => h) hty.2 (ty := .boolean) (by rw [tyn_ok ci h2 j h3, hty.1]) (by rcases hx with rfl | rfl <;> rfl) (by rcases hx with rfl | rfl <;> rfl) (by rw [List.length_mapIdx]; exact hjl) hd (fun H locs hP hD hS => ?_)
    exact k _ _ _ _ _ _ _ _ _ _ _ _ _ _ _ hM hC (wrl_setI hk hj (by rw [hfd]; decide) (by rw [hfd]; decide) ▸ hP) hS hl
theorem aw_iald {k0 n : Nat} {i : Int32} (hk : S[k0]? = some (.inr (0, n))) (hi : vp_in i n) (hd : decode (miB M) pc = .ok (.iaload, 1)) (k : AW S M (pc + 1) L (.int (G k0 i.toNatClampNeg) :: st) I J G P) : AW S M pc L (.int i :: .ref k0 :: st) I J G P := by
  intro p l e s m args below meth c D cA ad H locs ls hM hC hP hS hl
  exact va_iald hM.1 hM.2.1 hC.2.1 hP k0 0 (wrl_get hk) (tyl_get (by decide)) hi hd (k _ _ _ _ _ _ _ _ _ _ _ _ _ _ _ hM hC hP hS hl)
theorem aw_bald {k0 n : Nat} {i : Int32} (hk : S[k0]? = some (.inr (1, n))) (hi : vp_in i n) (hd : decode (miB M) pc = .ok (.baload, 1)) (k : AW S M (pc + 1) L (.int (G k0 i.toNatClampNeg) :: st) I J G P) : AW S M pc L (.int i :: .ref k0 :: st) I J G P := by
  intro p l e s m args below meth c D cA ad H locs ls hM hC hP hS hl
  exact va_bald hM.1 hM.2.1 hC.2.1 hP k0 1 (wrl_get hk) (tyl_get (by decide)) hi hd (k _ _ _ _ _ _ _ _ _ _ _ _ _ _ _ hM hC hP hS hl)
theorem aw_zald {k0 n : Nat} {i : Int32} (hk : S[k0]? = some (.inr (2, n))) (hi : vp_in i n) (hd : decode (miB M) pc = .ok (.baload, 1)) (k : AW S M (pc + 1) L (.int (G k0 i.toNatClampNeg) :: st) I J G P) : AW S M pc L (.int i :: .ref k0 :: st) I J G P := by
  intro p l e s m args below meth c D cA ad H locs ls hM hC hP hS hl
  exact va_zald hM.1 hM.2.1 hC.2.1 hP k0 2 (wrl_get hk) (tyl_get (by decide)) hi hd (k _ _ _ _ _ _ _ _ _ _ _ _ _ _ _ hM hC hP hS hl)
theorem aw_iast {k0 n : Nat} {i x : Int32} (hk : S[k0]? = some (.inr (0, n))) (hi : vp_in i n) (hd : decode (miB M) pc = .ok (.iastore, 1)) (k : AW S M (pc + 1) L st I J (va_up G k0 (upd (G k0) i.toNatClampNeg (x))) P) : AW S M pc L (.int x :: .int i :: .ref k0 :: st) I J G P := by
  intro p l e s m args below meth c D cA ad H locs ls hM hC hP hS hl
  refine va_iast hM.1 hM.2.1 hC.2.1 hP hC.1.D hS k0 0 (wrl_get hk) (tyl_get (by decide)) hi hd (fun H locs hP hD hS => ?_)
  exact k _ _ _ _ _ _ _ _ _ _ _ _ _ _ _ hM hC (wrl_setG hk ▸ hP) hS hl
theorem aw_bast {k0 n : Nat} {i x : Int32} (hk : S[k0]? = some (.inr (1, n))) (hi : vp_in i n) (hd : decode (miB M) pc = .ok (.bastore, 1)) (k : AW S M (pc + 1) L st I J (va_up G k0 (upd (G k0) i.toNatClampNeg (vp_nar .byte x))) P) : AW S M pc L (.int x :: .int i :: .ref k0 :: st) I J G P := by
  intro p l e s m args below meth c D cA ad H locs ls hM hC hP hS hl
  refine va_bast hM.1 hM.2.1 hC.2.1 hP hC.1.D hS k0 1 (wrl_get hk) (tyl_get (by decide)) hi hd (fun H locs hP hD hS => ?_)
  exact k _ _ _ _ _ _ _ _ _ _ _ _ _ _ _ hM hC (wrl_setG hk ▸ hP) hS hl
theorem aw_zast {k0 n : Nat} {i x : Int32} (hk : S[k0]? = some (.inr (2, n))) (hi : vp_in i n) (hd : decode (miB M) pc = .ok (.bastore, 1)) (k : AW S M (pc + 1) L st I J (va_up G k0 (upd (G k0) i.toNatClampNeg (vp_nar .boolean x))) P) : AW S M pc L (.int x :: .int i :: .ref k0 :: st) I J G P := by
  intro p l e s m args below meth c D cA ad H locs ls hM hC hP hS hl
  refine va_zast hM.1 hM.2.1 hC.2.1 hP hC.1.D hS k0 2 (wrl_get hk) (tyl_get (by decide)) hi hd (fun H locs hP hD hS => ?_)
  exact k _ _ _ _ _ _ _ _ _ _ _ _ _ _ _ hM hC (wrl_setG hk ▸ hP) hS hl
theorem aw_alen {k0 n et : Nat} (hS0 : SOk S) (hk : S[k0]? = some (.inr (et, n))) (hd : decode (miB M) pc = .ok (.arraylength, 1)) (k : AW S M (pc + 1) L (.int (Int32.ofNat n) :: st) I J G P) : AW S M pc L (.ref k0 :: st) I J G P := by
  intro p l e s m args below meth c D cA ad H locs ls hM hC hP hS hl
  exact va_alen hM.1 hM.2.1 hC.2.1 hP k0 et (wrl_get hk) (tyl_get (hS0.arr hk).1) rfl hd (k _ _ _ _ _ _ _ _ _ _ _ _ _ _ _ hM hC hP hS hl)
theorem aw_tlen {k0 : Nat} (hk : isSt k0 = true) (hd : decode (miB M) pc = .ok (.arraylength, 1)) (k : AW S M (pc + 1) L (.int (Int32.ofNat (snl k0).length) :: st) I J G P) : AW S M pc L (.ref k0 :: st) I J G P := by
  intro p l e s m args below meth c D cA ad H locs ls hM hC hP hS hl
  exact va_tlen hM.1 hM.2.1 (hC.2.2.2 k0 hk).2 hS rfl hd (k _ _ _ _ _ _ _ _ _ _ _ _ _ _ _ hM hC hP hS hl)
theorem aw_tald {k0 : Nat} {i : Int32} (hk : isSt k0 = true) (hi : vp_in i (snl k0).length) (hd : decode (miB M) pc = .ok (.iaload, 1)) (k : AW S M (pc + 1) L (.int ((snl k0).getD i.toNatClampNeg 0) :: st) I J G P) : AW S M pc L (.int i :: .ref k0 :: st) I J G P := by
  intro p l e s m args below meth c D cA ad H locs ls hM hC hP hS hl
  exact va_ti hM.1 hM.2.1 (hC.2.2.2 k0 hk).2 hS hi rfl hd (k _ _ _ _ _ _ _ _ _ _ _ _ _ _ _ hM hC hP hS hl)
theorem aw_gets {idx k0 : Nat} (hf : (miO M, idx, k0) ∈ STl) (hk : isSt k0 = true) (hd : decode (miB M) pc = .ok (.getstatic idx, 3)) (k : AW S M (pc + 3) L (.ref k0 :: st) I J G P) : AW S M pc L st I J G P := by
  intro p l e s m args below meth c D cA ad H locs ls hM hC hP hS hl
  exact va_gets hM.1 hM.2.1 (hC.2.2.2 k0 hk).1 hS hM.2.2.2.2.1 (hM.2.2.2.2.2.1 _ (ST_ok _ (List.mem_map_of_mem (f := fun q : Nat × Nat × Nat => Cond.fieldLink (Rn q.1) q.2.1 RX5 (snm q.2.2) "[I") hf))) (fun _ h => h) hd (k _ _ _ _ _ _ _ _ _ _ _ _ _ _ _ hM hC hP hS hl)
/-- returns -/
theorem qg_ret {D : va_G} {cA : Nat → ClassId} {ad : Nat → Nat} {s : State} {H : Heap} {locs : List Loc} {args : Array Value} {r : Option Value} (hP : va_P D vwCl (wrl S cA ad I J G) H) (hS : va_S (AA S ad s.heap.size) s.heap H locs) (h : P r I J G) : ∀ t : State, t.heap = H → s.WarmedH t.vm → QG S D cA ad P s.heap.size args s (.returned (r.map (con ad))) t := fun t ht hW =>
  ⟨⟨r, I, J, G, rfl, h, by rw [ht]; exact hP⟩, hS.F ht⟩
theorem aw_iret {x : Int32} (hr : miR M = some .int) (hd : decode (miB M) pc = .ok (.ireturn, 1)) (h : P (some (.int x)) I J G) : AW S M pc L [.int x] I J G P := by
  intro p l e s m args below meth c D cA ad H locs ls hM hC hP hS hl
  exact W.iret hM.1 hM.2.1 (by rw [hM.2.2.1, hr]) (qg_ret (r := some (.int x)) hP hS h) hS.2.2 hd (hlocks := hM.2.2.2.2.2.2)
theorem aw_zret {x : Int32} (hr : miR M = some .boolean) (hx : x = 0 ∨ x = 1) (hd : decode (miB M) pc = .ok (.ireturn, 1)) (h : P (some (.int x)) I J G) : AW S M pc L [.int x] I J G P := by
  intro p l e s m args below meth c D cA ad H locs ls hM hC hP hS hl
  exact W.zret hM.1 hM.2.1 (by rw [hM.2.2.1, hr]) (by rcases hx with rfl | rfl <;> decide) (qg_ret (r := some (.int x)) hP hS h) hS.2.2 hd (hlocks := hM.2.2.2.2.2.2)
theorem aw_lret {x : Int64} (hr : miR M = some .long) (hd : decode (miB M) pc = .ok (.lreturn, 1)) (h : P (some (.long x)) I J G) : AW S M pc L [.long x] I J G P := by
  intro p l e s m args below meth c D cA ad H locs ls hM hC hP hS hl
  exact W.lret hM.1 hM.2.1 (by rw [hM.2.2.1, hr]) (qg_ret (r := some (.long x)) hP hS h) hS.2.2 hd (hlocks := hM.2.2.2.2.2.2)
theorem aw_vret (hr : miR M = none) (hd : decode (miB M) pc = .ok (.return_, 1)) (h : P none I J G) : AW S M pc L [] I J G P := by
  intro p l e s m args below meth c D cA ad H locs ls hM hC hP hS hl
  exact W.vret hM.1 hM.2.1 (by rw [hM.2.2.1, hr]) (qg_ret (r := none) hP hS h) hS.2.2 hd (hlocks := hM.2.2.2.2.2.2)
theorem aw_aret {k0 : Nat} {rt : FieldType} (hr : miR M = some rt) (hrt : (∃ n, rt = .object n) ∨ ∃ t, rt = .array t) (hd : decode (miB M) pc = .ok (.areturn, 1)) (h : P (some (.ref k0)) I J G) : AW S M pc L [.ref k0] I J G P := by
  intro p l e s m args below meth c D cA ad H locs ls hM hC hP hS hl
  exact W.aret hM.1 hM.2.1 (by rw [hM.2.2.1, hr]) hrt (Or.inr ⟨_, rfl⟩) (qg_ret (r := some (.ref k0)) hP hS h) hS.2.2 hd (hlocks := hM.2.2.2.2.2.2)
/-- calls -/
theorem CX.at {D : va_G} {cA : Nat → ClassId} {ad : Nat → Nat} {s U : State} {H : Heap} {locs : List Loc} (h : CX S D cA ad s.heap.size s s.heap) (hS : va_S (AA S ad s.heap.size) s.heap H locs) (hW : s.WarmedH U.vm) : CX S D cA ad H.size U H := by
  obtain ⟨h1, h2, h3, h4⟩ := h
  refine ⟨h1, h2.moved hW.alike, fun w hw => ?_, h4.at hW.alike (fun a ha hn => hS.2.1 a ha hn) hS.1⟩
  have hn := (List.mem_filter.mp hw).2
  have hZ := h3 w hw
  unfold isNest at hn
  split at hn
  · exact hZ.warmF hW
  · exact hZ.warmM hW
  · cases hn
theorem APc.blind {D : va_G} {cA : Nat → ClassId} {ad : Nat → Nat} {sz : Nat} {as : List Value} : FrameBlind (APc S D cA ad sz as I J G) := by
  intro a U g mk ⟨q0, q1, ⟨c1, c2, c3, c4⟩, qP⟩
  refine ⟨q0, q1, ⟨c1, va_K.moved (u := U) (U := U.calling g mk a) (Vm.Alike.refl U.vm) c2, fun w hw => ?_, ?_⟩, qP⟩
  · have hn := (List.mem_filter.mp hw).2
    refine va_Nw.same ?_ (u := U) (U := U.calling g mk a) rfl (c3 w hw)
    unfold isNest at hn
    split at hn
    · rfl
    · rfl
    · cases hn
  · exact SZ.at (u := U) (U := U.calling g mk a) c4 (Vm.Alike.refl U.vm) (fun _ _ _ => rfl) (Nat.le_refl _)
theorem va_callG {p : Program} {l : Launch} {e : Env} {s : State} {m : MethodId} {args a : Array Value} {below : List Frame} {meth : Method} {c : Code} {D : va_G} {cA : Nat → ClassId} {ad : Nat → Nat} {H : Heap} {locs : List Loc} {ls : Array Slot} {st0 : List Value} {Q : PP}
    (hM : MC M p s m args meth c) (hC : CX S D cA ad s.heap.size s s.heap) (hS : va_S (AA S ad s.heap.size) s.heap H locs) (hl : lvP ad ls (miX M) L)
    (hr : va_Run p l e (rmM M) s m args below meth c H locs 0 0 0 0 (F0 m pc ls st0) (st.map (con ad)) (QG S D cA ad Q H.size a) (AA S ad H.size))
    (kk : ∀ r I' J' G', Q r I' J' G' → AW S M (pc + 3) L (r.toList ++ st) I' J' G' P) :
    W p l e (rmM M) s m args below meth c H locs 0 0 (MQ below (QG S D cA ad P s.heap.size) args s 0 0 (AA S ad s.heap.size)) (F0 m pc ls st0) := by
  intro T hT X
  obtain ⟨v, st₀, t, T', Lc, h0, X', hL, e1, e2, ⟨⟨r, I', J', G', hv, hq, hp⟩, hz, hk⟩, stp⟩ := hr T hT X
  cases hv
  rw [h0] at hz hk
  have hS' : va_S (AA S ad s.heap.size) s.heap T'.heap (locs ++ Lc) := by
    refine ⟨Nat.le_trans hS.1 (by rw [e1]; exact hz), fun q h1 h2 => ?_, fun q hq => ?_⟩
    · rw [e1, hk q (Nat.lt_of_lt_of_le h1 hS.1) (fun z => h2 (AA.le hS.1 q z))]
      exact hS.2.1 q h1 h2
    · rcases List.mem_append.mp hq with h | h
      · exact hS.2.2 q h
      · exact AA.le hS.1 _ (hL q h)
  obtain ⟨t2, a1, b1⟩ := kk r I' J' G' hq p l e s m args below meth c D cA ad T'.heap (locs ++ Lc) ls hM hC (by rw [e1]; exact hp) hS' hl T' rfl X'
  refine ⟨t2, stp t2 ?_, b1⟩
  have he : (r.toList ++ st).map (con ad) = (Option.map (con ad) r).toList ++ st.map (con ad) := by
    cases r <;> rfl
  rw [he] at a1
  exact a1
theorem con_sum (ad : Nat → Nat) (vs : List Value) : ((vs.map (con ad)).map fun v => v.category).sum = (vs.map fun v => v.category).sum := by
  rw [List.map_map]
  congr 1
  exact List.map_congr_left (fun v _ => con_cat ad v)
/-- an instance method of the world's -/
theorem aw_callV {M' : MI} {idx k0 ci : Nat} {fds : List (Nat × Nat)} {as stk : List Value} {Q : PP} (hM' : MOk M') (hs : miS M' = false) (lk : lkOk (miO M) idx M') (hdep : miD M' < miD M) (hk : S[k0]? = some (.inl (ci, fds))) (hci : ci < 8) (hcn : (miY M').cls = Rn ci) (hn : as.length = miN M') (hroom : (st.map fun v => v.category).sum ≤ 8) (hstk : stk = as.reverse ++ .ref k0 :: st) (hd : decode (miB M) pc = .ok (.invokevirtual idx, 3))
    (hA : AMet S M' (.ref k0 :: as) I J G Q) (kk : ∀ r I' J' G', Q r I' J' G' → AW S M (pc + 3) L (r.toList ++ st) I' J' G' P) : AW S M pc L stk I J G P := by
  intro p l e s m args below meth c D cA ad H locs ls hM hC hP hS hl
  subst hstk
  obtain ⟨o1, o2, o3, o4, o5, o6, o7, o8⟩ := hM'
  rw [hs] at o5
  simp only [Bool.false_eq_true, if_false] at o5
  have hts : ∀ w ∈ Wd, w.before args s = true := hM.2.2.2.2.2.1
  have hpre : PreV s H (Rn ci) (ad k0) (APc S D cA ad H.size (.ref k0 :: as) I J G) (as.map (con ad)) :=
    ⟨APc.blind, va_recv hC.2.1 hP (cln ci hci) (q0 := k0) (wrl_get hk), fun U hU hW => ⟨rfl, by rw [hU], by rw [hU]; exact hC.at hS hW, by rw [hU]; exact hP⟩⟩
  have hdm : (rmM M').frames + 1 ≤ (rmM M).frames ∧ 8 + (miX M' + 11) + (rmM M').locals ≤ (rmM M).locals := by
    show miD M' + 1 ≤ miD M ∧ 8 + (miX M' + 11) + 36 * miD M' ≤ 36 * miD M
    omega
  have hstack : (F0 m pc ls ((as.reverse ++ .ref k0 :: st).map (con ad))).stack = (as.map (con ad)).reverse ++ .ref (ad k0) :: st.map (con ad) := by
    show (as.reverse ++ .ref k0 :: st).map (con ad) = _
    rw [List.map_append, List.map_reverse]; rfl
  have hrm : 2 * (F0 m pc ls ((as.reverse ++ .ref k0 :: st).map (con ad))).monitorRoom + ((st.map (con ad)).map fun v => v.category).sum ≤ 8 := lv_room (by rw [con_sum]; exact hroom)
  refine va_callG (a := (Value.ref (ad k0) :: as.map (con ad)).toArray) hM hC hS hl ?_ kk
  rcases lk with lk | lk
  · have cw : CallW (rmM M) s args (Rn (miO M)) (Rn ci) idx (miY M') (miB M') (miX M') (miR M') (wds M') (rmM M') 0 0 (miN M') :=
      ⟨callB_of (miN M') hts (goodIn_wd (fun _ h => h) o3) rfl rfl rfl (hts _ o4) (hts _ lk) o6 hdm, hts _ o5.1, by rw [← hcn]; exact hts _ o5.2⟩
    exact va_runV (As := as.map (con ad)) ⟨hM.1, hM.2.1, hM.2.2.2.1, hM.2.2.2.2.1, hts⟩ (hA l D cA ad H.size) cw hpre rfl (by simpa using hn) hl.1 hstack hrm hd ⟨Nat.zero_le _, Nat.zero_le _⟩
  · have cw : va_CN (rmM M) s args (Rn (miO M)) idx (miY M') "SilverFleets" (miB M') (miX M') (miR M') (wds M') (rmM M') 0 0 (miN M') :=
      va_cnB (miN M') hts (goodIn_wd (fun _ h => h) o3) rfl rfl rfl (hC.2.2.1 _ lk) (hts _ o4) o6 hdm
    exact va_runVN (As := as.map (con ad)) ⟨hM.1, hM.2.1, hM.2.2.2.1, hM.2.2.2.2.1, hts⟩ (hA l D cA ad H.size) ⟨cw, hts _ o5.1, by rw [← hcn]; exact hts _ o5.2⟩ hpre rfl (by simpa using hn) hl.1 hstack hrm hd ⟨Nat.zero_le _, Nat.zero_le _⟩
/-- a static method -/
theorem aw_callS {M' : MI} {idx : Nat} {as stk : List Value} {Q : PP} (hM' : MOk M') (hs : miS M' = true) (lk : lkOk (miO M) idx M') (hdep : miD M' < miD M) (hn : as.length = miN M') (hroom : (st.map fun v => v.category).sum ≤ 8) (hstk : stk = as.reverse ++ st) (hd : decode (miB M) pc = .ok (.invokestatic idx, 3))
    (hA : AMet S M' as I J G Q) (kk : ∀ r I' J' G', Q r I' J' G' → AW S M (pc + 3) L (r.toList ++ st) I' J' G' P) : AW S M pc L stk I J G P := by
  intro p l e s m args below meth c D cA ad H locs ls hM hC hP hS hl
  subst hstk
  obtain ⟨o1, o2, o3, o4, o5, o6, o7, o8⟩ := hM'
  rw [hs] at o5
  simp only [if_true] at o5
  have hts : ∀ w ∈ Wd, w.before args s = true := hM.2.2.2.2.2.1
  have hpre : PreS s H (APc S D cA ad H.size as I J G) (as.map (con ad)) :=
    ⟨APc.blind, fun U hU hW => ⟨rfl, by rw [hU], by rw [hU]; exact hC.at hS hW, by rw [hU]; exact hP⟩⟩
  have hdm : (rmM M').frames + 1 ≤ (rmM M).frames ∧ 8 + (miX M' + 11) + (rmM M').locals ≤ (rmM M).locals := by
    show miD M' + 1 ≤ miD M ∧ 8 + (miX M' + 11) + 36 * miD M' ≤ 36 * miD M
    omega
  have hstack : (F0 m pc ls ((as.reverse ++ st).map (con ad))).stack = (as.map (con ad)).reverse ++ st.map (con ad) := by
    show (as.reverse ++ st).map (con ad) = _
    rw [List.map_append, List.map_reverse]
  have hrm : 2 * (F0 m pc ls ((as.reverse ++ st).map (con ad))).monitorRoom + ((st.map (con ad)).map fun v => v.category).sum ≤ 8 := lv_room (by rw [con_sum]; exact hroom)
  refine va_callG (a := (as.map (con ad)).toArray) hM hC hS hl ?_ kk
  rcases lk with lk | lk
  · have cw : CallB (rmM M) s args (Rn (miO M)) idx (miY M') (miB M') (miX M') (miR M') (wds M') (rmM M') 0 0 (miN M') :=
      callB_of (miN M') hts (goodIn_wd (fun _ h => h) o3) rfl rfl rfl (hts _ o4) (hts _ lk) o6 hdm
    exact va_runS (As := as.map (con ad)) ⟨hM.1, hM.2.1, hM.2.2.2.1, hM.2.2.2.2.1, hts⟩ (hA l D cA ad H.size) ⟨cw, hts _ o5⟩ hpre rfl (by simpa using hn) hl.1 hstack hrm hd ⟨Nat.zero_le _, Nat.zero_le _⟩
  · have cw : va_CN (rmM M) s args (Rn (miO M)) idx (miY M') "SilverFleets" (miB M') (miX M') (miR M') (wds M') (rmM M') 0 0 (miN M') :=
      va_cnB (miN M') hts (goodIn_wd (fun _ h => h) o3) rfl rfl rfl (hC.2.2.1 _ lk) (hts _ o4) o6 hdm
    exact va_runSN (As := as.map (con ad)) ⟨hM.1, hM.2.1, hM.2.2.2.1, hM.2.2.2.2.1, hts⟩ (hA l D cA ad H.size) ⟨cw, hts _ o5, trivial⟩ hpre rfl (by simpa using hn) hl.1 hstack hrm hd ⟨Nat.zero_le _, Nat.zero_le _⟩
theorem aw_min {idx : Nat} {x y : Int32} (hin : ∀ w ∈ [Cond.methodLink (Rn (miO M)) idx Lib.Math.min.name, Cond.static Lib.Math.min.name, Cond.initialized "java/lang/Math", Cond.code Lib.Math.min.name Lib.Math.min.code 2 (some .int)], w ∈ Wd) (hdep : 1 ≤ miD M) (hroom : (st.map fun v => v.category).sum ≤ 8) (hd : decode (miB M) pc = .ok (.invokestatic idx, 3)) (k : AW S M (pc + 3) L (.int (if y < x then y else x) :: st) I J G P) : AW S M pc L (.int y :: .int x :: st) I J G P := by
  intro p l e s m args below meth c D cA ad H locs ls hM hC hP hS hl
  have hts : ∀ w ∈ Wd, w.before args s = true := hM.2.2.2.2.2.1
  exact va_mmin hM.1 hM.2.1 (by rw [hM.2.2.2.1, hl.1]) hM.2.2.2.2.1 (hts _ (hin _ (by simp))) (hts _ (hin _ (by simp))) (hts _ (hin _ (by simp))) (hts _ (hin _ (by simp))) hdep (by show _ ≤ 36 * miD M; rw [con_sum]; omega) (Nat.zero_le _) (Nat.zero_le _) hd (k _ _ _ _ _ _ _ _ _ _ _ _ _ _ _ hM hC hP hS hl)
theorem aw_max {idx : Nat} {x y : Int32} (hin : ∀ w ∈ [Cond.methodLink (Rn (miO M)) idx Lib.Math.max.name, Cond.static Lib.Math.max.name, Cond.initialized "java/lang/Math", Cond.code Lib.Math.max.name Lib.Math.max.code 2 (some .int)], w ∈ Wd) (hdep : 1 ≤ miD M) (hroom : (st.map fun v => v.category).sum ≤ 8) (hd : decode (miB M) pc = .ok (.invokestatic idx, 3)) (k : AW S M (pc + 3) L (.int (if x < y then y else x) :: st) I J G P) : AW S M pc L (.int y :: .int x :: st) I J G P := by
  intro p l e s m args below meth c D cA ad H locs ls hM hC hP hS hl
  have hts : ∀ w ∈ Wd, w.before args s = true := hM.2.2.2.2.2.1
  exact va_mmax hM.1 hM.2.1 (by rw [hM.2.2.2.1, hl.1]) hM.2.2.2.2.1 (hts _ (hin _ (by simp))) (hts _ (hin _ (by simp))) (hts _ (hin _ (by simp))) (hts _ (hin _ (by simp))) hdep (by show _ ≤ 36 * miD M; rw [con_sum]; omega) (Nat.zero_le _) (Nat.zero_le _) hd (k _ _ _ _ _ _ _ _ _ _ _ _ _ _ _ hM hC hP hS hl)
theorem aw_copy {idx k0 k1 n0 n1 : Nat} {sp dp n : Int32} (hin : ∀ w ∈ [Cond.methodLink (Rn (miO M)) idx arraycopyName, Cond.native arraycopyName, Cond.static arraycopyName, Cond.initialized "java/lang/System"], w ∈ Wd) (hdep : 1 ≤ miD M) (hk0 : S[k0]? = some (.inr (0, n0))) (hk1 : S[k1]? = some (.inr (0, n1))) (h1 : ¬ sp < 0) (h2 : ¬ dp < 0) (h3 : ¬ n < 0) (h4 : sp.toNatClampNeg + n.toNatClampNeg ≤ n0) (h5 : dp.toNatClampNeg + n.toNatClampNeg ≤ n1) (hroom : (st.map fun v => v.category).sum ≤ 8) (hd : decode (miB M) pc = .ok (.invokestatic idx, 3))
    (k : AW S M (pc + 3) L st I J (va_up G k1 (va_cpy (G k0) (G k1) sp.toNatClampNeg dp.toNatClampNeg n.toNatClampNeg)) P) : AW S M pc L (.int n :: .int dp :: .ref k1 :: .int sp :: .ref k0 :: st) I J G P := by
  intro p l e s m args below meth c D cA ad H locs ls hM hC hP hS hl
  have hts : ∀ w ∈ Wd, w.before args s = true := hM.2.2.2.2.2.1
  have hlc : ((st.map (con ad)).map fun v => v.category).sum + (nativeFrameWords "java/lang/System" "arraycopy" 5 + 11) ≤ (rmM M).locals := by
    have h9 : nativeFrameWords "java/lang/System" "arraycopy" 5 + 11 ≤ 28 := by decide +kernel
    show _ ≤ 36 * miD M
    rw [con_sum]
    omega
  refine va_copyi hM.1 hM.2.1 (by rw [hM.2.2.2.1, hl.1]) hM.2.2.2.2.1 (hts _ (hin _ (by simp))) (hts _ (hin _ (by simp))) (hts _ (hin _ (by simp))) (hts _ (hin _ (by simp))) hC.2.1 hP hC.1.D hS k0 k1 0 0 (wrl_get hk0) (wrl_get hk1) (tyl_get (by decide)) (tyl_get (by decide)) rfl h1 h2 h3 h4 h5 (fun _ _ => rfl) hdep hlc hd (fun H locs hP hD hS => ?_)
  exact k _ _ _ _ _ _ _ _ _ _ _ _ _ _ _ hM hC (wrl_setG hk1 ▸ hP) hS hl
theorem aw_lookup {dflt : Int} {ps : Array (Int × Int)} {len : Nat} {x : Int32} {off : Int} {tgt : Nat} (hd : decode (miB M) pc = .ok (.lookupswitch dflt ps, len)) (hp : (ps.toList.zip (ps.toList.drop 1)).all (fun (a, next) => a.1 < next.1) = true) (ho : Op.lookupswitch.offset ps.toList dflt x.toInt = off) (ht : (pc : Int) + off = (tgt : Int)) (k : AW S M tgt L st I J G P) : AW S M pc L (.int x :: st) I J G P := by
  intro p l e s m args below meth c D cA ad H locs ls hM hC hP hS hl
  exact lv_lookup hM.1 hM.2.1 hd hp ho ht (k _ _ _ _ _ _ _ _ _ _ _ _ _ _ _ hM hC hP hS hl)
theorem aw_tableOut {dflt lo hi : Int} {offs : Array Int} {len : Nat} {x : Int32} {tgt : Nat} (hd : decode (miB M) pc = .ok (.tableswitch dflt lo hi offs, len)) (h : x.toInt < lo ∨ hi < x.toInt) (ht : (pc : Int) + dflt = (tgt : Int)) (k : AW S M tgt L st I J G P) : AW S M pc L (.int x :: st) I J G P := by
  intro p l e s m args below meth c D cA ad H locs ls hM hC hP hS hl
  exact lv_tableOut hM.1 hM.2.1 hd h ht (k _ _ _ _ _ _ _ _ _ _ _ _ _ _ _ hM hC hP hS hl)
theorem aw_tableIn {dflt lo hi : Int} {offs : Array Int} {len : Nat} {x : Int32} {off : Int} {tgt : Nat} (hd : decode (miB M) pc = .ok (.tableswitch dflt lo hi offs, len)) (h1 : ¬ x.toInt < lo) (h2 : ¬ hi < x.toInt) (ho : offs[(x.toInt - lo).toNat]? = some off) (ht : (pc : Int) + off = (tgt : Int)) (k : AW S M tgt L st I J G P) : AW S M pc L (.int x :: st) I J G P := by
  intro p l e s m args below meth c D cA ad H locs ls hM hC hP hS hl
  exact lv_tableIn hM.1 hM.2.1 hd h1 h2 ho ht (k _ _ _ _ _ _ _ _ _ _ _ _ _ _ _ hM hC hP hS hl)
/-- what is no longer known of the locals -/
theorem aw_forget {L' : LV} (h : ∀ (i : Nat) (v : Value), L'[i]? = some (some v) → L[i]? = some (some v)) (k : AW S M pc L' st I J G P) : AW S M pc L st I J G P := by
  intro p l e s m args below meth c D cA ad H locs ls hM hC hP hS hl
  exact k _ _ _ _ _ _ _ _ _ _ _ _ _ _ _ hM hC hP hS ⟨hl.1, hl.2.1, fun i v hi => hl.2.2 i v (h i v hi)⟩
theorem qg_mono {D : va_G} {cA : Nat → ClassId} {ad : Nat → Nat} {sz : Nat} {P Q : PP} (h : ∀ r I J G, P r I J G → Q r I J G) {a : Array Value} {s : State} {oc : Outcome} {t : State} (hq : QG S D cA ad P sz a s oc t) : QG S D cA ad Q sz a s oc t := by
  obtain ⟨⟨r, I, J, G, h1, h2, h3⟩, h4⟩ := hq
  exact ⟨⟨r, I, J, G, h1, h _ _ _ _ h2, h3⟩, h4⟩
end AWS
