/-! the constructors: worlds that grow -/
def rmC (M : MI) (mc ms : Nat) : Room := { frames := miD M, cells := mc, slots := ms, locals := 36 * miD M }
def ST (ad : Nat → Nat) (A : Nat → Prop) (U : State) (H : Heap) : Prop := ∀ k, isSt k = true → va_Z RX5 (snm k) "[I" (.ref (ad k)) A U H ∧ va_T .int (ad k) (snl k).length (fun j => .int ((snl k).getD j 0)) A U H
def CC (D : va_G) (cA : Nat → ClassId) (ad : Nat → Nat) (A : Nat → Prop) (U : State) (H : Heap) : Prop := va_K D vwCl (tyl cA) U ∧ (∀ w ∈ Nw, va_Nw w U) ∧ ST ad A U H
def QC (D : va_G) (A : Nat → Prop) (Qf : va_W → Prop) : Array Value → State → Outcome → State → Prop := va_Qv Qf (fun ws t => va_P D vwCl ws t.heap ∧ va_D A ws) A
def COk (M : MI) : Prop := plainName (miY M).cls = true ∧ (miY M).cls = Rn (miO M) ∧ Cond.code (miY M) (miB M) (miX M) (miR M) ∈ Wd ∧ Cond.initialized (miY M).cls ∈ Wd ∧ ((miY M).name = "<init>" ∧ Cond.instanceMethod (miY M) ∈ Wd) ∧ ((miY M).cls ≠ "java/lang/invoke/MethodHandle" ∧ (miY M).cls ≠ "java/lang/invoke/VarHandle" ∧ (parseMethodDescriptor (miY M).desc).map (fun d => d.parameters.length) = some (miN M)) ∧ (miX M ≤ 17 ∧ miR M = none) ∧ ∀ q ∈ miT M, decode (miB M) q.1 = .ok (q.2.1, q.2.2)
theorem COk.dec {M : MI} (h : COk M) {pc len : Nat} {i : Instr} (hi : lkT (miT M) pc = some (i, len)) : decode (miB M) pc = .ok (i, len) := by
  obtain ⟨-, -, -, -, -, -, -, h8⟩ := h
  exact h8 (pc, i, len) (lkT_mem hi)
def CW (M : MI) (mc ms : Nat) (cA : Nat → ClassId) (Qf : va_W → Prop) (pc : Nat) (L : LV) (st : List Value) (k n : Nat) (ws : va_W) : Prop :=
  ∀ (p : Program) (l : Launch) (e : Env) (s : State) (m : MethodId) (args : Array Value) (below : List Frame) (meth : Method) (c : Code) (D : va_G) (ad : Nat → Nat) (A : Nat → Prop) (H : Heap) (locs : List Loc) (ls : Array Slot),
  MC M p s m args meth c → meth.name = "<init>" → CC D cA ad A s s.heap → (∀ q, s.heap.size ≤ q → A q) → va_P D vwCl ws H → va_D A ws → va_S A s.heap H locs → lvP (fun a => a) ls (miX M) L →
  W p l e (rmC M mc ms) s m args below meth c H locs k n (MQ below (QC D A Qf) args s mc ms A) (F0 m pc ls st)
def CPc (D : va_G) (cA : Nat → ClassId) (ad : Nat → Nat) (sz a ci : Nat) (fs as : List Value) : Array Value → State → Prop := fun v U => v = (Value.ref a :: as).toArray ∧ U.heap.size = sz ∧ CC D cA ad (va_A [(a, .inr (ci, fs))] sz) U U.heap ∧ va_P D vwCl [(a, .inr (ci, fs))] U.heap
def CMet (M : MI) (mc ms a ci : Nat) (fs as : List Value) (Qf : (Nat → ClassId) → va_W → Prop) : Prop :=
  ∀ (l : Launch) (D : va_G) (cA : Nat → ClassId) (ad : Nat → Nat) (sz : Nat), Met l (miY M) (wds M) (rmC M mc ms) (CPc D cA ad sz a ci fs as) (QC D (va_A [(a, .inr (ci, fs))] sz) (Qf cA)) mc ms (va_A [(a, .inr (ci, fs))] sz)
theorem Nw_warm {s U : State} (hW : s.WarmedH U.vm) (h : ∀ w ∈ Nw, va_Nw w s) : ∀ w ∈ Nw, va_Nw w U := fun w hw => by
  have hn := (List.mem_filter.mp hw).2
  have hZ := h w hw
  unfold isNest at hn
  split at hn
  · exact hZ.warmF hW
  · exact hZ.warmM hW
  · cases hn
theorem Nw_same {u U : State} (hU : u.vm = U.vm) (h : ∀ w ∈ Nw, va_Nw w u) : ∀ w ∈ Nw, va_Nw w U := fun w hw => by
  have hn := (List.mem_filter.mp hw).2
  refine va_Nw.same ?_ (u := u) (U := U) hU (h w hw)
  unfold isNest at hn
  split at hn
  · rfl
  · rfl
  · cases hn
theorem ST.at {ad : Nat → Nat} {A B : Nat → Prop} {u U : State} {H H1 : Heap} (h : ST ad A u H) (hvm : u.vm.Alike U.vm) (hq : ∀ a : Nat, a < H.size → ¬ A a → H1[a]? = H[a]?) (hs : ∀ q, B q → A q) : ST ad B U H1 := fun k hk =>
  ⟨((((h k hk).1.kept hq).moved hvm).narrow hs), ((((h k hk).2.kept hq).moved hvm).narrow hs)⟩
theorem CPc.blind {D : va_G} {cA : Nat → ClassId} {ad : Nat → Nat} {sz a ci : Nat} {fs as : List Value} : FrameBlind (CPc D cA ad sz a ci fs as) := by
  intro v U g mk ⟨q0, q1, ⟨c2, c3, c4⟩, qP⟩
  exact ⟨q0, q1, ⟨va_K.moved (u := U) (U := U.calling g mk v) (Vm.Alike.refl U.vm) c2, Nw_same (u := U) (U := U.calling g mk v) rfl c3, ST.at (u := U) (U := U.calling g mk v) c4 (Vm.Alike.refl U.vm) (fun _ _ _ => rfl) (fun _ h => h)⟩, qP⟩
theorem con_id (v : Value) : con (fun a => a) v = v := by cases v <;> rfl
/-- the locals with which a method begins -/
theorem ent_lv {ad : Nat → Nat} {as : List Value} {nL : Nat} {m : MethodId} (hl : as.length ≤ nL) (hc : ∀ v ∈ as, v.category = 1) : ∃ ls : Array Slot, entryFrame m (as.map (con ad)).toArray nL = F0 m 0 ls [] ∧ lvP ad ls nL (as.map some ++ List.replicate (nL - as.length) none) := by
  have hsl : ∀ vs : List Value, (∀ v ∈ vs, v.category = 1) → (lg_sl vs).length = vs.length := by
    intro vs
    induction vs with
    | nil => intro _; rfl
    | cons v vs ih =>
      intro hv
      have h1 := hv v List.mem_cons_self
      have h2 := ih (fun x hx => hv x (List.mem_cons_of_mem _ hx))
      simp only [lg_sl, List.flatMap_cons] at h2 ⊢
      rw [List.length_append, h2, if_neg (by omega)]
      simp; omega
  have hcc : ∀ v ∈ as.map (con ad), v.category = 1 := by
    intro v hv
    obtain ⟨w, hw, rfl⟩ := List.mem_map.mp hv
    rw [con_cat]; exact hc w hw
  have hent := lv_entry (as.map (con ad)) (n := nL) (by rw [hsl _ hcc]; simpa using hl)
  refine ⟨_, lg_entry_eq _ _ _, ?_⟩
  have hargs : ∀ (vs : List Value) (i : Nat), (∀ v ∈ vs, v.category = 1) → ∀ (n : Nat) (v : Value), vs[n]? = some v → (i + n, v) ∈ lv_args i vs := by
    intro vs
    induction vs with
    | nil => intro i _ n v h; simp at h
    | cons w vs ih =>
      intro i hv n v h
      have h1 := hv w List.mem_cons_self
      unfold lv_args
      rw [if_neg (by omega)]
      cases n with
      | zero => simp at h; subst h; exact List.mem_cons_self
      | succ n =>
        have := ih (i + 1) (fun x hx => hv x (List.mem_cons_of_mem _ hx)) n v (by simpa using h)
        rw [show i + (n + 1) = i + 1 + n by omega]
        exact List.mem_cons_of_mem _ this
  refine ⟨hent.1, hent.2.1, fun i v hi => ?_⟩
  rcases Nat.lt_or_ge i as.length with h1 | h1
  · rw [List.getElem?_append_left (by simpa using h1), List.getElem?_map] at hi
    cases hai : as[i]? with
    | none => rw [hai] at hi; cases hi
    | some w =>
      rw [hai] at hi
      cases hi
      have := hargs (as.map (con ad)) 0 hcc i (con ad v) (by rw [List.getElem?_map, hai]; rfl)
      rw [Nat.zero_add] at this
      exact hent.2.2 _ this
  · rw [List.getElem?_append_right (by simpa using h1)] at hi
    have := List.mem_of_getElem? hi
    simp [List.mem_replicate] at this
section CWR
variable {M : MI} {mc ms : Nat} {cA : Nat → ClassId} {Qf : va_W → Prop} {pc : Nat} {L : LV} {st : List Value} {k n : Nat} {ws : va_W}
theorem cmet_en {a ci : Nat} {fs as : List Value} {Qg : (Nat → ClassId) → va_W → Prop} (hM : COk M) (hl : Nat.ble (as.length + 1) (miX M) = true) (hc : as.all is1 = true) (hL : some (Value.ref a) :: (as.map some ++ List.replicate (miX M - (as.length + 1)) none) = L) (h : ∀ cA, CW M mc ms cA (Qg cA) 0 L [] 0 0 [(a, .inr (ci, fs))]) : CMet M mc ms a ci fs as Qg := by
  intro l D cA ad sz
  refine Met.ofW (cc := miB M) (maxL := miX M) (ret := miR M) hM.1 rfl ?_
  intro p e s m args below meth c s₁ B hml hv
  obtain ⟨rfl, rfl, hC, hP⟩ := hv
  have hts := atoms_spec (ws := wds M) B.pre
  have hown : s.vm.findClass (Rn (miO M)) = some m.cls := by rw [← hM.2.1]; exact findClass_of_methodNamed B.named
  have hin : meth.name = "<init>" := by rw [(name_of_methodNamed B.named B.method).1]; exact hM.2.2.2.2.1.1
  have hcat : ∀ v ∈ Value.ref a :: as, v.category = 1 := by
    intro v hv
    rcases List.mem_cons.mp hv with rfl | hv
    · rfl
    · exact is1_s (List.all_eq_true.mp hc v hv)
  obtain ⟨ls, e1, e2⟩ := ent_lv (ad := fun a => a) (as := Value.ref a :: as) (nL := miX M) (m := m) (Nat.le_of_ble_eq_true hl) hcat
  rw [show (Value.ref a :: as).map (con fun a => a) = Value.ref a :: as from (List.map_congr_left (fun v _ => con_id v)).trans (List.map_id _)] at e1
  rw [e1]
  have e2' : lvP (fun a => a) ls (miX M) L := by rw [← hL]; exact e2
  have hD : va_D (va_A [(a, .inr (ci, fs))] s.heap.size) [(a, Sum.inr (ci, fs))] := by
    refine ⟨fun i j p q hi hj _ => ?_, fun k q hk => va_A.in hk⟩
    have h1 : i < 1 := (List.getElem?_eq_some_iff.mp hi).1
    have h2 : j < 1 := (List.getElem?_eq_some_iff.mp hj).1
    omega
  exact h cA p l e s m _ below meth c D ad _ s.heap [] ls ⟨B.exec, B.bytes, B.returns, hml, hown, fun w hw => hts w (List.mem_cons_of_mem _ hw), B.notSynchronized⟩ hin hC (fun q h => Or.inr h) hP hD va_S.rf e2'
theorem cw_aload {i : Fin 4} {x : Nat} (hx : L[i.val]? = some (some (.ref x))) (hd : decode (miB M) pc = .ok (.aload_n i, 1)) (kk : CW M mc ms cA Qf (pc + 1) L (.ref x :: st) k n ws) : CW M mc ms cA Qf pc L st k n ws := by
  intro p l e s m args below meth c D ad A H locs ls hM hin hC hA hP hD hS hl
  exact lv_aload_n hM.1 hM.2.1 hd rfl (hl.get hx) (kk _ _ _ _ _ _ _ _ _ _ _ _ _ _ _ hM hin hC hA hP hD hS hl)
theorem cw_iconst {z : Int} {v : Int32} (hv : Int32.ofInt z = v) (hd : decode (miB M) pc = .ok (.iconst z, 1)) (kk : CW M mc ms cA Qf (pc + 1) L (.int v :: st) k n ws) : CW M mc ms cA Qf pc L st k n ws := by
  intro p l e s m args below meth c D ad A H locs ls hM hin hC hA hP hD hS hl
  exact lv_iconst hM.1 hM.2.1 hd hv (kk _ _ _ _ _ _ _ _ _ _ _ _ _ _ _ hM hin hC hA hP hD hS hl)
theorem cw_bipush {z : Int} {v : Int32} (hv : (Int8.ofInt z).toInt32 = v) (hd : decode (miB M) pc = .ok (.bipush z, 2)) (kk : CW M mc ms cA Qf (pc + 2) L (.int v :: st) k n ws) : CW M mc ms cA Qf pc L st k n ws := by
  intro p l e s m args below meth c D ad A H locs ls hM hin hC hA hP hD hS hl
  exact lv_bipush hM.1 hM.2.1 hd hv (kk _ _ _ _ _ _ _ _ _ _ _ _ _ _ _ hM hin hC hA hP hD hS hl)
theorem cw_sipush {z : Int} {v : Int32} (hv : (Int16.ofInt z).toInt32 = v) (hd : decode (miB M) pc = .ok (.sipush z, 3)) (kk : CW M mc ms cA Qf (pc + 3) L (.int v :: st) k n ws) : CW M mc ms cA Qf pc L st k n ws := by
  intro p l e s m args below meth c D ad A H locs ls hM hin hC hA hP hD hS hl
  exact lv_sipush hM.1 hM.2.1 hd hv (kk _ _ _ _ _ _ _ _ _ _ _ _ _ _ _ hM hin hC hA hP hD hS hl)
theorem cw_dup {v : Value} (hv : v.category = 1) (hd : decode (miB M) pc = .ok (.dup, 1)) (kk : CW M mc ms cA Qf (pc + 1) L (v :: v :: st) k n ws) : CW M mc ms cA Qf pc L (v :: st) k n ws := by
  intro p l e s m args below meth c D ad A H locs ls hM hin hC hA hP hD hS hl
  exact lv_dup hM.1 hM.2.1 hd hv (kk _ _ _ _ _ _ _ _ _ _ _ _ _ _ _ hM hin hC hA hP hD hS hl)
theorem cw_obj {idx a : Nat} (hin3 : ∀ w ∈ [Cond.methodLink (Rn (miO M)) idx Lib.objectInit, Cond.instanceMethod Lib.objectInit, Cond.code Lib.objectInit ⟨#[0xb1]⟩ 1 none], w ∈ Wd) (hdep : Nat.ble 1 (miD M) = true) (hd : decode (miB M) pc = .ok (.invokespecial idx, 3)) (kk : CW M mc ms cA Qf (pc + 3) L [] k n ws) : CW M mc ms cA Qf pc L [.ref a] k n ws := by
  intro p l e s m args below meth c D ad A H locs ls hM hin hC hA hP hD hS hl
  have hts : ∀ w ∈ Wd, w.before args s = true := hM.2.2.2.2.2.1
  have h1 := Nat.le_of_ble_eq_true hdep
  refine W.objInit hM.1 hM.2.1 hM.2.2.2.2.1 (hts _ (hin3 _ (by simp))) (hts _ (hin3 _ (by simp))) (hts _ (hin3 _ (by simp))) rfl (by rw [hM.2.2.2.1]; exact hl.1) rfl hd h1 ?_ ?_
  · show 0 + 0 + 12 ≤ 36 * miD M
    omega
  · exact kk _ _ _ _ _ _ _ _ _ _ _ _ _ _ _ hM hin hC hA hP hD hS hl
theorem cw_newa {atype : ArrayType} {e N : Nat} {v : Int32} (he : e < 3) (hty : newarray.typeOf atype = ety e) (hv : v = nI N) (hN : N < 2 ^ 27) (harr : Cond.arrayClass (newarray.typeOf atype) ∈ Wd) (hc : Nat.ble (k + 1) mc = true) (hs : Nat.ble (n + N) ms = true) (hd : decode (miB M) pc = .ok (.newarray atype, 2))
    (kk : ∀ q, CW M mc ms cA Qf (pc + 2) L (.ref q :: st) (k + 1) (n + N) (ws ++ [(q, .inl (cA e, N, .inl (fun _ => 0)))])) : CW M mc ms cA Qf pc L (.int v :: st) k n ws := by
  intro p l e0 s m args below meth c D ad A H locs ls hM hin hC hA hP hD hS hl
  have hts : ∀ w ∈ Wd, w.before args s = true := hM.2.2.2.2.2.1
  subst hv
  have hb : N * componentBytes (ety e) ≤ 536870912 := by
    have : componentBytes (ety e) ≤ 4 := by
      match e, he with
      | 0, _ => decide
      | 1, _ => decide
      | 2, _ => decide
    have := Nat.mul_le_mul (Nat.le_refl N) this
    omega
  refine va_newa hM.1 hM.2.1 (hts _ harr) hty hC.1 hP hD hS hA (a0 := (N, .inl (fun _ => 0))) ?_ (nI_pos (by omega)) (nI_clamp (by omega)) hb (Nat.le_of_ble_eq_true hc) (Nat.le_of_ble_eq_true hs) hd (fun q cA' H1 hK' hP' hD' hS' => ?_)
  · intro cA'
    match e, he with
    | 0, _ => rfl
    | 1, _ => rfl
    | 2, _ => rfl
  · have e1 := (hK'.2 3 (cA', ety e) rfl).2
    have e2 := (hC.1.2 e _ (tyl_get he)).2
    have : cA' = cA e := by
      match e, he, e1, e2 with
      | 0, _, e1, e2 => exact Option.some.inj (e1.symm.trans e2)
      | 1, _, e1, e2 => exact Option.some.inj (e1.symm.trans e2)
      | 2, _, e1, e2 => exact Option.some.inj (e1.symm.trans e2)
    subst this
    exact kk q _ _ _ _ _ _ _ _ _ _ _ _ _ _ _ hM hin hC hA hP' hD' hS' hl
theorem cw_putF {idx j a ci : Nat} (q0 : Nat) {fs : List Value} {v : Value} {ws' : va_W} (hf : flk (miO M) idx = some (false, ci, j)) (he : ws[q0]? = some (a, .inr (ci, fs))) (hfin : (Tn ci j).2.2.2 = true) (ho : ci = miO M) (hn : narrow (tyn ci j) v = v) (hfit : fits (tyn ci j) v = true) (hl' : j < fs.length) (hw : ws.set q0 (a, .inr (ci, fs.set j v)) = ws') (hd : decode (miB M) pc = .ok (.putfield idx, 3)) (kk : CW M mc ms cA Qf (pc + 3) L st k n ws') : CW M mc ms cA Qf pc L (v :: .ref a :: st) k n ws := by
  intro p l e s m args below meth c D ad A H locs ls hM hin hC hA hP hD hS hl
  obtain ⟨h1, h2, h3⟩ := flk_F hf
  refine va_putF hM.1 hM.2.1 hM.2.2.2.2.2.1 (uwn ci h2) (tyn ci) (tyn_ok ci h2) (nmn ci h2) hM.2.2.2.2.1 hC.1 hP hD hS q0 he (cln ci h2) j h3 (hM.2.2.2.2.2.1 _ h1) (by rw [own_n ci h2 j h3]; exact fun _ h => h) hfin hin (by rw [own_n ci h2 j h3, ho]) (tyn_ok ci h2 j h3) hn hfit hl' hd (fun H locs hP hD hS => ?_)
  exact kk _ _ _ _ _ _ _ _ _ _ _ _ _ _ _ hM hin hC hA (hw ▸ hP) (hw ▸ hD) hS hl
theorem cw_put {idx j a ci : Nat} (q0 : Nat) {fs : List Value} {v : Value} {ws' : va_W} (hf : flk (miO M) idx = some (false, ci, j)) (he : ws[q0]? = some (a, .inr (ci, fs))) (hfin : (Tn ci j).2.2.2 = false) (hn : narrow (tyn ci j) v = v) (hfit : fits (tyn ci j) v = true) (hl' : j < fs.length) (hw : ws.set q0 (a, .inr (ci, fs.set j v)) = ws') (hd : decode (miB M) pc = .ok (.putfield idx, 3)) (kk : CW M mc ms cA Qf (pc + 3) L st k n ws') : CW M mc ms cA Qf pc L (v :: .ref a :: st) k n ws := by
  intro p l e s m args below meth c D ad A H locs ls hM hin hC hA hP hD hS hl
  obtain ⟨h1, h2, h3⟩ := flk_F hf
  refine va_put hM.1 hM.2.1 hM.2.2.2.2.2.1 (uwn ci h2) (tyn ci) (tyn_ok ci h2) (nmn ci h2) hM.2.2.2.2.1 hC.1 hP hD hS q0 he (cln ci h2) j h3 (hM.2.2.2.2.2.1 _ h1) (by rw [own_n ci h2 j h3]; exact fun _ h => h) hfin (tyn_ok ci h2 j h3) hn hfit hl' hd (fun H locs hP hD hS => ?_)
  exact kk _ _ _ _ _ _ _ _ _ _ _ _ _ _ _ hM hin hC hA (hw ▸ hP) (hw ▸ hD) hS hl
theorem cw_get {idx j a ci : Nat} (q0 : Nat) {fs : List Value} {v : Value} (hf : flk (miO M) idx = some (false, ci, j)) (he : ws[q0]? = some (a, .inr (ci, fs))) (hv : fs[j]? = some v) (hd : decode (miB M) pc = .ok (.getfield idx, 3)) (kk : CW M mc ms cA Qf (pc + 3) L (v :: st) k n ws) : CW M mc ms cA Qf pc L (.ref a :: st) k n ws := by
  intro p l e s m args below meth c D ad A H locs ls hM hin hC hA hP hD hS hl
  obtain ⟨h1, h2, h3⟩ := flk_F hf
  exact va_get hM.1 hM.2.1 hM.2.2.2.2.2.1 (uwn ci h2) hM.2.2.2.2.1 hC.1 hP q0 he (cln ci h2) j h3 (hM.2.2.2.2.2.1 _ h1) (by rw [own_n ci h2 j h3]; exact fun _ h => h) hv hd (kk _ _ _ _ _ _ _ _ _ _ _ _ _ _ _ hM hin hC hA hP hD hS hl)
theorem cw_new {idx ci : Nat} {fs : List Value} (hci : ci < 8) (hcl : Cond.classLink (Rn (miO M)) idx (Rn ci) ∈ Wd) (hinst : Cond.instantiable (Rn ci) (Nn ci) ∈ Wd) (hini : Cond.initialized (Rn ci) ∈ Wd) (hfs : ∀ j, j < Nn ci → defaultValue (tyn ci j) = vp_V fs j) (hc : Nat.ble (k + 1) mc = true) (hs : Nat.ble (n + Nn ci) ms = true) (hd : decode (miB M) pc = .ok (.new idx, 3))
    (kk : ∀ q, CW M mc ms cA Qf (pc + 3) L (.ref q :: st) (k + 1) (n + Nn ci) (ws ++ [(q, .inr (ci, fs))])) : CW M mc ms cA Qf pc L st k n ws := by
  intro p l e s m args below meth c D ad A H locs ls hM hin hC hA hP hD hS hl
  have hts : ∀ w ∈ Wd, w.before args s = true := hM.2.2.2.2.2.1
  exact va_new hM.1 hM.2.1 hts (uwn ci hci) (tyn ci) (tyn_ok ci hci) hM.2.2.2.2.1 (hts _ hcl) (hts _ hinst) (hts _ hini) hC.1 hP hD hS hA (cln ci hci) hfs (Nat.le_of_ble_eq_true hc) (Nat.le_of_ble_eq_true hs) hd (fun q H1 hP' hD' hS' => kk q _ _ _ _ _ _ _ _ _ _ _ _ _ _ _ hM hin hC hA hP' hD' hS' hl)
theorem cw_slen {idx k0 : Nat} {v : Int32} (hf : (miO M, idx, k0) ∈ STl) (hk : isSt k0 = true) (hv : Int32.ofNat (snl k0).length = v) (hd : decode (miB M) pc = .ok (.getstatic idx, 3)) (hd2 : decode (miB M) (pc + 3) = .ok (.arraylength, 1)) (kk : CW M mc ms cA Qf (pc + 3 + 1) L (.int v :: st) k n ws) : CW M mc ms cA Qf pc L st k n ws := by
  intro p l e s m args below meth c D ad A H locs ls hM hin hC hA hP hD hS hl
  refine va_gets hM.1 hM.2.1 (hC.2.2 k0 hk).1 hS hM.2.2.2.2.1 (hM.2.2.2.2.2.1 _ (ST_ok _ (List.mem_map_of_mem (f := fun q : Nat × Nat × Nat => Cond.fieldLink (Rn q.1) q.2.1 RX5 (snm q.2.2) "[I") hf))) (fun _ h => h) hd ?_
  exact va_tlen hM.1 hM.2.1 (hC.2.2 k0 hk).2 hS hv hd2 (kk _ _ _ _ _ _ _ _ _ _ _ _ _ _ _ hM hin hC hA hP hD hS hl)
theorem cw_vret (hr : miR M = none) (hq : Qf ws) (hk : Nat.ble k mc = true) (hn : Nat.ble n ms = true) (hd : decode (miB M) pc = .ok (.return_, 1)) : CW M mc ms cA Qf pc L [] k n ws := by
  intro p l e s m args below meth c D ad A H locs ls hM hin hC hA hP hD hS hl
  refine W.widen (k := mc) (n := ms) (Nat.le_of_ble_eq_true hk) (Nat.le_of_ble_eq_true hn) ?_
  exact W.vret hM.1 hM.2.1 (by rw [hM.2.2.1, hr]) (fun t ht hW => ⟨⟨ws, rfl, hq, by rw [ht]; exact hP, hD⟩, hS.F ht⟩) hS.2.2 hd (hlocks := hM.2.2.2.2.2.2)
theorem CC.at {D : va_G} {cA : Nat → ClassId} {ad : Nat → Nat} {A B : Nat → Prop} {s U : State} {H : Heap} {locs : List Loc} (h : CC D cA ad A s s.heap) (hS : va_S A s.heap H locs) (hW : s.WarmedH U.vm) (hB : ∀ q, B q → A q) : CC D cA ad B U H :=
  ⟨h.1.moved hW.alike, Nw_warm hW h.2.1, h.2.2.at hW.alike (fun a ha hn => hS.2.1 a ha hn) hB⟩
/-- a constructor of a nest mate -/
theorem cw_callI {M' : MI} {idx a ci mc' ms' : Nat} {fs as stk : List Value} (q0 : Nat) (isR : List Nat) {wr : va_W} {Qg : (Nat → ClassId) → va_W → Prop} (hM' : COk M') (lk : Cond.methodLinkNest (Rn (miO M)) idx (miY M') "SilverFleets" ∈ Nw) (hdep : Nat.blt (miD M') (miD M) = true) (hq : [ws[q0]?] = [some (a, .inr (ci, fs))]) (hR : isR.map (fun i => ws[i]?) = wr.map some) (hnd : va_nd isR = true) (hdis : ∀ i ∈ isR, i ∉ [q0]) (hlen : as.length = miN M') (hroom : Nat.ble (st.map fun v => v.category).sum 8 = true) (hstk : stk = as.reverse ++ .ref a :: st) (hc : Nat.ble (k + mc') mc = true) (hs : Nat.ble (n + ms') ms = true) (hd : decode (miB M) pc = .ok (.invokespecial idx, 3))
    (hA' : CMet M' mc' ms' a ci fs as Qg) (kk : ∀ w1, Qg cA w1 → CW M mc ms cA Qf (pc + 3) L st (k + mc') (n + ms') (wr ++ w1)) : CW M mc ms cA Qf pc L stk k n ws := by
  intro p l e s m args below meth c D ad A H locs ls hM hin hC hA hP hD hS hl
  subst hstk
  obtain ⟨o1, o2, o3, o4, o5, o6, o7, o8⟩ := hM'
  have hts : ∀ w ∈ Wd, w.before args s = true := hM.2.2.2.2.2.1
  have hFc := va_free (wc := [(a, .inr (ci, fs))]) hD hS hA [q0] hq
  have hPc : va_P D vwCl [(a, .inr (ci, fs))] H := hP.sub (ws' := [(a, .inr (ci, fs))]) [q0] (by
    have : ws[q0]? = some (a, .inr (ci, fs)) := by simpa using hq
    simp [this])
  have hpre : PreS s H (CPc D cA ad H.size a ci fs as) (.ref a :: as) :=
    ⟨CPc.blind, fun U hU hW => ⟨rfl, by rw [hU], by rw [hU]; exact hC.at hS hW hFc, by rw [hU]; exact hPc⟩⟩
  have h1 : miD M' < miD M := Nat.le_of_ble_eq_true hdep
  have hdm : (rmC M' mc' ms').frames + 1 ≤ (rmC M mc ms).frames ∧ 8 + (miX M' + 11) + (rmC M' mc' ms').locals ≤ (rmC M mc ms).locals := by
    show miD M' + 1 ≤ miD M ∧ 8 + (miX M' + 11) + 36 * miD M' ≤ 36 * miD M
    have := o7.1
    omega
  have cw : va_CN (rmC M mc ms) s args (Rn (miO M)) idx (miY M') "SilverFleets" (miB M') (miX M') none (wds M') (rmC M' mc' ms') mc' ms' (miN M') :=
    va_cnB (miN M') hts (goodIn_wd (fun _ h => h) o3) (by rw [← o7.2]; rfl) rfl rfl (hC.2.1 _ lk) (hts _ o4) o6 hdm
  refine va_callv (va_runIN (As := as) (rest := st) ⟨hM.1, hM.2.1, hM.2.2.2.1, hM.2.2.2.2.1, hts⟩ (hA' l D cA ad H.size) ⟨cw, o5.1, hts _ o5.2⟩ hpre rfl hlen hl.1 rfl (lv_room (Nat.le_of_ble_eq_true hroom)) hd ⟨Nat.le_of_ble_eq_true hc, Nat.le_of_ble_eq_true hs⟩) hS (fun q _ h => hFc q h) hFc (fun u t H1 locs1 ht hvm hw hB hz1 hk1 hS1 => ?_)
  obtain ⟨hP1, hD1⟩ := hB
  rw [ht] at hP1
  obtain ⟨hP2, hD2⟩ := va_join (wc := [(a, .inr (ci, fs))]) (wr := wr) (w1 := u) hP hD [q0] isR hq hR hnd hdis hk1 hFc hP1 hD1
  exact kk u hw _ _ _ _ _ _ _ _ _ _ _ _ _ _ _ hM hin hC hA hP2 hD2 hS1 hl
end CWR
