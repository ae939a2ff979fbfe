/-! methods, contexts, the abstract judgements -/
/-- a method: name, bytes, max locals, return, own class, depth, static?, parameters, its instructions -/
abbrev MI : Type := MethodName × ByteArray × Nat × Option FieldType × Nat × Nat × Bool × Nat × List (Nat × Instr × Nat)
abbrev miY (M : MI) : MethodName := M.1
abbrev miB (M : MI) : ByteArray := M.2.1
abbrev miX (M : MI) : Nat := M.2.2.1
abbrev miR (M : MI) : Option FieldType := M.2.2.2.1
abbrev miO (M : MI) : Nat := M.2.2.2.2.1
abbrev miD (M : MI) : Nat := M.2.2.2.2.2.1
abbrev miS (M : MI) : Bool := M.2.2.2.2.2.2.1
abbrev miN (M : MI) : Nat := M.2.2.2.2.2.2.2.1
abbrev miT (M : MI) : List (Nat × Instr × Nat) := M.2.2.2.2.2.2.2.2
def wds (M : MI) : List Cond := Cond.code (miY M) (miB M) (miX M) (miR M) :: Wd
def rmM (M : MI) : Room := { frames := miD M, cells := 0, slots := 0, locals := 36 * miD M }
def MOk (M : MI) : Prop := plainName (miY M).cls = true ∧ (miY M).cls = Rn (miO M) ∧ Cond.code (miY M) (miB M) (miX M) (miR M) ∈ Wd ∧ Cond.initialized (miY M).cls ∈ Wd ∧ (if miS M = true then Cond.static (miY M) ∈ Wd else Cond.instanceMethod (miY M) ∈ Wd ∧ Cond.selects (miY M).cls (miY M) (miY M) ∈ Wd) ∧
  ((miY M).cls ≠ "java/lang/invoke/MethodHandle" ∧ (miY M).cls ≠ "java/lang/invoke/VarHandle" ∧ (parseMethodDescriptor (miY M).desc).map (fun d => d.parameters.length) = some (miN M)) ∧ miX M ≤ 17 ∧ ∀ q ∈ miT M, decode (miB M) q.1 = .ok (q.2.1, q.2.2)
def snl (k : Nat) : List Int32 := match k with
  | 100 => [10, 40]
  | 101 => [60, 60, 9, 11]
  | _ => [10]
def isSt (k : Nat) : Bool := k == 100 || k == 101 || k == 102
def tyl (cA : Nat → ClassId) : List (ClassId × FieldType) := [(cA 0, .int), (cA 1, .byte), (cA 2, .boolean)]
def MC (M : MI) (p : Program) (s : State) (m : MethodId) (args : Array Value) (meth : Method) (c : Code) : Prop :=
  p.tables.exec = Jvm.exec ∧ c.code = miB M ∧ meth.sig.returnType = miR M ∧ c.maxLocals = miX M ∧ s.vm.findClass (Rn (miO M)) = some m.cls ∧ (∀ w ∈ Wd, w.before args s = true) ∧ meth.locks = false
def SZ (S : SH) (ad : Nat → Nat) (sz : Nat) (U : State) (H : Heap) : Prop := ∀ k, isSt k = true → va_Z RX5 (snm k) "[I" (.ref (ad k)) (AA S ad sz) U H ∧ va_T .int (ad k) (snl k).length (fun j => .int ((snl k).getD j 0)) (AA S ad sz) U H
def CX (S : SH) (D : va_G) (cA : Nat → ClassId) (ad : Nat → Nat) (sz : Nat) (U : State) (H : Heap) : Prop :=
  AdI S ad ∧ va_K D vwCl (tyl cA) U ∧ (∀ w ∈ Nw, va_Nw w U) ∧ SZ S ad sz U H
def QG (S : SH) (D : va_G) (cA : Nat → ClassId) (ad : Nat → Nat) (P : PP) (sz : Nat) : Array Value → State → Outcome → State → Prop := fun _ st oc t =>
  (∃ r I J G, oc = .returned (Option.map (con ad) r) ∧ P r I J G ∧ va_P D vwCl (wrl S cA ad I J G) t.heap) ∧ va_F (AA S ad sz) st t
def AW (S : SH) (M : MI) (pc : Nat) (L : LV) (st : List Value) (I : II) (J : JJ) (G : II) (P : PP) : Prop :=
  ∀ (p : Program) (l : Launch) (e : Env) (s : State) (m : MethodId) (args : Array Value) (below : List Frame) (meth : Method) (c : Code) (D : va_G) (cA : Nat → ClassId) (ad : Nat → Nat) (H : Heap) (locs : List Loc) (ls : Array Slot),
  MC M p s m args meth c → CX S D cA ad s.heap.size s s.heap → va_P D vwCl (wrl S cA ad I J G) H → va_S (AA S ad s.heap.size) s.heap H locs → lvP ad ls (miX M) L →
  W p l e (rmM M) s m args below meth c H locs 0 0 (MQ below (QG S D cA ad P s.heap.size) args s 0 0 (AA S ad s.heap.size)) (F0 m pc ls (st.map (con ad)))
def APc (S : SH) (D : va_G) (cA : Nat → ClassId) (ad : Nat → Nat) (sz : Nat) (as : List Value) (I : II) (J : JJ) (G : II) : Array Value → State → Prop := fun v U => v = (as.map (con ad)).toArray ∧ U.heap.size = sz ∧ CX S D cA ad sz U U.heap ∧ va_P D vwCl (wrl S cA ad I J G) U.heap
def AMet (S : SH) (M : MI) (as : List Value) (I : II) (J : JJ) (G : II) (P : PP) : Prop :=
  ∀ (l : Launch) (D : va_G) (cA : Nat → ClassId) (ad : Nat → Nat) (sz : Nat), Met l (miY M) (wds M) (rmM M) (APc S D cA ad sz as I J G) (QG S D cA ad P sz) 0 0 (AA S ad sz)
/-- links -/
def lkOk (o idx : Nat) (M : MI) : Prop := Cond.methodLink (Rn o) idx (miY M) ∈ Wd ∨ Cond.methodLinkNest (Rn o) idx (miY M) "SilverFleets" ∈ Nw
def flk (o idx : Nat) : Option (Bool × Nat × Nat) := match FTl.find? (fun q => q.1 == o && q.2.1 == idx) with
  | some q => some (false, q.2.2)
  | none => match GTl.find? (fun q => q.1 == o && q.2.1 == idx) with
    | some q => some (true, q.2.2)
    | none => none
theorem flk_F {o idx ci j : Nat} (h : flk o idx = some (false, ci, j)) : Cond.fieldLink (Rn o) idx (Rn ci) (Tn ci j).2.1 (Tn ci j).2.2.1 ∈ Wd ∧ ci < 8 ∧ j < Nn ci := by
  unfold flk at h
  split at h
  · rename_i q hq
    obtain ⟨q1, q2, q3, q4⟩ := q
    cases h
    have h1 := List.mem_of_find?_eq_some hq
    have h2 := List.find?_some hq
    simp only [Bool.and_eq_true, beq_iff_eq] at h2
    have h3 := FT_ok _ (List.mem_map_of_mem (f := fwd) h1)
    have h4 := List.all_eq_true.mp FT_lt _ h1
    simp only [Bool.and_eq_true, decide_eq_true_eq] at h4
    rw [← h2.1, ← h2.2]
    exact ⟨h3, h4.1, h4.2⟩
  · split at h <;> cases h
theorem flk_G {o idx ci j : Nat} (h : flk o idx = some (true, ci, j)) : Cond.fieldLinkNest (Rn o) idx (Rn ci) (Tn ci j).2.1 (Tn ci j).2.2.1 "SilverFleets" ∈ Nw ∧ ci < 8 ∧ j < Nn ci := by
  unfold flk at h
  split at h
  · cases h
  · split at h
    · rename_i q hq
      obtain ⟨q1, q2, q3, q4⟩ := q
      cases h
      have h1 := List.mem_of_find?_eq_some hq
      have h2 := List.find?_some hq
      simp only [Bool.and_eq_true, beq_iff_eq] at h2
      have h3 := GT_ok _ (List.mem_map_of_mem (f := gwd) h1)
      have h4 := List.all_eq_true.mp GT_lt _ h1
      simp only [Bool.and_eq_true, decide_eq_true_eq] at h4
      rw [← h2.1, ← h2.2]
      exact ⟨h3, h4.1, h4.2⟩
    · cases h
/-- a world's shape fits the classes -/
def fdOk (ci j : Nat) (fd : Nat × Nat) : Bool := match fd.1 with
  | 0 => true
  | 1 => decide (tyn ci j = .int) && !(Tn ci j).2.2.2
  | 2 => decide (tyn ci j = .long) && !(Tn ci j).2.2.2
  | 3 => decide (tyn ci j = .boolean) && !(Tn ci j).2.2.2
  | _ => false
def shOk (sh : (Nat × List (Nat × Nat)) ⊕ (Nat × Nat)) : Bool := match sh with
  | .inl o => decide (o.1 < 8) && decide (o.2.length = Nn o.1) && (o.2.mapIdx (fun j fd => fdOk o.1 j fd)).all id
  | .inr a => decide (a.1 < 3) && decide (a.2 < 65536)
def SOk (S : SH) : Prop := S.all shOk = true
theorem SOk.obj {S : SH} (h : SOk S) {k ci j : Nat} {fds : List (Nat × Nat)} {fd : Nat × Nat} (hk : S[k]? = some (.inl (ci, fds))) (hj : fds[j]? = some fd) : ci < 8 ∧ fds.length = Nn ci ∧ fdOk ci j fd = true := by
  have h1 := List.all_eq_true.mp h _ (List.mem_of_getElem? hk)
  simp only [shOk, Bool.and_eq_true, decide_eq_true_eq] at h1
  refine ⟨h1.1.1, h1.1.2, ?_⟩
  have h2 := List.all_eq_true.mp h1.2 (fdOk ci j fd) (List.mem_of_getElem? (i := j) (by rw [List.getElem?_mapIdx, hj]; rfl))
  exact h2
theorem SOk.arr {S : SH} (h : SOk S) {k e n : Nat} (hk : S[k]? = some (.inr (e, n))) : e < 3 ∧ n < 65536 := by
  have h1 := List.all_eq_true.mp h _ (List.mem_of_getElem? hk)
  simpa [shOk] using h1
theorem fdOk_ty {ci j : Nat} {fd : Nat × Nat} (h : fdOk ci j fd = true) : (fd.1 = 1 → tyn ci j = .int ∧ (Tn ci j).2.2.2 = false) ∧ (fd.1 = 2 → tyn ci j = .long ∧ (Tn ci j).2.2.2 = false) ∧ (fd.1 = 3 → tyn ci j = .boolean ∧ (Tn ci j).2.2.2 = false) := by
  obtain ⟨a, b⟩ := fd
  refine ⟨?_, ?_, ?_⟩ <;> intro e <;> dsimp only at e <;> subst e <;> simpa [fdOk] using h
theorem tyl_get {cA : Nat → ClassId} {e : Nat} (h : e < 3) : (tyl cA)[e]? = some (cA e, ety e) := by
  match e, h with
  | 0, _ => rfl
  | 1, _ => rfl
  | 2, _ => rfl
theorem SZ.at {S : SH} {ad : Nat → Nat} {sz sz' : Nat} {u U : State} {H H1 : Heap} (h : SZ S ad sz u H) (hvm : u.vm.Alike U.vm) (hq : ∀ a : Nat, a < H.size → ¬ AA S ad sz a → H1[a]? = H[a]?) (hs : sz ≤ sz') : SZ S ad sz' U H1 := fun k hk =>
  ⟨((((h k hk).1.kept hq).moved hvm).narrow (AA.le hs)), ((((h k hk).2.kept hq).moved hvm).narrow (AA.le hs))⟩
section AWR
variable {S : SH} {M : MI} {pc : Nat} {L : LV} {st : List Value} {I : II} {J : JJ} {G : II} {P : PP}
/-- entering a method -/
theorem amet_of {as : List Value} (hM : MOk M) (hl : as.length ≤ miX M) (hc : ∀ v ∈ as, v.category = 1) (h : AW S M 0 (as.map some ++ List.replicate (miX M - as.length) none) [] I J G P) : AMet S M as I J G P := by
  intro l D cA ad sz
  refine Met.ofW (cc := miB M) (maxL := miX M) (ret := miR M) hM.1 rfl ?_
  intro p e s m args below meth c s₁ B hml hv
  obtain ⟨rfl, rfl, hC, hP⟩ := hv
  have hts := atoms_spec (ws := wds M) B.pre
  have hown : s.vm.findClass (Rn (miO M)) = some m.cls := by rw [← hM.2.1]; exact findClass_of_methodNamed B.named
  have hsl : ∀ vs : List Value, (∀ v ∈ vs, v.category = 1) → (lg_sl vs).length = vs.length := by
    intro vs
    induction vs with
    | nil => intro _; rfl
    | cons v vs ih =>
      intro hv
      have h1 := hv v List.mem_cons_self
      have h2 := ih (fun x hx => hv x (List.mem_cons_of_mem _ hx))
      simp only [lg_sl, List.flatMap_cons] at h2 ⊢
      rw [List.length_append, h2, if_neg (by omega)]
      simp; omega
  have hcc : ∀ v ∈ as.map (con ad), v.category = 1 := by
    intro v hv
    obtain ⟨w, hw, rfl⟩ := List.mem_map.mp hv
    rw [con_cat]; exact hc w hw
  have hent := lv_entry (as.map (con ad)) (n := miX M) (by rw [hsl _ hcc]; simpa using hl)
  rw [lg_entry_eq]
  generalize hge : (lg_sl (as.map (con ad)) ++ List.replicate (miX M - (lg_sl (as.map (con ad))).length) Slot.unset).toArray = ls at hent ⊢
  have hargs : ∀ (vs : List Value) (i : Nat), (∀ v ∈ vs, v.category = 1) → ∀ (n : Nat) (v : Value), vs[n]? = some v → (i + n, v) ∈ lv_args i vs := by
    intro vs
    induction vs with
    | nil => intro i _ n v h; simp at h
    | cons w vs ih =>
      intro i hv n v h
      have h1 := hv w List.mem_cons_self
      unfold lv_args
      rw [if_neg (by omega)]
      cases n with
      | zero => simp at h; subst h; exact List.mem_cons_self
      | succ n =>
        have := ih (i + 1) (fun x hx => hv x (List.mem_cons_of_mem _ hx)) n v (by simpa using h)
        rw [show i + (n + 1) = i + 1 + n by omega]
        exact List.mem_cons_of_mem _ this
  have hlv : lvP ad ls (miX M) (as.map some ++ List.replicate (miX M - as.length) none) := by
    refine ⟨hent.1, hent.2.1, fun i v hi => ?_⟩
    rcases Nat.lt_or_ge i as.length with h1 | h1
    · rw [List.getElem?_append_left (by simpa using h1), List.getElem?_map] at hi
      cases hai : as[i]? with
      | none => rw [hai] at hi; cases hi
      | some w =>
        rw [hai] at hi
        cases hi
        have := hargs (as.map (con ad)) 0 hcc i (con ad v) (by rw [List.getElem?_map, hai]; rfl)
        rw [Nat.zero_add] at this
        exact hent.2.2 _ this
    · rw [List.getElem?_append_right (by simpa using h1)] at hi
      have := List.mem_of_getElem? hi
      simp [List.mem_replicate] at this
  exact h p l e s m (as.map (con ad)).toArray below meth c D cA ad s.heap [] ls ⟨B.exec, B.bytes, B.returns, hml, hown, fun w hw => hts w (List.mem_cons_of_mem _ hw), B.notSynchronized⟩ hC hP va_S.rf hlv
theorem aw_iconst {n : Int} (hd : decode (miB M) pc = .ok (.iconst n, 1)) (k : AW S M (pc + 1) L (.int (Int32.ofInt n) :: st) I J G P) : AW S M pc L (st) I J G P := by
  intro p l e s m args below meth c D cA ad H locs ls hM hC hP hS hl
  exact lv_iconst hM.1 hM.2.1 hd rfl (k _ _ _ _ _ _ _ _ _ _ _ _ _ _ _ hM hC hP hS hl)
theorem aw_bipush {n : Int} (hd : decode (miB M) pc = .ok (.bipush n, 2)) (k : AW S M (pc + 2) L (.int (Int8.ofInt n).toInt32 :: st) I J G P) : AW S M pc L (st) I J G P := by
  intro p l e s m args below meth c D cA ad H locs ls hM hC hP hS hl
  exact lv_bipush hM.1 hM.2.1 hd rfl (k _ _ _ _ _ _ _ _ _ _ _ _ _ _ _ hM hC hP hS hl)
theorem aw_sipush {n : Int} (hd : decode (miB M) pc = .ok (.sipush n, 3)) (k : AW S M (pc + 3) L (.int (Int16.ofInt n).toInt32 :: st) I J G P) : AW S M pc L (st) I J G P := by
  intro p l e s m args below meth c D cA ad H locs ls hM hC hP hS hl
  exact lv_sipush hM.1 hM.2.1 hd rfl (k _ _ _ _ _ _ _ _ _ _ _ _ _ _ _ hM hC hP hS hl)
theorem aw_lconst {n : Fin 2} (hd : decode (miB M) pc = .ok (.lconst n, 1)) (k : AW S M (pc + 1) L (.long (Int64.ofNat (n : Nat)) :: st) I J G P) : AW S M pc L (st) I J G P := by
  intro p l e s m args below meth c D cA ad H locs ls hM hC hP hS hl
  exact lv_lconst hM.1 hM.2.1 hd rfl (k _ _ _ _ _ _ _ _ _ _ _ _ _ _ _ hM hC hP hS hl)
theorem aw_ldc {idx : Nat} {v : Int32} (hv : (miO M, idx, v) ∈ CIl) (hd : decode (miB M) pc = .ok (.ldc idx, 2)) (k : AW S M (pc + 2) L (.int v :: st) I J G P) : AW S M pc L (st) I J G P := by
  intro p l e s m args below meth c D cA ad H locs ls hM hC hP hS hl
  exact lv_ldc hM.1 hM.2.1 hM.2.2.2.2.1 (hM.2.2.2.2.2.1 _ (CI_ok _ (List.mem_map_of_mem (f := fun q : Nat × Nat × Int32 => Cond.constant (Rn q.1) q.2.1 q.2.2) hv))) hd (k _ _ _ _ _ _ _ _ _ _ _ _ _ _ _ hM hC hP hS hl)
theorem aw_ldc2 {idx : Nat} {v : Int64} (hv : (miO M, idx, v) ∈ CLl) (hd : decode (miB M) pc = .ok (.ldc2_w idx, 3)) (k : AW S M (pc + 3) L (.long v :: st) I J G P) : AW S M pc L (st) I J G P := by
  intro p l e s m args below meth c D cA ad H locs ls hM hC hP hS hl
  exact lv_ldc2 hM.1 hM.2.1 hM.2.2.2.2.1 (hM.2.2.2.2.2.1 _ (CL_ok _ (List.mem_map_of_mem (f := fun q : Nat × Nat × Int64 => Cond.constantLong (Rn q.1) q.2.1 q.2.2) hv))) hd (k _ _ _ _ _ _ _ _ _ _ _ _ _ _ _ hM hC hP hS hl)
theorem aw_iload_n {n : Fin 4} {x : Int32} (hx : L[n.val]? = some (some (.int x))) (hd : decode (miB M) pc = .ok (.iload_n n, 1)) (k : AW S M (pc + 1) L (.int x :: st) I J G P) : AW S M pc L (st) I J G P := by
  intro p l e s m args below meth c D cA ad H locs ls hM hC hP hS hl
  exact lv_iload_n hM.1 hM.2.1 hd rfl (hl.get hx) (k _ _ _ _ _ _ _ _ _ _ _ _ _ _ _ hM hC hP hS hl)
theorem aw_iload {n : Nat} {x : Int32} (hx : L[n]? = some (some (.int x))) (hd : decode (miB M) pc = .ok (.iload n, 2)) (k : AW S M (pc + 2) L (.int x :: st) I J G P) : AW S M pc L (st) I J G P := by
  intro p l e s m args below meth c D cA ad H locs ls hM hC hP hS hl
  exact lv_iload hM.1 hM.2.1 hd (hl.get hx) (k _ _ _ _ _ _ _ _ _ _ _ _ _ _ _ hM hC hP hS hl)
theorem aw_lload_n {n : Fin 4} {x : Int64} (hx : L[n.val]? = some (some (.long x))) (hd : decode (miB M) pc = .ok (.lload_n n, 1)) (k : AW S M (pc + 1) L (.long x :: st) I J G P) : AW S M pc L (st) I J G P := by
  intro p l e s m args below meth c D cA ad H locs ls hM hC hP hS hl
  exact lv_lload_n hM.1 hM.2.1 hd rfl (hl.get hx) (k _ _ _ _ _ _ _ _ _ _ _ _ _ _ _ hM hC hP hS hl)
theorem aw_aload_n {n : Fin 4} {x : Nat} (hx : L[n.val]? = some (some (.ref x))) (hd : decode (miB M) pc = .ok (.aload_n n, 1)) (k : AW S M (pc + 1) L (.ref x :: st) I J G P) : AW S M pc L (st) I J G P := by
  intro p l e s m args below meth c D cA ad H locs ls hM hC hP hS hl
  exact lv_aload_n hM.1 hM.2.1 hd rfl (hl.get hx) (k _ _ _ _ _ _ _ _ _ _ _ _ _ _ _ hM hC hP hS hl)
theorem aw_aload {n : Nat} {x : Nat} (hx : L[n]? = some (some (.ref x))) (hd : decode (miB M) pc = .ok (.aload n, 2)) (k : AW S M (pc + 2) L (.ref x :: st) I J G P) : AW S M pc L (st) I J G P := by
  intro p l e s m args below meth c D cA ad H locs ls hM hC hP hS hl
  exact lv_aload hM.1 hM.2.1 hd (hl.get hx) (k _ _ _ _ _ _ _ _ _ _ _ _ _ _ _ hM hC hP hS hl)
theorem aw_istore_n {n : Fin 4} {x : Int32} (hn : n.val < miX M) (hd : decode (miB M) pc = .ok (.istore_n n, 1)) (k : AW S M (pc + 1) (st1 L n.val (.int x)) st I J G P) : AW S M pc L (.int x :: st) I J G P := by
  intro p l e s m args below meth c D cA ad H locs ls hM hC hP hS hl
  exact lv_istore_n hM.1 hM.2.1 hd rfl hl.has hn rfl (fun ls hl1 => k _ _ _ _ _ _ _ _ _ _ _ _ _ _ _ hM hC hP hS (lvP_1 hl hl1))
theorem aw_istore {n : Nat} {x : Int32} (hn : n < miX M) (hd : decode (miB M) pc = .ok (.istore n, 2)) (k : AW S M (pc + 2) (st1 L n (.int x)) st I J G P) : AW S M pc L (.int x :: st) I J G P := by
  intro p l e s m args below meth c D cA ad H locs ls hM hC hP hS hl
  exact lv_istore hM.1 hM.2.1 hd hl.has hn rfl (fun ls hl1 => k _ _ _ _ _ _ _ _ _ _ _ _ _ _ _ hM hC hP hS (lvP_1 hl hl1))
theorem aw_lstore_n {n : Fin 4} {x : Int64} (hn : n.val + 1 < miX M) (hd : decode (miB M) pc = .ok (.lstore_n n, 1)) (k : AW S M (pc + 1) (st2 L n.val (.long x)) st I J G P) : AW S M pc L (.long x :: st) I J G P := by
  intro p l e s m args below meth c D cA ad H locs ls hM hC hP hS hl
  exact lv_lstore_n hM.1 hM.2.1 hd rfl hl.has hn rfl (fun ls hl1 => k _ _ _ _ _ _ _ _ _ _ _ _ _ _ _ hM hC hP hS (lvP_2 hl hl1))
theorem aw_lstore {n : Nat} {x : Int64} (hn : n + 1 < miX M) (hd : decode (miB M) pc = .ok (.lstore n, 2)) (k : AW S M (pc + 2) (st2 L n (.long x)) st I J G P) : AW S M pc L (.long x :: st) I J G P := by
  intro p l e s m args below meth c D cA ad H locs ls hM hC hP hS hl
  exact lv_lstore hM.1 hM.2.1 hd hl.has hn rfl (fun ls hl1 => k _ _ _ _ _ _ _ _ _ _ _ _ _ _ _ hM hC hP hS (lvP_2 hl hl1))
theorem aw_astore_n {n : Fin 4} {x : Nat} (hn : n.val < miX M) (hd : decode (miB M) pc = .ok (.astore_n n, 1)) (k : AW S M (pc + 1) (st1 L n.val (.ref x)) st I J G P) : AW S M pc L (.ref x :: st) I J G P := by
  intro p l e s m args below meth c D cA ad H locs ls hM hC hP hS hl
  exact lv_astore_n hM.1 hM.2.1 hd rfl hl.has hn rfl (fun ls hl1 => k _ _ _ _ _ _ _ _ _ _ _ _ _ _ _ hM hC hP hS (lvP_1 hl hl1))
theorem aw_astore {n : Nat} {x : Nat} (hn : n < miX M) (hd : decode (miB M) pc = .ok (.astore n, 2)) (k : AW S M (pc + 2) (st1 L n (.ref x)) st I J G P) : AW S M pc L (.ref x :: st) I J G P := by
  intro p l e s m args below meth c D cA ad H locs ls hM hC hP hS hl
  exact lv_astore hM.1 hM.2.1 hd hl.has hn rfl (fun ls hl1 => k _ _ _ _ _ _ _ _ _ _ _ _ _ _ _ hM hC hP hS (lvP_1 hl hl1))
theorem lvl_at {ad : Nat → Nat} {nL : Nat} {L : LV} {n : Nat} {v : Value} (hn : n < nL) (h : L[n]? = some (some v)) : ∃ k : Nat, (lvl ad nL L)[k]? = some (n, con ad v) :=
  List.getElem?_of_mem (List.mem_filterMap.mpr ⟨n, List.mem_range.mpr hn, by rw [h]; rfl⟩)
theorem aw_iinc {i : Nat} {n : Int} {x : Int32} (hn : i < miX M) (hx : L[i]? = some (some (.int x))) (hd : decode (miB M) pc = .ok (.iinc i n, 3)) (k : AW S M (pc + 3) (st1 L i (.int (x + Int32.ofInt n))) st I J G P) : AW S M pc L st I J G P := by
  intro p l e s m args below meth c D cA ad H locs ls hM hC hP hS hl
  obtain ⟨j, hj⟩ := lvl_at (ad := ad) hn hx
  exact lv_iinc hM.1 hM.2.1 hd hl.has hj rfl hn rfl (fun ls hl1 => k _ _ _ _ _ _ _ _ _ _ _ _ _ _ _ hM hC hP hS (lvP_1 (v := .int (x + Int32.ofInt n)) hl hl1))
theorem aw_iadd {x y : Int32} (hd : decode (miB M) pc = .ok (.iadd, 1)) (k : AW S M (pc + 1) L (.int (x + y) :: st) I J G P) : AW S M pc L (.int y :: .int x :: st) I J G P := by
  intro p l e s m args below meth c D cA ad H locs ls hM hC hP hS hl
  exact lv_iadd hM.1 hM.2.1 hd (k _ _ _ _ _ _ _ _ _ _ _ _ _ _ _ hM hC hP hS hl)
theorem aw_isub {x y : Int32} (hd : decode (miB M) pc = .ok (.isub, 1)) (k : AW S M (pc + 1) L (.int (x - y) :: st) I J G P) : AW S M pc L (.int y :: .int x :: st) I J G P := by
  intro p l e s m args below meth c D cA ad H locs ls hM hC hP hS hl
  exact lv_isub hM.1 hM.2.1 hd (k _ _ _ _ _ _ _ _ _ _ _ _ _ _ _ hM hC hP hS hl)
theorem aw_imul {x y : Int32} (hd : decode (miB M) pc = .ok (.imul, 1)) (k : AW S M (pc + 1) L (.int (x * y) :: st) I J G P) : AW S M pc L (.int y :: .int x :: st) I J G P := by
  intro p l e s m args below meth c D cA ad H locs ls hM hC hP hS hl
  exact lv_imul hM.1 hM.2.1 hd (k _ _ _ _ _ _ _ _ _ _ _ _ _ _ _ hM hC hP hS hl)
theorem aw_iand {x y : Int32} (hd : decode (miB M) pc = .ok (.iand, 1)) (k : AW S M (pc + 1) L (.int (x &&& y) :: st) I J G P) : AW S M pc L (.int y :: .int x :: st) I J G P := by
  intro p l e s m args below meth c D cA ad H locs ls hM hC hP hS hl
  exact lv_iand hM.1 hM.2.1 hd (k _ _ _ _ _ _ _ _ _ _ _ _ _ _ _ hM hC hP hS hl)
theorem aw_ior {x y : Int32} (hd : decode (miB M) pc = .ok (.ior, 1)) (k : AW S M (pc + 1) L (.int (x ||| y) :: st) I J G P) : AW S M pc L (.int y :: .int x :: st) I J G P := by
  intro p l e s m args below meth c D cA ad H locs ls hM hC hP hS hl
  exact lv_ior hM.1 hM.2.1 hd (k _ _ _ _ _ _ _ _ _ _ _ _ _ _ _ hM hC hP hS hl)
theorem aw_ixor {x y : Int32} (hd : decode (miB M) pc = .ok (.ixor, 1)) (k : AW S M (pc + 1) L (.int (x ^^^ y) :: st) I J G P) : AW S M pc L (.int y :: .int x :: st) I J G P := by
  intro p l e s m args below meth c D cA ad H locs ls hM hC hP hS hl
  exact lv_ixor hM.1 hM.2.1 hd (k _ _ _ _ _ _ _ _ _ _ _ _ _ _ _ hM hC hP hS hl)
theorem aw_ishl {x y : Int32} (hd : decode (miB M) pc = .ok (.ishl, 1)) (k : AW S M (pc + 1) L (.int (x <<< (y &&& 31)) :: st) I J G P) : AW S M pc L (.int y :: .int x :: st) I J G P := by
  intro p l e s m args below meth c D cA ad H locs ls hM hC hP hS hl
  exact lv_ishl hM.1 hM.2.1 hd (k _ _ _ _ _ _ _ _ _ _ _ _ _ _ _ hM hC hP hS hl)
theorem aw_ishr {x y : Int32} (hd : decode (miB M) pc = .ok (.ishr, 1)) (k : AW S M (pc + 1) L (.int (x >>> (y &&& 31)) :: st) I J G P) : AW S M pc L (.int y :: .int x :: st) I J G P := by
  intro p l e s m args below meth c D cA ad H locs ls hM hC hP hS hl
  exact lv_ishr hM.1 hM.2.1 hd (k _ _ _ _ _ _ _ _ _ _ _ _ _ _ _ hM hC hP hS hl)
theorem aw_ladd {x y : Int64} (hd : decode (miB M) pc = .ok (.ladd, 1)) (k : AW S M (pc + 1) L (.long (x + y) :: st) I J G P) : AW S M pc L (.long y :: .long x :: st) I J G P := by
  intro p l e s m args below meth c D cA ad H locs ls hM hC hP hS hl
  exact lv_ladd hM.1 hM.2.1 hd (k _ _ _ _ _ _ _ _ _ _ _ _ _ _ _ hM hC hP hS hl)
theorem aw_lmul {x y : Int64} (hd : decode (miB M) pc = .ok (.lmul, 1)) (k : AW S M (pc + 1) L (.long (x * y) :: st) I J G P) : AW S M pc L (.long y :: .long x :: st) I J G P := by
  intro p l e s m args below meth c D cA ad H locs ls hM hC hP hS hl
  exact lv_lmul hM.1 hM.2.1 hd (k _ _ _ _ _ _ _ _ _ _ _ _ _ _ _ hM hC hP hS hl)
theorem aw_idiv {x y : Int32} (hy : ¬ y = 0) (hd : decode (miB M) pc = .ok (.idiv, 1)) (k : AW S M (pc + 1) L (.int (x / y) :: st) I J G P) : AW S M pc L (.int y :: .int x :: st) I J G P := by
  intro p l e s m args below meth c D cA ad H locs ls hM hC hP hS hl
  exact lv_idiv hM.1 hM.2.1 hd hy (k _ _ _ _ _ _ _ _ _ _ _ _ _ _ _ hM hC hP hS hl)
theorem aw_irem {x y : Int32} (hy : ¬ y = 0) (hd : decode (miB M) pc = .ok (.irem, 1)) (k : AW S M (pc + 1) L (.int (x - x / y * y) :: st) I J G P) : AW S M pc L (.int y :: .int x :: st) I J G P := by
  intro p l e s m args below meth c D cA ad H locs ls hM hC hP hS hl
  exact lv_irem hM.1 hM.2.1 hd hy (k _ _ _ _ _ _ _ _ _ _ _ _ _ _ _ hM hC hP hS hl)
theorem aw_ldiv {x y : Int64} (hy : ¬ y = 0) (hd : decode (miB M) pc = .ok (.ldiv, 1)) (k : AW S M (pc + 1) L (.long (x / y) :: st) I J G P) : AW S M pc L (.long y :: .long x :: st) I J G P := by
  intro p l e s m args below meth c D cA ad H locs ls hM hC hP hS hl
  exact lv_ldiv hM.1 hM.2.1 hd hy (k _ _ _ _ _ _ _ _ _ _ _ _ _ _ _ hM hC hP hS hl)
theorem aw_lrem {x y : Int64} (hy : ¬ y = 0) (hd : decode (miB M) pc = .ok (.lrem, 1)) (k : AW S M (pc + 1) L (.long (x - x / y * y) :: st) I J G P) : AW S M pc L (.long y :: .long x :: st) I J G P := by
  intro p l e s m args below meth c D cA ad H locs ls hM hC hP hS hl
  exact lv_lrem hM.1 hM.2.1 hd hy (k _ _ _ _ _ _ _ _ _ _ _ _ _ _ _ hM hC hP hS hl)
theorem aw_i2l {x : Int32} (hd : decode (miB M) pc = .ok (.i2l, 1)) (k : AW S M (pc + 1) L (.long x.toInt64 :: st) I J G P) : AW S M pc L (.int x :: st) I J G P := by
  intro p l e s m args below meth c D cA ad H locs ls hM hC hP hS hl
  exact lv_i2l hM.1 hM.2.1 hd rfl (k _ _ _ _ _ _ _ _ _ _ _ _ _ _ _ hM hC hP hS hl)
theorem aw_l2i {x : Int64} (hd : decode (miB M) pc = .ok (.l2i, 1)) (k : AW S M (pc + 1) L (.int x.toInt32 :: st) I J G P) : AW S M pc L (.long x :: st) I J G P := by
  intro p l e s m args below meth c D cA ad H locs ls hM hC hP hS hl
  exact lv_l2i hM.1 hM.2.1 hd rfl (k _ _ _ _ _ _ _ _ _ _ _ _ _ _ _ hM hC hP hS hl)
theorem aw_i2b {x : Int32} (hd : decode (miB M) pc = .ok (.i2b, 1)) (k : AW S M (pc + 1) L (.int x.toInt8.toInt32 :: st) I J G P) : AW S M pc L (.int x :: st) I J G P := by
  intro p l e s m args below meth c D cA ad H locs ls hM hC hP hS hl
  exact lv_i2b hM.1 hM.2.1 hd rfl (k _ _ _ _ _ _ _ _ _ _ _ _ _ _ _ hM hC hP hS hl)
theorem aw_lcmp {x y : Int64} (hd : decode (miB M) pc = .ok (.lcmp, 1)) (k : AW S M (pc + 1) L (.int (lg_cmp x y) :: st) I J G P) : AW S M pc L (.long y :: .long x :: st) I J G P := by
  intro p l e s m args below meth c D cA ad H locs ls hM hC hP hS hl
  exact W.lcmp hM.1 hM.2.1 hd (k _ _ _ _ _ _ _ _ _ _ _ _ _ _ _ hM hC hP hS hl)
theorem aw_dup {v : Value} (hv : v.category = 1) (hd : decode (miB M) pc = .ok (.dup, 1)) (k : AW S M (pc + 1) L (v :: v :: st) I J G P) : AW S M pc L (v :: st) I J G P := by
  intro p l e s m args below meth c D cA ad H locs ls hM hC hP hS hl
  exact lv_dup hM.1 hM.2.1 hd (by rw [con_cat]; exact hv) (k _ _ _ _ _ _ _ _ _ _ _ _ _ _ _ hM hC hP hS hl)
theorem aw_dup2 {v u : Value} (hv : v.category = 1) (hu : u.category = 1) (hd : decode (miB M) pc = .ok (.dup2, 1)) (k : AW S M (pc + 1) L (v :: u :: v :: u :: st) I J G P) : AW S M pc L (v :: u :: st) I J G P := by
  intro p l e s m args below meth c D cA ad H locs ls hM hC hP hS hl
  exact lv_dup2_11 hM.1 hM.2.1 hd (by rw [con_cat]; exact hv) (by rw [con_cat]; exact hu) (k _ _ _ _ _ _ _ _ _ _ _ _ _ _ _ hM hC hP hS hl)
theorem aw_pop {v : Value} (hv : v.category = 1) (hd : decode (miB M) pc = .ok (.pop, 1)) (k : AW S M (pc + 1) L (st) I J G P) : AW S M pc L (v :: st) I J G P := by
  intro p l e s m args below meth c D cA ad H locs ls hM hC hP hS hl
  exact lv_pop hM.1 hM.2.1 hd (by rw [con_cat]; exact hv) (k _ _ _ _ _ _ _ _ _ _ _ _ _ _ _ hM hC hP hS hl)
theorem aw_goto {off : Int} {tgt : Nat} (ht : (pc : Int) + off = (tgt : Int)) (hd : decode (miB M) pc = .ok (.goto off, 3)) (k : AW S M tgt L st I J G P) : AW S M pc L st I J G P := by
  intro p l e s m args below meth c D cA ad H locs ls hM hC hP hS hl
  exact lv_goto hM.1 hM.2.1 hd ht (k _ _ _ _ _ _ _ _ _ _ _ _ _ _ _ hM hC hP hS hl)
theorem aw_icmp_eq {x y : Int32} {off : Int} {tgt : Nat} (hd : decode (miB M) pc = .ok (.if_icmp .eq off, 3)) (ht : (pc : Int) + off = (tgt : Int)) (kt : x = y → AW S M tgt L st I J G P) (kf : ¬ x = y → AW S M (pc + 3) L st I J G P) : AW S M pc L (.int y :: .int x :: st) I J G P := by
  intro p l e s m args below meth c D cA ad H locs ls hM hC hP hS hl
  exact lv_icmp_eq hM.1 hM.2.1 hd ht (fun h => kt h _ _ _ _ _ _ _ _ _ _ _ _ _ _ _ hM hC hP hS hl) (fun h => kf h _ _ _ _ _ _ _ _ _ _ _ _ _ _ _ hM hC hP hS hl)
theorem aw_if_eq {x : Int32} {off : Int} {tgt : Nat} (hd : decode (miB M) pc = .ok (.ifCond .eq off, 3)) (ht : (pc : Int) + off = (tgt : Int)) (kt : x = 0 → AW S M tgt L st I J G P) (kf : ¬ x = 0 → AW S M (pc + 3) L st I J G P) : AW S M pc L (.int x :: st) I J G P := by
  intro p l e s m args below meth c D cA ad H locs ls hM hC hP hS hl
  exact lv_if_eq hM.1 hM.2.1 hd ht (fun h => kt h _ _ _ _ _ _ _ _ _ _ _ _ _ _ _ hM hC hP hS hl) (fun h => kf h _ _ _ _ _ _ _ _ _ _ _ _ _ _ _ hM hC hP hS hl)
theorem aw_icmp_ne {x y : Int32} {off : Int} {tgt : Nat} (hd : decode (miB M) pc = .ok (.if_icmp .ne off, 3)) (ht : (pc : Int) + off = (tgt : Int)) (kt : ¬ x = y → AW S M tgt L st I J G P) (kf : x = y → AW S M (pc + 3) L st I J G P) : AW S M pc L (.int y :: .int x :: st) I J G P := by
  intro p l e s m args below meth c D cA ad H locs ls hM hC hP hS hl
  exact lv_icmp_ne hM.1 hM.2.1 hd ht (fun h => kt h _ _ _ _ _ _ _ _ _ _ _ _ _ _ _ hM hC hP hS hl) (fun h => kf h _ _ _ _ _ _ _ _ _ _ _ _ _ _ _ hM hC hP hS hl)
theorem aw_if_ne {x : Int32} {off : Int} {tgt : Nat} (hd : decode (miB M) pc = .ok (.ifCond .ne off, 3)) (ht : (pc : Int) + off = (tgt : Int)) (kt : ¬ x = 0 → AW S M tgt L st I J G P) (kf : x = 0 → AW S M (pc + 3) L st I J G P) : AW S M pc L (.int x :: st) I J G P := by
  intro p l e s m args below meth c D cA ad H locs ls hM hC hP hS hl
  exact lv_if_ne hM.1 hM.2.1 hd ht (fun h => kt h _ _ _ _ _ _ _ _ _ _ _ _ _ _ _ hM hC hP hS hl) (fun h => kf h _ _ _ _ _ _ _ _ _ _ _ _ _ _ _ hM hC hP hS hl)
theorem aw_icmp_lt {x y : Int32} {off : Int} {tgt : Nat} (hd : decode (miB M) pc = .ok (.if_icmp .lt off, 3)) (ht : (pc : Int) + off = (tgt : Int)) (kt : x < y → AW S M tgt L st I J G P) (kf : ¬ x < y → AW S M (pc + 3) L st I J G P) : AW S M pc L (.int y :: .int x :: st) I J G P := by
  intro p l e s m args below meth c D cA ad H locs ls hM hC hP hS hl
  exact lv_icmp_lt hM.1 hM.2.1 hd ht (fun h => kt h _ _ _ _ _ _ _ _ _ _ _ _ _ _ _ hM hC hP hS hl) (fun h => kf h _ _ _ _ _ _ _ _ _ _ _ _ _ _ _ hM hC hP hS hl)
theorem aw_if_lt {x : Int32} {off : Int} {tgt : Nat} (hd : decode (miB M) pc = .ok (.ifCond .lt off, 3)) (ht : (pc : Int) + off = (tgt : Int)) (kt : x < 0 → AW S M tgt L st I J G P) (kf : ¬ x < 0 → AW S M (pc + 3) L st I J G P) : AW S M pc L (.int x :: st) I J G P := by
  intro p l e s m args below meth c D cA ad H locs ls hM hC hP hS hl
  exact lv_if_lt hM.1 hM.2.1 hd ht (fun h => kt h _ _ _ _ _ _ _ _ _ _ _ _ _ _ _ hM hC hP hS hl) (fun h => kf h _ _ _ _ _ _ _ _ _ _ _ _ _ _ _ hM hC hP hS hl)
theorem aw_icmp_ge {x y : Int32} {off : Int} {tgt : Nat} (hd : decode (miB M) pc = .ok (.if_icmp .ge off, 3)) (ht : (pc : Int) + off = (tgt : Int)) (kt : y ≤ x → AW S M tgt L st I J G P) (kf : ¬ y ≤ x → AW S M (pc + 3) L st I J G P) : AW S M pc L (.int y :: .int x :: st) I J G P := by
  intro p l e s m args below meth c D cA ad H locs ls hM hC hP hS hl
  exact lv_icmp_ge hM.1 hM.2.1 hd ht (fun h => kt h _ _ _ _ _ _ _ _ _ _ _ _ _ _ _ hM hC hP hS hl) (fun h => kf h _ _ _ _ _ _ _ _ _ _ _ _ _ _ _ hM hC hP hS hl)
theorem aw_if_ge {x : Int32} {off : Int} {tgt : Nat} (hd : decode (miB M) pc = .ok (.ifCond .ge off, 3)) (ht : (pc : Int) + off = (tgt : Int)) (kt : 0 ≤ x → AW S M tgt L st I J G P) (kf : ¬ 0 ≤ x → AW S M (pc + 3) L st I J G P) : AW S M pc L (.int x :: st) I J G P := by
  intro p l e s m args below meth c D cA ad H locs ls hM hC hP hS hl
  exact lv_if_ge hM.1 hM.2.1 hd ht (fun h => kt h _ _ _ _ _ _ _ _ _ _ _ _ _ _ _ hM hC hP hS hl) (fun h => kf h _ _ _ _ _ _ _ _ _ _ _ _ _ _ _ hM hC hP hS hl)
theorem aw_icmp_gt {x y : Int32} {off : Int} {tgt : Nat} (hd : decode (miB M) pc = .ok (.if_icmp .gt off, 3)) (ht : (pc : Int) + off = (tgt : Int)) (kt : y < x → AW S M tgt L st I J G P) (kf : ¬ y < x → AW S M (pc + 3) L st I J G P) : AW S M pc L (.int y :: .int x :: st) I J G P := by
  intro p l e s m args below meth c D cA ad H locs ls hM hC hP hS hl
  exact lv_icmp_gt hM.1 hM.2.1 hd ht (fun h => kt h _ _ _ _ _ _ _ _ _ _ _ _ _ _ _ hM hC hP hS hl) (fun h => kf h _ _ _ _ _ _ _ _ _ _ _ _ _ _ _ hM hC hP hS hl)
theorem aw_if_gt {x : Int32} {off : Int} {tgt : Nat} (hd : decode (miB M) pc = .ok (.ifCond .gt off, 3)) (ht : (pc : Int) + off = (tgt : Int)) (kt : 0 < x → AW S M tgt L st I J G P) (kf : ¬ 0 < x → AW S M (pc + 3) L st I J G P) : AW S M pc L (.int x :: st) I J G P := by
  intro p l e s m args below meth c D cA ad H locs ls hM hC hP hS hl
  exact lv_if_gt hM.1 hM.2.1 hd ht (fun h => kt h _ _ _ _ _ _ _ _ _ _ _ _ _ _ _ hM hC hP hS hl) (fun h => kf h _ _ _ _ _ _ _ _ _ _ _ _ _ _ _ hM hC hP hS hl)
theorem aw_icmp_le {x y : Int32} {off : Int} {tgt : Nat} (hd : decode (miB M) pc = .ok (.if_icmp .le off, 3)) (ht : (pc : Int) + off = (tgt : Int)) (kt : x ≤ y → AW S M tgt L st I J G P) (kf : ¬ x ≤ y → AW S M (pc + 3) L st I J G P) : AW S M pc L (.int y :: .int x :: st) I J G P := by
  intro p l e s m args below meth c D cA ad H locs ls hM hC hP hS hl
  exact lv_icmp_le hM.1 hM.2.1 hd ht (fun h => kt h _ _ _ _ _ _ _ _ _ _ _ _ _ _ _ hM hC hP hS hl) (fun h => kf h _ _ _ _ _ _ _ _ _ _ _ _ _ _ _ hM hC hP hS hl)
theorem aw_if_le {x : Int32} {off : Int} {tgt : Nat} (hd : decode (miB M) pc = .ok (.ifCond .le off, 3)) (ht : (pc : Int) + off = (tgt : Int)) (kt : x ≤ 0 → AW S M tgt L st I J G P) (kf : ¬ x ≤ 0 → AW S M (pc + 3) L st I J G P) : AW S M pc L (.int x :: st) I J G P := by
  intro p l e s m args below meth c D cA ad H locs ls hM hC hP hS hl
  exact lv_if_le hM.1 hM.2.1 hd ht (fun h => kt h _ _ _ _ _ _ _ _ _ _ _ _ _ _ _ hM hC hP hS hl) (fun h => kf h _ _ _ _ _ _ _ _ _ _ _ _ _ _ _ hM hC hP hS hl)
end AWR
