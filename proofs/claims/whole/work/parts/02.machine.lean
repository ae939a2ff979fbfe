/-! THE ABSTRACT MACHINE: a fixed world of cells (SH), whose refs are the cells' numbers; numbers in fields (I, J) and in arrays (G) -/
abbrev SH : Type := List ((Nat × List (Nat × Nat)) ⊕ (Nat × Nat))
abbrev II : Type := Nat → Nat → Int32
abbrev JJ : Type := Nat → Nat → Int64
abbrev LV : Type := List (Option Value)
abbrev PP : Type := Option Value → II → JJ → II → Prop
def up2 {α : Type} (f : Nat → Nat → α) (a b : Nat) (v : α) : Nat → Nat → α := fun x y => if x = a then (if y = b then v else f x y) else f x y
def ety (k : Nat) : FieldType := match k with
  | 0 => .int
  | 1 => .byte
  | _ => .boolean
/-- a field: (0, k) the cell k; (1, _) an int; (2, _) a long; (3, _) a boolean -/
def fdv (I : II) (J : JJ) (k j : Nat) (fd : Nat × Nat) : Value := match fd.1 with
  | 0 => .ref fd.2
  | 2 => .long (J k j)
  | _ => .int (I k j)
def con (ad : Nat → Nat) (v : Value) : Value := match v with
  | .ref k => .ref (ad k)
  | w => w
def cellOf (cA : Nat → ClassId) (ad : Nat → Nat) (I : II) (J : JJ) (G : II) (k : Nat) (sh : (Nat × List (Nat × Nat)) ⊕ (Nat × Nat)) : Nat × va_E := match sh with
  | .inl o => (ad k, .inr (o.1, o.2.mapIdx (fun j fd => con ad (fdv I J k j fd))))
  | .inr a => (ad k, .inl (cA a.1, a.2, .inl (G k)))
def wrl (S : SH) (cA : Nat → ClassId) (ad : Nat → Nat) (I : II) (J : JJ) (G : II) : va_W := S.mapIdx (fun k sh => cellOf cA ad I J G k sh)
theorem wrl_get {S : SH} {cA : Nat → ClassId} {ad : Nat → Nat} {I : II} {J : JJ} {G : II} {k : Nat} {sh : (Nat × List (Nat × Nat)) ⊕ (Nat × Nat)} (h : S[k]? = some sh) : (wrl S cA ad I J G)[k]? = some (cellOf cA ad I J G k sh) := by
  simp [wrl, List.getElem?_mapIdx, h]
theorem wrl_len {S : SH} {cA : Nat → ClassId} {ad : Nat → Nat} {I : II} {J : JJ} {G : II} : (wrl S cA ad I J G).length = S.length := by simp [wrl]
theorem cellOf_1 {cA : Nat → ClassId} {ad : Nat → Nat} {I : II} {J : JJ} {G : II} {k : Nat} (sh : (Nat × List (Nat × Nat)) ⊕ (Nat × Nat)) : (cellOf cA ad I J G k sh).1 = ad k := by
  cases sh <;> rfl
/-- which cells are the world's own, or new -/
def AA (S : SH) (ad : Nat → Nat) (sz : Nat) : Nat → Prop := fun q => (∃ k, k < S.length ∧ q = ad k) ∨ sz ≤ q
def AdI (S : SH) (ad : Nat → Nat) : Prop := ∀ i j, i < S.length → j < S.length → ad i = ad j → i = j
theorem wrl_at {S : SH} {cA : Nat → ClassId} {ad : Nat → Nat} {I : II} {J : JJ} {G : II} {k : Nat} {q : Nat × va_E} (h : (wrl S cA ad I J G)[k]? = some q) : k < S.length ∧ q.1 = ad k := by
  have hk : k < S.length := by
    have := (List.getElem?_eq_some_iff.mp h).1
    rwa [wrl_len] at this
  refine ⟨hk, ?_⟩
  have h2 := wrl_get (cA := cA) (ad := ad) (I := I) (J := J) (G := G) (List.getElem?_eq_getElem hk)
  rw [h2] at h
  cases h
  exact cellOf_1 _
theorem AdI.D {S : SH} {cA : Nat → ClassId} {ad : Nat → Nat} {I : II} {J : JJ} {G : II} {sz : Nat} (h : AdI S ad) : va_D (AA S ad sz) (wrl S cA ad I J G) := by
  refine ⟨fun i j p q hi hj hpq => ?_, fun k q hk => ?_⟩
  · obtain ⟨a1, a2⟩ := wrl_at hi
    obtain ⟨b1, b2⟩ := wrl_at hj
    exact h i j a1 b1 (by rw [← a2, ← b2]; exact hpq)
  · obtain ⟨a1, a2⟩ := wrl_at hk
    exact Or.inl ⟨k, a1, a2⟩
theorem AA.le {S : SH} {ad : Nat → Nat} {a b : Nat} (h : a ≤ b) : ∀ q, AA S ad b q → AA S ad a q := fun q hq => hq.elim Or.inl (fun g => Or.inr (Nat.le_trans h g))
/-- an int or boolean field is written -/
theorem wrl_setI {S : SH} {cA : Nat → ClassId} {ad : Nat → Nat} {I : II} {J : JJ} {G : II} {k j ci : Nat} {fds : List (Nat × Nat)} {fd : Nat × Nat} {v : Int32} (h : S[k]? = some (.inl (ci, fds))) (hj : fds[j]? = some fd) (h0 : fd.1 ≠ 0) (h2 : fd.1 ≠ 2) :
    (wrl S cA ad I J G).set k (ad k, .inr (ci, (fds.mapIdx (fun j fd => con ad (fdv I J k j fd))).set j (.int v))) = wrl S cA ad (up2 I k j v) J G := by
  refine List.ext_getElem? (fun n => ?_)
  rw [List.getElem?_set, wrl_len]
  by_cases hn : k = n
  · subst hn
    have hl : k < S.length := (List.getElem?_eq_some_iff.mp h).1
    rw [if_pos rfl, if_pos hl, wrl_get h]
    show some (ad k, _) = some (ad k, _)
    refine congrArg some (congrArg (Prod.mk (ad k)) (congrArg Sum.inr (congrArg (Prod.mk ci) ?_)))
    refine List.ext_getElem? (fun i => ?_)
    rw [List.getElem?_set]
    simp only [List.getElem?_mapIdx, List.length_mapIdx]
    by_cases hi : j = i
    · subst hi
      have hjl : j < fds.length := (List.getElem?_eq_some_iff.mp hj).1
      rw [if_pos rfl, if_pos hjl, hj]
      obtain ⟨f1, f2⟩ := fd
      match f1, h0, h2 with
      | 1, _, _ => simp [fdv, con, up2]
      | n + 3, _, _ => simp [fdv, con, up2]
    · rw [if_neg hi]
      cases hf : fds[i]? with
      | none => rfl
      | some g =>
        obtain ⟨g1, g2⟩ := g
        have hne : ¬ i = j := fun e => hi e.symm
        match g1 with
        | 0 => simp [fdv, con]
        | 1 => simp [fdv, con, up2, hne]
        | 2 => simp [fdv, con]
        | n + 3 => simp [fdv, con, up2, hne]
  · rw [if_neg hn]
    simp only [wrl, List.getElem?_mapIdx]
    cases hs : S[n]? with
    | none => rfl
    | some sh =>
      have hne : ¬ n = k := fun e => hn e.symm
      cases sh with
      | inr a => rfl
      | inl o =>
        simp only [Option.map_some, cellOf]
        refine congrArg some (congrArg (Prod.mk (ad n)) (congrArg Sum.inr (congrArg (Prod.mk o.1) ?_)))
        refine List.ext_getElem? (fun i => ?_)
        simp only [List.getElem?_mapIdx]
        cases hf : o.2[i]? with
        | none => rfl
        | some g =>
          obtain ⟨g1, g2⟩ := g
          match g1 with
          | 0 => simp [fdv, con]
          | 1 => simp [fdv, con, up2, hne]
          | 2 => simp [fdv, con]
          | n + 3 => simp [fdv, con, up2, hne]
theorem wrl_setJ {S : SH} {cA : Nat → ClassId} {ad : Nat → Nat} {I : II} {J : JJ} {G : II} {k j ci : Nat} {fds : List (Nat × Nat)} {fd : Nat × Nat} {v : Int64} (h : S[k]? = some (.inl (ci, fds))) (hj : fds[j]? = some fd) (h2 : fd.1 = 2) :
    (wrl S cA ad I J G).set k (ad k, .inr (ci, (fds.mapIdx (fun j fd => con ad (fdv I J k j fd))).set j (.long v))) = wrl S cA ad I (up2 J k j v) G := by
  refine List.ext_getElem? (fun n => ?_)
  rw [List.getElem?_set, wrl_len]
  by_cases hn : k = n
  · subst hn
    have hl : k < S.length := (List.getElem?_eq_some_iff.mp h).1
    rw [if_pos rfl, if_pos hl, wrl_get h]
    show some (ad k, _) = some (ad k, _)
    refine congrArg some (congrArg (Prod.mk (ad k)) (congrArg Sum.inr (congrArg (Prod.mk ci) ?_)))
    refine List.ext_getElem? (fun i => ?_)
    rw [List.getElem?_set]
    simp only [List.getElem?_mapIdx, List.length_mapIdx]
    by_cases hi : j = i
    · subst hi
      have hjl : j < fds.length := (List.getElem?_eq_some_iff.mp hj).1
      rw [if_pos rfl, if_pos hjl, hj]
      obtain ⟨f1, f2⟩ := fd
      dsimp only at h2
      subst h2
      simp [fdv, con, up2]
    · rw [if_neg hi]
      cases hf : fds[i]? with
      | none => rfl
      | some g =>
        obtain ⟨g1, g2⟩ := g
        have hne : ¬ i = j := fun e => hi e.symm
        match g1 with
        | 0 => simp [fdv, con]
        | 1 => simp [fdv, con]
        | 2 => simp [fdv, con, up2, hne]
        | n + 3 => simp [fdv, con]
  · rw [if_neg hn]
    simp only [wrl, List.getElem?_mapIdx]
    cases hs : S[n]? with
    | none => rfl
    | some sh =>
      have hne : ¬ n = k := fun e => hn e.symm
      cases sh with
      | inr a => rfl
      | inl o =>
        simp only [Option.map_some, cellOf]
        refine congrArg some (congrArg (Prod.mk (ad n)) (congrArg Sum.inr (congrArg (Prod.mk o.1) ?_)))
        refine List.ext_getElem? (fun i => ?_)
        simp only [List.getElem?_mapIdx]
        cases hf : o.2[i]? with
        | none => rfl
        | some g =>
          obtain ⟨g1, g2⟩ := g
          match g1 with
          | 0 => simp [fdv, con]
          | 1 => simp [fdv, con]
          | 2 => simp [fdv, con, up2, hne]
          | n + 3 => simp [fdv, con]
theorem wrl_setG {S : SH} {cA : Nat → ClassId} {ad : Nat → Nat} {I : II} {J : JJ} {G : II} {k : Nat} {a : Nat × Nat} {f : Nat → Int32} (h : S[k]? = some (.inr a)) :
    (wrl S cA ad I J G).set k (ad k, .inl (cA a.1, a.2, .inl f)) = wrl S cA ad I J (va_up G k f) := by
  refine List.ext_getElem? (fun n => ?_)
  rw [List.getElem?_set, wrl_len]
  by_cases hn : k = n
  · subst hn
    have hl : k < S.length := (List.getElem?_eq_some_iff.mp h).1
    rw [if_pos rfl, if_pos hl, wrl_get h]
    simp [cellOf, va_up]
  · rw [if_neg hn]
    simp only [wrl, List.getElem?_mapIdx]
    cases hs : S[n]? with
    | none => rfl
    | some sh =>
      have hne : ¬ n = k := fun e => hn e.symm
      cases sh with
      | inr a => simp [cellOf, va_up, hne]
      | inl o => rfl
theorem con_cat (ad : Nat → Nat) (v : Value) : (con ad v).category = v.category := by cases v <;> rfl
/-- the frame's locals, by their places -/
def lvP (ad : Nat → Nat) (ls : Array Slot) (nL : Nat) (L : LV) : Prop := ls.size = nL ∧ lv_wf ls ∧ ∀ (i : Nat) (v : Value), L[i]? = some (some v) → ls[i]? = some (.val (con ad v))
def isTwo (o : Option (Option Value)) : Bool := match o with
  | some (some (.long _)) => true
  | some (some (.double _)) => true
  | _ => false
/-- a two-slot value just ahead of the place i is lost when i is written -/
def lose (L : LV) (i : Nat) : LV := match i with
  | 0 => L
  | j + 1 => if isTwo L[j]? = true then L.set j none else L
def st1 (L : LV) (i : Nat) (v : Value) : LV := (lose L i).set i (some v)
def st2 (L : LV) (i : Nat) (v : Value) : LV := ((lose L i).set (i + 1) none).set i (some v)
theorem isTwo_of {L : LV} {j : Nat} {v : Value} (h : L[j]? = some (some v)) (hc : v.category = 2) : isTwo L[j]? = true := by
  rw [h]
  cases v <;> first | rfl | (simp [Value.category] at hc)
theorem lose_sub {L : LV} {i n : Nat} {v : Value} (h : (lose L i)[n]? = some (some v)) : L[n]? = some (some v) ∧ (n + 1 = i → v.category ≠ 2) := by
  unfold lose at h
  cases i with
  | zero => exact ⟨h, fun e => absurd e (by omega)⟩
  | succ j =>
    dsimp only at h
    by_cases ht : isTwo L[j]? = true
    · rw [if_pos ht, List.getElem?_set] at h
      by_cases hj : j = n
      · rw [if_pos hj] at h
        split at h <;> simp at h
      · rw [if_neg hj] at h
        exact ⟨h, fun e => absurd e (by omega)⟩
    · rw [if_neg ht] at h
      refine ⟨h, fun e hc => ht ?_⟩
      have : n = j := by omega
      subst this
      exact isTwo_of h hc
def lvl (ad : Nat → Nat) (nL : Nat) (L : LV) : List (Nat × Value) := (List.range nL).filterMap (fun n => (L[n]?.join).map (fun w => (n, con ad w)))
theorem lvP.has {ad : Nat → Nat} {ls : Array Slot} {nL : Nat} {L : LV} (h : lvP ad ls nL L) : lv_has ls nL (lvl ad nL L) := by
  obtain ⟨h1, h2, h3⟩ := h
  refine ⟨h1, h2, fun q hq => ?_⟩
  obtain ⟨n, -, hn⟩ := List.mem_filterMap.mp hq
  cases hw : L[n]? with
  | none => rw [hw] at hn; cases hn
  | some o =>
    cases o with
    | none => rw [hw] at hn; cases hn
    | some w =>
      rw [hw] at hn
      cases hn
      exact h3 n w hw
theorem lvP_1 {ad : Nat → Nat} {ls ls' : Array Slot} {nL : Nat} {L : LV} {i : Nat} {v : Value} (h : lvP ad ls nL L) (h' : lv_has ls' nL ((i, con ad v) :: (lvl ad nL L).filter (fun q => !(q.1 == i) && !(q.1 + 1 == i && q.2.category == 2)))) : lvP ad ls' nL (st1 L i v) := by
  obtain ⟨h1, h2, h3⟩ := h
  obtain ⟨e2, e3, e4⟩ := h'
  refine ⟨e2, e3, fun n w hw => ?_⟩
  unfold st1 at hw
  rw [List.getElem?_set] at hw
  by_cases hn : i = n
  · subst hn
    rw [if_pos rfl] at hw
    split at hw
    · cases hw
      exact e4 _ List.mem_cons_self
    · cases hw
  · rw [if_neg hn] at hw
    obtain ⟨g1, g2⟩ := lose_sub hw
    have hlt : n < ls.size := by
      have := h3 n w g1
      exact (Array.getElem?_eq_some_iff.mp this).1
    refine e4 (n, con ad w) (List.mem_cons_of_mem _ (List.mem_filter.mpr ⟨List.mem_filterMap.mpr ⟨n, List.mem_range.mpr (by omega), by rw [g1]; rfl⟩, ?_⟩))
    simp only [con_cat, Bool.and_eq_true, Bool.not_eq_true', beq_eq_false_iff_ne, Bool.and_eq_false_imp, beq_iff_eq]
    exact ⟨fun e => hn e.symm, fun e => g2 e⟩
theorem lvP_2 {ad : Nat → Nat} {ls ls' : Array Slot} {nL : Nat} {L : LV} {i : Nat} {v : Value} (h : lvP ad ls nL L) (h' : lv_has ls' nL ((i, con ad v) :: (lvl ad nL L).filter (fun q => !(q.1 == i) && (!(q.1 == i + 1) && !(q.1 + 1 == i && q.2.category == 2))))) : lvP ad ls' nL (st2 L i v) := by
  obtain ⟨h1, h2, h3⟩ := h
  obtain ⟨e2, e3, e4⟩ := h'
  refine ⟨e2, e3, fun n w hw => ?_⟩
  unfold st2 at hw
  rw [List.getElem?_set] at hw
  by_cases hn : i = n
  · subst hn
    rw [if_pos rfl] at hw
    split at hw
    · cases hw
      exact e4 _ List.mem_cons_self
    · cases hw
  · rw [if_neg hn, List.getElem?_set] at hw
    by_cases hn2 : i + 1 = n
    · rw [if_pos hn2] at hw
      split at hw <;> simp at hw
    · rw [if_neg hn2] at hw
      obtain ⟨g1, g2⟩ := lose_sub hw
      have hlt : n < ls.size := by
        have := h3 n w g1
        exact (Array.getElem?_eq_some_iff.mp this).1
      refine e4 (n, con ad w) (List.mem_cons_of_mem _ (List.mem_filter.mpr ⟨List.mem_filterMap.mpr ⟨n, List.mem_range.mpr (by omega), by rw [g1]; rfl⟩, ?_⟩))
      simp only [con_cat, Bool.and_eq_true, Bool.not_eq_true', beq_eq_false_iff_ne, Bool.and_eq_false_imp, beq_iff_eq]
      exact ⟨fun e => hn e.symm, fun e => hn2 e.symm, fun e => g2 e⟩
theorem lvP.get {ad : Nat → Nat} {ls : Array Slot} {nL : Nat} {L : LV} {i : Nat} {v : Value} (h : lvP ad ls nL L) (hi : L[i]? = some (some v)) : ls[i]? = some (.val (con ad v)) := h.2.2 i v hi
