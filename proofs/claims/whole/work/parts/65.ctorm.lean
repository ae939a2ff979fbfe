/-! the reference's constructor; the worlds as lists -/
def mapL {α β : Type} (g : Nat → α → β) : Nat → List α → List β
  | _, [] => []
  | n, x :: r => g n x :: mapL g (n + 1) r
theorem mapL_eq {α β : Type} (g : Nat → α → β) : ∀ (l : List α) (n : Nat), l.mapIdx (fun i x => g (i + n) x) = mapL g n l := by
  intro l
  induction l with
  | nil => intro n; rfl
  | cons x r ih =>
    intro n
    rw [List.mapIdx_cons]
    show g (0 + n) x :: _ = g n x :: mapL g (n + 1) r
    rw [Nat.zero_add, ← ih (n + 1)]
    congr 1
    refine congrArg (fun f => List.mapIdx f r) ?_
    funext i y
    rw [Nat.add_assoc, Nat.add_comm 1 n]
def cellL (cA : Nat → ClassId) (ad : Nat → Nat) (I : II) (J : JJ) (G : II) (k : Nat) (sh : (Nat × List (Nat × Nat)) ⊕ (Nat × Nat)) : Nat × va_E := match sh with
  | .inl o => (ad k, .inr (o.1, mapL (fun j fd => con ad (fdv I J k j fd)) 0 o.2))
  | .inr a => (ad k, .inl (cA a.1, a.2, .inl (G k)))
theorem wrl_L (S : SH) (cA : Nat → ClassId) (ad : Nat → Nat) (I : II) (J : JJ) (G : II) : wrl S cA ad I J G = mapL (cellL cA ad I J G) 0 S := by
  rw [← mapL_eq]
  show S.mapIdx (fun k sh => cellOf cA ad I J G k sh) = _
  refine congrArg (fun f => List.mapIdx f S) ?_
  funext k sh
  cases sh with
  | inr a => rfl
  | inl q =>
    show (ad k, Sum.inr (q.1, _)) = (ad k, Sum.inr (q.1, _))
    rw [← mapL_eq]
    rfl
/-- what a new reference is -/
def mNew (I : II) (J : JJ) (G : II) : Prop := I 0 2 = nI 0 ∧ J 0 0 = 0 ∧ G 2 0 = nI 0 ∧ G 5 0 = nI 0 ∧ G 10 0 = nI 2 ∧ (∀ j, j < 18 → G 11 j = nI 0) ∧ G 11 18 = nI 0 ∧ G 12 0 = nI 0 ∧ G 12 1 = nI 0 ∧ ∀ i, G 1 i = 0
theorem wM_eq {cA : Nat → ClassId} {a q1 q2 q3 q4 q5 q6 q7 q8 q9 q10 q11 q12 q13 q14 : Nat} : [(a, .inr (7, [.long 0, .ref q1, .int 0, .ref q2, .ref q3, .ref q4, .ref q5, .ref q6, .ref q7, .ref q8, .ref q9, .ref q10, .int 0, .int 0, .int 0, .int 0, .int 0, .int 0, .ref q11, .ref q12, .ref q13, .ref q14])), (q1, .inl (cA 1, 180, .inl (fun _ => 0))), (q2, .inl (cA 0, 2, .inl (fun _ => 0))), (q3, .inl (cA 0, 24, .inl (fun _ => 0))), (q4, .inl (cA 0, 24, .inl (fun _ => 0))), (q5, .inl (cA 0, 2, .inl (fun _ => 0))), (q6, .inl (cA 0, 5, .inl (fun _ => 0))), (q7, .inl (cA 0, 5, .inl (fun _ => 0))), (q8, .inl (cA 0, 10, .inl (fun _ => 0))), (q9, .inl (cA 0, 10, .inl (fun _ => 0))), (q10, .inl (cA 0, 2, .inl (fun _ => 0))), (q11, .inl (cA 0, 597, .inl (fun _ => 0))), (q12, .inl (cA 2, 2, .inl (fun _ => 0))), (q13, .inl (cA 0, 448, .inl (fun _ => 0))), (q14, .inl (cA 0, 448, .inl (fun _ => 0)))] = wrl SM cA (fun k => [a, q1, q2, q3, q4, q5, q6, q7, q8, q9, q10, q11, q12, q13, q14].getD k 0) (fun _ _ => 0) (fun _ _ => 0) (fun _ _ => 0) := by
  rw [wrl_L]
  rfl
set_option maxHeartbeats 4000000 in
set_option maxRecDepth 20000 in
theorem i_X7 (a : Nat) : CMet mX7_init 14 1759 a 7 [.long 0, .null, .int 0, .null, .null, .null, .null, .null, .null, .null, .null, .null, .int 0, .int 0, .int 0, .int 0, .int 0, .int 0, .null, .null, .null, .null] [] (fun cA ws => ∃ (a1 : Nat → Nat) (I : II) (J : JJ) (G : II), a1 0 = a ∧ ws = wrl SM cA a1 I J G ∧ mNew I J G) := by
  refine cmet_en oX7_init rfl rfl (L := [some (.ref a)]) rfl (fun cA => ?_)
  refine cw_aload rfl (oX7_init.dec rfl) ?_
  refine cw_obj wO_7 rfl (oX7_init.dec rfl) ?_
  refine cw_aload rfl (oX7_init.dec rfl) ?_
  refine cw_sipush (v := nI 180) (by decide) (oX7_init.dec rfl) ?_
  refine cw_newa (atype := .byte) (e := 1) (N := 180) (by decide) rfl rfl (by decide) arrW1 rfl rfl (oX7_init.dec rfl) (fun q1 => ?_)
  refine cw_putF 0 (j := 1) (ws' := [(a, .inr (7, [.long 0, .ref q1, .int 0, .null, .null, .null, .null, .null, .null, .null, .null, .null, .int 0, .int 0, .int 0, .int 0, .int 0, .int 0, .null, .null, .null, .null])), (q1, .inl (cA 1, 180, .inl (fun _ => 0)))]) rfl rfl rfl rfl rfl rfl (Nat.le_of_ble_eq_true rfl) rfl (oX7_init.dec rfl) ?_
  refine cw_aload rfl (oX7_init.dec rfl) ?_
  refine cw_iconst (v := nI 2) (by decide) (oX7_init.dec rfl) ?_
  refine cw_newa (atype := .int) (e := 0) (N := 2) (by decide) rfl rfl (by decide) arrW0 rfl rfl (oX7_init.dec rfl) (fun q2 => ?_)
  refine cw_putF 0 (j := 3) (ws' := [(a, .inr (7, [.long 0, .ref q1, .int 0, .ref q2, .null, .null, .null, .null, .null, .null, .null, .null, .int 0, .int 0, .int 0, .int 0, .int 0, .int 0, .null, .null, .null, .null])), (q1, .inl (cA 1, 180, .inl (fun _ => 0))), (q2, .inl (cA 0, 2, .inl (fun _ => 0)))]) rfl rfl rfl rfl rfl rfl (Nat.le_of_ble_eq_true rfl) rfl (oX7_init.dec rfl) ?_
  refine cw_aload rfl (oX7_init.dec rfl) ?_
  refine cw_bipush (v := nI 24) (by decide) (oX7_init.dec rfl) ?_
  refine cw_newa (atype := .int) (e := 0) (N := 24) (by decide) rfl rfl (by decide) arrW0 rfl rfl (oX7_init.dec rfl) (fun q3 => ?_)
  refine cw_putF 0 (j := 4) (ws' := [(a, .inr (7, [.long 0, .ref q1, .int 0, .ref q2, .ref q3, .null, .null, .null, .null, .null, .null, .null, .int 0, .int 0, .int 0, .int 0, .int 0, .int 0, .null, .null, .null, .null])), (q1, .inl (cA 1, 180, .inl (fun _ => 0))), (q2, .inl (cA 0, 2, .inl (fun _ => 0))), (q3, .inl (cA 0, 24, .inl (fun _ => 0)))]) rfl rfl rfl rfl rfl rfl (Nat.le_of_ble_eq_true rfl) rfl (oX7_init.dec rfl) ?_
  refine cw_aload rfl (oX7_init.dec rfl) ?_
  refine cw_bipush (v := nI 24) (by decide) (oX7_init.dec rfl) ?_
  refine cw_newa (atype := .int) (e := 0) (N := 24) (by decide) rfl rfl (by decide) arrW0 rfl rfl (oX7_init.dec rfl) (fun q4 => ?_)
  refine cw_putF 0 (j := 5) (ws' := [(a, .inr (7, [.long 0, .ref q1, .int 0, .ref q2, .ref q3, .ref q4, .null, .null, .null, .null, .null, .null, .int 0, .int 0, .int 0, .int 0, .int 0, .int 0, .null, .null, .null, .null])), (q1, .inl (cA 1, 180, .inl (fun _ => 0))), (q2, .inl (cA 0, 2, .inl (fun _ => 0))), (q3, .inl (cA 0, 24, .inl (fun _ => 0))), (q4, .inl (cA 0, 24, .inl (fun _ => 0)))]) rfl rfl rfl rfl rfl rfl (Nat.le_of_ble_eq_true rfl) rfl (oX7_init.dec rfl) ?_
  refine cw_aload rfl (oX7_init.dec rfl) ?_
  refine cw_iconst (v := nI 2) (by decide) (oX7_init.dec rfl) ?_
  refine cw_newa (atype := .int) (e := 0) (N := 2) (by decide) rfl rfl (by decide) arrW0 rfl rfl (oX7_init.dec rfl) (fun q5 => ?_)
  refine cw_putF 0 (j := 6) (ws' := [(a, .inr (7, [.long 0, .ref q1, .int 0, .ref q2, .ref q3, .ref q4, .ref q5, .null, .null, .null, .null, .null, .int 0, .int 0, .int 0, .int 0, .int 0, .int 0, .null, .null, .null, .null])), (q1, .inl (cA 1, 180, .inl (fun _ => 0))), (q2, .inl (cA 0, 2, .inl (fun _ => 0))), (q3, .inl (cA 0, 24, .inl (fun _ => 0))), (q4, .inl (cA 0, 24, .inl (fun _ => 0))), (q5, .inl (cA 0, 2, .inl (fun _ => 0)))]) rfl rfl rfl rfl rfl rfl (Nat.le_of_ble_eq_true rfl) rfl (oX7_init.dec rfl) ?_
  refine cw_aload rfl (oX7_init.dec rfl) ?_
  refine cw_iconst (v := nI 5) (by decide) (oX7_init.dec rfl) ?_
  refine cw_newa (atype := .int) (e := 0) (N := 5) (by decide) rfl rfl (by decide) arrW0 rfl rfl (oX7_init.dec rfl) (fun q6 => ?_)
  refine cw_putF 0 (j := 7) (ws' := [(a, .inr (7, [.long 0, .ref q1, .int 0, .ref q2, .ref q3, .ref q4, .ref q5, .ref q6, .null, .null, .null, .null, .int 0, .int 0, .int 0, .int 0, .int 0, .int 0, .null, .null, .null, .null])), (q1, .inl (cA 1, 180, .inl (fun _ => 0))), (q2, .inl (cA 0, 2, .inl (fun _ => 0))), (q3, .inl (cA 0, 24, .inl (fun _ => 0))), (q4, .inl (cA 0, 24, .inl (fun _ => 0))), (q5, .inl (cA 0, 2, .inl (fun _ => 0))), (q6, .inl (cA 0, 5, .inl (fun _ => 0)))]) rfl rfl rfl rfl rfl rfl (Nat.le_of_ble_eq_true rfl) rfl (oX7_init.dec rfl) ?_
  refine cw_aload rfl (oX7_init.dec rfl) ?_
  refine cw_iconst (v := nI 5) (by decide) (oX7_init.dec rfl) ?_
  refine cw_newa (atype := .int) (e := 0) (N := 5) (by decide) rfl rfl (by decide) arrW0 rfl rfl (oX7_init.dec rfl) (fun q7 => ?_)
  refine cw_putF 0 (j := 8) (ws' := [(a, .inr (7, [.long 0, .ref q1, .int 0, .ref q2, .ref q3, .ref q4, .ref q5, .ref q6, .ref q7, .null, .null, .null, .int 0, .int 0, .int 0, .int 0, .int 0, .int 0, .null, .null, .null, .null])), (q1, .inl (cA 1, 180, .inl (fun _ => 0))), (q2, .inl (cA 0, 2, .inl (fun _ => 0))), (q3, .inl (cA 0, 24, .inl (fun _ => 0))), (q4, .inl (cA 0, 24, .inl (fun _ => 0))), (q5, .inl (cA 0, 2, .inl (fun _ => 0))), (q6, .inl (cA 0, 5, .inl (fun _ => 0))), (q7, .inl (cA 0, 5, .inl (fun _ => 0)))]) rfl rfl rfl rfl rfl rfl (Nat.le_of_ble_eq_true rfl) rfl (oX7_init.dec rfl) ?_
  refine cw_aload rfl (oX7_init.dec rfl) ?_
  refine cw_bipush (v := nI 10) (by decide) (oX7_init.dec rfl) ?_
  refine cw_newa (atype := .int) (e := 0) (N := 10) (by decide) rfl rfl (by decide) arrW0 rfl rfl (oX7_init.dec rfl) (fun q8 => ?_)
  refine cw_putF 0 (j := 9) (ws' := [(a, .inr (7, [.long 0, .ref q1, .int 0, .ref q2, .ref q3, .ref q4, .ref q5, .ref q6, .ref q7, .ref q8, .null, .null, .int 0, .int 0, .int 0, .int 0, .int 0, .int 0, .null, .null, .null, .null])), (q1, .inl (cA 1, 180, .inl (fun _ => 0))), (q2, .inl (cA 0, 2, .inl (fun _ => 0))), (q3, .inl (cA 0, 24, .inl (fun _ => 0))), (q4, .inl (cA 0, 24, .inl (fun _ => 0))), (q5, .inl (cA 0, 2, .inl (fun _ => 0))), (q6, .inl (cA 0, 5, .inl (fun _ => 0))), (q7, .inl (cA 0, 5, .inl (fun _ => 0))), (q8, .inl (cA 0, 10, .inl (fun _ => 0)))]) rfl rfl rfl rfl rfl rfl (Nat.le_of_ble_eq_true rfl) rfl (oX7_init.dec rfl) ?_
  refine cw_aload rfl (oX7_init.dec rfl) ?_
  refine cw_bipush (v := nI 10) (by decide) (oX7_init.dec rfl) ?_
  refine cw_newa (atype := .int) (e := 0) (N := 10) (by decide) rfl rfl (by decide) arrW0 rfl rfl (oX7_init.dec rfl) (fun q9 => ?_)
  refine cw_putF 0 (j := 10) (ws' := [(a, .inr (7, [.long 0, .ref q1, .int 0, .ref q2, .ref q3, .ref q4, .ref q5, .ref q6, .ref q7, .ref q8, .ref q9, .null, .int 0, .int 0, .int 0, .int 0, .int 0, .int 0, .null, .null, .null, .null])), (q1, .inl (cA 1, 180, .inl (fun _ => 0))), (q2, .inl (cA 0, 2, .inl (fun _ => 0))), (q3, .inl (cA 0, 24, .inl (fun _ => 0))), (q4, .inl (cA 0, 24, .inl (fun _ => 0))), (q5, .inl (cA 0, 2, .inl (fun _ => 0))), (q6, .inl (cA 0, 5, .inl (fun _ => 0))), (q7, .inl (cA 0, 5, .inl (fun _ => 0))), (q8, .inl (cA 0, 10, .inl (fun _ => 0))), (q9, .inl (cA 0, 10, .inl (fun _ => 0)))]) rfl rfl rfl rfl rfl rfl (Nat.le_of_ble_eq_true rfl) rfl (oX7_init.dec rfl) ?_
  refine cw_aload rfl (oX7_init.dec rfl) ?_
  refine cw_iconst (v := nI 2) (by decide) (oX7_init.dec rfl) ?_
  refine cw_newa (atype := .int) (e := 0) (N := 2) (by decide) rfl rfl (by decide) arrW0 rfl rfl (oX7_init.dec rfl) (fun q10 => ?_)
  refine cw_putF 0 (j := 11) (ws' := [(a, .inr (7, [.long 0, .ref q1, .int 0, .ref q2, .ref q3, .ref q4, .ref q5, .ref q6, .ref q7, .ref q8, .ref q9, .ref q10, .int 0, .int 0, .int 0, .int 0, .int 0, .int 0, .null, .null, .null, .null])), (q1, .inl (cA 1, 180, .inl (fun _ => 0))), (q2, .inl (cA 0, 2, .inl (fun _ => 0))), (q3, .inl (cA 0, 24, .inl (fun _ => 0))), (q4, .inl (cA 0, 24, .inl (fun _ => 0))), (q5, .inl (cA 0, 2, .inl (fun _ => 0))), (q6, .inl (cA 0, 5, .inl (fun _ => 0))), (q7, .inl (cA 0, 5, .inl (fun _ => 0))), (q8, .inl (cA 0, 10, .inl (fun _ => 0))), (q9, .inl (cA 0, 10, .inl (fun _ => 0))), (q10, .inl (cA 0, 2, .inl (fun _ => 0)))]) rfl rfl rfl rfl rfl rfl (Nat.le_of_ble_eq_true rfl) rfl (oX7_init.dec rfl) ?_
  refine cw_aload rfl (oX7_init.dec rfl) ?_
  refine cw_sipush (v := nI 597) (by decide) (oX7_init.dec rfl) ?_
  refine cw_newa (atype := .int) (e := 0) (N := 597) (by decide) rfl rfl (by decide) arrW0 rfl rfl (oX7_init.dec rfl) (fun q11 => ?_)
  refine cw_putF 0 (j := 18) (ws' := [(a, .inr (7, [.long 0, .ref q1, .int 0, .ref q2, .ref q3, .ref q4, .ref q5, .ref q6, .ref q7, .ref q8, .ref q9, .ref q10, .int 0, .int 0, .int 0, .int 0, .int 0, .int 0, .ref q11, .null, .null, .null])), (q1, .inl (cA 1, 180, .inl (fun _ => 0))), (q2, .inl (cA 0, 2, .inl (fun _ => 0))), (q3, .inl (cA 0, 24, .inl (fun _ => 0))), (q4, .inl (cA 0, 24, .inl (fun _ => 0))), (q5, .inl (cA 0, 2, .inl (fun _ => 0))), (q6, .inl (cA 0, 5, .inl (fun _ => 0))), (q7, .inl (cA 0, 5, .inl (fun _ => 0))), (q8, .inl (cA 0, 10, .inl (fun _ => 0))), (q9, .inl (cA 0, 10, .inl (fun _ => 0))), (q10, .inl (cA 0, 2, .inl (fun _ => 0))), (q11, .inl (cA 0, 597, .inl (fun _ => 0)))]) rfl rfl rfl rfl rfl rfl (Nat.le_of_ble_eq_true rfl) rfl (oX7_init.dec rfl) ?_
  refine cw_aload rfl (oX7_init.dec rfl) ?_
  refine cw_iconst (v := nI 2) (by decide) (oX7_init.dec rfl) ?_
  refine cw_newa (atype := .boolean) (e := 2) (N := 2) (by decide) rfl rfl (by decide) arrW2 rfl rfl (oX7_init.dec rfl) (fun q12 => ?_)
  refine cw_putF 0 (j := 19) (ws' := [(a, .inr (7, [.long 0, .ref q1, .int 0, .ref q2, .ref q3, .ref q4, .ref q5, .ref q6, .ref q7, .ref q8, .ref q9, .ref q10, .int 0, .int 0, .int 0, .int 0, .int 0, .int 0, .ref q11, .ref q12, .null, .null])), (q1, .inl (cA 1, 180, .inl (fun _ => 0))), (q2, .inl (cA 0, 2, .inl (fun _ => 0))), (q3, .inl (cA 0, 24, .inl (fun _ => 0))), (q4, .inl (cA 0, 24, .inl (fun _ => 0))), (q5, .inl (cA 0, 2, .inl (fun _ => 0))), (q6, .inl (cA 0, 5, .inl (fun _ => 0))), (q7, .inl (cA 0, 5, .inl (fun _ => 0))), (q8, .inl (cA 0, 10, .inl (fun _ => 0))), (q9, .inl (cA 0, 10, .inl (fun _ => 0))), (q10, .inl (cA 0, 2, .inl (fun _ => 0))), (q11, .inl (cA 0, 597, .inl (fun _ => 0))), (q12, .inl (cA 2, 2, .inl (fun _ => 0)))]) rfl rfl rfl rfl rfl rfl (Nat.le_of_ble_eq_true rfl) rfl (oX7_init.dec rfl) ?_
  refine cw_aload rfl (oX7_init.dec rfl) ?_
  refine cw_sipush (v := nI 448) (by decide) (oX7_init.dec rfl) ?_
  refine cw_newa (atype := .int) (e := 0) (N := 448) (by decide) rfl rfl (by decide) arrW0 rfl rfl (oX7_init.dec rfl) (fun q13 => ?_)
  refine cw_putF 0 (j := 20) (ws' := [(a, .inr (7, [.long 0, .ref q1, .int 0, .ref q2, .ref q3, .ref q4, .ref q5, .ref q6, .ref q7, .ref q8, .ref q9, .ref q10, .int 0, .int 0, .int 0, .int 0, .int 0, .int 0, .ref q11, .ref q12, .ref q13, .null])), (q1, .inl (cA 1, 180, .inl (fun _ => 0))), (q2, .inl (cA 0, 2, .inl (fun _ => 0))), (q3, .inl (cA 0, 24, .inl (fun _ => 0))), (q4, .inl (cA 0, 24, .inl (fun _ => 0))), (q5, .inl (cA 0, 2, .inl (fun _ => 0))), (q6, .inl (cA 0, 5, .inl (fun _ => 0))), (q7, .inl (cA 0, 5, .inl (fun _ => 0))), (q8, .inl (cA 0, 10, .inl (fun _ => 0))), (q9, .inl (cA 0, 10, .inl (fun _ => 0))), (q10, .inl (cA 0, 2, .inl (fun _ => 0))), (q11, .inl (cA 0, 597, .inl (fun _ => 0))), (q12, .inl (cA 2, 2, .inl (fun _ => 0))), (q13, .inl (cA 0, 448, .inl (fun _ => 0)))]) rfl rfl rfl rfl rfl rfl (Nat.le_of_ble_eq_true rfl) rfl (oX7_init.dec rfl) ?_
  refine cw_aload rfl (oX7_init.dec rfl) ?_
  refine cw_sipush (v := nI 448) (by decide) (oX7_init.dec rfl) ?_
  refine cw_newa (atype := .int) (e := 0) (N := 448) (by decide) rfl rfl (by decide) arrW0 rfl rfl (oX7_init.dec rfl) (fun q14 => ?_)
  refine cw_putF 0 (j := 21) (ws' := [(a, .inr (7, [.long 0, .ref q1, .int 0, .ref q2, .ref q3, .ref q4, .ref q5, .ref q6, .ref q7, .ref q8, .ref q9, .ref q10, .int 0, .int 0, .int 0, .int 0, .int 0, .int 0, .ref q11, .ref q12, .ref q13, .ref q14])), (q1, .inl (cA 1, 180, .inl (fun _ => 0))), (q2, .inl (cA 0, 2, .inl (fun _ => 0))), (q3, .inl (cA 0, 24, .inl (fun _ => 0))), (q4, .inl (cA 0, 24, .inl (fun _ => 0))), (q5, .inl (cA 0, 2, .inl (fun _ => 0))), (q6, .inl (cA 0, 5, .inl (fun _ => 0))), (q7, .inl (cA 0, 5, .inl (fun _ => 0))), (q8, .inl (cA 0, 10, .inl (fun _ => 0))), (q9, .inl (cA 0, 10, .inl (fun _ => 0))), (q10, .inl (cA 0, 2, .inl (fun _ => 0))), (q11, .inl (cA 0, 597, .inl (fun _ => 0))), (q12, .inl (cA 2, 2, .inl (fun _ => 0))), (q13, .inl (cA 0, 448, .inl (fun _ => 0))), (q14, .inl (cA 0, 448, .inl (fun _ => 0)))]) rfl rfl rfl rfl rfl rfl (Nat.le_of_ble_eq_true rfl) rfl (oX7_init.dec rfl) ?_
  rw [wM_eq]
  refine cw_aload rfl (oX7_init.dec rfl) ?_
  refine cw_callA (M' := mX7_plain) (a1 := (fun k => [a, q1, q2, q3, q4, q5, q6, q7, q8, q9, q10, q11, q12, q13, q14].getD k 0)) oX7_plain rfl k7_54 rfl rfl rfl rfl rfl (oX7_init.dec rfl) m_plain (fun r I' J' G' h => ?_)
  obtain ⟨rfl, rfl, rfl, rfl⟩ := h
  refine ⟨rfl, ?_⟩
  refine cw_aload rfl (oX7_init.dec rfl) ?_
  refine cw_callA (M' := mX7_takeDraft) (a1 := (fun k => [a, q1, q2, q3, q4, q5, q6, q7, q8, q9, q10, q11, q12, q13, q14].getD k 0)) oX7_takeDraft rfl k7_57 rfl rfl rfl rfl rfl (oX7_init.dec rfl) (m_takeDraft (W := 0) (P := 0) rfl rfl (by decide)) (fun r I' J' G' h => ?_)
  obtain ⟨rfl, rfl, rfl, t1, t2, t3, t4, t5, t6, t7, t8, t9, t10⟩ := h
  refine ⟨rfl, ?_⟩
  exact cw_vret rfl ⟨_, _, _, _, rfl, rfl, rfl, rfl, t1, t2, t3, fun j hj => (t6 j hj).trans (begR_0 (by omega) (by omega)), t7, t8, t9, fun i => by rw [t10]; rfl⟩ rfl rfl (oX7_init.dec rfl)
