/-! the law's machine: both worlds, the script -/
def LFx (s : State) (D : va_G) (cA : Nat → ClassId) (ad am : Nat → Nat) : Prop :=
  (AdI SX ad ∧ AdI SM am ∧ ∀ i, i < 34 → ∀ j, j < 15 → ad i ≠ am j) ∧ ((∀ i, i < 34 → s.heap.size ≤ ad i) ∧ ∀ j, j < 15 → s.heap.size ≤ am j) ∧ va_K D vwCl (tyl cA) s ∧ (∀ w ∈ Nw, va_Nw w s) ∧ ST ad (fun q : Nat => s.heap.size ≤ q) s s.heap ∧ ST am (fun q : Nat => s.heap.size ≤ q) s s.heap
def LW (p : Program) (l : Launch) (e : Env) (s : State) (m : MethodId) (below : List Frame) (meth : Method) (c : Code) (b : Nat) (D : va_G) (cA : Nat → ClassId) (ad am : Nat → Nat) (pc : Nat) (L : LV) (st : List Value) (I : II) (J : JJ) (G : II) (Im : II) (Jm : JJ) (Gm : II) : Prop :=
  ∀ (H : Heap) (locs : List Loc) (ls : Array Slot), va_P D vwCl (wrl SX cA ad I J G) H → va_P D vwCl (wrl SM cA am Im Jm Gm) H → va_S (fun q : Nat => s.heap.size ≤ q) s.heap H locs → lvP (fun a => a) ls 4 L → W p l e room_1 s m #[Value.ref b] below meth c H locs 49 3579 (lw_Z below #[Value.ref b] s) (F0 m pc ls st)
section LAWM
variable {p : Program} {l : Launch} {e : Env} {s : State} {m : MethodId} {below : List Frame} {meth : Method} {c : Code} {b Ln : Nat} {xs : Nat → Int32} {D : va_G} {cA : Nat → ClassId} {ad am : Nat → Nat} {pc : Nat} {L : LV} {st : List Value} {I : II} {J : JJ} {G : II} {Im : II} {Jm : JJ} {Gm : II}
theorem lw_aload (C0 : lw_At p s m meth c b Ln xs) {i : Fin 4} {x : Nat} (hx : L[i.val]? = some (some (.ref x))) (hd : decode code pc = .ok (.aload_n i, 1)) (k : LW p l e s m below meth c b D cA ad am (pc + 1) L (.ref x :: st) I J G Im Jm Gm) : LW p l e s m below meth c b D cA ad am pc L st I J G Im Jm Gm := by
  intro H locs ls h1 h2 h3 h4
  exact lv_aload_n C0.1 C0.2.1 hd rfl (h4.get hx) (k H locs ls h1 h2 h3 h4)
theorem lw_iload (C0 : lw_At p s m meth c b Ln xs) {i : Fin 4} {x : Int32} (hx : L[i.val]? = some (some (.int x))) (hd : decode code pc = .ok (.iload_n i, 1)) (k : LW p l e s m below meth c b D cA ad am (pc + 1) L (.int x :: st) I J G Im Jm Gm) : LW p l e s m below meth c b D cA ad am pc L st I J G Im Jm Gm := by
  intro H locs ls h1 h2 h3 h4
  exact lv_iload_n C0.1 C0.2.1 hd rfl (h4.get hx) (k H locs ls h1 h2 h3 h4)
theorem lw_iconst (C0 : lw_At p s m meth c b Ln xs) {z : Int} {v : Int32} (hv : Int32.ofInt z = v) (hd : decode code pc = .ok (.iconst z, 1)) (k : LW p l e s m below meth c b D cA ad am (pc + 1) L (.int v :: st) I J G Im Jm Gm) : LW p l e s m below meth c b D cA ad am pc L st I J G Im Jm Gm := by
  intro H locs ls h1 h2 h3 h4
  exact lv_iconst C0.1 C0.2.1 hd hv (k H locs ls h1 h2 h3 h4)
theorem lw_bipush (C0 : lw_At p s m meth c b Ln xs) {z : Int} {v : Int32} (hv : (Int8.ofInt z).toInt32 = v) (hd : decode code pc = .ok (.bipush z, 2)) (k : LW p l e s m below meth c b D cA ad am (pc + 2) L (.int v :: st) I J G Im Jm Gm) : LW p l e s m below meth c b D cA ad am pc L st I J G Im Jm Gm := by
  intro H locs ls h1 h2 h3 h4
  exact lv_bipush C0.1 C0.2.1 hd hv (k H locs ls h1 h2 h3 h4)
theorem lw_iadd (C0 : lw_At p s m meth c b Ln xs) {x y : Int32} (hd : decode code pc = .ok (.iadd, 1)) (k : LW p l e s m below meth c b D cA ad am (pc + 1) L (.int (x + y) :: st) I J G Im Jm Gm) : LW p l e s m below meth c b D cA ad am pc L (.int y :: .int x :: st) I J G Im Jm Gm := by
  intro H locs ls h1 h2 h3 h4
  exact lv_iadd C0.1 C0.2.1 hd (k H locs ls h1 h2 h3 h4)
theorem lw_isub (C0 : lw_At p s m meth c b Ln xs) {x y : Int32} (hd : decode code pc = .ok (.isub, 1)) (k : LW p l e s m below meth c b D cA ad am (pc + 1) L (.int (x - y) :: st) I J G Im Jm Gm) : LW p l e s m below meth c b D cA ad am pc L (.int y :: .int x :: st) I J G Im Jm Gm := by
  intro H locs ls h1 h2 h3 h4
  exact lv_isub C0.1 C0.2.1 hd (k H locs ls h1 h2 h3 h4)
theorem lw_iand (C0 : lw_At p s m meth c b Ln xs) {x y : Int32} (hd : decode code pc = .ok (.iand, 1)) (k : LW p l e s m below meth c b D cA ad am (pc + 1) L (.int (x &&& y) :: st) I J G Im Jm Gm) : LW p l e s m below meth c b D cA ad am pc L (.int y :: .int x :: st) I J G Im Jm Gm := by
  intro H locs ls h1 h2 h3 h4
  exact lv_iand C0.1 C0.2.1 hd (k H locs ls h1 h2 h3 h4)
theorem lw_slen (C0 : lw_At p s m meth c b Ln xs) (hd : decode code pc = .ok (.arraylength, 1)) (k : LW p l e s m below meth c b D cA ad am (pc + 1) L (.int (nI Ln) :: st) I J G Im Jm Gm) : LW p l e s m below meth c b D cA ad am pc L (.ref b :: st) I J G Im Jm Gm := by
  intro H locs ls h1 h2 h3 h4
  obtain ⟨hx, hb, hr, hml, hown, hts, hX, hbl, hlocks, hgv⟩ := C0
  exact va_slen hx hb hX hbl (Nat.not_le.mpr hbl) h3 hd (k H locs ls h1 h2 h3 h4)
theorem lw_sld (C0 : lw_At p s m meth c b Ln xs) {x : Int32} (j : Nat) (hx : x = nI j) (hj : j < Ln) (hL : Ln ≤ 320) (hd : decode code pc = .ok (.iaload, 1)) (k : LW p l e s m below meth c b D cA ad am (pc + 1) L (.int (xs j) :: st) I J G Im Jm Gm) : LW p l e s m below meth c b D cA ad am pc L (.int x :: .ref b :: st) I J G Im Jm Gm := by
  intro H locs ls h1 h2 h3 h4
  subst hx
  obtain ⟨hx, hb, hr, hml, hown, hts, hX, hbl, hlocks, hgv⟩ := C0
  refine va_sld hx hb hX hbl (Nat.not_le.mpr hbl) h3 (vp_in_nI hj (by omega)) hd ?_
  rw [nI_clamp (by omega)]
  exact k H locs ls h1 h2 h3 h4
/-- an argument out of the script -/
theorem lw_arg (C0 : lw_At p s m meth c b Ln xs) (i j : Nat) {z : Int} (h0 : L[0]? = some (some (.ref b))) (h3' : L[3]? = some (some (.int (nI i)))) (hz : Int32.ofInt z = nI j) (hij : i + j < Ln) (hL : Ln ≤ 320) (d0 : decode code pc = .ok (.aload_n 0, 1)) (d1 : decode code (pc + 1) = .ok (.iload_n 3, 1)) (d2 : decode code (pc + 2) = .ok (.iconst z, 1)) (d3 : decode code (pc + 3) = .ok (.iadd, 1)) (d4 : decode code (pc + 4) = .ok (.iaload, 1)) (k : LW p l e s m below meth c b D cA ad am (pc + 5) L (.int (xs (i + j)) :: st) I J G Im Jm Gm) : LW p l e s m below meth c b D cA ad am pc L st I J G Im Jm Gm :=
  lw_aload C0 (i := 0) h0 d0 (lw_iload C0 (i := 3) h3' d1 (lw_iconst C0 hz d2 (lw_iadd C0 d3 (lw_sld C0 (i + j) (nI_add i j) hij hL d4 k))))
theorem lw_same (C0 : lw_At p s m meth c b Ln xs) {x : Int32} {off : Int} {tgt : Nat} (hd : decode code pc = .ok (.if_icmp .eq off, 3)) (ht : (pc : Int) + off = (tgt : Int)) (k : LW p l e s m below meth c b D cA ad am tgt L st I J G Im Jm Gm) : LW p l e s m below meth c b D cA ad am pc L (.int x :: .int x :: st) I J G Im Jm Gm := by
  intro H locs ls h1 h2 h3 h4
  exact lv_icmp_eq C0.1 C0.2.1 hd ht (fun _ => k H locs ls h1 h2 h3 h4) (fun h => absurd rfl h)
theorem lw_sameJ (C0 : lw_At p s m meth c b Ln xs) {x : Int64} {off : Int} {tgt : Nat} (hd0 : decode code pc = .ok (.lcmp, 1)) (hd : decode code (pc + 1) = .ok (.ifCond .eq off, 3)) (ht : ((pc + 1 : Nat) : Int) + off = (tgt : Int)) (k : LW p l e s m below meth c b D cA ad am tgt L st I J G Im Jm Gm) : LW p l e s m below meth c b D cA ad am pc L (.long x :: .long x :: st) I J G Im Jm Gm := by
  intro H locs ls h1 h2 h3 h4
  refine W.lcmp C0.1 C0.2.1 hd0 ?_
  exact lv_if_eq C0.1 C0.2.1 hd ht (fun _ => k H locs ls h1 h2 h3 h4) (fun h => absurd (by unfold lg_cmp; simp) h)
theorem lw_callX (C0 : lw_At p s m meth c b Ln xs) (F : LFx s D cA ad am) {M' : MI} {idx : Nat} {as rest stk : List Value} {Q : PP} (hM' : MOk M') (hs : miS M' = false) (lk : Cond.methodLink R_law idx (miY M') ∈ Wd) (hdep : Nat.ble (miD M') 6 = true) (hcn : (miY M').cls = Rn 6) (hn : as.length = miN M') (has : as.map (con ad) = as) (hroom : (rest.map fun v => v.category).sum ≤ 8) (hstk : stk = as.reverse ++ .ref (ad 0) :: rest) (hd : decode code pc = .ok (.invokevirtual idx, 3)) (hA : AMet SX M' (.ref 0 :: as) I J G Q)
    (kk : ∀ r I' J' G', Q r I' J' G' → LW p l e s m below meth c b D cA ad am (pc + 3) L ((Option.map (con ad) r).toList ++ rest) I' J' G' Im Jm Gm) : LW p l e s m below meth c b D cA ad am pc L stk I J G Im Jm Gm := by
  intro H locs ls h1 h2 h3 h4
  obtain ⟨hx, hb, hr, hml, hown, hts, hX, hbl, hlocks, hgv⟩ := C0
  obtain ⟨⟨f1, f2, f3⟩, ⟨f4, f5⟩, f6, f7, f8, f9⟩ := F
  have hd6 := Nat.le_of_ble_eq_true hdep
  have hx17 := hM'.2.2.2.2.2.2.1
  have hsub : ∀ q, AA SX ad H.size q → s.heap.size ≤ q := AA_sub (fun k hk => f4 k hk) (fun q hq => Nat.le_trans h3.1 hq)
  refine goA (A0 := fun q : Nat => s.heap.size ≤ q) (H0 := s.heap) (runA (S := SX) (D := D) (cA := cA) (ad := ad) (I := I) (J := J) (G := G) (Q := Q) (k0 := 0) (as := as) (rest := rest) hx hb hml hown (fun w hw => hts w (wd_tbl hw)) f7 hM' hs (Or.inl lk) (by show miD M' + 1 ≤ 9; omega) (by show _ ≤ 326; omega) ?_ f6 h1 rfl (by decide) hcn hn h4.1 hroom (by rw [has]; exact hstk) hd ⟨by decide, by decide⟩ hA) h3 hsub (fun r I' J' G' H1 locs1 hq hP1 hz hk1 hS1 => ?_)
  · intro U hU hW
    exact ⟨f1, f6.moved hW.alike, Nw_warm hW f7, f8.at hW.alike (fun a ha hn => h3.2.1 a ha hn) hsub⟩
  · refine kk r I' J' G' hq H1 locs1 ls hP1 (h2.kept (fun k q hk => ?_)) hS1 h4
    obtain ⟨b1, b2⟩ := wrl_at hk
    have hlt := (h2 k q hk).lt
    refine hk1 q.1 hlt (fun hA => ?_)
    rcases hA with ⟨i, hi, he⟩ | h
    · exact f3 i hi k b1 (he.symm.trans b2)
    · exact absurd h (Nat.not_le.mpr hlt)
theorem lw_callM (C0 : lw_At p s m meth c b Ln xs) (F : LFx s D cA ad am) {M' : MI} {idx : Nat} {as rest stk : List Value} {Q : PP} (hM' : MOk M') (hs : miS M' = false) (lk : Cond.methodLink R_law idx (miY M') ∈ Wd) (hdep : Nat.ble (miD M') 6 = true) (hcn : (miY M').cls = Rn 7) (hn : as.length = miN M') (has : as.map (con am) = as) (hroom : (rest.map fun v => v.category).sum ≤ 8) (hstk : stk = as.reverse ++ .ref (am 0) :: rest) (hd : decode code pc = .ok (.invokevirtual idx, 3)) (hA : AMet SM M' (.ref 0 :: as) Im Jm Gm Q)
    (kk : ∀ r I' J' G', Q r I' J' G' → LW p l e s m below meth c b D cA ad am (pc + 3) L ((Option.map (con am) r).toList ++ rest) I J G I' J' G') : LW p l e s m below meth c b D cA ad am pc L stk I J G Im Jm Gm := by
  intro H locs ls h1 h2 h3 h4
  obtain ⟨hx, hb, hr, hml, hown, hts, hX, hbl, hlocks, hgv⟩ := C0
  obtain ⟨⟨f1, f2, f3⟩, ⟨f4, f5⟩, f6, f7, f8, f9⟩ := F
  have hd6 := Nat.le_of_ble_eq_true hdep
  have hx17 := hM'.2.2.2.2.2.2.1
  have hsub : ∀ q, AA SM am H.size q → s.heap.size ≤ q := AA_sub (fun k hk => f5 k hk) (fun q hq => Nat.le_trans h3.1 hq)
  refine goA (A0 := fun q : Nat => s.heap.size ≤ q) (H0 := s.heap) (runA (S := SM) (D := D) (cA := cA) (ad := am) (I := Im) (J := Jm) (G := Gm) (Q := Q) (k0 := 0) (as := as) (rest := rest) hx hb hml hown (fun w hw => hts w (wd_tbl hw)) f7 hM' hs (Or.inl lk) (by show miD M' + 1 ≤ 9; omega) (by show _ ≤ 326; omega) ?_ f6 h2 rfl (by decide) hcn hn h4.1 hroom (by rw [has]; exact hstk) hd ⟨by decide, by decide⟩ hA) h3 hsub (fun r I' J' G' H1 locs1 hq hP1 hz hk1 hS1 => ?_)
  · intro U hU hW
    exact ⟨f2, f6.moved hW.alike, Nw_warm hW f7, f9.at hW.alike (fun a ha hn => h3.2.1 a ha hn) hsub⟩
  · refine kk r I' J' G' hq H1 locs1 ls (h1.kept (fun k q hk => ?_)) hP1 hS1 h4
    obtain ⟨b1, b2⟩ := wrl_at hk
    have hlt := (h1 k q hk).lt
    refine hk1 q.1 hlt (fun hA => ?_)
    rcases hA with ⟨i, hi, he⟩ | h
    · exact f3 k b1 i hi (b2.symm.trans he)
    · exact absurd h (Nat.not_le.mpr hlt)
theorem lw_next (C0 : lw_At p s m meth c b Ln xs) {i a0 a1 a2 : Nat} (d1 : decode code 787 = .ok (.iinc 3 5, 3)) (d2 : decode code 790 = .ok (.goto (-772), 3)) (k : LW p l e s m below meth c b D cA ad am 18 [some (.ref a0), some (.ref a1), some (.ref a2), some (.int (nI (i + 5)))] [] I J G Im Jm Gm) : LW p l e s m below meth c b D cA ad am 787 [some (.ref a0), some (.ref a1), some (.ref a2), some (.int (nI i))] [] I J G Im Jm Gm := by
  intro H locs ls h1 h2 h3 h4
  obtain ⟨j, hj⟩ := lvl_at (ad := fun a => a) (nL := 4) (L := [some (.ref a0), some (.ref a1), some (.ref a2), some (.int (nI i))]) (n := 3) (v := .int (nI i)) (by decide) rfl
  refine lv_iinc (v := nI (i + 5)) C0.1 C0.2.1 d1 h4.has hj (by rw [← nI_add]; rfl) (by decide) rfl (fun ls hl1 => ?_)
  refine lv_goto (tgt := 18) C0.1 C0.2.1 d2 (by decide) ?_
  exact k H locs ls h1 h2 h3 (lvP_1 (v := .int (nI (i + 5))) h4 hl1)
theorem lw_head (C0 : lw_At p s m meth c b Ln xs) (hL : Ln ≤ 320) {i a0 a1 : Nat} (hi : i ≤ 400) (d18 : decode code 18 = .ok (.iload_n 3, 1)) (d19 : decode code 19 = .ok (.aload_n 0, 1)) (d20 : decode code 20 = .ok (.arraylength, 1)) (d21 : decode code 21 = .ok (.iconst 5, 1)) (d22 : decode code 22 = .ok (.isub, 1)) (d23 : decode code 23 = .ok (.if_icmp .gt 770, 3)) (d793 : decode code 793 = .ok (.iconst 1, 1)) (d794 : decode code 794 = .ok (.ireturn, 1))
    (k : i + 5 ≤ Ln → LW p l e s m below meth c b D cA ad am 26 [some (.ref b), some (.ref a0), some (.ref a1), some (.int (nI i))] [] I J G Im Jm Gm) : LW p l e s m below meth c b D cA ad am 18 [some (.ref b), some (.ref a0), some (.ref a1), some (.int (nI i))] [] I J G Im Jm Gm := by
  refine lw_iload C0 (i := 3) rfl d18 (lw_aload C0 (i := 0) rfl d19 (lw_slen C0 d20 (lw_iconst C0 (v := nI 5) rfl d21 (lw_isub C0 d22 ?_))))
  intro H locs ls h1 h2 h3 h4
  refine lv_icmp_gt (tgt := 793) C0.1 C0.2.1 d23 (by decide) (fun _ => ?_) (fun hn => ?_)
  · refine lv_iconst (v := 1) C0.1 C0.2.1 d793 (by decide) ?_
    refine va_forget (fun q hq => h3.2.2 q hq) ?_
    refine W.widen (k := 600000) (n := 7302250) (by decide) (by decide) ?_
    exact lw_ret C0.1 C0.2.1 C0.2.2.1 C0.2.2.2.2.2.2.2.2.1 d794
  · refine k ?_ H locs ls h1 h2 h3 h4
    apply Classical.byContradiction
    intro hc
    apply hn
    by_cases h5 : 5 ≤ Ln
    · rw [show nI Ln - nI 5 = nI (Ln - 5) from subN rfl rfl h5]
      exact (nI_ltI (by omega) (by omega)).mpr (by omega)
    · have hd : ∀ q : Nat, q < 5 → nI q - nI 5 < 0 := by decide
      exact Int32.lt_of_lt_of_le (hd Ln (by omega)) (nI_pos' (by omega))
end LAWM
