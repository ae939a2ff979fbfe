/-! numbers seen as Nat, and rows that say what they do in Nat -/
def PE (r : Option Value) (I : II) (J : JJ) (G : II) : PP := fun r' I' J' G' => r' = r ∧ I' = I ∧ J' = J ∧ G' = G
theorem addN {x y : Int32} {a b : Nat} (hx : x = nI a) (hy : y = nI b) : x + y = nI (a + b) := by rw [hx, hy, nI_add]
theorem mulN {x y : Int32} {a b : Nat} (hx : x = nI a) (hy : y = nI b) : x * y = nI (a * b) := by rw [hx, hy, pk_mul]
theorem subN {x y : Int32} {a b : Nat} (hx : x = nI a) (hy : y = nI b) (h : b ≤ a) : x - y = nI (a - b) := by rw [hx, hy, pk_sub h]
theorem sub1N {x : Int32} {a : Nat} (hx : x = nI a) (h : 1 ≤ a) : x + -nI 1 = nI (a - 1) := by
  rw [hx]
  obtain ⟨b, rfl⟩ : ∃ b, a = b + 1 := ⟨a - 1, by omega⟩
  exact pk_m1 b
section AWN
variable {S : SH} {M : MI} {pc : Nat} {L : LV} {st : List Value} {I : II} {J : JJ} {G : II} {P : PP}
theorem aw_eqS {stk : List Value} (h : stk = st) (k : AW S M pc L st I J G P) : AW S M pc L stk I J G P := h ▸ k
theorem aw_eqL {L' : LV} (h : L = L') (k : AW S M pc L' st I J G P) : AW S M pc L st I J G P := h ▸ k
theorem aw_eqG {G' : II} (h : G = G') (k : AW S M pc L st I J G' P) : AW S M pc L st I J G P := h ▸ k
theorem aw_eqI {I' : II} (h : I = I') (k : AW S M pc L st I' J G P) : AW S M pc L st I J G P := h ▸ k
theorem aw_cV {M' : MI} {idx : Nat} (k0 : Nat) {ci : Nat} {fds : List (Nat × Nat)} (as : List Value) {stk : List Value} {r : Option Value} {I' : II} {J' : JJ} {G' : II} (hM' : MOk M') (lk : lkOk (miO M) idx M') (hs : miS M' = false) (hdep : Nat.blt (miD M') (miD M) = true) (hk : S[k0]? = some (.inl (ci, fds))) (hci : Nat.blt ci 8 = true) (hcn : (miY M').cls = Rn ci) (hn : as.length = miN M') (hroom : Nat.ble (st.map fun v => v.category).sum 8 = true) (hstk : stk = as.reverse ++ .ref k0 :: st) (hd : decode (miB M) pc = .ok (.invokevirtual idx, 3))
    (hA : AMet S M' (.ref k0 :: as) I J G (PE r I' J' G')) (k : AW S M (pc + 3) L (r.toList ++ st) I' J' G' P) : AW S M pc L stk I J G P :=
  aw_callV hM' hs lk (Nat.le_of_ble_eq_true hdep) hk (Nat.le_of_ble_eq_true hci) hcn hn (Nat.le_of_ble_eq_true hroom) hstk hd hA (fun r1 I1 J1 G1 h => by obtain ⟨rfl, rfl, rfl, rfl⟩ := h; exact k)
theorem aw_cS {M' : MI} {idx : Nat} (as : List Value) {stk : List Value} {r : Option Value} {I' : II} {J' : JJ} {G' : II} (hM' : MOk M') (lk : lkOk (miO M) idx M') (hs : miS M' = true) (hdep : Nat.blt (miD M') (miD M) = true) (hn : as.length = miN M') (hroom : Nat.ble (st.map fun v => v.category).sum 8 = true) (hstk : stk = as.reverse ++ st) (hd : decode (miB M) pc = .ok (.invokestatic idx, 3))
    (hA : AMet S M' as I J G (PE r I' J' G')) (k : AW S M (pc + 3) L (r.toList ++ st) I' J' G' P) : AW S M pc L stk I J G P :=
  aw_callS hM' hs lk (Nat.le_of_ble_eq_true hdep) hn (Nat.le_of_ble_eq_true hroom) hstk hd hA (fun r1 I1 J1 G1 h => by obtain ⟨rfl, rfl, rfl, rfl⟩ := h; exact k)
theorem aw_cVP {M' : MI} {idx : Nat} (k0 : Nat) {ci : Nat} {fds : List (Nat × Nat)} (as : List Value) {stk : List Value} {Q : PP} (hM' : MOk M') (lk : lkOk (miO M) idx M') (hs : miS M' = false) (hdep : Nat.blt (miD M') (miD M) = true) (hk : S[k0]? = some (.inl (ci, fds))) (hci : Nat.blt ci 8 = true) (hcn : (miY M').cls = Rn ci) (hn : as.length = miN M') (hroom : Nat.ble (st.map fun v => v.category).sum 8 = true) (hstk : stk = as.reverse ++ .ref k0 :: st) (hd : decode (miB M) pc = .ok (.invokevirtual idx, 3))
    (hA : AMet S M' (.ref k0 :: as) I J G Q) (k : ∀ r I' J' G', Q r I' J' G' → AW S M (pc + 3) L (r.toList ++ st) I' J' G' P) : AW S M pc L stk I J G P :=
  aw_callV hM' hs lk (Nat.le_of_ble_eq_true hdep) hk (Nat.le_of_ble_eq_true hci) hcn hn (Nat.le_of_ble_eq_true hroom) hstk hd hA k
theorem aw_iaN {k0 n : Nat} {i : Int32} (m : Nat) (hS : SOk S) (hk : S[k0]? = some (.inr (0, n))) (hi : i = nI m) (hm : m < n) (hd : decode (miB M) pc = .ok (.iaload, 1)) (k : AW S M (pc + 1) L (.int (G k0 m) :: st) I J G P) : AW S M pc L (.int i :: .ref k0 :: st) I J G P := by
  subst hi
  have hn := (hS.arr hk).2
  refine aw_iald hk (vp_in_nI hm (by omega)) hd ?_
  rw [nI_clamp (by omega)]
  exact k
theorem aw_baN {k0 n : Nat} {i : Int32} (m : Nat) (hS : SOk S) (hk : S[k0]? = some (.inr (1, n))) (hi : i = nI m) (hm : m < n) (hd : decode (miB M) pc = .ok (.baload, 1)) (k : AW S M (pc + 1) L (.int (G k0 m) :: st) I J G P) : AW S M pc L (.int i :: .ref k0 :: st) I J G P := by
  subst hi
  have hn := (hS.arr hk).2
  refine aw_bald hk (vp_in_nI hm (by omega)) hd ?_
  rw [nI_clamp (by omega)]
  exact k
theorem aw_zaN {k0 n : Nat} {i : Int32} (m : Nat) (hS : SOk S) (hk : S[k0]? = some (.inr (2, n))) (hi : i = nI m) (hm : m < n) (hd : decode (miB M) pc = .ok (.baload, 1)) (k : AW S M (pc + 1) L (.int (G k0 m) :: st) I J G P) : AW S M pc L (.int i :: .ref k0 :: st) I J G P := by
  subst hi
  have hn := (hS.arr hk).2
  refine aw_zald hk (vp_in_nI hm (by omega)) hd ?_
  rw [nI_clamp (by omega)]
  exact k
theorem aw_isN {k0 n : Nat} {i x : Int32} (m : Nat) (hS : SOk S) (hk : S[k0]? = some (.inr (0, n))) (hi : i = nI m) (hm : m < n) (hd : decode (miB M) pc = .ok (.iastore, 1)) (k : AW S M (pc + 1) L st I J (va_up G k0 (upd (G k0) m x)) P) : AW S M pc L (.int x :: .int i :: .ref k0 :: st) I J G P := by
  subst hi
  have hn := (hS.arr hk).2
  refine aw_iast hk (vp_in_nI hm (by omega)) hd ?_
  rw [nI_clamp (by omega)]
  exact k
theorem aw_bsN {k0 n : Nat} {i x : Int32} (m : Nat) (hS : SOk S) (hk : S[k0]? = some (.inr (1, n))) (hi : i = nI m) (hm : m < n) (hd : decode (miB M) pc = .ok (.bastore, 1)) (k : AW S M (pc + 1) L st I J (va_up G k0 (upd (G k0) m (vp_nar .byte x))) P) : AW S M pc L (.int x :: .int i :: .ref k0 :: st) I J G P := by
  subst hi
  have hn := (hS.arr hk).2
  refine aw_bast hk (vp_in_nI hm (by omega)) hd ?_
  rw [nI_clamp (by omega)]
  exact k
theorem aw_zsN {k0 n : Nat} {i x : Int32} (m : Nat) (hS : SOk S) (hk : S[k0]? = some (.inr (2, n))) (hi : i = nI m) (hm : m < n) (hd : decode (miB M) pc = .ok (.bastore, 1)) (hx : x = 0 ∨ x = 1) (k : AW S M (pc + 1) L st I J (va_up G k0 (upd (G k0) m x)) P) : AW S M pc L (.int x :: .int i :: .ref k0 :: st) I J G P := by
  subst hi
  have hn := (hS.arr hk).2
  refine aw_zast hk (vp_in_nI hm (by omega)) hd ?_
  rw [nI_clamp (by omega)]
  have e : vp_nar .boolean x = x := by rcases hx with rfl | rfl <;> rfl
  rw [e]
  exact k
theorem aw_taN {k0 : Nat} {i : Int32} (m : Nat) (hk : isSt k0 = true) (hi : i = nI m) (hm : m < (snl k0).length) (hd : decode (miB M) pc = .ok (.iaload, 1)) (k : AW S M (pc + 1) L (.int ((snl k0).getD m 0) :: st) I J G P) : AW S M pc L (.int i :: .ref k0 :: st) I J G P := by
  subst hi
  have hn : (snl k0).length ≤ 4 := by unfold snl; split <;> decide
  refine aw_tald hk (vp_in_nI hm (by omega)) hd ?_
  rw [nI_clamp (by omega)]
  exact k
variable {x y : Int32} {a b : Nat} {off : Int} {tgt : Nat}
theorem aw_ltN (hx : x = nI a) (hy : y = nI b) (ha : a < 2 ^ 31) (hb : b < 2 ^ 31) (hd : decode (miB M) pc = .ok (.if_icmp .lt off, 3)) (ht : (pc : Int) + off = (tgt : Int)) (kt : a < b → AW S M tgt L st I J G P) (kf : b ≤ a → AW S M (pc + 3) L st I J G P) : AW S M pc L (.int y :: .int x :: st) I J G P := by
  subst hx; subst hy
  exact aw_icmp_lt hd ht (fun h => kt ((nI_ltI ha hb).mp h)) (fun h => kf (by have := mt (nI_ltI ha hb).mpr h; omega))
theorem aw_geN (hx : x = nI a) (hy : y = nI b) (ha : a < 2 ^ 31) (hb : b < 2 ^ 31) (hd : decode (miB M) pc = .ok (.if_icmp .ge off, 3)) (ht : (pc : Int) + off = (tgt : Int)) (kt : b ≤ a → AW S M tgt L st I J G P) (kf : a < b → AW S M (pc + 3) L st I J G P) : AW S M pc L (.int y :: .int x :: st) I J G P := by
  subst hx; subst hy
  exact aw_icmp_ge hd ht (fun h => kt ((nI_leI hb ha).mp h)) (fun h => kf (by have := mt (nI_leI hb ha).mpr h; omega))
theorem aw_gtN (hx : x = nI a) (hy : y = nI b) (ha : a < 2 ^ 31) (hb : b < 2 ^ 31) (hd : decode (miB M) pc = .ok (.if_icmp .gt off, 3)) (ht : (pc : Int) + off = (tgt : Int)) (kt : b < a → AW S M tgt L st I J G P) (kf : a ≤ b → AW S M (pc + 3) L st I J G P) : AW S M pc L (.int y :: .int x :: st) I J G P := by
  subst hx; subst hy
  exact aw_icmp_gt hd ht (fun h => kt ((nI_ltI hb ha).mp h)) (fun h => kf (by have := mt (nI_ltI hb ha).mpr h; omega))
theorem aw_leN (hx : x = nI a) (hy : y = nI b) (ha : a < 2 ^ 31) (hb : b < 2 ^ 31) (hd : decode (miB M) pc = .ok (.if_icmp .le off, 3)) (ht : (pc : Int) + off = (tgt : Int)) (kt : a ≤ b → AW S M tgt L st I J G P) (kf : b < a → AW S M (pc + 3) L st I J G P) : AW S M pc L (.int y :: .int x :: st) I J G P := by
  subst hx; subst hy
  exact aw_icmp_le hd ht (fun h => kt ((nI_leI ha hb).mp h)) (fun h => kf (by have := mt (nI_leI ha hb).mpr h; omega))
theorem aw_eqN (hx : x = nI a) (hy : y = nI b) (ha : a < 2 ^ 31) (hb : b < 2 ^ 31) (hd : decode (miB M) pc = .ok (.if_icmp .eq off, 3)) (ht : (pc : Int) + off = (tgt : Int)) (kt : a = b → AW S M tgt L st I J G P) (kf : a ≠ b → AW S M (pc + 3) L st I J G P) : AW S M pc L (.int y :: .int x :: st) I J G P := by
  subst hx; subst hy
  exact aw_icmp_eq hd ht (fun h => kt ((nI_eq ha hb).mp h)) (fun h => kf (mt (nI_eq ha hb).mpr h))
theorem aw_neN (hx : x = nI a) (hy : y = nI b) (ha : a < 2 ^ 31) (hb : b < 2 ^ 31) (hd : decode (miB M) pc = .ok (.if_icmp .ne off, 3)) (ht : (pc : Int) + off = (tgt : Int)) (kt : a ≠ b → AW S M tgt L st I J G P) (kf : a = b → AW S M (pc + 3) L st I J G P) : AW S M pc L (.int y :: .int x :: st) I J G P := by
  subst hx; subst hy
  exact aw_icmp_ne hd ht (fun h => kt (mt (nI_eq ha hb).mpr h)) (fun h => kf ((nI_eq ha hb).mp h))
theorem aw_0eqN (hx : x = nI a) (ha : a < 2 ^ 31) (hd : decode (miB M) pc = .ok (.ifCond .eq off, 3)) (ht : (pc : Int) + off = (tgt : Int)) (kt : a = 0 → AW S M tgt L st I J G P) (kf : a ≠ 0 → AW S M (pc + 3) L st I J G P) : AW S M pc L (.int x :: st) I J G P := by
  subst hx
  exact aw_if_eq hd ht (fun h => kt ((nI_eq ha (by decide)).mp h)) (fun h => kf (mt (nI_eq ha (by decide)).mpr h))
theorem aw_0neN (hx : x = nI a) (ha : a < 2 ^ 31) (hd : decode (miB M) pc = .ok (.ifCond .ne off, 3)) (ht : (pc : Int) + off = (tgt : Int)) (kt : a ≠ 0 → AW S M tgt L st I J G P) (kf : a = 0 → AW S M (pc + 3) L st I J G P) : AW S M pc L (.int x :: st) I J G P := by
  subst hx
  exact aw_if_ne hd ht (fun h => kt (mt (nI_eq ha (by decide)).mpr h)) (fun h => kf ((nI_eq ha (by decide)).mp h))
theorem aw_0ltN (hx : x = nI a) (ha : a < 2 ^ 31) (hd : decode (miB M) pc = .ok (.ifCond .lt off, 3)) (ht : (pc : Int) + off = (tgt : Int)) (kf : AW S M (pc + 3) L st I J G P) : AW S M pc L (.int x :: st) I J G P := by
  subst hx
  exact aw_if_lt hd ht (fun h => absurd h (nI_pos ha)) (fun h => kf)
theorem aw_0geN (hx : x = nI a) (ha : a < 2 ^ 31) (hd : decode (miB M) pc = .ok (.ifCond .ge off, 3)) (ht : (pc : Int) + off = (tgt : Int)) (kt : AW S M tgt L st I J G P) : AW S M pc L (.int x :: st) I J G P := by
  subst hx
  exact aw_if_ge hd ht (fun h => kt) (fun h => absurd (nI_pos' ha) h)
theorem aw_0gtN (hx : x = nI a) (ha : a < 2 ^ 31) (hd : decode (miB M) pc = .ok (.ifCond .gt off, 3)) (ht : (pc : Int) + off = (tgt : Int)) (kt : 0 < a → AW S M tgt L st I J G P) (kf : a = 0 → AW S M (pc + 3) L st I J G P) : AW S M pc L (.int x :: st) I J G P := by
  subst hx
  exact aw_if_gt hd ht (fun h => kt ((nI_ltI (by decide) ha).mp h)) (fun h => kf (by have := mt (nI_ltI (a := 0) (by decide) ha).mpr h; omega))
theorem aw_0leN (hx : x = nI a) (ha : a < 2 ^ 31) (hd : decode (miB M) pc = .ok (.ifCond .le off, 3)) (ht : (pc : Int) + off = (tgt : Int)) (kt : a = 0 → AW S M tgt L st I J G P) (kf : 0 < a → AW S M (pc + 3) L st I J G P) : AW S M pc L (.int x :: st) I J G P := by
  subst hx
  exact aw_if_le hd ht (fun h => kt (by have := (nI_leI ha (b := 0) (by decide)).mp h; omega)) (fun h => kf (by have := mt (nI_leI ha (b := 0) (by decide)).mpr h; omega))
end AWN
