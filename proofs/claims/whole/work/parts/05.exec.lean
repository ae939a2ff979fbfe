/-! the straight stretches, by computation -/
abbrev CF : Type := Nat × LV × List Value × II × JJ × II
def lkT : List (Nat × Instr × Nat) → Nat → Option (Instr × Nat)
  | [], _ => none
  | q :: r, pc => cond (Nat.beq q.1 pc) (some q.2) (lkT r pc)
theorem lkT_mem {t : List (Nat × Instr × Nat)} {pc : Nat} {x : Instr × Nat} (h : lkT t pc = some x) : (pc, x) ∈ t := by
  induction t with
  | nil => cases h
  | cons q r ih =>
    unfold lkT at h
    cases hb : Nat.beq q.1 pc with
    | true =>
      rw [hb] at h
      have h1 : q.1 = pc := Nat.eq_of_beq_eq_true hb
      have h2 : q.2 = x := Option.some.inj h
      obtain ⟨a, b⟩ := q
      dsimp only at h1 h2
      subst h1; subst h2
      exact List.mem_cons_self
    | false =>
      rw [hb] at h
      exact List.mem_cons_of_mem _ (ih h)
theorem MOk.dec {M : MI} (h : MOk M) {pc len : Nat} {i : Instr} (hi : lkT (miT M) pc = some (i, len)) : decode (miB M) pc = .ok (i, len) := by
  obtain ⟨-, -, -, -, -, -, -, h8⟩ := h
  exact h8 (pc, i, len) (lkT_mem hi)
def ldI (L : LV) (n : Nat) : Option Value := match L[n]? with
  | some (some (.int x)) => some (.int x)
  | _ => none
def ldA (L : LV) (n : Nat) : Option Value := match L[n]? with
  | some (some (.ref x)) => some (.ref x)
  | _ => none
def ldL (L : LV) (n : Nat) : Option Value := match L[n]? with
  | some (some (.long x)) => some (.long x)
  | _ => none
theorem ldI_s {L : LV} {n : Nat} {v : Value} (h : ldI L n = some v) : ∃ x, v = .int x ∧ L[n]? = some (some (.int x)) := by
  unfold ldI at h
  split at h
  · rename_i x hx; cases h; exact ⟨x, rfl, hx⟩
  · cases h
theorem ldA_s {L : LV} {n : Nat} {v : Value} (h : ldA L n = some v) : ∃ x, v = .ref x ∧ L[n]? = some (some (.ref x)) := by
  unfold ldA at h
  split at h
  · rename_i x hx; cases h; exact ⟨x, rfl, hx⟩
  · cases h
theorem ldL_s {L : LV} {n : Nat} {v : Value} (h : ldL L n = some v) : ∃ x, v = .long x ∧ L[n]? = some (some (.long x)) := by
  unfold ldL at h
  split at h
  · rename_i x hx; cases h; exact ⟨x, rfl, hx⟩
  · cases h
def binI (f : Int32 → Int32 → Int32) (st : List Value) : Option (List Value) := match st with
  | .int y :: .int x :: r => some (.int (f x y) :: r)
  | _ => none
def binL (f : Int64 → Int64 → Int64) (st : List Value) : Option (List Value) := match st with
  | .long y :: .long x :: r => some (.long (f x y) :: r)
  | _ => none
theorem binI_s {f : Int32 → Int32 → Int32} {st r : List Value} (h : binI f st = some r) : ∃ x y q, st = .int y :: .int x :: q ∧ r = .int (f x y) :: q := by
  unfold binI at h
  split at h
  · cases h; exact ⟨_, _, _, rfl, rfl⟩
  · cases h
theorem binL_s {f : Int64 → Int64 → Int64} {st r : List Value} (h : binL f st = some r) : ∃ x y q, st = .long y :: .long x :: q ∧ r = .long (f x y) :: q := by
  unfold binL at h
  split at h
  · cases h; exact ⟨_, _, _, rfl, rfl⟩
  · cases h
def is1 (v : Value) : Bool := match v with
  | .int _ => true
  | .ref _ => true
  | _ => false
theorem is1_s {v : Value} (h : is1 v = true) : v.category = 1 := by cases v <;> first | rfl | (simp [is1] at h)
def getF (S : SH) (o idx : Nat) (st : List Value) (I : II) (J : JJ) : Option (List Value) := match st with
  | .ref k :: r => match flk o idx with
    | some (_, ci, j) => match S[k]? with
      | some (.inl (ci', fds)) => cond (Nat.beq ci ci') (match fds[j]? with
        | some fd => some (fdv I J k j fd :: r)
        | none => none) none
      | _ => none
    | none => none
  | _ => none
theorem getF_s {S : SH} {o idx : Nat} {st r : List Value} {I : II} {J : JJ} (h : getF S o idx st I J = some r) : ∃ k q nst ci j fds fd, st = .ref k :: q ∧ flk o idx = some (nst, ci, j) ∧ S[k]? = some (.inl (ci, fds)) ∧ fds[j]? = some fd ∧ r = fdv I J k j fd :: q := by
  unfold getF at h
  split at h
  · rename_i k q
    split at h
    · rename_i nst ci j hf
      split at h
      · rename_i ci' fds hs
        cases hb : Nat.beq ci ci' with
        | true =>
          rw [hb] at h
          have he : ci = ci' := Nat.eq_of_beq_eq_true hb
          subst he
          dsimp only [cond] at h
          split at h
          · rename_i fd hj
            cases h
            exact ⟨k, q, nst, ci, j, fds, fd, rfl, hf, hs, hj, rfl⟩
          · cases h
        | false => rw [hb] at h; cases h
      · cases h
    · cases h
  · cases h
def putF (S : SH) (o idx : Nat) (st : List Value) (I : II) (J : JJ) : Option (List Value × II × JJ) := match st with
  | v :: .ref k :: r => match flk o idx with
    | some (_, ci, j) => match S[k]? with
      | some (.inl (ci', fds)) => cond (Nat.beq ci ci') (match fds[j]? with
        | some fd => (match fd.1, v with
          | 1, .int x => some (r, up2 I k j x, J)
          | 2, .long x => some (r, I, up2 J k j x)
          | 3, .int x => if x = 0 then some (r, up2 I k j 0, J) else if x = 1 then some (r, up2 I k j 1, J) else none
          | _, _ => none)
        | none => none) none
      | _ => none
    | none => none
  | _ => none
theorem putF_s {S : SH} {M : MI} {pc idx : Nat} {L : LV} {st r : List Value} {I I' : II} {J J' : JJ} {G : II} {P : PP} (hS : SOk S) (h : putF S (miO M) idx st I J = some (r, I', J')) (hd : decode (miB M) pc = .ok (.putfield idx, 3)) (k : AW S M (pc + 3) L r I' J' G P) : AW S M pc L st I J G P := by
  unfold putF at h
  split at h
  · rename_i v k0 q
    split at h
    · rename_i nst ci j hf
      split at h
      · rename_i ci' fds hs
        cases hb : Nat.beq ci ci' with
        | true =>
          rw [hb] at h
          have he : ci = ci' := Nat.eq_of_beq_eq_true hb
          subst he
          dsimp only [cond] at h
          split at h
          · rename_i fd hj
            obtain ⟨f1, f2⟩ := fd
            dsimp only at h
            split at h
            · cases h
              exact aw_putI hS hf hs hj rfl hd k
            · cases h
              exact aw_putJ hS hf hs hj rfl hd k
            · split at h
              · rename_i hx
                cases h
                subst hx
                exact aw_putZ (Or.inl rfl) hS hf hs hj rfl hd k
              · split at h
                · rename_i hx
                  cases h
                  subst hx
                  exact aw_putZ (Or.inr rfl) hS hf hs hj rfl hd k
                · cases h
            · cases h
          · cases h
        | false => rw [hb] at h; cases h
      · cases h
    · cases h
  · cases h
def inB (i : Int32) (n : Nat) : Bool := !(decide (i < 0) || decide (n ≤ i.toNatClampNeg))
theorem inB_s {i : Int32} {n : Nat} (h : inB i n = true) : vp_in i n := by
  unfold vp_in
  simpa [inB] using h
/-- a constant, as nI of a number, or the negative of one -/
def lit (n : Int) : Int32 := match n with
  | .ofNat k => nI k
  | .negSucc k => -nI (k + 1)
theorem lit_ofInt (n : Int) : Int32.ofInt n = lit n := by
  cases n with
  | ofNat k => exact Int32.ofInt_eq_ofNat
  | negSucc k =>
    show Int32.ofInt (Int.negSucc k) = -Int32.ofNat (k + 1)
    rw [Int.negSucc_eq, Int32.ofInt_neg]
    congr 1
theorem lit_8 {n : Int} (h1 : -128 ≤ n) (h2 : n < 128) : (Int8.ofInt n).toInt32 = lit n := by
  rw [← lit_ofInt]
  apply Int32.toInt_inj.mp
  rw [Int8.toInt_toInt32, Int8.toInt_ofInt_of_le (by omega) (by omega), Int32.toInt_ofInt_of_le (by omega) (by omega)]
theorem lit_16 {n : Int} (h1 : -32768 ≤ n) (h2 : n < 32768) : (Int16.ofInt n).toInt32 = lit n := by
  rw [← lit_ofInt]
  apply Int32.toInt_inj.mp
  rw [Int16.toInt_toInt32, Int16.toInt_ofInt_of_le (by omega) (by omega), Int32.toInt_ofInt_of_le (by omega) (by omega)]
def ex1 (S : SH) (M : MI) (ins : Instr) (pc : Nat) (L : LV) (st : List Value) (I : II) (J : JJ) (G : II) : Option CF := match ins with
  | .iconst n => some (pc + 1, L, .int (lit n) :: st, I, J, G)
  | .bipush n => if -128 ≤ n ∧ n < 128 then some (pc + 2, L, .int (lit n) :: st, I, J, G) else none
  | .sipush n => if -32768 ≤ n ∧ n < 32768 then some (pc + 3, L, .int (lit n) :: st, I, J, G) else none
  | .lconst n => some (pc + 1, L, .long (Int64.ofNat n) :: st, I, J, G)
  | .ldc idx => match CIl.find? (fun q => q.1 == miO M && q.2.1 == idx) with
    | some q => some (pc + 2, L, .int q.2.2 :: st, I, J, G)
    | none => none
  | .ldc2_w idx => match CLl.find? (fun q => q.1 == miO M && q.2.1 == idx) with
    | some q => some (pc + 3, L, .long q.2.2 :: st, I, J, G)
    | none => none
  | .iload_n n => match ldI L n.val with
    | some v => some (pc + 1, L, v :: st, I, J, G)
    | none => none
  | .iload n => match ldI L n with
    | some v => some (pc + 2, L, v :: st, I, J, G)
    | none => none
  | .lload_n n => match ldL L n.val with
    | some v => some (pc + 1, L, v :: st, I, J, G)
    | none => none
  | .aload_n n => match ldA L n.val with
    | some v => some (pc + 1, L, v :: st, I, J, G)
    | none => none
  | .aload n => match ldA L n with
    | some v => some (pc + 2, L, v :: st, I, J, G)
    | none => none
  | .istore_n n => match st with
    | .int x :: r => if n.val < miX M then some (pc + 1, st1 L n.val (.int x), r, I, J, G) else none
    | _ => none
  | .istore n => match st with
    | .int x :: r => if n < miX M then some (pc + 2, st1 L n (.int x), r, I, J, G) else none
    | _ => none
  | .lstore_n n => match st with
    | .long x :: r => if n.val + 1 < miX M then some (pc + 1, st2 L n.val (.long x), r, I, J, G) else none
    | _ => none
  | .astore_n n => match st with
    | .ref x :: r => if n.val < miX M then some (pc + 1, st1 L n.val (.ref x), r, I, J, G) else none
    | _ => none
  | .astore n => match st with
    | .ref x :: r => if n < miX M then some (pc + 2, st1 L n (.ref x), r, I, J, G) else none
    | _ => none
  | .iinc i n => match L[i]? with
    | some (some (.int x)) => if i < miX M then some (pc + 3, st1 L i (.int (x + lit n)), st, I, J, G) else none
    | _ => none
  | .iadd => (binI (fun x y => x + y) st).map (fun r => (pc + 1, L, r, I, J, G))
  | .isub => (binI (fun x y => x - y) st).map (fun r => (pc + 1, L, r, I, J, G))
  | .imul => (binI (fun x y => x * y) st).map (fun r => (pc + 1, L, r, I, J, G))
  | .iand => (binI (fun x y => x &&& y) st).map (fun r => (pc + 1, L, r, I, J, G))
  | .ior => (binI (fun x y => x ||| y) st).map (fun r => (pc + 1, L, r, I, J, G))
  | .ixor => (binI (fun x y => x ^^^ y) st).map (fun r => (pc + 1, L, r, I, J, G))
  | .ishl => (binI (fun x y => x <<< (y &&& 31)) st).map (fun r => (pc + 1, L, r, I, J, G))
  | .ishr => (binI (fun x y => x >>> (y &&& 31)) st).map (fun r => (pc + 1, L, r, I, J, G))
  | .ladd => (binL (fun x y => x + y) st).map (fun r => (pc + 1, L, r, I, J, G))
  | .lmul => (binL (fun x y => x * y) st).map (fun r => (pc + 1, L, r, I, J, G))
  | .i2l => match st with
    | .int x :: r => some (pc + 1, L, .long x.toInt64 :: r, I, J, G)
    | _ => none
  | .l2i => match st with
    | .long x :: r => some (pc + 1, L, .int x.toInt32 :: r, I, J, G)
    | _ => none
  | .i2b => match st with
    | .int x :: r => some (pc + 1, L, .int x.toInt8.toInt32 :: r, I, J, G)
    | _ => none
  | .dup => match st with
    | v :: r => cond (is1 v) (some (pc + 1, L, v :: v :: r, I, J, G)) none
    | _ => none
  | .dup2 => match st with
    | v :: u :: r => cond (is1 v && is1 u) (some (pc + 1, L, v :: u :: v :: u :: r, I, J, G)) none
    | _ => none
  | .pop => match st with
    | v :: r => cond (is1 v) (some (pc + 1, L, r, I, J, G)) none
    | _ => none
  | .goto off => if 0 ≤ (pc : Int) + off then some (((pc : Int) + off).toNat, L, st, I, J, G) else none
  | .getfield idx => (getF S (miO M) idx st I J).map (fun r => (pc + 3, L, r, I, J, G))
  | .putfield idx => (putF S (miO M) idx st I J).map (fun r => (pc + 3, L, r.1, r.2.1, r.2.2, G))
  | .iaload => match st with
    | .int i :: .ref k :: r => match S[k]? with
      | some (.inr (0, n)) => cond (inB i n) (some (pc + 1, L, .int (G k i.toNatClampNeg) :: r, I, J, G)) none
      | _ => none
    | _ => none
  | .iastore => match st with
    | .int x :: .int i :: .ref k :: r => match S[k]? with
      | some (.inr (0, n)) => cond (inB i n) (some (pc + 1, L, r, I, J, va_up G k (upd (G k) i.toNatClampNeg x))) none
      | _ => none
    | _ => none
  | _ => none
def ilen (ins : Instr) : Nat := match ins with
  | .bipush _ => 2
  | .sipush _ => 3
  | .ldc _ => 2
  | .ldc2_w _ => 3
  | .iload _ => 2
  | .aload _ => 2
  | .istore _ => 2
  | .astore _ => 2
  | .iinc _ _ => 3
  | .goto _ => 3
  | .getfield _ => 3
  | .putfield _ => 3
  | _ => 1
set_option maxHeartbeats 4000000 in
theorem ex1_ok {S : SH} {M : MI} {ins : Instr} {pc : Nat} {L : LV} {st : List Value} {I : II} {J : JJ} {G : II} {c : CF} {P : PP} (hS : SOk S) (h : ex1 S M ins pc L st I J G = some c) (hd : decode (miB M) pc = .ok (ins, ilen ins)) (k : AW S M c.1 c.2.1 c.2.2.1 c.2.2.2.1 c.2.2.2.2.1 c.2.2.2.2.2 P) : AW S M pc L st I J G P := by
  unfold ex1 at h
  split at h
  · cases h; exact aw_iconst hd (by rw [lit_ofInt]; exact k)
  · split at h
    · rename_i hb; cases h; exact aw_bipush hd (by rw [lit_8 hb.1 hb.2]; exact k)
    · cases h
  · split at h
    · rename_i hb; cases h; exact aw_sipush hd (by rw [lit_16 hb.1 hb.2]; exact k)
    · cases h
  · cases h; exact aw_lconst hd k
  · split at h
    · rename_i q hq
      obtain ⟨q1, q2, q3⟩ := q
      cases h
      have h1 := List.mem_of_find?_eq_some hq
      have h2 := List.find?_some hq
      simp only [Bool.and_eq_true, beq_iff_eq] at h2
      obtain ⟨rfl, rfl⟩ := h2
      exact aw_ldc h1 hd k
    · cases h
  · split at h
    · rename_i q hq
      obtain ⟨q1, q2, q3⟩ := q
      cases h
      have h1 := List.mem_of_find?_eq_some hq
      have h2 := List.find?_some hq
      simp only [Bool.and_eq_true, beq_iff_eq] at h2
      obtain ⟨rfl, rfl⟩ := h2
      exact aw_ldc2 h1 hd k
    · cases h
  · split at h
    · rename_i v hv
      obtain ⟨x, rfl, hx⟩ := ldI_s hv
      cases h; exact aw_iload_n hx hd k
    · cases h
  · split at h
    · rename_i v hv
      obtain ⟨x, rfl, hx⟩ := ldI_s hv
      cases h; exact aw_iload hx hd k
    · cases h
  · split at h
    · rename_i v hv
      obtain ⟨x, rfl, hx⟩ := ldL_s hv
      cases h; exact aw_lload_n hx hd k
    · cases h
  · split at h
    · rename_i v hv
      obtain ⟨x, rfl, hx⟩ := ldA_s hv
      cases h; exact aw_aload_n hx hd k
    · cases h
  · split at h
    · rename_i v hv
      obtain ⟨x, rfl, hx⟩ := ldA_s hv
      cases h; exact aw_aload hx hd k
    · cases h
  · split at h
    · split at h
      · rename_i hn; cases h; exact aw_istore_n hn hd k
      · cases h
    · cases h
  · split at h
    · split at h
      · rename_i hn; cases h; exact aw_istore hn hd k
      · cases h
    · cases h
  · split at h
    · split at h
      · rename_i hn; cases h; exact aw_lstore_n hn hd k
      · cases h
    · cases h
  · split at h
    · split at h
      · rename_i hn; cases h; exact aw_astore_n hn hd k
      · cases h
    · cases h
  · split at h
    · split at h
      · rename_i hn; cases h; exact aw_astore hn hd k
      · cases h
    · cases h
  · split at h
    · rename_i x hx
      split at h
      · rename_i hn; cases h; exact aw_iinc hn hx hd (by rw [lit_ofInt]; exact k)
      · cases h
    · cases h
  · obtain ⟨r, h1, rfl⟩ := Option.map_eq_some_iff.mp h
    obtain ⟨x, y, q, rfl, rfl⟩ := binI_s h1
    exact aw_iadd hd k
  · obtain ⟨r, h1, rfl⟩ := Option.map_eq_some_iff.mp h
    obtain ⟨x, y, q, rfl, rfl⟩ := binI_s h1
    exact aw_isub hd k
  · obtain ⟨r, h1, rfl⟩ := Option.map_eq_some_iff.mp h
    obtain ⟨x, y, q, rfl, rfl⟩ := binI_s h1
    exact aw_imul hd k
  · obtain ⟨r, h1, rfl⟩ := Option.map_eq_some_iff.mp h
    obtain ⟨x, y, q, rfl, rfl⟩ := binI_s h1
    exact aw_iand hd k
  · obtain ⟨r, h1, rfl⟩ := Option.map_eq_some_iff.mp h
    obtain ⟨x, y, q, rfl, rfl⟩ := binI_s h1
    exact aw_ior hd k
  · obtain ⟨r, h1, rfl⟩ := Option.map_eq_some_iff.mp h
    obtain ⟨x, y, q, rfl, rfl⟩ := binI_s h1
    exact aw_ixor hd k
  · obtain ⟨r, h1, rfl⟩ := Option.map_eq_some_iff.mp h
    obtain ⟨x, y, q, rfl, rfl⟩ := binI_s h1
    exact aw_ishl hd k
  · obtain ⟨r, h1, rfl⟩ := Option.map_eq_some_iff.mp h
    obtain ⟨x, y, q, rfl, rfl⟩ := binI_s h1
    exact aw_ishr hd k
  · obtain ⟨r, h1, rfl⟩ := Option.map_eq_some_iff.mp h
    obtain ⟨x, y, q, rfl, rfl⟩ := binL_s h1
    exact aw_ladd hd k
  · obtain ⟨r, h1, rfl⟩ := Option.map_eq_some_iff.mp h
    obtain ⟨x, y, q, rfl, rfl⟩ := binL_s h1
    exact aw_lmul hd k
  · split at h
    · cases h; exact aw_i2l hd k
    · cases h
  · split at h
    · cases h; exact aw_l2i hd k
    · cases h
  · split at h
    · cases h; exact aw_i2b hd k
    · cases h
  · split at h
    · rename_i v r
      cases hv : is1 v with
      | true => rw [hv] at h; cases h; exact aw_dup (is1_s hv) hd k
      | false => rw [hv] at h; cases h
    · cases h
  · split at h
    · rename_i v u r
      cases hv : is1 v with
      | true =>
        cases hu : is1 u with
        | true => rw [hv, hu] at h; cases h; exact aw_dup2 (is1_s hv) (is1_s hu) hd k
        | false => rw [hv, hu] at h; cases h
      | false => rw [hv] at h; cases h
    · cases h
  · split at h
    · rename_i v r
      cases hv : is1 v with
      | true => rw [hv] at h; cases h; exact aw_pop (is1_s hv) hd k
      | false => rw [hv] at h; cases h
    · cases h
  · split at h
    · rename_i ho
      cases h
      exact aw_goto (by rw [Int.toNat_of_nonneg ho]) hd k
    · cases h
  · obtain ⟨r, h1, rfl⟩ := Option.map_eq_some_iff.mp h
    obtain ⟨k0, q, nst, ci, j, fds, fd, rfl, e1, e2, e3, rfl⟩ := getF_s h1
    exact aw_get e1 e2 e3 hd k
  · obtain ⟨r, h1, rfl⟩ := Option.map_eq_some_iff.mp h
    exact putF_s hS h1 hd k
  · split at h
    · rename_i i k0 r
      split at h
      · rename_i n hn
        cases hb : inB i n with
        | true => rw [hb] at h; cases h; exact aw_iald hn (inB_s hb) hd k
        | false => rw [hb] at h; cases h
      · cases h
    · cases h
  · split at h
    · rename_i x i k0 r
      split at h
      · rename_i n hn
        cases hb : inB i n with
        | true => rw [hb] at h; cases h; exact aw_iast hn (inB_s hb) hd k
        | false => rw [hb] at h; cases h
      · cases h
    · cases h
  · cases h
def exN (S : SH) (M : MI) : Nat → CF → Option CF
  | 0, c => some c
  | n + 1, c => match lkT (miT M) c.1 with
    | some (ins, len) => cond (Nat.beq len (ilen ins)) (match ex1 S M ins c.1 c.2.1 c.2.2.1 c.2.2.2.1 c.2.2.2.2.1 c.2.2.2.2.2 with
      | some c' => exN S M n c'
      | none => none) none
    | none => none
theorem exN_ok {S : SH} {M : MI} {P : PP} (hM : MOk M) (hS : SOk S) (n : Nat) : ∀ {c c' : CF}, exN S M n c = some c' → AW S M c'.1 c'.2.1 c'.2.2.1 c'.2.2.2.1 c'.2.2.2.2.1 c'.2.2.2.2.2 P → AW S M c.1 c.2.1 c.2.2.1 c.2.2.2.1 c.2.2.2.2.1 c.2.2.2.2.2 P := by
  induction n with
  | zero => intro c c' h k; cases h; exact k
  | succ n ih =>
    intro c c' h k
    unfold exN at h
    split at h
    · rename_i ins len hi
      cases hb : Nat.beq len (ilen ins) with
      | true =>
        rw [hb] at h
        dsimp only [cond] at h
        have he : len = ilen ins := Nat.eq_of_beq_eq_true hb
        subst he
        split at h
        · rename_i c1 h1
          exact ex1_ok hS h1 (hM.dec hi) (ih h k)
        · cases h
      | false => rw [hb] at h; cases h
    · cases h
/-- a straight stretch of n instructions -/
theorem aw_run {S : SH} {M : MI} {P : PP} (hM : MOk M) (hS : SOk S) (n : Nat) {pc pc' : Nat} {L L' : LV} {st st' : List Value} {I I' : II} {J J' : JJ} {G G' : II} (h : exN S M n (pc, L, st, I, J, G) = some (pc', L', st', I', J', G')) (k : AW S M pc' L' st' I' J' G' P) : AW S M pc L st I J G P :=
  exN_ok hM hS n h k
