theorem amet_en {S : SH} {M : MI} {I : II} {J : JJ} {G : II} {P : PP} {as : List Value} {L : LV} (hM : MOk M) (hl : Nat.ble as.length (miX M) = true) (hc : as.all is1 = true) (hL : as.map some ++ List.replicate (miX M - as.length) none = L) (h : AW S M 0 L [] I J G P) : AMet S M as I J G P :=
  amet_of hM (Nat.le_of_ble_eq_true hl) (fun v hv => is1_s (List.all_eq_true.mp hc v hv)) (by rw [hL]; exact h)
theorem PE_of {r : Option Value} {I : II} {J : JJ} {G : II} {r' : Option Value} {I' : II} {J' : JJ} {G' : II} (h1 : r' = r) (h2 : I' = I) (h3 : J' = J) (h4 : G' = G) : PE r I J G r' I' J' G' := ⟨h1, h2, h3, h4⟩
theorem pe_rfl {r : Option Value} {I : II} {J : JJ} {G : II} : PE r I J G r I J G := ⟨rfl, rfl, rfl, rfl⟩
/-- the Int32 of a truth -/
def b1 (b : Bool) : Int32 := if b = true then nI 1 else nI 0
def sil (f : Nat → Int32) (s : Nat) : Int32 := f (8 + s) + f (13 + s)
theorem pe_i {x y : Int32} {I : II} {J : JJ} {G : II} (h : x = y) : PE (some (.int y)) I J G (some (.int x)) I J G := ⟨by rw [h], rfl, rfl, rfl⟩
theorem b1_t {c : Prop} [Decidable c] (h : c) : nI 1 = b1 (decide c) := by simp [b1, h]
theorem b1_f {c : Prop} [Decidable c] (h : ¬ c) : nI 0 = b1 (decide c) := by simp [b1, h]
theorem b1_nat (b : Bool) : b1 b = nI b.toNat := by cases b <;> rfl
