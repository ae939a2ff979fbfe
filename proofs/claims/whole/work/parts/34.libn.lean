theorem knG_lo {f : Nat → Int32} {j : Nat} (h : j < 18) : knG f j = f j := by
  unfold knG
  rw [pk_un (by omega), pk_cpy_out (by omega)]
theorem knF_lo {f : Nat → Int32} {K j : Nat} (h : j < 18) : knF f K j = f j := by
  unfold knF
  split
  · rw [pk_un (by omega), pk_cpy_out (by omega), knG_lo h]
  · rw [pk_un (by omega), pk_cpy_out (by omega)]
def unF (f : Nat → Int32) (K : Nat) : Nat → Int32 := va_cpy (upd f 18 (nI (K - 1))) (upd f 18 (nI (K - 1))) (19 + 18 * (K - 1)) 0 18
