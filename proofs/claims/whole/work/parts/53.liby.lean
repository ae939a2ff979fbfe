/-! a contract's end, weakened; the reference's draft, as a told season -/
theorem amet_mono {S : SH} {M : MI} {as : List Value} {I : II} {J : JJ} {G : II} {P Q : PP} (h : AMet S M as I J G P) (k : ∀ r I' J' G', P r I' J' G' → Q r I' J' G') : AMet S M as I J G Q := by
  intro l D cA ad sz
  exact Jvm.Free.MetFree.mono (h l D cA ad sz) (fun _ _ hp => hp) (fun _ _ _ _ _ hk => hk) (fun _ _ _ _ _ hq => ⟨qg_mono k hq.1, hq.2⟩)
def MR (I G : II) (D : PD) : Prop := G 2 1 = nI (pW D) ∧ G 5 1 = nI (pP D) ∧ G 10 1 = nI (pSh D) ∧ I 0 12 = b1 (pTl D) ∧ (∀ i, i < (pW D) → G 3 (12 + i) = nI ((pSt D) i) ∧ G 4 (12 + i) = nI ((pPi D) i)) ∧ ∀ i, i < (pP D) → G 6 i = nI ((pLi D) i) ∧ G 7 i = nI ((pHi D) i) ∧ G 8 (5 + i) = nI ((pGu D) i) ∧ G 9 (5 + i) = nI ((pRe D) i)
/-- what the reading of a text leaves as it was -/
def MF (G G' : II) : Prop := G' 1 = G 1 ∧ G' 11 = G 11 ∧ G' 12 = G 12 ∧ G' 2 0 = G 2 0 ∧ G' 5 0 = G 5 0 ∧ G' 10 0 = G 10 0 ∧ (∀ i, i < 12 → G' 3 i = G 3 i ∧ G' 4 i = G 4 i) ∧ ∀ i, i < 5 → G' 8 i = G 8 i ∧ G' 9 i = G 9 i
theorem MF.refl (G : II) : MF G G := ⟨rfl, rfl, rfl, rfl, rfl, rfl, fun _ _ => ⟨rfl, rfl⟩, fun _ _ => ⟨rfl, rfl⟩⟩
theorem MF.trans {G1 G2 G3 : II} (h : MF G1 G2) (k : MF G2 G3) : MF G1 G3 := by
  obtain ⟨a1, a2, a3, a4, a5, a6, a7, a8⟩ := h
  obtain ⟨b1, b2, b3, b4, b5, b6, b7, b8⟩ := k
  exact ⟨b1.trans a1, b2.trans a2, b3.trans a3, b4.trans a4, b5.trans a5, b6.trans a6, fun i hi => ⟨(b7 i hi).1.trans (a7 i hi).1, (b7 i hi).2.trans (a7 i hi).2⟩, fun i hi => ⟨(b8 i hi).1.trans (a8 i hi).1, (b8 i hi).2.trans (a8 i hi).2⟩⟩
theorem upd_ne {f : Nat → Int32} {k j : Nat} {x : Int32} (h : j ≠ k) : upd f k x j = f j := if_neg h
theorem upd_eq {f : Nat → Int32} {k : Nat} {x : Int32} : upd f k x k = x := if_pos rfl
theorem upd_unK {f : Nat → Int32} {g : Nat → Nat} {c k v i : Nat} (h : ∀ j, j < k → f (c + j) = nI (g j)) (hi : i < k + 1) : upd f (c + k) (nI v) (c + i) = nI (un g k v i) := by
  unfold upd un
  by_cases hk : i = k
  · rw [if_pos (by omega), if_pos hk]
  · rw [if_neg (by omega), if_neg hk]; exact h i (by omega)
theorem mayT_ms {bt : Nat → Nat} {n p W P : Nat} {tl : Bool} : mayT (msK bt n p) W P tl ↔ mayT (ltr bt n p) W P tl := by
  unfold mayT
  rw [tm_c (c := 119) (by decide), tm_c (c := 115) (by decide), tm_c (c := 107) (by decide)]
theorem mayT_97 {c W P : Nat} {tl : Bool} (h : mayT c W P tl) : 97 ≤ c := by
  obtain ⟨h, _⟩ | ⟨h, _⟩ | ⟨h, _⟩ := h <;> omega
theorem mayT_K {bt : Nat → Nat} {n p W P : Nat} {tl : Bool} (h : mayT (ltr bt n p) W P tl) : msK bt n p = ltr bt n p := (tm_c (mayT_97 h)).mp rfl
theorem nsts_n {bt : Nat → Nat} {n : Nat} : ∀ (ms : List Nat) (s : Bool × Nat), s.2 ≤ n → (nsts bt n ms s).1.2 ≤ n := by
  intro ms
  induction ms with
  | nil => intro s h; exact h
  | cons m r ih => intro s h; exact ih _ (nst_n h)
/-- a row is read: numbers, each at its place, whatever the fault -/
theorem m_readRow {I : II} {J : JJ} {G : II} {bt : Nat → Nat} {n : Nat} (hbt : ∀ i, i < 180 → G 1 i &&& nI 255 = nI (bt i) ∧ bt i < 256) (hn : I 0 2 = nI n) (hn180 : n ≤ 180) {s : Bool × Nat} (hs : s.2 ≤ n) {D : PD} (hD : MR I G D) {c : Nat} (hm : mayT c (pW D) (pP D) (pTl D)) :
    AMet SM mX7_readRow [.ref 0, .int (nI c)] (RI bt n I s) J G (fun r I' J' G' => r = none ∧ J' = J ∧ ∃ I3, I' = RI bt n I3 (nsts bt n (msOf c) s).1 ∧ (∀ j, j ≠ 12 → I3 0 j = I 0 j) ∧ MR I3 G' (addD D c (nsts bt n (msOf c) s).2) ∧ MF G G') := by
  obtain ⟨a1, a2, a3, a4, a5, a6⟩ := hD
  obtain ⟨rfl, hw⟩ | ⟨rfl, hw⟩ | ⟨rfl, hw⟩ := hm
  · refine amet_mono (m_readRow_w (I := I) (J := J) (G := G) hbt hn hn180 hs a1 hw) (fun r I' J' G' h => ?_)
    obtain ⟨rfl, rfl, rfl, rfl⟩ := h
    refine ⟨rfl, rfl, I, rfl, fun _ _ => rfl, ⟨addN a1 rfl, a2, a3, a4, fun i hi => ⟨?_, ?_⟩, fun i hi => a6 i hi⟩, ⟨rfl, rfl, rfl, rfl, rfl, rfl, fun i hi => ⟨upd_ne (by omega), upd_ne (by omega)⟩, fun _ _ => ⟨rfl, rfl⟩⟩⟩
    · exact upd_unK (fun j hj => (a5 j hj).1) hi
    · exact upd_unK (fun j hj => (a5 j hj).2) hi
  · refine amet_mono (m_readRow_s (I := I) (J := J) (G := G) hbt hn hn180 hs a2 hw) (fun r I' J' G' h => ?_)
    obtain ⟨rfl, rfl, rfl, rfl⟩ := h
    refine ⟨rfl, rfl, I, rfl, fun _ _ => rfl, ⟨a1, addN a2 rfl, a3, a4, fun i hi => a5 i hi, fun i hi => ⟨?_, ?_, ?_, ?_⟩⟩, ⟨rfl, rfl, rfl, rfl, rfl, rfl, fun _ _ => ⟨rfl, rfl⟩, fun i hi => ⟨upd_ne (by omega), upd_ne (by omega)⟩⟩⟩
    · exact upd_un (fun j hj => (a6 j hj).1) hi
    · exact upd_un (fun j hj => (a6 j hj).2.1) hi
    · exact upd_unK (fun j hj => (a6 j hj).2.2.1) hi
    · exact upd_unK (fun j hj => (a6 j hj).2.2.2) hi
  · refine amet_mono (m_readRow_k (I := I) (J := J) (G := G) hbt hn hn180 hs) (fun r I' J' G' h => ?_)
    obtain ⟨rfl, rfl, rfl, rfl⟩ := h
    refine ⟨rfl, rfl, up2 I 0 12 (nI 1), ?_, fun j hj => ?_, ⟨a1, a2, rfl, rfl, fun i hi => a5 i hi, fun i hi => a6 i hi⟩, ⟨rfl, rfl, rfl, rfl, rfl, rfl, fun _ _ => ⟨rfl, rfl⟩, fun _ _ => ⟨rfl, rfl⟩⟩⟩
    · show up2 (RI bt n I (nst bt n 10 s)) 0 12 (nI 1) = RI bt n (up2 I 0 12 (nI 1)) (nst bt n 10 s)
      funext q z
      unfold RI
      simp only [up2]
      by_cases h1 : q = 0
      · by_cases h2 : z = 12
        · subst h2; simp [h1]
        · simp [h1, h2]
      · simp [h1]
    · simp [up2, hj]
/-- an item, as the reference goes through it -/
theorem it_f {bt : Nat → Nat} {n p g : Nat} {D : PD} (hm : mayT (ltr bt n p) (pW D) (pP D) (pTl D)) (h : itm bt n (pW D) (pP D) (pTl D) p = .inl g) (ok : Bool) (hok : ok = decide (msK bt n (nsts bt n (msOf (ltr bt n p)) (false, skp bt n (tkE bt n p))).1.2 = 2)) :
    dst bt n ok (nsts bt n (msOf (ltr bt n p)) (false, skp bt n (tkE bt n p))).1 = (true, g) := by
  cases hr : numR bt n (msOf (ltr bt n p)) (tkE bt n p) with
  | inl f =>
    rw [itm_f hm hr] at h
    cases h
    rw [num_f _ _ hr]; rfl
  | inr q =>
    rw [num_s _ _ q hr] at hok ⊢
    by_cases h3 : tkK bt n (skp bt n q.2) = 3
    · rw [itm_ok hm hr h3] at h; cases h
    · rw [itm_3 hm hr h3] at h
      cases h
      have : ok = false := by rw [hok]; exact decide_eq_false (fun e => h3 (tm_3.mpr e))
      rw [this]; rfl
theorem it_s {bt : Nat → Nat} {n p : Nat} {D : PD} {q : Nat × List Nat × Nat} (hm : mayT (ltr bt n p) (pW D) (pP D) (pTl D)) (h : itm bt n (pW D) (pP D) (pTl D) p = .inr q) (ok : Bool) (hok : ok = decide (msK bt n (nsts bt n (msOf (ltr bt n p)) (false, skp bt n (tkE bt n p))).1.2 = 2)) :
    dst bt n ok (nsts bt n (msOf (ltr bt n p)) (false, skp bt n (tkE bt n p))).1 = (false, q.2.2) ∧ q.1 = ltr bt n p ∧ q.2.1 = (nsts bt n (msOf (ltr bt n p)) (false, skp bt n (tkE bt n p))).2 := by
  cases hr : numR bt n (msOf (ltr bt n p)) (tkE bt n p) with
  | inl f => rw [itm_f hm hr] at h; cases h
  | inr q' =>
    rw [num_s _ _ q' hr] at hok ⊢
    by_cases h3 : tkK bt n (skp bt n q'.2) = 3
    · rw [itm_ok hm hr h3] at h
      cases h
      have : ok = true := by rw [hok]; exact decide_eq_true (tm_3.mp h3)
      rw [this]
      refine ⟨?_, rfl, rfl⟩
      show (false, skp bt n (msE bt n (skp bt n q'.2))) = _
      rw [← tm_3e h3]
    · rw [itm_3 hm hr h3] at h; cases h
theorem cpD {f g : Nat → Int32} {c s : Nat} (hs : s < c) (h : (∀ j, j < s → f j = g (c + j)) ∧ ∀ j, c ≤ j → f j = g j) : (∀ j, j < s + 1 → upd f s (f (c + s)) j = g (c + j)) ∧ ∀ j, c ≤ j → upd f s (f (c + s)) j = g j := by
  refine ⟨fun j hj => ?_, fun j hj => ?_⟩
  · by_cases hk : j = s
    · subst hk; rw [upd_eq]; exact h.2 _ (by omega)
    · rw [upd_ne hk]; exact h.1 j (by omega)
  · rw [upd_ne (by omega)]; exact h.2 j hj
theorem G8_id {G : II} {a b c : Nat → Int32} : va_up (va_up (va_up G 2 a) 5 b) 10 c = va_up (va_up (va_up (va_up (va_up (va_up (va_up (va_up G 2 a) 5 b) 10 c) 3 (G 3)) 4 (G 4)) 11 (G 11)) 8 (G 8)) 9 (G 9) := by
  funext q
  by_cases h9 : q = 9
  · subst h9; rfl
  · by_cases h8 : q = 8
    · subst h8; rfl
    · by_cases h1 : q = 11
      · subst h1; rfl
      · by_cases h4 : q = 4
        · subst h4; rfl
        · by_cases h3 : q = 3
          · subst h3; rfl
          · simp only [va_up, h9, h8, h1, h4, h3, if_false]
theorem IM_st {I : II} : up2 (up2 (up2 I 0 13 (nI 0)) 0 17 (-nI 9)) 0 12 (nI 0) = up2 (up2 (up2 (up2 (up2 (up2 I 0 12 (nI 0)) 0 17 (-nI 9)) 0 13 (nI 0)) 0 14 (I 0 14)) 0 15 (I 0 15)) 0 16 (I 0 16) := by
  funext q z
  simp only [up2]
  by_cases h1 : q = 0
  · subst h1
    simp only [if_true]
    by_cases h2 : z = 16
    · subst h2; rfl
    · by_cases h3 : z = 15
      · subst h3; rfl
      · by_cases h4 : z = 14
        · subst h4; rfl
        · by_cases h5 : z = 13
          · subst h5; rfl
          · by_cases h6 : z = 12
            · subst h6; rfl
            · simp only [h2, h3, h4, h5, h6, if_false]
  · simp only [h1, if_false]
theorem begR_t {l h f : Nat → Int32} {s j : Nat} (hs : s < 5) (hf : f j = begR l h s j) : upd (upd f (8 + s) (l s)) (13 + s) (h s) j = begR l h (s + 1) j := by
  by_cases e1 : j = 13 + s
  · rw [begR_h (by omega) (by omega) (by omega), e1, pk_us, show 13 + s - 13 = s by omega]
  · rw [pk_un e1]
    by_cases e2 : j = 8 + s
    · rw [begR_l (by omega) (by omega), e2, pk_us, show 8 + s - 8 = s by omega]
    · rw [pk_un e2, hf]
      by_cases q1 : 8 ≤ j ∧ j < 8 + s
      · rw [begR_l q1.1 q1.2, begR_l (by omega) (by omega)]
      · by_cases q2 : 13 ≤ j ∧ j < 13 + s
        · rw [begR_h (by omega) q2.1 q2.2, begR_h (by omega) (by omega) (by omega)]
        · rw [begR_0 q1 q2, begR_0 (by omega) (by omega)]
