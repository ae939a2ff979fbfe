/-! both: the deeds -/
theorem sail1_c {f g : Nat → Int32} {shr sto : Int32} {tk : Bool} {d s : Nat} (hs : s < 5) (h : ∀ j, j < 18 → g j = f j) : ∀ j, j < 18 → sail1 g shr sto tk d s j = sail1 f shr sto tk d s j := by
  unfold sail1
  have h1 : ∀ j, j < 18 → upd g (3 + s) (nI 1) j = upd f (3 + s) (nI 1) j := upd_c h rfl
  have e2 : upd g (3 + s) (nI 1) 1 + sil (upd g (3 + s) (nI 1)) s = upd f (3 + s) (nI 1) 1 + sil (upd f (3 + s) (nI 1)) s := by rw [h1 1 (by omega), sil_c h1 hs]
  have h2 : ∀ j, j < 18 → upd (upd g (3 + s) (nI 1)) 1 (upd g (3 + s) (nI 1) 1 + sil (upd g (3 + s) (nI 1)) s) j = upd (upd f (3 + s) (nI 1)) 1 (upd f (3 + s) (nI 1) 1 + sil (upd f (3 + s) (nI 1)) s) j := upd_c h1 e2
  split
  · exact upd_c h rfl
  · split
    · exact upd_c h rfl
    · exact upd_c h2 (by rw [h2 2 (by omega), h2 (8 + s) (by omega)])
theorem sail1_hi {f : Nat → Int32} {shr sto : Int32} {tk : Bool} {d s j : Nat} (hs : s < 5) (hj : j = 0 ∨ 8 ≤ j) : sail1 f shr sto tk d s j = f j := by
  unfold sail1
  split
  · exact upd_ne (by omega)
  · split
    · exact upd_ne (by omega)
    · rw [upd_ne (by omega), upd_ne (by omega), upd_ne (by omega)]
theorem sailR_c {f g : Nat → Int32} {shr sto : Int32} {σ : Nat} {tk : Option Nat} {z t : Nat} (h : ∀ j, j < 18 → g j = f j) : ∀ n, n ≤ 5 → ∀ j, j < 18 → sailR g shr sto σ tk z t n j = sailR f shr sto σ tk z t n j := by
  intro n
  induction n with
  | zero => intro _; exact h
  | succ n ih =>
    intro hn
    cases hb : σ.testBit n with
    | true => rw [sailR_t hb, sailR_t hb]; exact sail1_c (by omega) (ih (by omega))
    | false => rw [sailR_f hb, sailR_f hb]; exact ih (by omega)
theorem sailR_hi {f : Nat → Int32} {shr sto : Int32} {σ : Nat} {tk : Option Nat} {z t j : Nat} (hj : j = 0 ∨ 8 ≤ j) : ∀ n, n ≤ 5 → sailR f shr sto σ tk z t n j = f j := by
  intro n
  induction n with
  | zero => intro _; rfl
  | succ n ih =>
    intro hn
    cases hb : σ.testBit n with
    | true => rw [sailR_t hb, sail1_hi (by omega) hj]; exact ih (by omega)
    | false => rw [sailR_f hb]; exact ih (by omega)
theorem andA_eq {q : Nat → Bool} {P : Nat} (hP : P ≤ 5) : ∀ n, n ≤ 2 ^ P → cntB q n ≠ 0 → andA q 31 n = andA q (2 ^ P - 1) n := by
  have hd : ∀ P : Nat, P < 6 → ∀ m : Nat, m < 2 ^ P → 31 &&& m = m ∧ (2 ^ P - 1) &&& m = m := by decide +kernel
  have h0 : ∀ (a n : Nat), cntB q n = 0 → andA q a n = a := by
    intro a n
    induction n with
    | zero => intro _; rfl
    | succ n ih =>
      intro h
      by_cases hq : q n = true
      · rw [cntB_t hq] at h; omega
      · rw [cntB_f hq] at h
        rw [andA_f hq]; exact ih h
  intro n
  induction n with
  | zero => intro _ h; exact absurd rfl h
  | succ n ih =>
    intro hn hc
    by_cases hq : q n = true
    · rw [andA_t hq, andA_t hq]
      by_cases hz : cntB q n = 0
      · rw [h0 _ _ hz, h0 _ _ hz, (hd P (by omega) n (by omega)).1, (hd P (by omega) n (by omega)).2]
      · rw [ih (by omega) hz]
    · rw [cntB_f hq] at hc
      rw [andA_f hq, andA_f hq]; exact ih (by omega) hc
theorem cntB_c {q r : Nat → Bool} : ∀ n, (∀ j, j < n → q j = r j) → cntB q n = cntB r n := by
  intro n
  induction n with
  | zero => intro _; rfl
  | succ n ih => intro h; rw [cntB_add, cntB_add, ih (fun j hj => h j (by omega)), h n (by omega)]
section BOTHD
variable {I : II} {J : JJ} {G : II} {Im : II} {Jm : JJ} {Gm : II}
/-- what a deed leaves: the row f' in the class, the row m' in the reference -/
theorem deed {Wk P K : Nat} {f' m' : Nat → Int32} (hT : RT (I 1 1) (G 10) (Im 0 2) (Gm 1)) (hS : RS Wk P (I 2 6) (I 2 7) (I 2 8) (G 12) (G 13) (G 16) (G 17) (Gm 2 0) (Gm 5 0) (Gm 10 0) (Gm 3) (Gm 4) (Gm 8) (Gm 9)) (hJ : J 9 2 = Jm 0 0) (l2 : lgOk Wk P K (G 24) (G 25)) (l3 : lgEq K (G 24) (G 25) (Gm 11)) (h1 : RK Wk P 199 (I 5 2) (I 5 3) (G 26) (G 27) (Gm 11) (Gm 12 0)) (h2 : RK Wk P 398 (I 6 2) (I 6 3) (G 28) (G 29) (Gm 11) (Gm 12 1)) (hf : rowOk Wk P f') (hlo : ∀ j, j < 18 → m' j = f' j) (hhi : ∀ j, 18 ≤ j → m' j = knF (Gm 11) K j) :
    Rl (up2 I 4 2 (nI (remK K))) J (va_up (va_up G 25 (remP (G 24) (G 25) K)) 24 f') Im Jm (va_up Gm 11 m') :=
  ⟨Wk, P, hT, hS, hJ, RLg_deed hS.2.1 l2 l3 hf hlo hhi, RK_deed l2 l3 (by omega) h1 hhi, RK_deed l2 l3 (by omega) h2 hhi⟩
theorem b_waits (hR : Rl I J G Im Jm Gm) : Both isI mX6_waits mX7_waits [] I J G Im Jm Gm := by
  obtain ⟨Wk, P, hT, hS, hJ, ⟨K, l1, l2, l3⟩, h1, h2⟩ := id hR
  obtain ⟨s1, s2, s3, s4, s5, s6, s7⟩ := id hS
  obtain ⟨t, ht, e0⟩ := l2.2.1.1
  have e0m : Gm 11 0 = nI t := (l3.1 0 (by omega)).trans e0
  by_cases ho : Wk ≤ t
  · exact both_pe (c_waits_over s3.1 s1 e0 (by omega) ho) (m_waits_over s3.2 s1 e0m (by omega) ht ho) rfl hR
  · have hg := kn_lo l3
    have hlo : ∀ j, j < 18 → upd (knF (Gm 11) K) 0 (((knF (Gm 11) K) 0) + (nI 1)) j = upd (G 24) 0 ((G 24 0) + (nI 1)) j := upd_c hg (by rw [hg 0 (by omega)])
    refine both_pe (c_waits_ok s3.1 s1 e0 (by omega) l1 l2.1 (by omega)) (m_waits_ok s3.2 s1 e0m (by omega) ht l3.2.1 l2.1 (by omega)) (hlo 0 (by omega)) (deed hT hS hJ l2 l3 h1 h2 ?_ hlo (fun j hj => upd_ne (by omega)))
    refine ⟨⟨t + 1, by omega, ?_⟩, fun s hs => ?_⟩
    · rw [upd_eq]; exact addN e0 rfl
    · rw [upd_ne (by omega), upd_ne (by omega)]; exact l2.2.1.2 s hs
theorem b_lists (hR : Rl I J G Im Jm Gm) (x y : Int32) : Both isI mX6_lists mX7_lists [.int x, .int y] I J G Im Jm Gm := by
  obtain ⟨Wk, P, hT, hS, hJ, ⟨K, l1, l2, l3⟩, h1, h2⟩ := id hR
  obtain ⟨s1, s2, s3, s4, s5, s6, s7⟩ := id hS
  rcases idxc x P with hx | ⟨s, hs, rfl⟩
  · exact both_pe (c_lists_bad s4.1 s2 hx) (m_lists_bad s4.2 s2 hx) rfl hR
  · rcases idxc y 61 with hy | ⟨k, hk, rfl⟩
    · exact both_pe (c_lists_bad2 s4.1 s2 hs hy) (m_lists_bad2 s4.2 s2 hs hy) rfl hR
    · by_cases hk0 : k = 0
      · subst hk0; exact both_pe (c_lists_bad0 s4.1 s2 hs) (m_lists_bad0 s4.2 s2 hs) rfl hR
      · have e3 := l3.1 (3 + s) (by omega)
        by_cases hp : G 24 (3 + s) = nI 0
        · obtain ⟨l, h, a1, a2, hl, hh⟩ := l2.2.1.2 s hs
          have hlm : Gm 11 (8 + s) = nI l := (l3.1 _ (by omega)).trans hl
          have hhm : Gm 11 (13 + s) = nI h := (l3.1 _ (by omega)).trans hh
          by_cases hf : h < k
          · exact both_pe (c_lists_few s4.1 s2 hs (by omega) (by omega) hp hl hh a1 a2 hf) (m_lists_few s4.2 s2 hs (by omega) (by omega) (e3.trans hp) hlm hhm a1 a2 hf) rfl hR
          · by_cases hm : 60 < l + k
            · exact both_pe (c_lists_many s4.1 s2 hs (by omega) (by omega) hp hl hh a1 a2 (by omega) hm) (m_lists_many s4.2 s2 hs (by omega) (by omega) (e3.trans hp) hlm hhm a1 a2 (by omega) hm) rfl hR
            · have hg := kn_lo l3
              have v1 : (knF (Gm 11) K) (13 + s) - nI k = nI (h - k) := by rw [hg _ (by omega), hh]; exact subN rfl rfl (by omega)
              have v2 : (upd (knF (Gm 11) K) (13 + s) ((knF (Gm 11) K) (13 + s) - nI k)) (8 + s) + nI k = nI (l + k) := by rw [upd_ne (by omega), hg _ (by omega), hl]; exact addN rfl rfl
              have hlo : ∀ j, j < 18 → upd (upd (knF (Gm 11) K) (13 + s) ((knF (Gm 11) K) (13 + s) - nI k)) (8 + s) ((upd (knF (Gm 11) K) (13 + s) ((knF (Gm 11) K) (13 + s) - nI k)) (8 + s) + nI k) j = upd (upd (G 24) (8 + s) (nI (l + k))) (13 + s) (nI (h - k)) j := by
                rw [v2, v1, upd_swap (by omega)]
                exact upd_c (upd_c hg rfl) rfl
              exact both_pe (c_lists_ok s4.1 s2 hs (by omega) (by omega) l1 l2.1 hp hl hh a1 a2 (by omega) (by omega)) (m_lists_ok s4.2 s2 hs (by omega) (by omega) l3.2.1 l2.1 (e3.trans hp) hlm hhm a1 a2 (by omega) (by omega)) (hlo _ (by omega)) (deed hT hS hJ l2 l3 h1 h2 (rowOk_bars s2 hs (by omega) (by omega) l2.2.1) hlo (fun j hj => by rw [upd_ne (by omega), upd_ne (by omega)]))
        · exact both_pe (c_lists_port s4.1 s2 hs (by omega) (by omega) hp) (m_lists_port s4.2 s2 hs (by omega) (by omega) (by rw [e3]; exact hp)) rfl hR
theorem b_hides (hR : Rl I J G Im Jm Gm) (x y : Int32) : Both isI mX6_hides mX7_hides [.int x, .int y] I J G Im Jm Gm := by
  obtain ⟨Wk, P, hT, hS, hJ, ⟨K, l1, l2, l3⟩, h1, h2⟩ := id hR
  obtain ⟨s1, s2, s3, s4, s5, s6, s7⟩ := id hS
  rcases idxc x P with hx | ⟨s, hs, rfl⟩
  · exact both_pe (c_hides_bad s4.1 s2 hx) (m_hides_bad s4.2 s2 hx) rfl hR
  · rcases idxc y 61 with hy | ⟨k, hk, rfl⟩
    · exact both_pe (c_hides_bad2 s4.1 s2 hs hy) (m_hides_bad2 s4.2 s2 hs hy) rfl hR
    · by_cases hk0 : k = 0
      · subst hk0; exact both_pe (c_hides_bad0 s4.1 s2 hs) (m_hides_bad0 s4.2 s2 hs) rfl hR
      · have e3 := l3.1 (3 + s) (by omega)
        by_cases hp : G 24 (3 + s) = nI 0
        · obtain ⟨l, h, a1, a2, hl, hh⟩ := l2.2.1.2 s hs
          have hlm : Gm 11 (8 + s) = nI l := (l3.1 _ (by omega)).trans hl
          have hhm : Gm 11 (13 + s) = nI h := (l3.1 _ (by omega)).trans hh
          by_cases hf : l < k
          · exact both_pe (c_hides_few s4.1 s2 hs (by omega) (by omega) hp hl hh a1 a2 hf) (m_hides_few s4.2 s2 hs (by omega) (by omega) (e3.trans hp) hlm hhm a1 a2 hf) rfl hR
          · by_cases hm : 60 < h + k
            · exact both_pe (c_hides_many s4.1 s2 hs (by omega) (by omega) hp hl hh a1 a2 (by omega) hm) (m_hides_many s4.2 s2 hs (by omega) (by omega) (e3.trans hp) hlm hhm a1 a2 (by omega) hm) rfl hR
            · have hg := kn_lo l3
              have v1 : (knF (Gm 11) K) (8 + s) - nI k = nI (l - k) := by rw [hg _ (by omega), hl]; exact subN rfl rfl (by omega)
              have v2 : (upd (knF (Gm 11) K) (8 + s) ((knF (Gm 11) K) (8 + s) - nI k)) (13 + s) + nI k = nI (h + k) := by rw [upd_ne (by omega), hg _ (by omega), hh]; exact addN rfl rfl
              have hlo : ∀ j, j < 18 → upd (upd (knF (Gm 11) K) (8 + s) ((knF (Gm 11) K) (8 + s) - nI k)) (13 + s) ((upd (knF (Gm 11) K) (8 + s) ((knF (Gm 11) K) (8 + s) - nI k)) (13 + s) + nI k) j = upd (upd (G 24) (8 + s) (nI (l - k))) (13 + s) (nI (h + k)) j := by
                rw [v2, v1]
                exact upd_c (upd_c hg rfl) rfl
              exact both_pe (c_hides_ok s4.1 s2 hs (by omega) (by omega) l1 l2.1 hp hl hh a1 a2 (by omega) (by omega)) (m_hides_ok s4.2 s2 hs (by omega) (by omega) l3.2.1 l2.1 (e3.trans hp) hlm hhm a1 a2 (by omega) (by omega)) (hlo _ (by omega)) (deed hT hS hJ l2 l3 h1 h2 (rowOk_bars s2 hs (by omega) (by omega) l2.2.1) hlo (fun j hj => by rw [upd_ne (by omega), upd_ne (by omega)]))
        · exact both_pe (c_hides_port s4.1 s2 hs (by omega) (by omega) hp) (m_hides_port s4.2 s2 hs (by omega) (by omega) (by rw [e3]; exact hp)) rfl hR
theorem b_throws (hR : Rl I J G Im Jm Gm) (x y : Int32) : Both isI mX6_throwsOff mX7_throwsOff [.int x, .int y] I J G Im Jm Gm := by
  obtain ⟨Wk, P, hT, hS, hJ, ⟨K, l1, l2, l3⟩, h1, h2⟩ := id hR
  obtain ⟨s1, s2, s3, s4, s5, s6, s7⟩ := id hS
  rcases idxc x P with hx | ⟨s, hs, rfl⟩
  · exact both_pe (c_throws_bad s4.1 s2 hx) (m_throws_bad s4.2 s2 hx) rfl hR
  · rcases idxc y 100 with hy | ⟨k, hk, rfl⟩
    · exact both_pe (c_throws_bad2 s4.1 s2 hs hy) (m_throws_bad2 s4.2 s2 hs hy) rfl hR
    · by_cases hk0 : k = 0
      · subst hk0; exact both_pe (c_throws_bad0 s4.1 s2 hs) (m_throws_bad0 s4.2 s2 hs) rfl hR
      · have e3 := l3.1 (3 + s) (by omega)
        by_cases hp : G 24 (3 + s) = nI 0
        · obtain ⟨l, h, a1, a2, hl, hh⟩ := l2.2.1.2 s hs
          have hlm : Gm 11 (8 + s) = nI l := (l3.1 _ (by omega)).trans hl
          have hhm : Gm 11 (13 + s) = nI h := (l3.1 _ (by omega)).trans hh
          by_cases hf : l + h < k
          · exact both_pe (c_throws_few s4.1 s2 hs (by omega) (by omega) hp hl hh a1 a2 hf) (m_throws_few s4.2 s2 hs (by omega) (by omega) (e3.trans hp) hlm hhm a1 a2 hf) rfl hR
          · have hg := kn_lo l3
            have g1 : (knF (Gm 11) K) (13 + s) = nI h := (hg _ (by omega)).trans hh
            have g2 : (knF (Gm 11) K) (8 + s) = nI l := (hg _ (by omega)).trans hl
            have lo2 : ∀ (a b : Int32), a = nI (h - min k h) → b = nI (l - (k - min k h)) → ∀ j, j < 18 → upd (upd (knF (Gm 11) K) (13 + s) a) (8 + s) b j = upd (upd (G 24) (8 + s) (nI (l - (k - min k h)))) (13 + s) (nI (h - min k h)) j := by
              intro a b ha hb
              rw [ha, hb, upd_swap (by omega)]
              exact upd_c (upd_c hg rfl) rfl
            by_cases hq : k < h
            · have hlo := lo2 ((knF (Gm 11) K) (13 + s) - nI k) ((upd (knF (Gm 11) K) (13 + s) ((knF (Gm 11) K) (13 + s) - nI k)) (8 + s) - (nI k - nI k)) (by rw [g1, show min k h = k by omega]; exact subN rfl rfl (by omega)) (by
                rw [upd_ne (by omega), g2, show nI k - nI k = nI (k - k) from subN rfl rfl (by omega), show nI l - nI (k - k) = nI (l - (k - k)) from subN rfl rfl (by omega), show min k h = k by omega])
              exact both_pe (c_throws_ok s4.1 s2 hs (by omega) (by omega) l1 l2.1 hp hl hh a1 a2 (by omega)) (m_throws_ok1 s4.2 s2 hs (by omega) (by omega) l3.2.1 l2.1 (e3.trans hp) hlm hhm a1 a2 (by omega) hq) (sil_c hlo (by omega)) (deed hT hS hJ l2 l3 h1 h2 (rowOk_bars s2 hs (by omega) (by omega) l2.2.1) hlo (fun j hj => by rw [upd_ne (by omega), upd_ne (by omega)]))
            · have hlo := lo2 ((knF (Gm 11) K) (13 + s) - (knF (Gm 11) K) (13 + s)) ((upd (knF (Gm 11) K) (13 + s) ((knF (Gm 11) K) (13 + s) - (knF (Gm 11) K) (13 + s))) (8 + s) - (nI k - (knF (Gm 11) K) (13 + s))) (by rw [g1, show min k h = h by omega]; exact subN rfl rfl (by omega)) (by
                rw [upd_ne (by omega), g2, g1, show nI k - nI h = nI (k - h) from subN rfl rfl (by omega), show nI l - nI (k - h) = nI (l - (k - h)) from subN rfl rfl (by omega), show min k h = h by omega])
              exact both_pe (c_throws_ok s4.1 s2 hs (by omega) (by omega) l1 l2.1 hp hl hh a1 a2 (by omega)) (m_throws_ok2 s4.2 s2 hs (by omega) (by omega) l3.2.1 l2.1 (e3.trans hp) hlm hhm a1 a2 (by omega) (by omega)) (sil_c hlo (by omega)) (deed hT hS hJ l2 l3 h1 h2 (rowOk_bars s2 hs (by omega) (by omega) l2.2.1) hlo (fun j hj => by rw [upd_ne (by omega), upd_ne (by omega)]))
        · exact both_pe (c_throws_port s4.1 s2 hs (by omega) (by omega) hp) (m_throws_port s4.2 s2 hs (by omega) (by omega) (by rw [e3]; exact hp)) rfl hR
theorem b_raises (hR : Rl I J G Im Jm Gm) (x : Int32) : Both isI mX6_raises mX7_raises [.int x] I J G Im Jm Gm := by
  obtain ⟨Wk, P, hT, hS, hJ, ⟨K, l1, l2, l3⟩, h1, h2⟩ := id hR
  obtain ⟨s1, s2, s3, s4, s5, s6, s7⟩ := id hS
  rcases idxc x P with hx | ⟨s, hs, rfl⟩
  · exact both_pe (c_raises_bad s4.1 s2 hx) (m_raises_bad s4.2 s2 hx) rfl hR
  · have e3 := l3.1 (3 + s) (by omega)
    by_cases hp : G 24 (3 + s) = nI 3
    · have hg := kn_lo l3
      have es := sil_c hg (show s < 5 by omega)
      have hlo : ∀ j, j < 18 → upd (upd (upd (upd (knF (Gm 11) K) 1 (((knF (Gm 11) K) 1) + ((sil (knF (Gm 11) K) s) / (nI 2)))) (8 + s) (nI 0)) (13 + s) (nI 0)) (3 + s) (nI 4) j = upd (upd (upd (upd (G 24) 1 ((G 24 1) + ((sil (G 24) s) / (nI 2)))) (3 + s) (nI 4)) (8 + s) (nI 0)) (13 + s) (nI 0) j := by
        rw [upd_swap (show 13 + s ≠ 3 + s by omega), upd_swap (show 8 + s ≠ 3 + s by omega)]
        exact upd_c (upd_c (upd_c (upd_c hg (by rw [hg 1 (by omega), es])) rfl) rfl) rfl
      refine both_pe (c_raises_ok s4.1 s2 hs l1 l2.1 hp) (m_raises_ok s4.2 s2 hs l3.2.1 l2.1 (e3.trans hp)) (by rw [es]) (deed hT hS hJ l2 l3 h1 h2 (rowOk_bars s2 hs (by omega) (by omega) ?_) hlo (fun j hj => by rw [upd_ne (by omega), upd_ne (by omega), upd_ne (by omega), upd_ne (by omega)]))
      exact rowOk_c s2 (by rw [upd_ne (by omega), upd_ne (by omega)]) (fun j h1 h2 => by rw [upd_ne (by omega), upd_ne (by omega)]) l2.2.1
    · exact both_pe (c_raises_no s4.1 s2 hs hp) (m_raises_no s4.2 s2 hs (by rw [e3]; exact hp)) rfl hR
theorem b_undo (hR : Rl I J G Im Jm Gm) : Both isI mX6_undo mX7_undo [] I J G Im Jm Gm := by
  obtain ⟨Wk, P, hT, hS, hJ, ⟨K, l1, l2, l3⟩, h1, h2⟩ := id hR
  by_cases hK : K = 0
  · subst hK
    exact both_pe (c_undo_no l1) (m_undo_no l3.2.1) rfl hR
  · have hu : ∀ j, 18 < j → unF (Gm 11) K j = Gm 11 j := fun j hj => by unfold unF va_cpy; rw [if_neg (by omega), upd_ne (by omega)]
    refine both_pe (c_undo_ok l1 l2.1 (by omega)) (m_undo_ok l3.2.1 l2.1 (by omega)) rfl ⟨Wk, P, hT, hS, hJ, ⟨K - 1, rfl, ⟨by have := l2.1; omega, ?_, fun k hk => l2.2.2 k (by omega)⟩, ⟨fun j hj => ?_, ?_, fun j hj => ?_⟩⟩, RK_c h1 (fun j hj => hu _ (by omega)), RK_c h2 (fun j hj => hu _ (by omega))⟩
    · refine rowOk_c hS.2.1 ?_ (fun j h1 h2 => ?_) (l2.2.2 (K - 1) (by omega))
      · show va_cpy (G 25) (G 24) ((K - 1) * 18) 0 18 0 = _
        unfold va_cpy; rw [if_pos ⟨by omega, by omega⟩]
      · show va_cpy (G 25) (G 24) ((K - 1) * 18) 0 18 j = _
        unfold va_cpy; rw [if_pos ⟨by omega, by omega⟩]; rfl
    · show unF (Gm 11) K j = va_cpy (G 25) (G 24) ((K - 1) * 18) 0 18 j
      have := l2.1
      unfold unF va_cpy
      rw [if_pos ⟨by omega, by omega⟩, if_pos ⟨by omega, by omega⟩, upd_ne (by omega), ← l3.2.2 _ (by omega)]
      exact congrArg _ (by omega)
    · show unF (Gm 11) K 18 = _
      unfold unF va_cpy
      rw [if_neg (by omega), upd_eq]
    · exact (hu _ (by omega)).trans (l3.2.2 j (by omega))
theorem b_sails (hR : Rl I J G Im Jm Gm) (x y : Int32) : Both isI mX6_sails mX7_sails [.int x, .int y] I J G Im Jm Gm := by
  obtain ⟨Wk, P, hT, hS, hJ, ⟨K, l1, l2, l3⟩, h1, h2⟩ := id hR
  obtain ⟨s1, s2, s3, s4, s5, s6, s7⟩ := id hS
  obtain ⟨t, ht, e0⟩ := l2.2.1.1
  have e0m : Gm 11 0 = nI t := (l3.1 0 (by omega)).trans e0
  rcases idxc x (2 ^ P) with hx | ⟨σ, hσ, rfl⟩
  · exact both_pe (c_sails_bad1 s4.1 s2 hx) (m_sails_bad1 s4.2 s2 hx) rfl hR
  · by_cases hσ0 : σ = 0
    · subst hσ0; exact both_pe c_sails_bad0 (m_sails_bad0 s4.2 s2) rfl hR
    · rcases idxc y 10000 with hy | ⟨z, hz, rfl⟩
      · exact both_pe (c_sails_bad2 s4.1 s2 hσ hσ0 hy) (m_sails_bad2 s4.2 s2 hσ hσ0 hy) rfl hR
      · have hq : allB (sq (Gm 11) (Gm 9) σ t) P = allB (sq (G 24) (G 17) σ t) P := allB_congr (fun j hj => by unfold sq; rw [l3.1 _ (by omega), (s7 j hj).2])
        by_cases ho : Wk ≤ t
        · exact both_pe (c_sails_over s4.1 s2 s3.1 s1 e0 (by omega) hσ hσ0 (by omega) ho) (m_sails_no s4.2 s2 s3.2 s1 e0m (by omega) ht hσ hσ0 (by omega) (by rw [decide_eq_false (by omega)]; rfl)) rfl hR
        · cases hc : allB (sq (G 24) (G 17) σ t) P with
          | false => exact both_pe (c_sails_no s4.1 s2 s3.1 s1 e0 (by omega) hσ hσ0 (by omega) (by omega) hc) (m_sails_no s4.2 s2 s3.2 s1 e0m (by omega) ht hσ hσ0 (by omega) (by rw [hq, hc, Bool.and_false])) rfl hR
          | true =>
            have hg := kn_lo l3
            have et : tak (knF (Gm 11) K) (Gm 8) (Gm 4 t) P σ = tak (G 24) (G 16) (G 13 t) P σ := tak_c s2 (fun s hs => sil_c hg hs) (fun s hs => (s7 s hs).1) (s6 t (by omega)).2.2
            have e3 : Gm 3 t = G 12 t := (s6 t (by omega)).2.1
            have hlo : ∀ j, j < 18 → sailR (knF (Gm 11) K) (Gm 10 0) (Gm 3 t) σ (tak (knF (Gm 11) K) (Gm 8) (Gm 4 t) P σ) z t P j = sailR (G 24) (I 2 8) (G 12 t) σ (tak (G 24) (G 16) (G 13 t) P σ) z t P j := by
              rw [et, e3, s5]
              exact sailR_c hg P s2
            refine both_pe (c_sails_ok s4.1 s2 s3.1 s1 e0 (by omega) l1 l2.1 hσ hσ0 (by omega) (by omega) hc (sil_pos l2.2.1)) (m_sails_ok s4.2 s2 s3.2 s1 e0m (by omega) ht l3.2.1 l2.1 hσ hσ0 (by omega) (by omega) (by rw [hq, hc, decide_eq_true (by omega)]; rfl)) (by rw [et, e3]) (deed hT hS hJ l2 l3 h1 h2 ?_ hlo (fun j hj => sailR_hi (Or.inr (by omega)) P s2))
            exact rowOk_c s2 (sailR_hi (Or.inl rfl) P s2) (fun j h1 h2 => sailR_hi (Or.inr h1) P s2) l2.2.1
theorem b_register (hR : Rl I J G Im Jm Gm) (x y : Int32) : Both isI mX6_register mX7_register [.int x, .int y] I J G Im Jm Gm := by
  obtain ⟨Wk, P, hT, ⟨s1, s2, s3, s4, s5, s6, s7⟩, hJ, ⟨K, l1, l2, l3⟩, h1, h2⟩ := id hR
  rcases idxc x 301 with hx | ⟨n0, hn0, rfl⟩
  · exact both_pe (c_reg_bad1 hx) (m_reg_bad1 hx) rfl hR
  · rcases idxc y 3 with hy | ⟨k, hk, rfl⟩
    · exact both_pe (c_reg_bad2 (by omega) hy) (m_reg_bad2 (by omega) hy) rfl hR
    · have hq : (fun σ => decide (sumS (fun s => Gm 11 (8 + s)) σ P = nI n0)) = fun σ => decide (sumS (fun s => G 24 (8 + s)) σ P = nI n0) := by
        funext σ
        rw [show sumS (fun s => Gm 11 (8 + s)) σ P = sumS (fun s => G 24 (8 + s)) σ P from sumC_c P (fun j hj => l3.1 _ (by omega)) (fun _ _ => rfl)]
      match k, hk with
      | 0, _ => exact both_pe (c_reg_0 s4.1 s2 (by omega)) (m_reg_0 s4.2 s2 (by omega)) (by rw [hq]) hR
      | 1, _ =>
        refine both_pe (c_reg_1 s4.1 s2 (by omega)) (m_reg_1 s4.2 s2 (by omega)) ?_ hR
        rw [hq]
        by_cases hc : cntB (fun σ => decide (sumS (fun s => G 24 (8 + s)) σ P = nI n0)) (2 ^ P) = 0
        · rw [if_pos hc, if_pos hc]
        · rw [if_neg hc, if_neg hc, andA_eq s2 _ (Nat.le_refl _) hc]
      | 2, _ => exact both_pe (c_reg_2 s4.1 s2 (by omega)) (m_reg_2 s4.2 s2 (by omega)) (by rw [hq]) hR
end BOTHD
