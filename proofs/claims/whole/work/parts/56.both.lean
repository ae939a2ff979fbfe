/-! both, call by call: the small ones -/
theorem tak_c {f f' g g' : Nat → Int32} {pir pir' : Int32} {P σ : Nat} (hP : P ≤ 5) (hs : ∀ s, s < 5 → sil f' s = sil f s) (hg : ∀ s, s < P → g' s = g s) (hp : pir' = pir) : tak f' g' pir' P σ = tak f g pir P σ := by
  unfold tak
  rw [show sumS g' σ P = sumS g σ P from sumC_c P hg (fun _ _ => rfl), hp, rich_c hs P hP]
theorem lost_c {f f' : Nat → Int32} {o : Option Nat} {P : Nat} (hP : P ≤ 5) (hs : ∀ s, s < 5 → sil f' s = sil f s) (ho : ∀ r, o = some r → r < P) : lost f' o = lost f o := by
  cases o with
  | none => rfl
  | some r => exact hs r (by have := ho r rfl; omega)
theorem wor_c {f f' g g' : Nat → Int32} {pir pir' sto sto' : Int32} {P σ : Nat} (hP : P ≤ 5) (hs : ∀ s, s < 5 → sil f' s = sil f s) (hg : ∀ s, s < P → g' s = g s) (hp : pir' = pir) (ht : sto' = sto) : wor f' g' pir' sto' P σ = wor f g pir sto P σ := by
  unfold wor
  rw [tak_c hP hs hg hp, ht, lost_c hP hs (fun r h => (tak_lt h).1), show sumS (sil f') σ P = sumS (sil f) σ P from sumC_c P (fun j hj => hs j (by omega)) (fun _ _ => rfl)]
set_option maxRecDepth 20000 in
theorem byt_ok : ∀ c : Nat, c < 256 → vp_nar .byte ((nI c).toInt8.toInt32) &&& nI 255 = nI c := by decide +kernel
section BOTH
variable {I : II} {J : JJ} {G : II} {Im : II} {Jm : JJ} {Gm : II}
theorem b_type (hR : Rl I J G Im Jm Gm) (x : Int32) : Both isI mX6_type mX7_type [.int x] I J G Im Jm Gm := by
  obtain ⟨Wk, P, ⟨n, bt, hn, a1, a2, a3⟩, hS, hJ, hL, h1, h2⟩ := id hR
  rcases idxc x 256 with hx | ⟨c, hc, rfl⟩
  · exact both_pe (c_type_bad hx) (m_type_bad hx) rfl hR
  · by_cases h180 : n = 180
    · exact both_pe (c_type_full a1 hn hc h180) (m_type_full a2 hn hc h180) rfl hR
    · refine both_pe (c_type_ok a1 hn hc (by omega)) (m_type_ok a2 hn hc (by omega)) (by rw [a1, a2]) ⟨Wk, P, ⟨n + 1, un bt n c, by omega, addN a1 rfl, addN a2 rfl, fun i hi => ?_⟩, hS, hJ, hL, h1, h2⟩
      by_cases e : i = n
      · subst e
        refine ⟨⟨?_, ?_⟩, ?_⟩
        · exact upd_eq.trans (by unfold un; rw [if_pos rfl])
        · unfold un; rw [if_pos rfl]; exact hc
        · show upd (Gm 1) i (vp_nar .byte ((nI c).toInt8.toInt32)) i &&& nI 255 = _
          rw [upd_eq, byt_ok c hc]; unfold un; rw [if_pos rfl]
      · have hu : un bt n c i = bt i := if_neg e
        rw [hu]
        refine ⟨⟨(upd_ne e).trans (a3 i hi).1.1, (a3 i hi).1.2⟩, ?_⟩
        show upd (Gm 1) n _ i &&& nI 255 = _
        rw [upd_ne e]; exact (a3 i hi).2
theorem b_clear (hR : Rl I J G Im Jm Gm) : Both isI mX6_clear mX7_clear [] I J G Im Jm Gm := by
  obtain ⟨Wk, P, ⟨n, bt, hn, a1, a2, a3⟩, hS, hJ, hL, h1, h2⟩ := id hR
  exact both_pe c_clear m_clear (by rw [a1, a2]) ⟨Wk, P, ⟨0, bt, by omega, rfl, rfl, a3⟩, hS, hJ, hL, h1, h2⟩
theorem b_week (hR : Rl I J G Im Jm Gm) (x y : Int32) : Both isI mX6_week mX7_week [.int x, .int y] I J G Im Jm Gm := by
  obtain ⟨Wk, P, hT, ⟨s1, s2, s3, s4, s5, s6, s7⟩, hJ, hL, h1, h2⟩ := id hR
  rcases idxc x Wk with hx | ⟨j, hj, rfl⟩
  · exact both_pe (c_week_bad s3.1 s1 hx) (m_week_bad s3.2 s1 hx) rfl hR
  · rcases idxc y 2 with hy | ⟨k, hk, rfl⟩
    · exact both_pe (c_week_bad2 s3.1 s1 hj hy) (m_week_bad2 s3.2 s1 hj hy) rfl hR
    · match k, hk with
      | 0, _ => exact both_pe (c_week_0 s3.1 s1 hj) (m_week_0 s3.2 s1 hj) (s6 j hj).2.1 hR
      | 1, _ => exact both_pe (c_week_1 s3.1 s1 hj) (m_week_1 s3.2 s1 hj) (s6 j hj).2.2 hR
theorem b_ship (hR : Rl I J G Im Jm Gm) (x y : Int32) : Both isI mX6_ship mX7_ship [.int x, .int y] I J G Im Jm Gm := by
  obtain ⟨Wk, P, hT, ⟨s1, s2, s3, s4, s5, s6, s7⟩, hJ, ⟨K, l1, l2, l3⟩, h1, h2⟩ := id hR
  rcases idxc x P with hx | ⟨j, hj, rfl⟩
  · exact both_pe (c_ship_bad s4.1 s2 hx) (m_ship_bad s4.2 s2 hx) rfl hR
  · rcases idxc y 5 with hy | ⟨k, hk, rfl⟩
    · exact both_pe (c_ship_bad2 s4.1 s2 hj hy) (m_ship_bad2 s4.2 s2 hj hy) rfl hR
    · match k, hk with
      | 0, _ => exact both_pe (c_ship_0 s4.1 s2 hj) (m_ship_0 s4.2 s2 hj) (l3.1 _ (by omega)) hR
      | 1, _ => exact both_pe (c_ship_1 s4.1 s2 hj) (m_ship_1 s4.2 s2 hj) (l3.1 _ (by omega)) hR
      | 2, _ => exact both_pe (c_ship_2 s4.1 s2 hj) (m_ship_2 s4.2 s2 hj) (s7 j hj).1 hR
      | 3, _ => exact both_pe (c_ship_3 s4.1 s2 hj) (m_ship_3 s4.2 s2 hj) (s7 j hj).2 hR
      | 4, _ => exact both_pe (c_ship_4 s4.1 s2 hj) (m_ship_4 s4.2 s2 hj) (l3.1 _ (by omega)) hR
theorem b_count (hR : Rl I J G Im Jm Gm) (x : Int32) : Both isI mX6_count mX7_count [.int x] I J G Im Jm Gm := by
  obtain ⟨Wk, P, ⟨n, bt, hn, a1, a2, a3⟩, ⟨s1, s2, s3, s4, s5, s6, s7⟩, hJ, ⟨K, l1, l2, l3⟩, h1, h2⟩ := id hR
  rcases idxc x 5 with hx | ⟨k, hk, rfl⟩
  · exact both_pe (c_count_bad hx) (m_count_bad hx) rfl hR
  · match k, hk with
    | 0, _ => exact both_pe c_count_0 m_count_0 (s3.2.trans s3.1.symm) hR
    | 1, _ => exact both_pe c_count_1 m_count_1 (s4.2.trans s4.1.symm) hR
    | 2, _ => exact both_pe c_count_2 m_count_2 s5 hR
    | 3, _ => exact both_pe c_count_3 m_count_3 (l3.2.1.trans l1.symm) hR
    | 4, _ => exact both_pe c_count_4 m_count_4 (a2.trans a1.symm) hR
theorem b_trace (hR : Rl I J G Im Jm Gm) : Both isJ mX6_trace mX7_trace [] I J G Im Jm Gm := by
  obtain ⟨Wk, P, hT, hS, hJ, hL, h1, h2⟩ := id hR
  refine ⟨_, _, c_trace, m_trace, fun r _ _ _ h => ⟨_, ⟨_, rfl⟩, h.1⟩, fun r I1 J1 G1 r' I2 J2 G2 h k => ?_⟩
  obtain ⟨rfl, rfl, rfl, rfl⟩ := h
  obtain ⟨rfl, rfl, rfl, rfl⟩ := k
  exact ⟨⟨_, ⟨_, rfl⟩, rfl, by rw [hJ]⟩, hR⟩
theorem b_now (hR : Rl I J G Im Jm Gm) (x : Int32) : Both isI mX6_now mX7_now [.int x] I J G Im Jm Gm := by
  obtain ⟨Wk, P, hT, ⟨s1, s2, s3, s4, s5, s6, s7⟩, hJ, ⟨K, l1, l2, l3⟩, h1, h2⟩ := id hR
  obtain ⟨t, ht, e0⟩ := l2.2.1.1
  have e0m : Gm 11 0 = nI t := (l3.1 0 (by omega)).trans e0
  rcases idxc x 6 with hx | ⟨k, hk, rfl⟩
  · exact both_pe (c_now_bad hx) (m_now_bad hx) rfl hR
  · match k, hk with
    | 0, _ => exact both_pe (c_now_0 s4.1 s2) (m_now_0 s4.2 s2) (l3.1 0 (by omega)) hR
    | 1, _ => exact both_pe (c_now_1 s4.1 s2) (m_now_1 s4.2 s2) (congrArg nI (setN_c P (fun j hj => by rw [l3.1 _ (by omega)]))) hR
    | 2, _ => exact both_pe (c_now_2 s4.1 s2) (m_now_2 s4.2 s2) (l3.1 1 (by omega)) hR
    | 3, _ => exact both_pe (c_now_3 s4.1 s2) (m_now_3 s4.2 s2) (l3.1 2 (by omega)) hR
    | 4, _ =>
      by_cases ho : Wk ≤ t
      · exact both_pe (c_now_4t s3.1 s1 e0 (by omega) ho) (m_now_4t s3.2 s1 e0m (by omega) ht ho) rfl hR
      · exact both_pe (c_now_4f s3.1 s1 e0 (by omega) (by omega)) (m_now_4f s3.2 s1 e0m (by omega) ht (by omega)) rfl hR
    | 5, _ =>
      refine both_pe (c_now_5 s4.1 s2) (m_now_5 s4.2 s2) (sumC_c P (fun j hj => sil_c l3.1 (by omega)) (fun j hj => ?_)) hR
      rw [setN_bit, decide_eq_true hj, Bool.true_and, l3.1 _ (by omega)]
theorem b_mark (hR : Rl I J G Im Jm Gm) (x y : Int32) : Both isI mX6_mark mX7_mark [.int x, .int y] I J G Im Jm Gm := by
  obtain ⟨Wk, P, hT, ⟨s1, s2, s3, s4, s5, s6, s7⟩, hJ, ⟨K, l1, l2, l3⟩, h1, h2⟩ := id hR
  rcases idxc x 6 with hx | ⟨k, hk, rfl⟩
  · exact both_pe (c_mark_bad hx) (m_mark_bad hx) rfl hR
  · rcases idxc y P with hy | ⟨j, hj, rfl⟩
    · exact both_pe (c_mark_bad2 s4.1 s2 hk hy) (m_mark_bad2 s4.2 s2 hk hy) rfl hR
    · have hS := hR
      have e8 := l3.1 (8 + j) (by omega)
      have nx : ∀ a b : Int64, a = b → Rl I (up2 J 9 2 a) G Im (up2 Jm 0 0 b) Gm := fun a b h => ⟨Wk, P, hT, ⟨s1, s2, s3, s4, s5, s6, s7⟩, h, ⟨K, l1, l2, l3⟩, h1, h2⟩
      match k, hk with
      | 0, _ => exact both_pe (c_mark_0 s4.1 s2 hj) (m_mark_0 s4.2 s2 hj) e8 (nx _ _ (by rw [hJ]))
      | 1, _ => exact both_pe (c_mark_1 s4.1 s2 hj) (m_mark_1 s4.2 s2 hj) (by rw [e8, (s7 j hj).1]) (nx _ _ (by rw [hJ, Int64.add_assoc]; rfl))
      | 2, _ => exact both_pe (c_mark_2 s4.1 s2 hj) (m_mark_2 s4.2 s2 hj) (by rw [e8, (s7 j hj).2]) (nx _ _ (by rw [hJ, Int64.add_assoc]; rfl))
      | 3, _ => exact both_pe (c_mark_3 s4.1 s2 hj) (m_mark_3 s4.2 s2 hj) (by rw [e8, (s7 j hj).1, Int32.mul_comm]) (nx _ _ (by rw [hJ, Int64.add_assoc, Int64.add_assoc]; rfl))
      | 4, _ => exact both_pe (c_mark_4 s4.1 s2 hj) (m_mark_4 s4.2 s2 hj) (by rw [e8, (s7 j hj).2]) (nx _ _ (by rw [hJ, Int64.add_assoc, Int64.add_assoc]; rfl))
      | 5, _ => exact both_pe (c_mark_5 s4.1 s2 hj) (m_mark_5 s4.2 s2 hj) (by rw [e8, l3.1 0 (by omega)]) (nx _ _ (by rw [hJ, Int64.add_assoc]; rfl))
theorem b_worth (hR : Rl I J G Im Jm Gm) (x y : Int32) : Both isI mX6_worth mX7_worth [.int x, .int y] I J G Im Jm Gm := by
  obtain ⟨Wk, P, hT, ⟨s1, s2, s3, s4, s5, s6, s7⟩, hJ, ⟨K, l1, l2, l3⟩, h1, h2⟩ := id hR
  rcases idxc x (2 ^ P) with hx | ⟨σ, hσ, rfl⟩
  · exact both_pe (c_worth_bad s4.1 s2 hx) (m_worth_bad s4.2 s2 hx) rfl hR
  · rcases idxc y Wk with hy | ⟨w, hw, rfl⟩
    · exact both_pe (c_worth_bad2 s4.1 s2 s3.1 s1 hσ hy) (m_worth_bad2 s4.2 s2 s3.2 s1 hσ hy) rfl hR
    · exact both_pe (c_worth_ok s4.1 s2 s3.1 s1 hσ hw (sil_pos l2.2.1)) (m_worth_ok s4.2 s2 s3.2 s1 hσ hw) (wor_c s2 (fun s hs => sil_c l3.1 hs) (fun s hs => (s7 s hs).1) (s6 w hw).2.2 (s6 w hw).2.1) hR
end BOTH
